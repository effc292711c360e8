set_option maxHeartbeats 4000000 in
set_option maxRecDepth 100000 in
theorem cX9_append_0 (l : Launch) (G : va_G) (k : Nat → ClassId) (p0 : Nat) (i1 : Int32) (p2 : Nat) (v3 : Value) (v4 : Value) (v5 : Value) (v6 : Value) (v7 : Value) (v8 : Value) (v9 : Value) (v10 : Value) (v11 : Value) (f12 : Nat → Int32) (sz : Nat) : CMv l G k yX9_append wsX9_append ({ frames := 0, cells := 0, slots := 0, locals := 0 }) [.ref p0, .int i1] sz [(p0, .inr (6, [.ref p2, .int 0, v3, v4, v5, v6, v7, v8, v9, v10, v11])), (p2, .inl (k 1, 600, .inl f12))] (fun (u : (Nat → Int32)) => True) (fun (u : (Nat → Int32)) => [(p0, .inr (6, [.ref p2, .int 4, v3, v4, v5, v6, v7, v8, v9, v10, v11])), (p2, .inl (k 1, 600, .inl u))]) := by
  refine Met.ofW (cc := cX9_append) (maxL := 3) (ret := none) (by decide) rfl ?_
  intro p e s m args below meth c s₁ B hml hv
  obtain ⟨rfl, hsz, hP, hX, hD0, hZ0⟩ := hv
  have hx := B.exec
  have hb := B.bytes
  have hr := B.returns
  have hts := atoms_spec (ws := wsX9_append) B.pre
  have hown : s.vm.findClass RX9 = some m.cls := findClass_of_methodNamed B.named
  subst hsz
  have hD := hD0.self (sz := s.heap.size)
  have hZ := ZX.up hP hZ0
  generalize hAe : va_A [(p0, .inr (6, [.ref p2, .int 0, v3, v4, v5, v6, v7, v8, v9, v10, v11])), (p2, .inl (k 1, 600, .inl f12))] s.heap.size = A at hD hZ ⊢
  have hA : ∀ q : Nat, s.heap.size ≤ q → A q := fun q h => by rw [← hAe]; exact Or.inr h
  have hS : va_S A s.heap s.heap [] := va_S.rf
  have hP : va_P G vwCl [(p0, .inr (6, [.ref p2, .int 0, v3, v4, v5, v6, v7, v8, v9, v10, v11])), (p2, .inl (k 1, 600, .inl f12))] s.heap := hP
  have hl := lv_entry ([.ref p0, .int i1]) (n := 3) (Nat.le_of_ble_eq_true rfl)
  rw [lg_entry_eq]
  generalize (lg_sl ([.ref p0, .int i1]) ++ List.replicate (3 - (lg_sl ([.ref p0, .int i1])).length) Slot.unset).toArray = ls at hl ⊢
  have hl : lv_has ls 3 [(0, .ref p0), (1, .int i1)] := hl
  have h0w := hts (.fieldLink RX9 13 "RopeTown" "fed" "I") (by decide +kernel)
  have h1w : ∀ w ∈ wsX90, w ∈ wsX9_append := by decide +kernel
  have h2w := hts (.fieldLink RX9 9 "RopeTown" "tape" "[B") (by decide +kernel)
  refine lv_bipush (v := 24) hx hb dX9_append_0 (by decide +kernel) ?_
  refine lv_istore_n (lv' := [(2, .int 24), (0, .ref p0), (1, .int i1)]) hx hb dX9_append_2 rfl hl (by decide) rfl (fun ls hl => ?_)
  refine lv_iload_n hx hb dX9_append_3 rfl (lv_at hl 0 rfl) ?_
  refine lv_if_lt (tgt := 46) hx hb dX9_append_4 (by decide) (fun q => absurd (q) (by decide +kernel)) (fun _ => ?_)
  refine lv_aload_n hx hb dX9_append_7 rfl (lv_at hl 1 rfl) ?_
  refine va_get (D := G) (ci := 6) (v := .int 0) (C := RX9) (T := TX9) (N := 11) (ref := RX9) hx hb hts h1w hown hX.1 hP 0 rfl rfl 1 (by decide) h0w (fun _ h9 => h9) rfl dX9_append_8 ?_
  refine lv_sipush (v := 600) hx hb dX9_append_11 (by decide +kernel) ?_
  refine lv_icmp_ge (tgt := 46) hx hb dX9_append_14 (by decide) (fun q => absurd (q) (by decide +kernel)) (fun _ => ?_)
  refine lv_aload_n hx hb dX9_append_17 rfl (lv_at hl 1 rfl) ?_
  refine va_get (D := G) (ci := 6) (v := .ref p2) (C := RX9) (T := TX9) (N := 11) (ref := RX9) hx hb hts h1w hown hX.1 hP 0 rfl rfl 0 (by decide) h2w (fun _ h9 => h9) rfl dX9_append_18 ?_
  refine lv_aload_n hx hb dX9_append_21 rfl (lv_at hl 1 rfl) ?_
  refine va_get (D := G) (ci := 6) (v := .int 0) (C := RX9) (T := TX9) (N := 11) (ref := RX9) hx hb hts h1w hown hX.1 hP 0 rfl rfl 1 (by decide) h0w (fun _ h9 => h9) rfl dX9_append_22 ?_
  refine lv_iload_n hx hb dX9_append_25 rfl (lv_at hl 2 rfl) ?_
  refine lv_iload_n hx hb dX9_append_26 rfl (lv_at hl 0 rfl) ?_
  refine lv_ishr hx hb dX9_append_27 ?_
  refine lv_topi (fun x_1 ex_1 => ?_)
  obtain ⟨x_2, ex_2⟩ : ∃ z : Int32, (x_1 : Int32).toInt8.toInt32 = z := ⟨_, rfl⟩
  refine lv_i2b (v := x_2) hx hb dX9_append_28 ex_2 ?_
  refine va_bast hx hb hX.1 hP hD hS 1 1 rfl rfl (by unfold vp_in; decide +kernel) dX9_append_29 (fun H locs hP hD hS => ?_)
  refine lv_aload_n hx hb dX9_append_30 rfl (lv_at hl 1 rfl) ?_
  refine lv_dup hx hb dX9_append_31 rfl ?_
  refine va_get (D := G) (ci := 6) (v := .int 0) (C := RX9) (T := TX9) (N := 11) (ref := RX9) hx hb hts h1w hown hX.1 hP 0 rfl rfl 1 (by decide) h0w (fun _ h9 => h9) rfl dX9_append_32 ?_
  refine lv_iconst (v := 1) hx hb dX9_append_35 (by decide +kernel) ?_
  refine lv_iadd hx hb dX9_append_36 ?_
  refine cz_ti (w := 1) (by decide +kernel) ?_
  refine va_put (D := G) (ci := 6) (v := .int 1) (ty := .int) (C := RX9) (T := TX9) (N := 11) (ref := RX9) hx hb hts h1w tyX9 tyX9_ok nmX9 hown hX.1 hP hD hS 0 rfl rfl 1 (by decide) h0w (fun _ h9 => h9) rfl (by decide +kernel) rfl rfl (Nat.le_of_ble_eq_true rfl) dX9_append_37 (fun H locs hP hD hS => ?_)
  refine lv_iinc (v := 16) (lv' := [(2, .int 16), (0, .ref p0), (1, .int i1)]) hx hb dX9_append_40 hl (k := 0) rfl (by decide +kernel) (by decide) rfl (fun ls hl => ?_)
  refine lv_goto (tgt := 3) hx hb dX9_append_43 (by decide) ?_
  refine lv_iload_n hx hb dX9_append_3 rfl (lv_at hl 0 rfl) ?_
  refine lv_if_lt (tgt := 46) hx hb dX9_append_4 (by decide) (fun q => absurd (q) (by decide +kernel)) (fun _ => ?_)
  refine lv_aload_n hx hb dX9_append_7 rfl (lv_at hl 1 rfl) ?_
  refine va_get (D := G) (ci := 6) (v := .int 1) (C := RX9) (T := TX9) (N := 11) (ref := RX9) hx hb hts h1w hown hX.1 hP 0 rfl rfl 1 (by decide) h0w (fun _ h9 => h9) rfl dX9_append_8 ?_
  refine lv_sipush (v := 600) hx hb dX9_append_11 (by decide +kernel) ?_
  refine lv_icmp_ge (tgt := 46) hx hb dX9_append_14 (by decide) (fun q => absurd (q) (by decide +kernel)) (fun _ => ?_)
  refine lv_aload_n hx hb dX9_append_17 rfl (lv_at hl 1 rfl) ?_
  refine va_get (D := G) (ci := 6) (v := .ref p2) (C := RX9) (T := TX9) (N := 11) (ref := RX9) hx hb hts h1w hown hX.1 hP 0 rfl rfl 0 (by decide) h2w (fun _ h9 => h9) rfl dX9_append_18 ?_
  refine lv_aload_n hx hb dX9_append_21 rfl (lv_at hl 1 rfl) ?_
  refine va_get (D := G) (ci := 6) (v := .int 1) (C := RX9) (T := TX9) (N := 11) (ref := RX9) hx hb hts h1w hown hX.1 hP 0 rfl rfl 1 (by decide) h0w (fun _ h9 => h9) rfl dX9_append_22 ?_
  refine lv_iload_n hx hb dX9_append_25 rfl (lv_at hl 2 rfl) ?_
  refine lv_iload_n hx hb dX9_append_26 rfl (lv_at hl 0 rfl) ?_
  refine lv_ishr hx hb dX9_append_27 ?_
  refine lv_topi (fun x_3 ex_3 => ?_)
  obtain ⟨x_4, ex_4⟩ : ∃ z : Int32, (x_3 : Int32).toInt8.toInt32 = z := ⟨_, rfl⟩
  refine lv_i2b (v := x_4) hx hb dX9_append_28 ex_4 ?_
  refine va_bast hx hb hX.1 hP hD hS 1 1 rfl rfl (by unfold vp_in; decide +kernel) dX9_append_29 (fun H locs hP hD hS => ?_)
  refine lv_aload_n hx hb dX9_append_30 rfl (lv_at hl 1 rfl) ?_
  refine lv_dup hx hb dX9_append_31 rfl ?_
  refine va_get (D := G) (ci := 6) (v := .int 1) (C := RX9) (T := TX9) (N := 11) (ref := RX9) hx hb hts h1w hown hX.1 hP 0 rfl rfl 1 (by decide) h0w (fun _ h9 => h9) rfl dX9_append_32 ?_
  refine lv_iconst (v := 1) hx hb dX9_append_35 (by decide +kernel) ?_
  refine lv_iadd hx hb dX9_append_36 ?_
  refine cz_ti (w := 2) (by decide +kernel) ?_
  refine va_put (D := G) (ci := 6) (v := .int 2) (ty := .int) (C := RX9) (T := TX9) (N := 11) (ref := RX9) hx hb hts h1w tyX9 tyX9_ok nmX9 hown hX.1 hP hD hS 0 rfl rfl 1 (by decide) h0w (fun _ h9 => h9) rfl (by decide +kernel) rfl rfl (Nat.le_of_ble_eq_true rfl) dX9_append_37 (fun H locs hP hD hS => ?_)
  refine lv_iinc (v := 8) (lv' := [(2, .int 8), (0, .ref p0), (1, .int i1)]) hx hb dX9_append_40 hl (k := 0) rfl (by decide +kernel) (by decide) rfl (fun ls hl => ?_)
  refine lv_goto (tgt := 3) hx hb dX9_append_43 (by decide) ?_
  refine lv_iload_n hx hb dX9_append_3 rfl (lv_at hl 0 rfl) ?_
  refine lv_if_lt (tgt := 46) hx hb dX9_append_4 (by decide) (fun q => absurd (q) (by decide +kernel)) (fun _ => ?_)
  refine lv_aload_n hx hb dX9_append_7 rfl (lv_at hl 1 rfl) ?_
  refine va_get (D := G) (ci := 6) (v := .int 2) (C := RX9) (T := TX9) (N := 11) (ref := RX9) hx hb hts h1w hown hX.1 hP 0 rfl rfl 1 (by decide) h0w (fun _ h9 => h9) rfl dX9_append_8 ?_
  refine lv_sipush (v := 600) hx hb dX9_append_11 (by decide +kernel) ?_
  refine lv_icmp_ge (tgt := 46) hx hb dX9_append_14 (by decide) (fun q => absurd (q) (by decide +kernel)) (fun _ => ?_)
  refine lv_aload_n hx hb dX9_append_17 rfl (lv_at hl 1 rfl) ?_
  refine va_get (D := G) (ci := 6) (v := .ref p2) (C := RX9) (T := TX9) (N := 11) (ref := RX9) hx hb hts h1w hown hX.1 hP 0 rfl rfl 0 (by decide) h2w (fun _ h9 => h9) rfl dX9_append_18 ?_
  refine lv_aload_n hx hb dX9_append_21 rfl (lv_at hl 1 rfl) ?_
  refine va_get (D := G) (ci := 6) (v := .int 2) (C := RX9) (T := TX9) (N := 11) (ref := RX9) hx hb hts h1w hown hX.1 hP 0 rfl rfl 1 (by decide) h0w (fun _ h9 => h9) rfl dX9_append_22 ?_
  refine lv_iload_n hx hb dX9_append_25 rfl (lv_at hl 2 rfl) ?_
  refine lv_iload_n hx hb dX9_append_26 rfl (lv_at hl 0 rfl) ?_
  refine lv_ishr hx hb dX9_append_27 ?_
  refine lv_topi (fun x_5 ex_5 => ?_)
  obtain ⟨x_6, ex_6⟩ : ∃ z : Int32, (x_5 : Int32).toInt8.toInt32 = z := ⟨_, rfl⟩
  refine lv_i2b (v := x_6) hx hb dX9_append_28 ex_6 ?_
  refine va_bast hx hb hX.1 hP hD hS 1 1 rfl rfl (by unfold vp_in; decide +kernel) dX9_append_29 (fun H locs hP hD hS => ?_)
  refine lv_aload_n hx hb dX9_append_30 rfl (lv_at hl 1 rfl) ?_
  refine lv_dup hx hb dX9_append_31 rfl ?_
  refine va_get (D := G) (ci := 6) (v := .int 2) (C := RX9) (T := TX9) (N := 11) (ref := RX9) hx hb hts h1w hown hX.1 hP 0 rfl rfl 1 (by decide) h0w (fun _ h9 => h9) rfl dX9_append_32 ?_
  refine lv_iconst (v := 1) hx hb dX9_append_35 (by decide +kernel) ?_
  refine lv_iadd hx hb dX9_append_36 ?_
  refine cz_ti (w := 3) (by decide +kernel) ?_
  refine va_put (D := G) (ci := 6) (v := .int 3) (ty := .int) (C := RX9) (T := TX9) (N := 11) (ref := RX9) hx hb hts h1w tyX9 tyX9_ok nmX9 hown hX.1 hP hD hS 0 rfl rfl 1 (by decide) h0w (fun _ h9 => h9) rfl (by decide +kernel) rfl rfl (Nat.le_of_ble_eq_true rfl) dX9_append_37 (fun H locs hP hD hS => ?_)
  obtain ⟨hP, hD⟩ : va_P G vwCl [(p0, .inr (6, [.ref p2, .int 3, v3, v4, v5, v6, v7, v8, v9, v10, v11])), (p2, .inl (k 1, 600, .inl (upd (upd (upd f12 (0 : Int32).toNatClampNeg (vp_nar .byte x_2)) (1 : Int32).toNatClampNeg (vp_nar .byte x_4)) (2 : Int32).toNatClampNeg (vp_nar .byte x_6))))] H ∧ va_D A [(p0, .inr (6, [.ref p2, .int 3, v3, v4, v5, v6, v7, v8, v9, v10, v11])), (p2, .inl (k 1, 600, .inl (upd (upd (upd f12 (0 : Int32).toNatClampNeg (vp_nar .byte x_2)) (1 : Int32).toNatClampNeg (vp_nar .byte x_4)) (2 : Int32).toNatClampNeg (vp_nar .byte x_6))))] := ⟨hP, hD⟩
  refine lv_iinc (v := 0) (lv' := [(2, .int 0), (0, .ref p0), (1, .int i1)]) hx hb dX9_append_40 hl (k := 0) rfl (by decide +kernel) (by decide) rfl (fun ls hl => ?_)
  refine lv_goto (tgt := 3) hx hb dX9_append_43 (by decide) ?_
  refine lv_iload_n hx hb dX9_append_3 rfl (lv_at hl 0 rfl) ?_
  refine lv_if_lt (tgt := 46) hx hb dX9_append_4 (by decide) (fun q => absurd (q) (by decide +kernel)) (fun _ => ?_)
  refine lv_aload_n hx hb dX9_append_7 rfl (lv_at hl 1 rfl) ?_
  refine va_get (D := G) (ci := 6) (v := .int 3) (C := RX9) (T := TX9) (N := 11) (ref := RX9) hx hb hts h1w hown hX.1 hP 0 rfl rfl 1 (by decide) h0w (fun _ h9 => h9) rfl dX9_append_8 ?_
  refine lv_sipush (v := 600) hx hb dX9_append_11 (by decide +kernel) ?_
  refine lv_icmp_ge (tgt := 46) hx hb dX9_append_14 (by decide) (fun q => absurd (q) (by decide +kernel)) (fun _ => ?_)
  refine lv_aload_n hx hb dX9_append_17 rfl (lv_at hl 1 rfl) ?_
  refine va_get (D := G) (ci := 6) (v := .ref p2) (C := RX9) (T := TX9) (N := 11) (ref := RX9) hx hb hts h1w hown hX.1 hP 0 rfl rfl 0 (by decide) h2w (fun _ h9 => h9) rfl dX9_append_18 ?_
  refine lv_aload_n hx hb dX9_append_21 rfl (lv_at hl 1 rfl) ?_
  refine va_get (D := G) (ci := 6) (v := .int 3) (C := RX9) (T := TX9) (N := 11) (ref := RX9) hx hb hts h1w hown hX.1 hP 0 rfl rfl 1 (by decide) h0w (fun _ h9 => h9) rfl dX9_append_22 ?_
  refine lv_iload_n hx hb dX9_append_25 rfl (lv_at hl 2 rfl) ?_
  refine lv_iload_n hx hb dX9_append_26 rfl (lv_at hl 0 rfl) ?_
  refine lv_ishr hx hb dX9_append_27 ?_
  refine lv_topi (fun x_7 ex_7 => ?_)
  obtain ⟨x_8, ex_8⟩ : ∃ z : Int32, (x_7 : Int32).toInt8.toInt32 = z := ⟨_, rfl⟩
  refine lv_i2b (v := x_8) hx hb dX9_append_28 ex_8 ?_
  refine va_bast hx hb hX.1 hP hD hS 1 1 rfl rfl (by unfold vp_in; decide +kernel) dX9_append_29 (fun H locs hP hD hS => ?_)
  refine lv_aload_n hx hb dX9_append_30 rfl (lv_at hl 1 rfl) ?_
  refine lv_dup hx hb dX9_append_31 rfl ?_
  refine va_get (D := G) (ci := 6) (v := .int 3) (C := RX9) (T := TX9) (N := 11) (ref := RX9) hx hb hts h1w hown hX.1 hP 0 rfl rfl 1 (by decide) h0w (fun _ h9 => h9) rfl dX9_append_32 ?_
  refine lv_iconst (v := 1) hx hb dX9_append_35 (by decide +kernel) ?_
  refine lv_iadd hx hb dX9_append_36 ?_
  refine cz_ti (w := 4) (by decide +kernel) ?_
  refine va_put (D := G) (ci := 6) (v := .int 4) (ty := .int) (C := RX9) (T := TX9) (N := 11) (ref := RX9) hx hb hts h1w tyX9 tyX9_ok nmX9 hown hX.1 hP hD hS 0 rfl rfl 1 (by decide) h0w (fun _ h9 => h9) rfl (by decide +kernel) rfl rfl (Nat.le_of_ble_eq_true rfl) dX9_append_37 (fun H locs hP hD hS => ?_)
  refine lv_iinc (v := (-8)) (lv' := [(2, .int (-8)), (0, .ref p0), (1, .int i1)]) hx hb dX9_append_40 hl (k := 0) rfl (by decide +kernel) (by decide) rfl (fun ls hl => ?_)
  refine lv_goto (tgt := 3) hx hb dX9_append_43 (by decide) ?_
  refine lv_iload_n hx hb dX9_append_3 rfl (lv_at hl 0 rfl) ?_
  refine lv_if_lt (tgt := 46) hx hb dX9_append_4 (by decide) (fun _ => ?_) (fun q => absurd (by decide +kernel) (q))
  have hP9 := hP.sub (ws' := [(p0, .inr (6, [.ref p2, .int 4, v3, v4, v5, v6, v7, v8, v9, v10, v11])), (p2, .inl (k 1, 600, .inl (upd (upd (upd (upd f12 (0 : Int32).toNatClampNeg (vp_nar .byte x_2)) (1 : Int32).toNatClampNeg (vp_nar .byte x_4)) (2 : Int32).toNatClampNeg (vp_nar .byte x_6)) (3 : Int32).toNatClampNeg (vp_nar .byte x_8))))]) [0, 1] rfl
  have hD9 := hD.sub (ws' := [(p0, .inr (6, [.ref p2, .int 4, v3, v4, v5, v6, v7, v8, v9, v10, v11])), (p2, .inl (k 1, 600, .inl (upd (upd (upd (upd f12 (0 : Int32).toNatClampNeg (vp_nar .byte x_2)) (1 : Int32).toNatClampNeg (vp_nar .byte x_4)) (2 : Int32).toNatClampNeg (vp_nar .byte x_6)) (3 : Int32).toNatClampNeg (vp_nar .byte x_8))))]) [0, 1] (by decide) rfl
  exact W.vret hx hb hr (fun t ht hW => ⟨⟨((upd (upd (upd (upd f12 (0 : Int32).toNatClampNeg (vp_nar .byte x_2)) (1 : Int32).toNatClampNeg (vp_nar .byte x_4)) (2 : Int32).toNatClampNeg (vp_nar .byte x_6)) (3 : Int32).toNatClampNeg (vp_nar .byte x_8))), rfl, trivial, by rw [ht]; exact hP9, hD9⟩, hS.F ht⟩) hS.2.2 dX9_append_46

set_option maxHeartbeats 4000000 in
set_option maxRecDepth 100000 in
theorem cX9_append_1 (l : Launch) (G : va_G) (k : Nat → ClassId) (p0 : Nat) (i1 : Int32) (p2 : Nat) (v3 : Value) (v4 : Value) (v5 : Value) (v6 : Value) (v7 : Value) (v8 : Value) (v9 : Value) (v10 : Value) (v11 : Value) (f12 : Nat → Int32) (sz : Nat) : CMv l G k yX9_append wsX9_append ({ frames := 0, cells := 0, slots := 0, locals := 0 }) [.ref p0, .int i1] sz [(p0, .inr (6, [.ref p2, .int 4, v3, v4, v5, v6, v7, v8, v9, v10, v11])), (p2, .inl (k 1, 600, .inl f12))] (fun (u : (Nat → Int32)) => True) (fun (u : (Nat → Int32)) => [(p0, .inr (6, [.ref p2, .int 8, v3, v4, v5, v6, v7, v8, v9, v10, v11])), (p2, .inl (k 1, 600, .inl u))]) := by
  refine Met.ofW (cc := cX9_append) (maxL := 3) (ret := none) (by decide) rfl ?_
  intro p e s m args below meth c s₁ B hml hv
  obtain ⟨rfl, hsz, hP, hX, hD0, hZ0⟩ := hv
  have hx := B.exec
  have hb := B.bytes
  have hr := B.returns
  have hts := atoms_spec (ws := wsX9_append) B.pre
  have hown : s.vm.findClass RX9 = some m.cls := findClass_of_methodNamed B.named
  subst hsz
  have hD := hD0.self (sz := s.heap.size)
  have hZ := ZX.up hP hZ0
  generalize hAe : va_A [(p0, .inr (6, [.ref p2, .int 4, v3, v4, v5, v6, v7, v8, v9, v10, v11])), (p2, .inl (k 1, 600, .inl f12))] s.heap.size = A at hD hZ ⊢
  have hA : ∀ q : Nat, s.heap.size ≤ q → A q := fun q h => by rw [← hAe]; exact Or.inr h
  have hS : va_S A s.heap s.heap [] := va_S.rf
  have hP : va_P G vwCl [(p0, .inr (6, [.ref p2, .int 4, v3, v4, v5, v6, v7, v8, v9, v10, v11])), (p2, .inl (k 1, 600, .inl f12))] s.heap := hP
  have hl := lv_entry ([.ref p0, .int i1]) (n := 3) (Nat.le_of_ble_eq_true rfl)
  rw [lg_entry_eq]
  generalize (lg_sl ([.ref p0, .int i1]) ++ List.replicate (3 - (lg_sl ([.ref p0, .int i1])).length) Slot.unset).toArray = ls at hl ⊢
  have hl : lv_has ls 3 [(0, .ref p0), (1, .int i1)] := hl
  have h0w := hts (.fieldLink RX9 13 "RopeTown" "fed" "I") (by decide +kernel)
  have h1w : ∀ w ∈ wsX90, w ∈ wsX9_append := by decide +kernel
  have h2w := hts (.fieldLink RX9 9 "RopeTown" "tape" "[B") (by decide +kernel)
  refine lv_bipush (v := 24) hx hb dX9_append_0 (by decide +kernel) ?_
  refine lv_istore_n (lv' := [(2, .int 24), (0, .ref p0), (1, .int i1)]) hx hb dX9_append_2 rfl hl (by decide) rfl (fun ls hl => ?_)
  refine lv_iload_n hx hb dX9_append_3 rfl (lv_at hl 0 rfl) ?_
  refine lv_if_lt (tgt := 46) hx hb dX9_append_4 (by decide) (fun q => absurd (q) (by decide +kernel)) (fun _ => ?_)
  refine lv_aload_n hx hb dX9_append_7 rfl (lv_at hl 1 rfl) ?_
  refine va_get (D := G) (ci := 6) (v := .int 4) (C := RX9) (T := TX9) (N := 11) (ref := RX9) hx hb hts h1w hown hX.1 hP 0 rfl rfl 1 (by decide) h0w (fun _ h9 => h9) rfl dX9_append_8 ?_
  refine lv_sipush (v := 600) hx hb dX9_append_11 (by decide +kernel) ?_
  refine lv_icmp_ge (tgt := 46) hx hb dX9_append_14 (by decide) (fun q => absurd (q) (by decide +kernel)) (fun _ => ?_)
  refine lv_aload_n hx hb dX9_append_17 rfl (lv_at hl 1 rfl) ?_
  refine va_get (D := G) (ci := 6) (v := .ref p2) (C := RX9) (T := TX9) (N := 11) (ref := RX9) hx hb hts h1w hown hX.1 hP 0 rfl rfl 0 (by decide) h2w (fun _ h9 => h9) rfl dX9_append_18 ?_
  refine lv_aload_n hx hb dX9_append_21 rfl (lv_at hl 1 rfl) ?_
  refine va_get (D := G) (ci := 6) (v := .int 4) (C := RX9) (T := TX9) (N := 11) (ref := RX9) hx hb hts h1w hown hX.1 hP 0 rfl rfl 1 (by decide) h0w (fun _ h9 => h9) rfl dX9_append_22 ?_
  refine lv_iload_n hx hb dX9_append_25 rfl (lv_at hl 2 rfl) ?_
  refine lv_iload_n hx hb dX9_append_26 rfl (lv_at hl 0 rfl) ?_
  refine lv_ishr hx hb dX9_append_27 ?_
  refine lv_topi (fun x_1 ex_1 => ?_)
  obtain ⟨x_2, ex_2⟩ : ∃ z : Int32, (x_1 : Int32).toInt8.toInt32 = z := ⟨_, rfl⟩
  refine lv_i2b (v := x_2) hx hb dX9_append_28 ex_2 ?_
  refine va_bast hx hb hX.1 hP hD hS 1 1 rfl rfl (by unfold vp_in; decide +kernel) dX9_append_29 (fun H locs hP hD hS => ?_)
  refine lv_aload_n hx hb dX9_append_30 rfl (lv_at hl 1 rfl) ?_
  refine lv_dup hx hb dX9_append_31 rfl ?_
  refine va_get (D := G) (ci := 6) (v := .int 4) (C := RX9) (T := TX9) (N := 11) (ref := RX9) hx hb hts h1w hown hX.1 hP 0 rfl rfl 1 (by decide) h0w (fun _ h9 => h9) rfl dX9_append_32 ?_
  refine lv_iconst (v := 1) hx hb dX9_append_35 (by decide +kernel) ?_
  refine lv_iadd hx hb dX9_append_36 ?_
  refine cz_ti (w := 5) (by decide +kernel) ?_
  refine va_put (D := G) (ci := 6) (v := .int 5) (ty := .int) (C := RX9) (T := TX9) (N := 11) (ref := RX9) hx hb hts h1w tyX9 tyX9_ok nmX9 hown hX.1 hP hD hS 0 rfl rfl 1 (by decide) h0w (fun _ h9 => h9) rfl (by decide +kernel) rfl rfl (Nat.le_of_ble_eq_true rfl) dX9_append_37 (fun H locs hP hD hS => ?_)
  refine lv_iinc (v := 16) (lv' := [(2, .int 16), (0, .ref p0), (1, .int i1)]) hx hb dX9_append_40 hl (k := 0) rfl (by decide +kernel) (by decide) rfl (fun ls hl => ?_)
  refine lv_goto (tgt := 3) hx hb dX9_append_43 (by decide) ?_
  refine lv_iload_n hx hb dX9_append_3 rfl (lv_at hl 0 rfl) ?_
  refine lv_if_lt (tgt := 46) hx hb dX9_append_4 (by decide) (fun q => absurd (q) (by decide +kernel)) (fun _ => ?_)
  refine lv_aload_n hx hb dX9_append_7 rfl (lv_at hl 1 rfl) ?_
  refine va_get (D := G) (ci := 6) (v := .int 5) (C := RX9) (T := TX9) (N := 11) (ref := RX9) hx hb hts h1w hown hX.1 hP 0 rfl rfl 1 (by decide) h0w (fun _ h9 => h9) rfl dX9_append_8 ?_
  refine lv_sipush (v := 600) hx hb dX9_append_11 (by decide +kernel) ?_
  refine lv_icmp_ge (tgt := 46) hx hb dX9_append_14 (by decide) (fun q => absurd (q) (by decide +kernel)) (fun _ => ?_)
  refine lv_aload_n hx hb dX9_append_17 rfl (lv_at hl 1 rfl) ?_
  refine va_get (D := G) (ci := 6) (v := .ref p2) (C := RX9) (T := TX9) (N := 11) (ref := RX9) hx hb hts h1w hown hX.1 hP 0 rfl rfl 0 (by decide) h2w (fun _ h9 => h9) rfl dX9_append_18 ?_
  refine lv_aload_n hx hb dX9_append_21 rfl (lv_at hl 1 rfl) ?_
  refine va_get (D := G) (ci := 6) (v := .int 5) (C := RX9) (T := TX9) (N := 11) (ref := RX9) hx hb hts h1w hown hX.1 hP 0 rfl rfl 1 (by decide) h0w (fun _ h9 => h9) rfl dX9_append_22 ?_
  refine lv_iload_n hx hb dX9_append_25 rfl (lv_at hl 2 rfl) ?_
  refine lv_iload_n hx hb dX9_append_26 rfl (lv_at hl 0 rfl) ?_
  refine lv_ishr hx hb dX9_append_27 ?_
  refine lv_topi (fun x_3 ex_3 => ?_)
  obtain ⟨x_4, ex_4⟩ : ∃ z : Int32, (x_3 : Int32).toInt8.toInt32 = z := ⟨_, rfl⟩
  refine lv_i2b (v := x_4) hx hb dX9_append_28 ex_4 ?_
  refine va_bast hx hb hX.1 hP hD hS 1 1 rfl rfl (by unfold vp_in; decide +kernel) dX9_append_29 (fun H locs hP hD hS => ?_)
  refine lv_aload_n hx hb dX9_append_30 rfl (lv_at hl 1 rfl) ?_
  refine lv_dup hx hb dX9_append_31 rfl ?_
  refine va_get (D := G) (ci := 6) (v := .int 5) (C := RX9) (T := TX9) (N := 11) (ref := RX9) hx hb hts h1w hown hX.1 hP 0 rfl rfl 1 (by decide) h0w (fun _ h9 => h9) rfl dX9_append_32 ?_
  refine lv_iconst (v := 1) hx hb dX9_append_35 (by decide +kernel) ?_
  refine lv_iadd hx hb dX9_append_36 ?_
  refine cz_ti (w := 6) (by decide +kernel) ?_
  refine va_put (D := G) (ci := 6) (v := .int 6) (ty := .int) (C := RX9) (T := TX9) (N := 11) (ref := RX9) hx hb hts h1w tyX9 tyX9_ok nmX9 hown hX.1 hP hD hS 0 rfl rfl 1 (by decide) h0w (fun _ h9 => h9) rfl (by decide +kernel) rfl rfl (Nat.le_of_ble_eq_true rfl) dX9_append_37 (fun H locs hP hD hS => ?_)
  refine lv_iinc (v := 8) (lv' := [(2, .int 8), (0, .ref p0), (1, .int i1)]) hx hb dX9_append_40 hl (k := 0) rfl (by decide +kernel) (by decide) rfl (fun ls hl => ?_)
  refine lv_goto (tgt := 3) hx hb dX9_append_43 (by decide) ?_
  refine lv_iload_n hx hb dX9_append_3 rfl (lv_at hl 0 rfl) ?_
  refine lv_if_lt (tgt := 46) hx hb dX9_append_4 (by decide) (fun q => absurd (q) (by decide +kernel)) (fun _ => ?_)
  refine lv_aload_n hx hb dX9_append_7 rfl (lv_at hl 1 rfl) ?_
  refine va_get (D := G) (ci := 6) (v := .int 6) (C := RX9) (T := TX9) (N := 11) (ref := RX9) hx hb hts h1w hown hX.1 hP 0 rfl rfl 1 (by decide) h0w (fun _ h9 => h9) rfl dX9_append_8 ?_
  refine lv_sipush (v := 600) hx hb dX9_append_11 (by decide +kernel) ?_
  refine lv_icmp_ge (tgt := 46) hx hb dX9_append_14 (by decide) (fun q => absurd (q) (by decide +kernel)) (fun _ => ?_)
  refine lv_aload_n hx hb dX9_append_17 rfl (lv_at hl 1 rfl) ?_
  refine va_get (D := G) (ci := 6) (v := .ref p2) (C := RX9) (T := TX9) (N := 11) (ref := RX9) hx hb hts h1w hown hX.1 hP 0 rfl rfl 0 (by decide) h2w (fun _ h9 => h9) rfl dX9_append_18 ?_
  refine lv_aload_n hx hb dX9_append_21 rfl (lv_at hl 1 rfl) ?_
  refine va_get (D := G) (ci := 6) (v := .int 6) (C := RX9) (T := TX9) (N := 11) (ref := RX9) hx hb hts h1w hown hX.1 hP 0 rfl rfl 1 (by decide) h0w (fun _ h9 => h9) rfl dX9_append_22 ?_
  refine lv_iload_n hx hb dX9_append_25 rfl (lv_at hl 2 rfl) ?_
  refine lv_iload_n hx hb dX9_append_26 rfl (lv_at hl 0 rfl) ?_
  refine lv_ishr hx hb dX9_append_27 ?_
  refine lv_topi (fun x_5 ex_5 => ?_)
  obtain ⟨x_6, ex_6⟩ : ∃ z : Int32, (x_5 : Int32).toInt8.toInt32 = z := ⟨_, rfl⟩
  refine lv_i2b (v := x_6) hx hb dX9_append_28 ex_6 ?_
  refine va_bast hx hb hX.1 hP hD hS 1 1 rfl rfl (by unfold vp_in; decide +kernel) dX9_append_29 (fun H locs hP hD hS => ?_)
  refine lv_aload_n hx hb dX9_append_30 rfl (lv_at hl 1 rfl) ?_
  refine lv_dup hx hb dX9_append_31 rfl ?_
  refine va_get (D := G) (ci := 6) (v := .int 6) (C := RX9) (T := TX9) (N := 11) (ref := RX9) hx hb hts h1w hown hX.1 hP 0 rfl rfl 1 (by decide) h0w (fun _ h9 => h9) rfl dX9_append_32 ?_
  refine lv_iconst (v := 1) hx hb dX9_append_35 (by decide +kernel) ?_
  refine lv_iadd hx hb dX9_append_36 ?_
  refine cz_ti (w := 7) (by decide +kernel) ?_
  refine va_put (D := G) (ci := 6) (v := .int 7) (ty := .int) (C := RX9) (T := TX9) (N := 11) (ref := RX9) hx hb hts h1w tyX9 tyX9_ok nmX9 hown hX.1 hP hD hS 0 rfl rfl 1 (by decide) h0w (fun _ h9 => h9) rfl (by decide +kernel) rfl rfl (Nat.le_of_ble_eq_true rfl) dX9_append_37 (fun H locs hP hD hS => ?_)
  obtain ⟨hP, hD⟩ : va_P G vwCl [(p0, .inr (6, [.ref p2, .int 7, v3, v4, v5, v6, v7, v8, v9, v10, v11])), (p2, .inl (k 1, 600, .inl (upd (upd (upd f12 (4 : Int32).toNatClampNeg (vp_nar .byte x_2)) (5 : Int32).toNatClampNeg (vp_nar .byte x_4)) (6 : Int32).toNatClampNeg (vp_nar .byte x_6))))] H ∧ va_D A [(p0, .inr (6, [.ref p2, .int 7, v3, v4, v5, v6, v7, v8, v9, v10, v11])), (p2, .inl (k 1, 600, .inl (upd (upd (upd f12 (4 : Int32).toNatClampNeg (vp_nar .byte x_2)) (5 : Int32).toNatClampNeg (vp_nar .byte x_4)) (6 : Int32).toNatClampNeg (vp_nar .byte x_6))))] := ⟨hP, hD⟩
  refine lv_iinc (v := 0) (lv' := [(2, .int 0), (0, .ref p0), (1, .int i1)]) hx hb dX9_append_40 hl (k := 0) rfl (by decide +kernel) (by decide) rfl (fun ls hl => ?_)
  refine lv_goto (tgt := 3) hx hb dX9_append_43 (by decide) ?_
  refine lv_iload_n hx hb dX9_append_3 rfl (lv_at hl 0 rfl) ?_
  refine lv_if_lt (tgt := 46) hx hb dX9_append_4 (by decide) (fun q => absurd (q) (by decide +kernel)) (fun _ => ?_)
  refine lv_aload_n hx hb dX9_append_7 rfl (lv_at hl 1 rfl) ?_
  refine va_get (D := G) (ci := 6) (v := .int 7) (C := RX9) (T := TX9) (N := 11) (ref := RX9) hx hb hts h1w hown hX.1 hP 0 rfl rfl 1 (by decide) h0w (fun _ h9 => h9) rfl dX9_append_8 ?_
  refine lv_sipush (v := 600) hx hb dX9_append_11 (by decide +kernel) ?_
  refine lv_icmp_ge (tgt := 46) hx hb dX9_append_14 (by decide) (fun q => absurd (q) (by decide +kernel)) (fun _ => ?_)
  refine lv_aload_n hx hb dX9_append_17 rfl (lv_at hl 1 rfl) ?_
  refine va_get (D := G) (ci := 6) (v := .ref p2) (C := RX9) (T := TX9) (N := 11) (ref := RX9) hx hb hts h1w hown hX.1 hP 0 rfl rfl 0 (by decide) h2w (fun _ h9 => h9) rfl dX9_append_18 ?_
  refine lv_aload_n hx hb dX9_append_21 rfl (lv_at hl 1 rfl) ?_
  refine va_get (D := G) (ci := 6) (v := .int 7) (C := RX9) (T := TX9) (N := 11) (ref := RX9) hx hb hts h1w hown hX.1 hP 0 rfl rfl 1 (by decide) h0w (fun _ h9 => h9) rfl dX9_append_22 ?_
  refine lv_iload_n hx hb dX9_append_25 rfl (lv_at hl 2 rfl) ?_
  refine lv_iload_n hx hb dX9_append_26 rfl (lv_at hl 0 rfl) ?_
  refine lv_ishr hx hb dX9_append_27 ?_
  refine lv_topi (fun x_7 ex_7 => ?_)
  obtain ⟨x_8, ex_8⟩ : ∃ z : Int32, (x_7 : Int32).toInt8.toInt32 = z := ⟨_, rfl⟩
  refine lv_i2b (v := x_8) hx hb dX9_append_28 ex_8 ?_
  refine va_bast hx hb hX.1 hP hD hS 1 1 rfl rfl (by unfold vp_in; decide +kernel) dX9_append_29 (fun H locs hP hD hS => ?_)
  refine lv_aload_n hx hb dX9_append_30 rfl (lv_at hl 1 rfl) ?_
  refine lv_dup hx hb dX9_append_31 rfl ?_
  refine va_get (D := G) (ci := 6) (v := .int 7) (C := RX9) (T := TX9) (N := 11) (ref := RX9) hx hb hts h1w hown hX.1 hP 0 rfl rfl 1 (by decide) h0w (fun _ h9 => h9) rfl dX9_append_32 ?_
  refine lv_iconst (v := 1) hx hb dX9_append_35 (by decide +kernel) ?_
  refine lv_iadd hx hb dX9_append_36 ?_
  refine cz_ti (w := 8) (by decide +kernel) ?_
  refine va_put (D := G) (ci := 6) (v := .int 8) (ty := .int) (C := RX9) (T := TX9) (N := 11) (ref := RX9) hx hb hts h1w tyX9 tyX9_ok nmX9 hown hX.1 hP hD hS 0 rfl rfl 1 (by decide) h0w (fun _ h9 => h9) rfl (by decide +kernel) rfl rfl (Nat.le_of_ble_eq_true rfl) dX9_append_37 (fun H locs hP hD hS => ?_)
  refine lv_iinc (v := (-8)) (lv' := [(2, .int (-8)), (0, .ref p0), (1, .int i1)]) hx hb dX9_append_40 hl (k := 0) rfl (by decide +kernel) (by decide) rfl (fun ls hl => ?_)
  refine lv_goto (tgt := 3) hx hb dX9_append_43 (by decide) ?_
  refine lv_iload_n hx hb dX9_append_3 rfl (lv_at hl 0 rfl) ?_
  refine lv_if_lt (tgt := 46) hx hb dX9_append_4 (by decide) (fun _ => ?_) (fun q => absurd (by decide +kernel) (q))
  have hP9 := hP.sub (ws' := [(p0, .inr (6, [.ref p2, .int 8, v3, v4, v5, v6, v7, v8, v9, v10, v11])), (p2, .inl (k 1, 600, .inl (upd (upd (upd (upd f12 (4 : Int32).toNatClampNeg (vp_nar .byte x_2)) (5 : Int32).toNatClampNeg (vp_nar .byte x_4)) (6 : Int32).toNatClampNeg (vp_nar .byte x_6)) (7 : Int32).toNatClampNeg (vp_nar .byte x_8))))]) [0, 1] rfl
  have hD9 := hD.sub (ws' := [(p0, .inr (6, [.ref p2, .int 8, v3, v4, v5, v6, v7, v8, v9, v10, v11])), (p2, .inl (k 1, 600, .inl (upd (upd (upd (upd f12 (4 : Int32).toNatClampNeg (vp_nar .byte x_2)) (5 : Int32).toNatClampNeg (vp_nar .byte x_4)) (6 : Int32).toNatClampNeg (vp_nar .byte x_6)) (7 : Int32).toNatClampNeg (vp_nar .byte x_8))))]) [0, 1] (by decide) rfl
  exact W.vret hx hb hr (fun t ht hW => ⟨⟨((upd (upd (upd (upd f12 (4 : Int32).toNatClampNeg (vp_nar .byte x_2)) (5 : Int32).toNatClampNeg (vp_nar .byte x_4)) (6 : Int32).toNatClampNeg (vp_nar .byte x_6)) (7 : Int32).toNatClampNeg (vp_nar .byte x_8))), rfl, trivial, by rw [ht]; exact hP9, hD9⟩, hS.F ht⟩) hS.2.2 dX9_append_46

set_option maxHeartbeats 4000000 in
set_option maxRecDepth 100000 in
theorem cX9_append_2 (l : Launch) (G : va_G) (k : Nat → ClassId) (p0 : Nat) (i1 : Int32) (p2 : Nat) (v3 : Value) (v4 : Value) (v5 : Value) (v6 : Value) (v7 : Value) (v8 : Value) (v9 : Value) (v10 : Value) (v11 : Value) (f12 : Nat → Int32) (sz : Nat) : CMv l G k yX9_append wsX9_append ({ frames := 0, cells := 0, slots := 0, locals := 0 }) [.ref p0, .int i1] sz [(p0, .inr (6, [.ref p2, .int 8, v3, v4, v5, v6, v7, v8, v9, v10, v11])), (p2, .inl (k 1, 600, .inl f12))] (fun (u : (Nat → Int32)) => True) (fun (u : (Nat → Int32)) => [(p0, .inr (6, [.ref p2, .int 12, v3, v4, v5, v6, v7, v8, v9, v10, v11])), (p2, .inl (k 1, 600, .inl u))]) := by
  refine Met.ofW (cc := cX9_append) (maxL := 3) (ret := none) (by decide) rfl ?_
  intro p e s m args below meth c s₁ B hml hv
  obtain ⟨rfl, hsz, hP, hX, hD0, hZ0⟩ := hv
  have hx := B.exec
  have hb := B.bytes
  have hr := B.returns
  have hts := atoms_spec (ws := wsX9_append) B.pre
  have hown : s.vm.findClass RX9 = some m.cls := findClass_of_methodNamed B.named
  subst hsz
  have hD := hD0.self (sz := s.heap.size)
  have hZ := ZX.up hP hZ0
  generalize hAe : va_A [(p0, .inr (6, [.ref p2, .int 8, v3, v4, v5, v6, v7, v8, v9, v10, v11])), (p2, .inl (k 1, 600, .inl f12))] s.heap.size = A at hD hZ ⊢
  have hA : ∀ q : Nat, s.heap.size ≤ q → A q := fun q h => by rw [← hAe]; exact Or.inr h
  have hS : va_S A s.heap s.heap [] := va_S.rf
  have hP : va_P G vwCl [(p0, .inr (6, [.ref p2, .int 8, v3, v4, v5, v6, v7, v8, v9, v10, v11])), (p2, .inl (k 1, 600, .inl f12))] s.heap := hP
  have hl := lv_entry ([.ref p0, .int i1]) (n := 3) (Nat.le_of_ble_eq_true rfl)
  rw [lg_entry_eq]
  generalize (lg_sl ([.ref p0, .int i1]) ++ List.replicate (3 - (lg_sl ([.ref p0, .int i1])).length) Slot.unset).toArray = ls at hl ⊢
  have hl : lv_has ls 3 [(0, .ref p0), (1, .int i1)] := hl
  have h0w := hts (.fieldLink RX9 13 "RopeTown" "fed" "I") (by decide +kernel)
  have h1w : ∀ w ∈ wsX90, w ∈ wsX9_append := by decide +kernel
  have h2w := hts (.fieldLink RX9 9 "RopeTown" "tape" "[B") (by decide +kernel)
  refine lv_bipush (v := 24) hx hb dX9_append_0 (by decide +kernel) ?_
  refine lv_istore_n (lv' := [(2, .int 24), (0, .ref p0), (1, .int i1)]) hx hb dX9_append_2 rfl hl (by decide) rfl (fun ls hl => ?_)
  refine lv_iload_n hx hb dX9_append_3 rfl (lv_at hl 0 rfl) ?_
  refine lv_if_lt (tgt := 46) hx hb dX9_append_4 (by decide) (fun q => absurd (q) (by decide +kernel)) (fun _ => ?_)
  refine lv_aload_n hx hb dX9_append_7 rfl (lv_at hl 1 rfl) ?_
  refine va_get (D := G) (ci := 6) (v := .int 8) (C := RX9) (T := TX9) (N := 11) (ref := RX9) hx hb hts h1w hown hX.1 hP 0 rfl rfl 1 (by decide) h0w (fun _ h9 => h9) rfl dX9_append_8 ?_
  refine lv_sipush (v := 600) hx hb dX9_append_11 (by decide +kernel) ?_
  refine lv_icmp_ge (tgt := 46) hx hb dX9_append_14 (by decide) (fun q => absurd (q) (by decide +kernel)) (fun _ => ?_)
  refine lv_aload_n hx hb dX9_append_17 rfl (lv_at hl 1 rfl) ?_
  refine va_get (D := G) (ci := 6) (v := .ref p2) (C := RX9) (T := TX9) (N := 11) (ref := RX9) hx hb hts h1w hown hX.1 hP 0 rfl rfl 0 (by decide) h2w (fun _ h9 => h9) rfl dX9_append_18 ?_
  refine lv_aload_n hx hb dX9_append_21 rfl (lv_at hl 1 rfl) ?_
  refine va_get (D := G) (ci := 6) (v := .int 8) (C := RX9) (T := TX9) (N := 11) (ref := RX9) hx hb hts h1w hown hX.1 hP 0 rfl rfl 1 (by decide) h0w (fun _ h9 => h9) rfl dX9_append_22 ?_
  refine lv_iload_n hx hb dX9_append_25 rfl (lv_at hl 2 rfl) ?_
  refine lv_iload_n hx hb dX9_append_26 rfl (lv_at hl 0 rfl) ?_
  refine lv_ishr hx hb dX9_append_27 ?_
  refine lv_topi (fun x_1 ex_1 => ?_)
  obtain ⟨x_2, ex_2⟩ : ∃ z : Int32, (x_1 : Int32).toInt8.toInt32 = z := ⟨_, rfl⟩
  refine lv_i2b (v := x_2) hx hb dX9_append_28 ex_2 ?_
  refine va_bast hx hb hX.1 hP hD hS 1 1 rfl rfl (by unfold vp_in; decide +kernel) dX9_append_29 (fun H locs hP hD hS => ?_)
  refine lv_aload_n hx hb dX9_append_30 rfl (lv_at hl 1 rfl) ?_
  refine lv_dup hx hb dX9_append_31 rfl ?_
  refine va_get (D := G) (ci := 6) (v := .int 8) (C := RX9) (T := TX9) (N := 11) (ref := RX9) hx hb hts h1w hown hX.1 hP 0 rfl rfl 1 (by decide) h0w (fun _ h9 => h9) rfl dX9_append_32 ?_
  refine lv_iconst (v := 1) hx hb dX9_append_35 (by decide +kernel) ?_
  refine lv_iadd hx hb dX9_append_36 ?_
  refine cz_ti (w := 9) (by decide +kernel) ?_
  refine va_put (D := G) (ci := 6) (v := .int 9) (ty := .int) (C := RX9) (T := TX9) (N := 11) (ref := RX9) hx hb hts h1w tyX9 tyX9_ok nmX9 hown hX.1 hP hD hS 0 rfl rfl 1 (by decide) h0w (fun _ h9 => h9) rfl (by decide +kernel) rfl rfl (Nat.le_of_ble_eq_true rfl) dX9_append_37 (fun H locs hP hD hS => ?_)
  refine lv_iinc (v := 16) (lv' := [(2, .int 16), (0, .ref p0), (1, .int i1)]) hx hb dX9_append_40 hl (k := 0) rfl (by decide +kernel) (by decide) rfl (fun ls hl => ?_)
  refine lv_goto (tgt := 3) hx hb dX9_append_43 (by decide) ?_
  refine lv_iload_n hx hb dX9_append_3 rfl (lv_at hl 0 rfl) ?_
  refine lv_if_lt (tgt := 46) hx hb dX9_append_4 (by decide) (fun q => absurd (q) (by decide +kernel)) (fun _ => ?_)
  refine lv_aload_n hx hb dX9_append_7 rfl (lv_at hl 1 rfl) ?_
  refine va_get (D := G) (ci := 6) (v := .int 9) (C := RX9) (T := TX9) (N := 11) (ref := RX9) hx hb hts h1w hown hX.1 hP 0 rfl rfl 1 (by decide) h0w (fun _ h9 => h9) rfl dX9_append_8 ?_
  refine lv_sipush (v := 600) hx hb dX9_append_11 (by decide +kernel) ?_
  refine lv_icmp_ge (tgt := 46) hx hb dX9_append_14 (by decide) (fun q => absurd (q) (by decide +kernel)) (fun _ => ?_)
  refine lv_aload_n hx hb dX9_append_17 rfl (lv_at hl 1 rfl) ?_
  refine va_get (D := G) (ci := 6) (v := .ref p2) (C := RX9) (T := TX9) (N := 11) (ref := RX9) hx hb hts h1w hown hX.1 hP 0 rfl rfl 0 (by decide) h2w (fun _ h9 => h9) rfl dX9_append_18 ?_
  refine lv_aload_n hx hb dX9_append_21 rfl (lv_at hl 1 rfl) ?_
  refine va_get (D := G) (ci := 6) (v := .int 9) (C := RX9) (T := TX9) (N := 11) (ref := RX9) hx hb hts h1w hown hX.1 hP 0 rfl rfl 1 (by decide) h0w (fun _ h9 => h9) rfl dX9_append_22 ?_
  refine lv_iload_n hx hb dX9_append_25 rfl (lv_at hl 2 rfl) ?_
  refine lv_iload_n hx hb dX9_append_26 rfl (lv_at hl 0 rfl) ?_
  refine lv_ishr hx hb dX9_append_27 ?_
  refine lv_topi (fun x_3 ex_3 => ?_)
  obtain ⟨x_4, ex_4⟩ : ∃ z : Int32, (x_3 : Int32).toInt8.toInt32 = z := ⟨_, rfl⟩
  refine lv_i2b (v := x_4) hx hb dX9_append_28 ex_4 ?_
  refine va_bast hx hb hX.1 hP hD hS 1 1 rfl rfl (by unfold vp_in; decide +kernel) dX9_append_29 (fun H locs hP hD hS => ?_)
  refine lv_aload_n hx hb dX9_append_30 rfl (lv_at hl 1 rfl) ?_
  refine lv_dup hx hb dX9_append_31 rfl ?_
  refine va_get (D := G) (ci := 6) (v := .int 9) (C := RX9) (T := TX9) (N := 11) (ref := RX9) hx hb hts h1w hown hX.1 hP 0 rfl rfl 1 (by decide) h0w (fun _ h9 => h9) rfl dX9_append_32 ?_
  refine lv_iconst (v := 1) hx hb dX9_append_35 (by decide +kernel) ?_
  refine lv_iadd hx hb dX9_append_36 ?_
  refine cz_ti (w := 10) (by decide +kernel) ?_
  refine va_put (D := G) (ci := 6) (v := .int 10) (ty := .int) (C := RX9) (T := TX9) (N := 11) (ref := RX9) hx hb hts h1w tyX9 tyX9_ok nmX9 hown hX.1 hP hD hS 0 rfl rfl 1 (by decide) h0w (fun _ h9 => h9) rfl (by decide +kernel) rfl rfl (Nat.le_of_ble_eq_true rfl) dX9_append_37 (fun H locs hP hD hS => ?_)
  refine lv_iinc (v := 8) (lv' := [(2, .int 8), (0, .ref p0), (1, .int i1)]) hx hb dX9_append_40 hl (k := 0) rfl (by decide +kernel) (by decide) rfl (fun ls hl => ?_)
  refine lv_goto (tgt := 3) hx hb dX9_append_43 (by decide) ?_
  refine lv_iload_n hx hb dX9_append_3 rfl (lv_at hl 0 rfl) ?_
  refine lv_if_lt (tgt := 46) hx hb dX9_append_4 (by decide) (fun q => absurd (q) (by decide +kernel)) (fun _ => ?_)
  refine lv_aload_n hx hb dX9_append_7 rfl (lv_at hl 1 rfl) ?_
  refine va_get (D := G) (ci := 6) (v := .int 10) (C := RX9) (T := TX9) (N := 11) (ref := RX9) hx hb hts h1w hown hX.1 hP 0 rfl rfl 1 (by decide) h0w (fun _ h9 => h9) rfl dX9_append_8 ?_
  refine lv_sipush (v := 600) hx hb dX9_append_11 (by decide +kernel) ?_
  refine lv_icmp_ge (tgt := 46) hx hb dX9_append_14 (by decide) (fun q => absurd (q) (by decide +kernel)) (fun _ => ?_)
  refine lv_aload_n hx hb dX9_append_17 rfl (lv_at hl 1 rfl) ?_
  refine va_get (D := G) (ci := 6) (v := .ref p2) (C := RX9) (T := TX9) (N := 11) (ref := RX9) hx hb hts h1w hown hX.1 hP 0 rfl rfl 0 (by decide) h2w (fun _ h9 => h9) rfl dX9_append_18 ?_
  refine lv_aload_n hx hb dX9_append_21 rfl (lv_at hl 1 rfl) ?_
  refine va_get (D := G) (ci := 6) (v := .int 10) (C := RX9) (T := TX9) (N := 11) (ref := RX9) hx hb hts h1w hown hX.1 hP 0 rfl rfl 1 (by decide) h0w (fun _ h9 => h9) rfl dX9_append_22 ?_
  refine lv_iload_n hx hb dX9_append_25 rfl (lv_at hl 2 rfl) ?_
  refine lv_iload_n hx hb dX9_append_26 rfl (lv_at hl 0 rfl) ?_
  refine lv_ishr hx hb dX9_append_27 ?_
  refine lv_topi (fun x_5 ex_5 => ?_)
  obtain ⟨x_6, ex_6⟩ : ∃ z : Int32, (x_5 : Int32).toInt8.toInt32 = z := ⟨_, rfl⟩
  refine lv_i2b (v := x_6) hx hb dX9_append_28 ex_6 ?_
  refine va_bast hx hb hX.1 hP hD hS 1 1 rfl rfl (by unfold vp_in; decide +kernel) dX9_append_29 (fun H locs hP hD hS => ?_)
  refine lv_aload_n hx hb dX9_append_30 rfl (lv_at hl 1 rfl) ?_
  refine lv_dup hx hb dX9_append_31 rfl ?_
  refine va_get (D := G) (ci := 6) (v := .int 10) (C := RX9) (T := TX9) (N := 11) (ref := RX9) hx hb hts h1w hown hX.1 hP 0 rfl rfl 1 (by decide) h0w (fun _ h9 => h9) rfl dX9_append_32 ?_
  refine lv_iconst (v := 1) hx hb dX9_append_35 (by decide +kernel) ?_
  refine lv_iadd hx hb dX9_append_36 ?_
  refine cz_ti (w := 11) (by decide +kernel) ?_
  refine va_put (D := G) (ci := 6) (v := .int 11) (ty := .int) (C := RX9) (T := TX9) (N := 11) (ref := RX9) hx hb hts h1w tyX9 tyX9_ok nmX9 hown hX.1 hP hD hS 0 rfl rfl 1 (by decide) h0w (fun _ h9 => h9) rfl (by decide +kernel) rfl rfl (Nat.le_of_ble_eq_true rfl) dX9_append_37 (fun H locs hP hD hS => ?_)
  obtain ⟨hP, hD⟩ : va_P G vwCl [(p0, .inr (6, [.ref p2, .int 11, v3, v4, v5, v6, v7, v8, v9, v10, v11])), (p2, .inl (k 1, 600, .inl (upd (upd (upd f12 (8 : Int32).toNatClampNeg (vp_nar .byte x_2)) (9 : Int32).toNatClampNeg (vp_nar .byte x_4)) (10 : Int32).toNatClampNeg (vp_nar .byte x_6))))] H ∧ va_D A [(p0, .inr (6, [.ref p2, .int 11, v3, v4, v5, v6, v7, v8, v9, v10, v11])), (p2, .inl (k 1, 600, .inl (upd (upd (upd f12 (8 : Int32).toNatClampNeg (vp_nar .byte x_2)) (9 : Int32).toNatClampNeg (vp_nar .byte x_4)) (10 : Int32).toNatClampNeg (vp_nar .byte x_6))))] := ⟨hP, hD⟩
  refine lv_iinc (v := 0) (lv' := [(2, .int 0), (0, .ref p0), (1, .int i1)]) hx hb dX9_append_40 hl (k := 0) rfl (by decide +kernel) (by decide) rfl (fun ls hl => ?_)
  refine lv_goto (tgt := 3) hx hb dX9_append_43 (by decide) ?_
  refine lv_iload_n hx hb dX9_append_3 rfl (lv_at hl 0 rfl) ?_
  refine lv_if_lt (tgt := 46) hx hb dX9_append_4 (by decide) (fun q => absurd (q) (by decide +kernel)) (fun _ => ?_)
  refine lv_aload_n hx hb dX9_append_7 rfl (lv_at hl 1 rfl) ?_
  refine va_get (D := G) (ci := 6) (v := .int 11) (C := RX9) (T := TX9) (N := 11) (ref := RX9) hx hb hts h1w hown hX.1 hP 0 rfl rfl 1 (by decide) h0w (fun _ h9 => h9) rfl dX9_append_8 ?_
  refine lv_sipush (v := 600) hx hb dX9_append_11 (by decide +kernel) ?_
  refine lv_icmp_ge (tgt := 46) hx hb dX9_append_14 (by decide) (fun q => absurd (q) (by decide +kernel)) (fun _ => ?_)
  refine lv_aload_n hx hb dX9_append_17 rfl (lv_at hl 1 rfl) ?_
  refine va_get (D := G) (ci := 6) (v := .ref p2) (C := RX9) (T := TX9) (N := 11) (ref := RX9) hx hb hts h1w hown hX.1 hP 0 rfl rfl 0 (by decide) h2w (fun _ h9 => h9) rfl dX9_append_18 ?_
  refine lv_aload_n hx hb dX9_append_21 rfl (lv_at hl 1 rfl) ?_
  refine va_get (D := G) (ci := 6) (v := .int 11) (C := RX9) (T := TX9) (N := 11) (ref := RX9) hx hb hts h1w hown hX.1 hP 0 rfl rfl 1 (by decide) h0w (fun _ h9 => h9) rfl dX9_append_22 ?_
  refine lv_iload_n hx hb dX9_append_25 rfl (lv_at hl 2 rfl) ?_
  refine lv_iload_n hx hb dX9_append_26 rfl (lv_at hl 0 rfl) ?_
  refine lv_ishr hx hb dX9_append_27 ?_
  refine lv_topi (fun x_7 ex_7 => ?_)
  obtain ⟨x_8, ex_8⟩ : ∃ z : Int32, (x_7 : Int32).toInt8.toInt32 = z := ⟨_, rfl⟩
  refine lv_i2b (v := x_8) hx hb dX9_append_28 ex_8 ?_
  refine va_bast hx hb hX.1 hP hD hS 1 1 rfl rfl (by unfold vp_in; decide +kernel) dX9_append_29 (fun H locs hP hD hS => ?_)
  refine lv_aload_n hx hb dX9_append_30 rfl (lv_at hl 1 rfl) ?_
  refine lv_dup hx hb dX9_append_31 rfl ?_
  refine va_get (D := G) (ci := 6) (v := .int 11) (C := RX9) (T := TX9) (N := 11) (ref := RX9) hx hb hts h1w hown hX.1 hP 0 rfl rfl 1 (by decide) h0w (fun _ h9 => h9) rfl dX9_append_32 ?_
  refine lv_iconst (v := 1) hx hb dX9_append_35 (by decide +kernel) ?_
  refine lv_iadd hx hb dX9_append_36 ?_
  refine cz_ti (w := 12) (by decide +kernel) ?_
  refine va_put (D := G) (ci := 6) (v := .int 12) (ty := .int) (C := RX9) (T := TX9) (N := 11) (ref := RX9) hx hb hts h1w tyX9 tyX9_ok nmX9 hown hX.1 hP hD hS 0 rfl rfl 1 (by decide) h0w (fun _ h9 => h9) rfl (by decide +kernel) rfl rfl (Nat.le_of_ble_eq_true rfl) dX9_append_37 (fun H locs hP hD hS => ?_)
  refine lv_iinc (v := (-8)) (lv' := [(2, .int (-8)), (0, .ref p0), (1, .int i1)]) hx hb dX9_append_40 hl (k := 0) rfl (by decide +kernel) (by decide) rfl (fun ls hl => ?_)
  refine lv_goto (tgt := 3) hx hb dX9_append_43 (by decide) ?_
  refine lv_iload_n hx hb dX9_append_3 rfl (lv_at hl 0 rfl) ?_
  refine lv_if_lt (tgt := 46) hx hb dX9_append_4 (by decide) (fun _ => ?_) (fun q => absurd (by decide +kernel) (q))
  have hP9 := hP.sub (ws' := [(p0, .inr (6, [.ref p2, .int 12, v3, v4, v5, v6, v7, v8, v9, v10, v11])), (p2, .inl (k 1, 600, .inl (upd (upd (upd (upd f12 (8 : Int32).toNatClampNeg (vp_nar .byte x_2)) (9 : Int32).toNatClampNeg (vp_nar .byte x_4)) (10 : Int32).toNatClampNeg (vp_nar .byte x_6)) (11 : Int32).toNatClampNeg (vp_nar .byte x_8))))]) [0, 1] rfl
  have hD9 := hD.sub (ws' := [(p0, .inr (6, [.ref p2, .int 12, v3, v4, v5, v6, v7, v8, v9, v10, v11])), (p2, .inl (k 1, 600, .inl (upd (upd (upd (upd f12 (8 : Int32).toNatClampNeg (vp_nar .byte x_2)) (9 : Int32).toNatClampNeg (vp_nar .byte x_4)) (10 : Int32).toNatClampNeg (vp_nar .byte x_6)) (11 : Int32).toNatClampNeg (vp_nar .byte x_8))))]) [0, 1] (by decide) rfl
  exact W.vret hx hb hr (fun t ht hW => ⟨⟨((upd (upd (upd (upd f12 (8 : Int32).toNatClampNeg (vp_nar .byte x_2)) (9 : Int32).toNatClampNeg (vp_nar .byte x_4)) (10 : Int32).toNatClampNeg (vp_nar .byte x_6)) (11 : Int32).toNatClampNeg (vp_nar .byte x_8))), rfl, trivial, by rw [ht]; exact hP9, hD9⟩, hS.F ht⟩) hS.2.2 dX9_append_46

set_option maxHeartbeats 4000000 in
set_option maxRecDepth 100000 in
theorem cX9_append_3 (l : Launch) (G : va_G) (k : Nat → ClassId) (p0 : Nat) (i1 : Int32) (p2 : Nat) (v3 : Value) (v4 : Value) (v5 : Value) (v6 : Value) (v7 : Value) (v8 : Value) (v9 : Value) (v10 : Value) (v11 : Value) (f12 : Nat → Int32) (sz : Nat) : CMv l G k yX9_append wsX9_append ({ frames := 0, cells := 0, slots := 0, locals := 0 }) [.ref p0, .int i1] sz [(p0, .inr (6, [.ref p2, .int 12, v3, v4, v5, v6, v7, v8, v9, v10, v11])), (p2, .inl (k 1, 600, .inl f12))] (fun (u : (Nat → Int32)) => True) (fun (u : (Nat → Int32)) => [(p0, .inr (6, [.ref p2, .int 16, v3, v4, v5, v6, v7, v8, v9, v10, v11])), (p2, .inl (k 1, 600, .inl u))]) := by
  refine Met.ofW (cc := cX9_append) (maxL := 3) (ret := none) (by decide) rfl ?_
  intro p e s m args below meth c s₁ B hml hv
  obtain ⟨rfl, hsz, hP, hX, hD0, hZ0⟩ := hv
  have hx := B.exec
  have hb := B.bytes
  have hr := B.returns
  have hts := atoms_spec (ws := wsX9_append) B.pre
  have hown : s.vm.findClass RX9 = some m.cls := findClass_of_methodNamed B.named
  subst hsz
  have hD := hD0.self (sz := s.heap.size)
  have hZ := ZX.up hP hZ0
  generalize hAe : va_A [(p0, .inr (6, [.ref p2, .int 12, v3, v4, v5, v6, v7, v8, v9, v10, v11])), (p2, .inl (k 1, 600, .inl f12))] s.heap.size = A at hD hZ ⊢
  have hA : ∀ q : Nat, s.heap.size ≤ q → A q := fun q h => by rw [← hAe]; exact Or.inr h
  have hS : va_S A s.heap s.heap [] := va_S.rf
  have hP : va_P G vwCl [(p0, .inr (6, [.ref p2, .int 12, v3, v4, v5, v6, v7, v8, v9, v10, v11])), (p2, .inl (k 1, 600, .inl f12))] s.heap := hP
  have hl := lv_entry ([.ref p0, .int i1]) (n := 3) (Nat.le_of_ble_eq_true rfl)
  rw [lg_entry_eq]
  generalize (lg_sl ([.ref p0, .int i1]) ++ List.replicate (3 - (lg_sl ([.ref p0, .int i1])).length) Slot.unset).toArray = ls at hl ⊢
  have hl : lv_has ls 3 [(0, .ref p0), (1, .int i1)] := hl
  have h0w := hts (.fieldLink RX9 13 "RopeTown" "fed" "I") (by decide +kernel)
  have h1w : ∀ w ∈ wsX90, w ∈ wsX9_append := by decide +kernel
  have h2w := hts (.fieldLink RX9 9 "RopeTown" "tape" "[B") (by decide +kernel)
  refine lv_bipush (v := 24) hx hb dX9_append_0 (by decide +kernel) ?_
  refine lv_istore_n (lv' := [(2, .int 24), (0, .ref p0), (1, .int i1)]) hx hb dX9_append_2 rfl hl (by decide) rfl (fun ls hl => ?_)
  refine lv_iload_n hx hb dX9_append_3 rfl (lv_at hl 0 rfl) ?_
  refine lv_if_lt (tgt := 46) hx hb dX9_append_4 (by decide) (fun q => absurd (q) (by decide +kernel)) (fun _ => ?_)
  refine lv_aload_n hx hb dX9_append_7 rfl (lv_at hl 1 rfl) ?_
  refine va_get (D := G) (ci := 6) (v := .int 12) (C := RX9) (T := TX9) (N := 11) (ref := RX9) hx hb hts h1w hown hX.1 hP 0 rfl rfl 1 (by decide) h0w (fun _ h9 => h9) rfl dX9_append_8 ?_
  refine lv_sipush (v := 600) hx hb dX9_append_11 (by decide +kernel) ?_
  refine lv_icmp_ge (tgt := 46) hx hb dX9_append_14 (by decide) (fun q => absurd (q) (by decide +kernel)) (fun _ => ?_)
  refine lv_aload_n hx hb dX9_append_17 rfl (lv_at hl 1 rfl) ?_
  refine va_get (D := G) (ci := 6) (v := .ref p2) (C := RX9) (T := TX9) (N := 11) (ref := RX9) hx hb hts h1w hown hX.1 hP 0 rfl rfl 0 (by decide) h2w (fun _ h9 => h9) rfl dX9_append_18 ?_
  refine lv_aload_n hx hb dX9_append_21 rfl (lv_at hl 1 rfl) ?_
  refine va_get (D := G) (ci := 6) (v := .int 12) (C := RX9) (T := TX9) (N := 11) (ref := RX9) hx hb hts h1w hown hX.1 hP 0 rfl rfl 1 (by decide) h0w (fun _ h9 => h9) rfl dX9_append_22 ?_
  refine lv_iload_n hx hb dX9_append_25 rfl (lv_at hl 2 rfl) ?_
  refine lv_iload_n hx hb dX9_append_26 rfl (lv_at hl 0 rfl) ?_
  refine lv_ishr hx hb dX9_append_27 ?_
  refine lv_topi (fun x_1 ex_1 => ?_)
  obtain ⟨x_2, ex_2⟩ : ∃ z : Int32, (x_1 : Int32).toInt8.toInt32 = z := ⟨_, rfl⟩
  refine lv_i2b (v := x_2) hx hb dX9_append_28 ex_2 ?_
  refine va_bast hx hb hX.1 hP hD hS 1 1 rfl rfl (by unfold vp_in; decide +kernel) dX9_append_29 (fun H locs hP hD hS => ?_)
  refine lv_aload_n hx hb dX9_append_30 rfl (lv_at hl 1 rfl) ?_
  refine lv_dup hx hb dX9_append_31 rfl ?_
  refine va_get (D := G) (ci := 6) (v := .int 12) (C := RX9) (T := TX9) (N := 11) (ref := RX9) hx hb hts h1w hown hX.1 hP 0 rfl rfl 1 (by decide) h0w (fun _ h9 => h9) rfl dX9_append_32 ?_
  refine lv_iconst (v := 1) hx hb dX9_append_35 (by decide +kernel) ?_
  refine lv_iadd hx hb dX9_append_36 ?_
  refine cz_ti (w := 13) (by decide +kernel) ?_
  refine va_put (D := G) (ci := 6) (v := .int 13) (ty := .int) (C := RX9) (T := TX9) (N := 11) (ref := RX9) hx hb hts h1w tyX9 tyX9_ok nmX9 hown hX.1 hP hD hS 0 rfl rfl 1 (by decide) h0w (fun _ h9 => h9) rfl (by decide +kernel) rfl rfl (Nat.le_of_ble_eq_true rfl) dX9_append_37 (fun H locs hP hD hS => ?_)
  refine lv_iinc (v := 16) (lv' := [(2, .int 16), (0, .ref p0), (1, .int i1)]) hx hb dX9_append_40 hl (k := 0) rfl (by decide +kernel) (by decide) rfl (fun ls hl => ?_)
  refine lv_goto (tgt := 3) hx hb dX9_append_43 (by decide) ?_
  refine lv_iload_n hx hb dX9_append_3 rfl (lv_at hl 0 rfl) ?_
  refine lv_if_lt (tgt := 46) hx hb dX9_append_4 (by decide) (fun q => absurd (q) (by decide +kernel)) (fun _ => ?_)
  refine lv_aload_n hx hb dX9_append_7 rfl (lv_at hl 1 rfl) ?_
  refine va_get (D := G) (ci := 6) (v := .int 13) (C := RX9) (T := TX9) (N := 11) (ref := RX9) hx hb hts h1w hown hX.1 hP 0 rfl rfl 1 (by decide) h0w (fun _ h9 => h9) rfl dX9_append_8 ?_
  refine lv_sipush (v := 600) hx hb dX9_append_11 (by decide +kernel) ?_
  refine lv_icmp_ge (tgt := 46) hx hb dX9_append_14 (by decide) (fun q => absurd (q) (by decide +kernel)) (fun _ => ?_)
  refine lv_aload_n hx hb dX9_append_17 rfl (lv_at hl 1 rfl) ?_
  refine va_get (D := G) (ci := 6) (v := .ref p2) (C := RX9) (T := TX9) (N := 11) (ref := RX9) hx hb hts h1w hown hX.1 hP 0 rfl rfl 0 (by decide) h2w (fun _ h9 => h9) rfl dX9_append_18 ?_
  refine lv_aload_n hx hb dX9_append_21 rfl (lv_at hl 1 rfl) ?_
  refine va_get (D := G) (ci := 6) (v := .int 13) (C := RX9) (T := TX9) (N := 11) (ref := RX9) hx hb hts h1w hown hX.1 hP 0 rfl rfl 1 (by decide) h0w (fun _ h9 => h9) rfl dX9_append_22 ?_
  refine lv_iload_n hx hb dX9_append_25 rfl (lv_at hl 2 rfl) ?_
  refine lv_iload_n hx hb dX9_append_26 rfl (lv_at hl 0 rfl) ?_
  refine lv_ishr hx hb dX9_append_27 ?_
  refine lv_topi (fun x_3 ex_3 => ?_)
  obtain ⟨x_4, ex_4⟩ : ∃ z : Int32, (x_3 : Int32).toInt8.toInt32 = z := ⟨_, rfl⟩
  refine lv_i2b (v := x_4) hx hb dX9_append_28 ex_4 ?_
  refine va_bast hx hb hX.1 hP hD hS 1 1 rfl rfl (by unfold vp_in; decide +kernel) dX9_append_29 (fun H locs hP hD hS => ?_)
  refine lv_aload_n hx hb dX9_append_30 rfl (lv_at hl 1 rfl) ?_
  refine lv_dup hx hb dX9_append_31 rfl ?_
  refine va_get (D := G) (ci := 6) (v := .int 13) (C := RX9) (T := TX9) (N := 11) (ref := RX9) hx hb hts h1w hown hX.1 hP 0 rfl rfl 1 (by decide) h0w (fun _ h9 => h9) rfl dX9_append_32 ?_
  refine lv_iconst (v := 1) hx hb dX9_append_35 (by decide +kernel) ?_
  refine lv_iadd hx hb dX9_append_36 ?_
  refine cz_ti (w := 14) (by decide +kernel) ?_
  refine va_put (D := G) (ci := 6) (v := .int 14) (ty := .int) (C := RX9) (T := TX9) (N := 11) (ref := RX9) hx hb hts h1w tyX9 tyX9_ok nmX9 hown hX.1 hP hD hS 0 rfl rfl 1 (by decide) h0w (fun _ h9 => h9) rfl (by decide +kernel) rfl rfl (Nat.le_of_ble_eq_true rfl) dX9_append_37 (fun H locs hP hD hS => ?_)
  refine lv_iinc (v := 8) (lv' := [(2, .int 8), (0, .ref p0), (1, .int i1)]) hx hb dX9_append_40 hl (k := 0) rfl (by decide +kernel) (by decide) rfl (fun ls hl => ?_)
  refine lv_goto (tgt := 3) hx hb dX9_append_43 (by decide) ?_
  refine lv_iload_n hx hb dX9_append_3 rfl (lv_at hl 0 rfl) ?_
  refine lv_if_lt (tgt := 46) hx hb dX9_append_4 (by decide) (fun q => absurd (q) (by decide +kernel)) (fun _ => ?_)
  refine lv_aload_n hx hb dX9_append_7 rfl (lv_at hl 1 rfl) ?_
  refine va_get (D := G) (ci := 6) (v := .int 14) (C := RX9) (T := TX9) (N := 11) (ref := RX9) hx hb hts h1w hown hX.1 hP 0 rfl rfl 1 (by decide) h0w (fun _ h9 => h9) rfl dX9_append_8 ?_
  refine lv_sipush (v := 600) hx hb dX9_append_11 (by decide +kernel) ?_
  refine lv_icmp_ge (tgt := 46) hx hb dX9_append_14 (by decide) (fun q => absurd (q) (by decide +kernel)) (fun _ => ?_)
  refine lv_aload_n hx hb dX9_append_17 rfl (lv_at hl 1 rfl) ?_
  refine va_get (D := G) (ci := 6) (v := .ref p2) (C := RX9) (T := TX9) (N := 11) (ref := RX9) hx hb hts h1w hown hX.1 hP 0 rfl rfl 0 (by decide) h2w (fun _ h9 => h9) rfl dX9_append_18 ?_
  refine lv_aload_n hx hb dX9_append_21 rfl (lv_at hl 1 rfl) ?_
  refine va_get (D := G) (ci := 6) (v := .int 14) (C := RX9) (T := TX9) (N := 11) (ref := RX9) hx hb hts h1w hown hX.1 hP 0 rfl rfl 1 (by decide) h0w (fun _ h9 => h9) rfl dX9_append_22 ?_
  refine lv_iload_n hx hb dX9_append_25 rfl (lv_at hl 2 rfl) ?_
  refine lv_iload_n hx hb dX9_append_26 rfl (lv_at hl 0 rfl) ?_
  refine lv_ishr hx hb dX9_append_27 ?_
  refine lv_topi (fun x_5 ex_5 => ?_)
  obtain ⟨x_6, ex_6⟩ : ∃ z : Int32, (x_5 : Int32).toInt8.toInt32 = z := ⟨_, rfl⟩
  refine lv_i2b (v := x_6) hx hb dX9_append_28 ex_6 ?_
  refine va_bast hx hb hX.1 hP hD hS 1 1 rfl rfl (by unfold vp_in; decide +kernel) dX9_append_29 (fun H locs hP hD hS => ?_)
  refine lv_aload_n hx hb dX9_append_30 rfl (lv_at hl 1 rfl) ?_
  refine lv_dup hx hb dX9_append_31 rfl ?_
  refine va_get (D := G) (ci := 6) (v := .int 14) (C := RX9) (T := TX9) (N := 11) (ref := RX9) hx hb hts h1w hown hX.1 hP 0 rfl rfl 1 (by decide) h0w (fun _ h9 => h9) rfl dX9_append_32 ?_
  refine lv_iconst (v := 1) hx hb dX9_append_35 (by decide +kernel) ?_
  refine lv_iadd hx hb dX9_append_36 ?_
  refine cz_ti (w := 15) (by decide +kernel) ?_
  refine va_put (D := G) (ci := 6) (v := .int 15) (ty := .int) (C := RX9) (T := TX9) (N := 11) (ref := RX9) hx hb hts h1w tyX9 tyX9_ok nmX9 hown hX.1 hP hD hS 0 rfl rfl 1 (by decide) h0w (fun _ h9 => h9) rfl (by decide +kernel) rfl rfl (Nat.le_of_ble_eq_true rfl) dX9_append_37 (fun H locs hP hD hS => ?_)
  obtain ⟨hP, hD⟩ : va_P G vwCl [(p0, .inr (6, [.ref p2, .int 15, v3, v4, v5, v6, v7, v8, v9, v10, v11])), (p2, .inl (k 1, 600, .inl (upd (upd (upd f12 (12 : Int32).toNatClampNeg (vp_nar .byte x_2)) (13 : Int32).toNatClampNeg (vp_nar .byte x_4)) (14 : Int32).toNatClampNeg (vp_nar .byte x_6))))] H ∧ va_D A [(p0, .inr (6, [.ref p2, .int 15, v3, v4, v5, v6, v7, v8, v9, v10, v11])), (p2, .inl (k 1, 600, .inl (upd (upd (upd f12 (12 : Int32).toNatClampNeg (vp_nar .byte x_2)) (13 : Int32).toNatClampNeg (vp_nar .byte x_4)) (14 : Int32).toNatClampNeg (vp_nar .byte x_6))))] := ⟨hP, hD⟩
  refine lv_iinc (v := 0) (lv' := [(2, .int 0), (0, .ref p0), (1, .int i1)]) hx hb dX9_append_40 hl (k := 0) rfl (by decide +kernel) (by decide) rfl (fun ls hl => ?_)
  refine lv_goto (tgt := 3) hx hb dX9_append_43 (by decide) ?_
  refine lv_iload_n hx hb dX9_append_3 rfl (lv_at hl 0 rfl) ?_
  refine lv_if_lt (tgt := 46) hx hb dX9_append_4 (by decide) (fun q => absurd (q) (by decide +kernel)) (fun _ => ?_)
  refine lv_aload_n hx hb dX9_append_7 rfl (lv_at hl 1 rfl) ?_
  refine va_get (D := G) (ci := 6) (v := .int 15) (C := RX9) (T := TX9) (N := 11) (ref := RX9) hx hb hts h1w hown hX.1 hP 0 rfl rfl 1 (by decide) h0w (fun _ h9 => h9) rfl dX9_append_8 ?_
  refine lv_sipush (v := 600) hx hb dX9_append_11 (by decide +kernel) ?_
  refine lv_icmp_ge (tgt := 46) hx hb dX9_append_14 (by decide) (fun q => absurd (q) (by decide +kernel)) (fun _ => ?_)
  refine lv_aload_n hx hb dX9_append_17 rfl (lv_at hl 1 rfl) ?_
  refine va_get (D := G) (ci := 6) (v := .ref p2) (C := RX9) (T := TX9) (N := 11) (ref := RX9) hx hb hts h1w hown hX.1 hP 0 rfl rfl 0 (by decide) h2w (fun _ h9 => h9) rfl dX9_append_18 ?_
  refine lv_aload_n hx hb dX9_append_21 rfl (lv_at hl 1 rfl) ?_
  refine va_get (D := G) (ci := 6) (v := .int 15) (C := RX9) (T := TX9) (N := 11) (ref := RX9) hx hb hts h1w hown hX.1 hP 0 rfl rfl 1 (by decide) h0w (fun _ h9 => h9) rfl dX9_append_22 ?_
  refine lv_iload_n hx hb dX9_append_25 rfl (lv_at hl 2 rfl) ?_
  refine lv_iload_n hx hb dX9_append_26 rfl (lv_at hl 0 rfl) ?_
  refine lv_ishr hx hb dX9_append_27 ?_
  refine lv_topi (fun x_7 ex_7 => ?_)
  obtain ⟨x_8, ex_8⟩ : ∃ z : Int32, (x_7 : Int32).toInt8.toInt32 = z := ⟨_, rfl⟩
  refine lv_i2b (v := x_8) hx hb dX9_append_28 ex_8 ?_
  refine va_bast hx hb hX.1 hP hD hS 1 1 rfl rfl (by unfold vp_in; decide +kernel) dX9_append_29 (fun H locs hP hD hS => ?_)
  refine lv_aload_n hx hb dX9_append_30 rfl (lv_at hl 1 rfl) ?_
  refine lv_dup hx hb dX9_append_31 rfl ?_
  refine va_get (D := G) (ci := 6) (v := .int 15) (C := RX9) (T := TX9) (N := 11) (ref := RX9) hx hb hts h1w hown hX.1 hP 0 rfl rfl 1 (by decide) h0w (fun _ h9 => h9) rfl dX9_append_32 ?_
  refine lv_iconst (v := 1) hx hb dX9_append_35 (by decide +kernel) ?_
  refine lv_iadd hx hb dX9_append_36 ?_
  refine cz_ti (w := 16) (by decide +kernel) ?_
  refine va_put (D := G) (ci := 6) (v := .int 16) (ty := .int) (C := RX9) (T := TX9) (N := 11) (ref := RX9) hx hb hts h1w tyX9 tyX9_ok nmX9 hown hX.1 hP hD hS 0 rfl rfl 1 (by decide) h0w (fun _ h9 => h9) rfl (by decide +kernel) rfl rfl (Nat.le_of_ble_eq_true rfl) dX9_append_37 (fun H locs hP hD hS => ?_)
  refine lv_iinc (v := (-8)) (lv' := [(2, .int (-8)), (0, .ref p0), (1, .int i1)]) hx hb dX9_append_40 hl (k := 0) rfl (by decide +kernel) (by decide) rfl (fun ls hl => ?_)
  refine lv_goto (tgt := 3) hx hb dX9_append_43 (by decide) ?_
  refine lv_iload_n hx hb dX9_append_3 rfl (lv_at hl 0 rfl) ?_
  refine lv_if_lt (tgt := 46) hx hb dX9_append_4 (by decide) (fun _ => ?_) (fun q => absurd (by decide +kernel) (q))
  have hP9 := hP.sub (ws' := [(p0, .inr (6, [.ref p2, .int 16, v3, v4, v5, v6, v7, v8, v9, v10, v11])), (p2, .inl (k 1, 600, .inl (upd (upd (upd (upd f12 (12 : Int32).toNatClampNeg (vp_nar .byte x_2)) (13 : Int32).toNatClampNeg (vp_nar .byte x_4)) (14 : Int32).toNatClampNeg (vp_nar .byte x_6)) (15 : Int32).toNatClampNeg (vp_nar .byte x_8))))]) [0, 1] rfl
  have hD9 := hD.sub (ws' := [(p0, .inr (6, [.ref p2, .int 16, v3, v4, v5, v6, v7, v8, v9, v10, v11])), (p2, .inl (k 1, 600, .inl (upd (upd (upd (upd f12 (12 : Int32).toNatClampNeg (vp_nar .byte x_2)) (13 : Int32).toNatClampNeg (vp_nar .byte x_4)) (14 : Int32).toNatClampNeg (vp_nar .byte x_6)) (15 : Int32).toNatClampNeg (vp_nar .byte x_8))))]) [0, 1] (by decide) rfl
  exact W.vret hx hb hr (fun t ht hW => ⟨⟨((upd (upd (upd (upd f12 (12 : Int32).toNatClampNeg (vp_nar .byte x_2)) (13 : Int32).toNatClampNeg (vp_nar .byte x_4)) (14 : Int32).toNatClampNeg (vp_nar .byte x_6)) (15 : Int32).toNatClampNeg (vp_nar .byte x_8))), rfl, trivial, by rw [ht]; exact hP9, hD9⟩, hS.F ht⟩) hS.2.2 dX9_append_46

