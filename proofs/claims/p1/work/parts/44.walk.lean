set_option maxHeartbeats 4000000 in
set_option maxRecDepth 100000 in
theorem cX7_move_1 (l : Launch) (G : va_G) (k : Nat → ClassId) (sz : Nat) : CMi l G k yX7_move wsX7_move ({ frames := 0, cells := 0, slots := 0, locals := 0 }) [.int 268435455, .int 1] sz [] (fun r (u : Unit) => r = 536870911) (fun (u : Unit) => []) := by
  refine Met.ofW (cc := cX7_move) (maxL := 2) (ret := (some .int)) (by decide) rfl ?_
  intro p e s m args below meth c s₁ B hml hv
  obtain ⟨rfl, hsz, hP, hX, hD0, hZ0⟩ := hv
  have hx := B.exec
  have hb := B.bytes
  have hr := B.returns
  have hts := atoms_spec (ws := wsX7_move) B.pre
  have hown : s.vm.findClass RX7 = some m.cls := findClass_of_methodNamed B.named
  subst hsz
  have hD := hD0.self (sz := s.heap.size)
  have hZ := ZX.up hP hZ0
  generalize hAe : va_A [] s.heap.size = A at hD hZ ⊢
  have hA : ∀ q : Nat, s.heap.size ≤ q → A q := fun q h => by rw [← hAe]; exact Or.inr h
  have hS : va_S A s.heap s.heap [] := va_S.rf
  have hP : va_P G vwCl [] s.heap := hP
  have hl := lv_entry ([.int 268435455, .int 1]) (n := 2) (Nat.le_of_ble_eq_true rfl)
  rw [lg_entry_eq]
  generalize (lg_sl ([.int 268435455, .int 1]) ++ List.replicate (2 - (lg_sl ([.int 268435455, .int 1])).length) Slot.unset).toArray = ls at hl ⊢
  have hl : lv_has ls 2 [(0, .int 268435455), (1, .int 1)] := hl
  have h0w := hts (.constant RX7 11 (268435455)) (by decide +kernel)
  refine lv_iload_n hx hb dX7_move_0 rfl (lv_at hl 0 rfl) ?_
  refine lv_ldc (v := 268435455) hx hb hown h0w dX7_move_1 ?_
  refine lv_iand hx hb dX7_move_3 ?_
  refine cz_ti (w := 268435455) (by decide +kernel) ?_
  refine lv_iload_n hx hb dX7_move_4 rfl (lv_at hl 1 rfl) ?_
  refine lv_bipush (v := 28) hx hb dX7_move_5 (by decide +kernel) ?_
  refine lv_ishl hx hb dX7_move_7 ?_
  refine cz_ti (w := 268435456) (by decide +kernel) ?_
  refine lv_ior hx hb dX7_move_8 ?_
  refine cz_ti (w := 536870911) (by decide +kernel) ?_
  have hP9 := hP.sub (ws' := []) [] rfl
  have hD9 := hD.sub (ws' := []) [] (by decide) rfl
  exact W.iret (v := 536870911) hx hb hr (fun t ht hW => ⟨⟨536870911, (), rfl, rfl, by rw [ht]; exact hP9, hD9⟩, hS.F ht⟩) hS.2.2 dX7_move_9

set_option maxHeartbeats 4000000 in
set_option maxRecDepth 100000 in
theorem cX1_note_0 (l : Launch) (G : va_G) (k : Nat → ClassId) (p0 : Nat) (v1 : Value) (p2 : Nat) (p3 : Nat) (p4 : Nat) (p5 : Nat) (p6 : Nat) (v7 : Value) (v8 : Value) (f9 : Nat → Int32) (f10 : Nat → Int32) (f11 : Nat → Int32) (f12 : Nat → Int32) (f13 : Nat → Int32) (sz : Nat) : CMv l G k yX1_note wsX1_note ({ frames := 0, cells := 0, slots := 0, locals := 0 }) [.ref p0, .int 2, .int 1, .int 2, .int 1, .int 536870911] sz [(p0, .inr (0, [.int 268435455, .int 0, .int 0, .int 0, v1, .ref p2, .ref p3, .ref p4, .ref p5, .ref p6, v7, v8])), (p2, .inl (k 0, 60, .inl f9)), (p3, .inl (k 0, 60, .inl f10)), (p4, .inl (k 0, 60, .inl f11)), (p5, .inl (k 0, 60, .inl f12)), (p6, .inl (k 0, 60, .inl f13))] (fun (u : Unit) => True) (fun (u : Unit) => [(p0, .inr (0, [.int 536870911, .int 1, .int 1, .int 1, v1, .ref p2, .ref p3, .ref p4, .ref p5, .ref p6, v7, v8])), (p2, .inl (k 0, 60, .inl (upd f9 (0 : Int32).toNatClampNeg 2))), (p3, .inl (k 0, 60, .inl (upd f10 (0 : Int32).toNatClampNeg 1))), (p4, .inl (k 0, 60, .inl (upd f11 (0 : Int32).toNatClampNeg 2))), (p5, .inl (k 0, 60, .inl (upd f12 (0 : Int32).toNatClampNeg 268435455))), (p6, .inl (k 0, 60, .inl (upd f13 (0 : Int32).toNatClampNeg 1)))]) := by
  refine Met.ofW (cc := cX1_note) (maxL := 6) (ret := none) (by decide) rfl ?_
  intro p e s m args below meth c s₁ B hml hv
  obtain ⟨rfl, hsz, hP, hX, hD0, hZ0⟩ := hv
  have hx := B.exec
  have hb := B.bytes
  have hr := B.returns
  have hts := atoms_spec (ws := wsX1_note) B.pre
  have hown : s.vm.findClass RX1 = some m.cls := findClass_of_methodNamed B.named
  subst hsz
  have hD := hD0.self (sz := s.heap.size)
  have hZ := ZX.up hP hZ0
  generalize hAe : va_A [(p0, .inr (0, [.int 268435455, .int 0, .int 0, .int 0, v1, .ref p2, .ref p3, .ref p4, .ref p5, .ref p6, v7, v8])), (p2, .inl (k 0, 60, .inl f9)), (p3, .inl (k 0, 60, .inl f10)), (p4, .inl (k 0, 60, .inl f11)), (p5, .inl (k 0, 60, .inl f12)), (p6, .inl (k 0, 60, .inl f13))] s.heap.size = A at hD hZ ⊢
  have hA : ∀ q : Nat, s.heap.size ≤ q → A q := fun q h => by rw [← hAe]; exact Or.inr h
  have hS : va_S A s.heap s.heap [] := va_S.rf
  have hP : va_P G vwCl [(p0, .inr (0, [.int 268435455, .int 0, .int 0, .int 0, v1, .ref p2, .ref p3, .ref p4, .ref p5, .ref p6, v7, v8])), (p2, .inl (k 0, 60, .inl f9)), (p3, .inl (k 0, 60, .inl f10)), (p4, .inl (k 0, 60, .inl f11)), (p5, .inl (k 0, 60, .inl f12)), (p6, .inl (k 0, 60, .inl f13))] s.heap := hP
  have hl := lv_entry ([.ref p0, .int 2, .int 1, .int 2, .int 1, .int 536870911]) (n := 6) (Nat.le_of_ble_eq_true rfl)
  rw [lg_entry_eq]
  generalize (lg_sl ([.ref p0, .int 2, .int 1, .int 2, .int 1, .int 536870911]) ++ List.replicate (6 - (lg_sl ([.ref p0, .int 2, .int 1, .int 2, .int 1, .int 536870911])).length) Slot.unset).toArray = ls at hl ⊢
  have hl : lv_has ls 6 [(0, .ref p0), (1, .int 2), (2, .int 1), (3, .int 2), (4, .int 1), (5, .int 536870911)] := hl
  have h0w := hts (.fieldLink RX1 37 "RopeTown$Book" "moves" "I") (by decide +kernel)
  have h1w : ∀ w ∈ wsX10, w ∈ wsX1_note := by decide +kernel
  have h2w := hts (.fieldLink RX1 9 "RopeTown$Book" "which" "[I") (by decide +kernel)
  have h3w := hts (.fieldLink RX1 15 "RopeTown$Book" "target" "[I") (by decide +kernel)
  have h4w := hts (.fieldLink RX1 18 "RopeTown$Book" "manner" "[I") (by decide +kernel)
  have h5w := hts (.fieldLink RX1 21 "RopeTown$Book" "before" "[I") (by decide +kernel)
  have h6w := hts (.fieldLink RX1 33 "RopeTown$Book" "state" "I") (by decide +kernel)
  have h7w := hts (.fieldLink RX1 24 "RopeTown$Book" "wound" "[I") (by decide +kernel)
  have h8w := hts (.fieldLink RX1 40 "RopeTown$Book" "rides" "I") (by decide +kernel)
  have h9w := hts (.fieldLink RX1 43 "RopeTown$Book" "cost" "I") (by decide +kernel)
  refine lv_aload_n hx hb dX1_note_0 rfl (lv_at hl 0 rfl) ?_
  refine va_get (D := G) (ci := 0) (v := .int 0) (C := RX1) (T := TX1) (N := 12) (ref := RX1) hx hb hts h1w hown hX.1 hP 0 rfl rfl 1 (by decide) h0w (fun _ h9 => h9) rfl dX1_note_1 ?_
  refine lv_bipush (v := 60) hx hb dX1_note_4 (by decide +kernel) ?_
  refine lv_icmp_lt (tgt := 10) hx hb dX1_note_6 (by decide) (fun _ => ?_) (fun q => absurd (by decide +kernel) (q))
  refine lv_aload_n hx hb dX1_note_10 rfl (lv_at hl 0 rfl) ?_
  refine va_get (D := G) (ci := 0) (v := .ref p2) (C := RX1) (T := TX1) (N := 12) (ref := RX1) hx hb hts h1w hown hX.1 hP 0 rfl rfl 5 (by decide) h2w (fun _ h9 => h9) rfl dX1_note_11 ?_
  refine lv_aload_n hx hb dX1_note_14 rfl (lv_at hl 0 rfl) ?_
  refine va_get (D := G) (ci := 0) (v := .int 0) (C := RX1) (T := TX1) (N := 12) (ref := RX1) hx hb hts h1w hown hX.1 hP 0 rfl rfl 1 (by decide) h0w (fun _ h9 => h9) rfl dX1_note_15 ?_
  refine lv_iload_n hx hb dX1_note_18 rfl (lv_at hl 1 rfl) ?_
  refine va_iast hx hb hX.1 hP hD hS 1 0 rfl rfl (by unfold vp_in; decide +kernel) dX1_note_19 (fun H locs hP hD hS => ?_)
  refine lv_aload_n hx hb dX1_note_20 rfl (lv_at hl 0 rfl) ?_
  refine va_get (D := G) (ci := 0) (v := .ref p3) (C := RX1) (T := TX1) (N := 12) (ref := RX1) hx hb hts h1w hown hX.1 hP 0 rfl rfl 6 (by decide) h3w (fun _ h9 => h9) rfl dX1_note_21 ?_
  refine lv_aload_n hx hb dX1_note_24 rfl (lv_at hl 0 rfl) ?_
  refine va_get (D := G) (ci := 0) (v := .int 0) (C := RX1) (T := TX1) (N := 12) (ref := RX1) hx hb hts h1w hown hX.1 hP 0 rfl rfl 1 (by decide) h0w (fun _ h9 => h9) rfl dX1_note_25 ?_
  refine lv_iload_n hx hb dX1_note_28 rfl (lv_at hl 2 rfl) ?_
  refine va_iast hx hb hX.1 hP hD hS 2 0 rfl rfl (by unfold vp_in; decide +kernel) dX1_note_29 (fun H locs hP hD hS => ?_)
  refine lv_aload_n hx hb dX1_note_30 rfl (lv_at hl 0 rfl) ?_
  refine va_get (D := G) (ci := 0) (v := .ref p4) (C := RX1) (T := TX1) (N := 12) (ref := RX1) hx hb hts h1w hown hX.1 hP 0 rfl rfl 7 (by decide) h4w (fun _ h9 => h9) rfl dX1_note_31 ?_
  refine lv_aload_n hx hb dX1_note_34 rfl (lv_at hl 0 rfl) ?_
  refine va_get (D := G) (ci := 0) (v := .int 0) (C := RX1) (T := TX1) (N := 12) (ref := RX1) hx hb hts h1w hown hX.1 hP 0 rfl rfl 1 (by decide) h0w (fun _ h9 => h9) rfl dX1_note_35 ?_
  refine lv_iload_n hx hb dX1_note_38 rfl (lv_at hl 3 rfl) ?_
  refine va_iast hx hb hX.1 hP hD hS 3 0 rfl rfl (by unfold vp_in; decide +kernel) dX1_note_39 (fun H locs hP hD hS => ?_)
  refine lv_aload_n hx hb dX1_note_40 rfl (lv_at hl 0 rfl) ?_
  refine va_get (D := G) (ci := 0) (v := .ref p5) (C := RX1) (T := TX1) (N := 12) (ref := RX1) hx hb hts h1w hown hX.1 hP 0 rfl rfl 8 (by decide) h5w (fun _ h9 => h9) rfl dX1_note_41 ?_
  refine lv_aload_n hx hb dX1_note_44 rfl (lv_at hl 0 rfl) ?_
  refine va_get (D := G) (ci := 0) (v := .int 0) (C := RX1) (T := TX1) (N := 12) (ref := RX1) hx hb hts h1w hown hX.1 hP 0 rfl rfl 1 (by decide) h0w (fun _ h9 => h9) rfl dX1_note_45 ?_
  refine lv_aload_n hx hb dX1_note_48 rfl (lv_at hl 0 rfl) ?_
  refine va_get (D := G) (ci := 0) (v := .int 268435455) (C := RX1) (T := TX1) (N := 12) (ref := RX1) hx hb hts h1w hown hX.1 hP 0 rfl rfl 0 (by decide) h6w (fun _ h9 => h9) rfl dX1_note_49 ?_
  refine va_iast hx hb hX.1 hP hD hS 4 0 rfl rfl (by unfold vp_in; decide +kernel) dX1_note_52 (fun H locs hP hD hS => ?_)
  refine lv_aload_n hx hb dX1_note_53 rfl (lv_at hl 0 rfl) ?_
  refine va_get (D := G) (ci := 0) (v := .ref p6) (C := RX1) (T := TX1) (N := 12) (ref := RX1) hx hb hts h1w hown hX.1 hP 0 rfl rfl 9 (by decide) h7w (fun _ h9 => h9) rfl dX1_note_54 ?_
  refine lv_aload_n hx hb dX1_note_57 rfl (lv_at hl 0 rfl) ?_
  refine va_get (D := G) (ci := 0) (v := .int 0) (C := RX1) (T := TX1) (N := 12) (ref := RX1) hx hb hts h1w hown hX.1 hP 0 rfl rfl 1 (by decide) h0w (fun _ h9 => h9) rfl dX1_note_58 ?_
  refine lv_iload hx hb dX1_note_61 (lv_at hl 4 rfl) ?_
  refine va_iast hx hb hX.1 hP hD hS 5 0 rfl rfl (by unfold vp_in; decide +kernel) dX1_note_63 (fun H locs hP hD hS => ?_)
  refine lv_aload_n hx hb dX1_note_64 rfl (lv_at hl 0 rfl) ?_
  refine lv_dup hx hb dX1_note_65 rfl ?_
  refine va_get (D := G) (ci := 0) (v := .int 0) (C := RX1) (T := TX1) (N := 12) (ref := RX1) hx hb hts h1w hown hX.1 hP 0 rfl rfl 1 (by decide) h0w (fun _ h9 => h9) rfl dX1_note_66 ?_
  refine lv_iconst (v := 1) hx hb dX1_note_69 (by decide +kernel) ?_
  refine lv_iadd hx hb dX1_note_70 ?_
  refine cz_ti (w := 1) (by decide +kernel) ?_
  refine va_put (D := G) (ci := 0) (v := .int 1) (ty := .int) (C := RX1) (T := TX1) (N := 12) (ref := RX1) hx hb hts h1w tyX1 tyX1_ok nmX1 hown hX.1 hP hD hS 0 rfl rfl 1 (by decide) h0w (fun _ h9 => h9) rfl (by decide +kernel) rfl rfl (Nat.le_of_ble_eq_true rfl) dX1_note_71 (fun H locs hP hD hS => ?_)
  obtain ⟨hP, hD⟩ : va_P G vwCl [(p0, .inr (0, [.int 268435455, .int 1, .int 0, .int 0, v1, .ref p2, .ref p3, .ref p4, .ref p5, .ref p6, v7, v8])), (p2, .inl (k 0, 60, .inl (upd f9 (0 : Int32).toNatClampNeg 2))), (p3, .inl (k 0, 60, .inl (upd f10 (0 : Int32).toNatClampNeg 1))), (p4, .inl (k 0, 60, .inl (upd f11 (0 : Int32).toNatClampNeg 2))), (p5, .inl (k 0, 60, .inl (upd f12 (0 : Int32).toNatClampNeg 268435455))), (p6, .inl (k 0, 60, .inl (upd f13 (0 : Int32).toNatClampNeg 1)))] H ∧ va_D A [(p0, .inr (0, [.int 268435455, .int 1, .int 0, .int 0, v1, .ref p2, .ref p3, .ref p4, .ref p5, .ref p6, v7, v8])), (p2, .inl (k 0, 60, .inl (upd f9 (0 : Int32).toNatClampNeg 2))), (p3, .inl (k 0, 60, .inl (upd f10 (0 : Int32).toNatClampNeg 1))), (p4, .inl (k 0, 60, .inl (upd f11 (0 : Int32).toNatClampNeg 2))), (p5, .inl (k 0, 60, .inl (upd f12 (0 : Int32).toNatClampNeg 268435455))), (p6, .inl (k 0, 60, .inl (upd f13 (0 : Int32).toNatClampNeg 1)))] := ⟨hP, hD⟩
  refine lv_aload_n hx hb dX1_note_74 rfl (lv_at hl 0 rfl) ?_
  refine lv_dup hx hb dX1_note_75 rfl ?_
  refine va_get (D := G) (ci := 0) (v := .int 0) (C := RX1) (T := TX1) (N := 12) (ref := RX1) hx hb hts h1w hown hX.1 hP 0 rfl rfl 2 (by decide) h8w (fun _ h9 => h9) rfl dX1_note_76 ?_
  refine lv_iload_n hx hb dX1_note_79 rfl (lv_at hl 1 rfl) ?_
  refine lv_iconst (v := 2) hx hb dX1_note_80 (by decide +kernel) ?_
  refine lv_icmp_ne (tgt := 88) hx hb dX1_note_81 (by decide) (fun q => absurd (by decide +kernel) (q)) (fun _ => ?_)
  refine lv_iconst (v := 1) hx hb dX1_note_84 (by decide +kernel) ?_
  refine lv_goto (tgt := 89) hx hb dX1_note_85 (by decide) ?_
  refine lv_iadd hx hb dX1_note_89 ?_
  refine cz_ti (w := 1) (by decide +kernel) ?_
  refine va_put (D := G) (ci := 0) (v := .int 1) (ty := .int) (C := RX1) (T := TX1) (N := 12) (ref := RX1) hx hb hts h1w tyX1 tyX1_ok nmX1 hown hX.1 hP hD hS 0 rfl rfl 2 (by decide) h8w (fun _ h9 => h9) rfl (by decide +kernel) rfl rfl (Nat.le_of_ble_eq_true rfl) dX1_note_90 (fun H locs hP hD hS => ?_)
  refine lv_aload_n hx hb dX1_note_93 rfl (lv_at hl 0 rfl) ?_
  refine lv_dup hx hb dX1_note_94 rfl ?_
  refine va_get (D := G) (ci := 0) (v := .int 0) (C := RX1) (T := TX1) (N := 12) (ref := RX1) hx hb hts h1w hown hX.1 hP 0 rfl rfl 3 (by decide) h9w (fun _ h9 => h9) rfl dX1_note_95 ?_
  refine lv_iload hx hb dX1_note_98 (lv_at hl 4 rfl) ?_
  refine lv_iadd hx hb dX1_note_100 ?_
  refine cz_ti (w := 1) (by decide +kernel) ?_
  refine va_put (D := G) (ci := 0) (v := .int 1) (ty := .int) (C := RX1) (T := TX1) (N := 12) (ref := RX1) hx hb hts h1w tyX1 tyX1_ok nmX1 hown hX.1 hP hD hS 0 rfl rfl 3 (by decide) h9w (fun _ h9 => h9) rfl (by decide +kernel) rfl rfl (Nat.le_of_ble_eq_true rfl) dX1_note_101 (fun H locs hP hD hS => ?_)
  refine lv_aload_n hx hb dX1_note_104 rfl (lv_at hl 0 rfl) ?_
  refine lv_iload hx hb dX1_note_105 (lv_at hl 5 rfl) ?_
  refine va_put (D := G) (ci := 0) (v := .int 536870911) (ty := .int) (C := RX1) (T := TX1) (N := 12) (ref := RX1) hx hb hts h1w tyX1 tyX1_ok nmX1 hown hX.1 hP hD hS 0 rfl rfl 0 (by decide) h6w (fun _ h9 => h9) rfl (by decide +kernel) rfl rfl (Nat.le_of_ble_eq_true rfl) dX1_note_107 (fun H locs hP hD hS => ?_)
  have hP9 := hP.sub (ws' := [(p0, .inr (0, [.int 536870911, .int 1, .int 1, .int 1, v1, .ref p2, .ref p3, .ref p4, .ref p5, .ref p6, v7, v8])), (p2, .inl (k 0, 60, .inl (upd f9 (0 : Int32).toNatClampNeg 2))), (p3, .inl (k 0, 60, .inl (upd f10 (0 : Int32).toNatClampNeg 1))), (p4, .inl (k 0, 60, .inl (upd f11 (0 : Int32).toNatClampNeg 2))), (p5, .inl (k 0, 60, .inl (upd f12 (0 : Int32).toNatClampNeg 268435455))), (p6, .inl (k 0, 60, .inl (upd f13 (0 : Int32).toNatClampNeg 1)))]) [0, 1, 2, 3, 4, 5] rfl
  have hD9 := hD.sub (ws' := [(p0, .inr (0, [.int 536870911, .int 1, .int 1, .int 1, v1, .ref p2, .ref p3, .ref p4, .ref p5, .ref p6, v7, v8])), (p2, .inl (k 0, 60, .inl (upd f9 (0 : Int32).toNatClampNeg 2))), (p3, .inl (k 0, 60, .inl (upd f10 (0 : Int32).toNatClampNeg 1))), (p4, .inl (k 0, 60, .inl (upd f11 (0 : Int32).toNatClampNeg 2))), (p5, .inl (k 0, 60, .inl (upd f12 (0 : Int32).toNatClampNeg 268435455))), (p6, .inl (k 0, 60, .inl (upd f13 (0 : Int32).toNatClampNeg 1)))]) [0, 1, 2, 3, 4, 5] (by decide) rfl
  exact W.vret hx hb hr (fun t ht hW => ⟨⟨(), rfl, trivial, by rw [ht]; exact hP9, hD9⟩, hS.F ht⟩) hS.2.2 dX1_note_110

set_option maxHeartbeats 4000000 in
set_option maxRecDepth 100000 in
theorem cX9_ride_10 (l : Launch) (G : va_G) (k : Nat → ClassId) (p0 : Nat) (v1 : Value) (v2 : Value) (v3 : Value) (v4 : Value) (p5 : Nat) (v6 : Value) (p7 : Nat) (v8 : Value) (v9 : Value) (v10 : Value) (v11 : Value) (v12 : Value) (p13 : Nat) (p14 : Nat) (p15 : Nat) (p16 : Nat) (p17 : Nat) (v18 : Value) (v19 : Value) (v20 : Value) (v21 : Value) (v22 : Value) (v23 : Value) (v24 : Value) (v25 : Value) (v26 : Value) (p27 : Nat) (v28 : Value) (v29 : Value) (v30 : Value) (v31 : Value) (v32 : Value) (f33 : Nat → Int32) (f34 : Nat → Int32) (f35 : Nat → Int32) (f36 : Nat → Int32) (f37 : Nat → Int32) (sz : Nat) : CMi l G k yX9_ride wsX9_ride ({ frames := 2, cells := 0, slots := 0, locals := 50 }) [.ref p0, .int 1, .int 2] sz [(p0, .inr (6, [v1, v2, v3, v4, .ref p5, v6, .ref p7, v8, v9, v10, v11])), (p7, .inr (0, [.int 268435455, .int 0, .int 0, .int 0, v12, .ref p13, .ref p14, .ref p15, .ref p16, .ref p17, v18, v19])), (p5, .inr (2, [.int 1, v20, .int 99, .int 0, .int 1, v21, v22, .int 0, v23, v24, v25, v26, .ref p27, v28])), (p27, .inr (4, [v29, v30, v31, v32, .int 0])), (p13, .inl (k 0, 60, .inl f33)), (p14, .inl (k 0, 60, .inl f34)), (p15, .inl (k 0, 60, .inl f35)), (p16, .inl (k 0, 60, .inl f36)), (p17, .inl (k 0, 60, .inl f37))] (fun r (u : Unit) => r = 0) (fun (u : Unit) => [(p27, .inr (4, [v29, v30, v31, v32, .int 0])), (p0, .inr (6, [v1, v2, v3, v4, .ref p5, v6, .ref p7, v8, v9, v10, v11])), (p5, .inr (2, [.int 1, v20, .int 99, .int 0, .int 1, v21, v22, .int 0, v23, v24, v25, v26, .ref p27, v28])), (p7, .inr (0, [.int 536870911, .int 1, .int 1, .int 1, v12, .ref p13, .ref p14, .ref p15, .ref p16, .ref p17, v18, v19])), (p13, .inl (k 0, 60, .inl (upd f33 (0 : Int32).toNatClampNeg 2))), (p14, .inl (k 0, 60, .inl (upd f34 (0 : Int32).toNatClampNeg 1))), (p15, .inl (k 0, 60, .inl (upd f35 (0 : Int32).toNatClampNeg 2))), (p16, .inl (k 0, 60, .inl (upd f36 (0 : Int32).toNatClampNeg 268435455))), (p17, .inl (k 0, 60, .inl (upd f37 (0 : Int32).toNatClampNeg 1)))]) := by
  refine Met.ofW (cc := cX9_ride) (maxL := 5) (ret := (some .int)) (by decide) rfl ?_
  intro p e s m args below meth c s₁ B hml hv
  obtain ⟨rfl, hsz, hP, hX, hD0, hZ0⟩ := hv
  have hx := B.exec
  have hb := B.bytes
  have hr := B.returns
  have hts := atoms_spec (ws := wsX9_ride) B.pre
  have hown : s.vm.findClass RX9 = some m.cls := findClass_of_methodNamed B.named
  subst hsz
  have hD := hD0.self (sz := s.heap.size)
  have hZ := ZX.up hP hZ0
  generalize hAe : va_A [(p0, .inr (6, [v1, v2, v3, v4, .ref p5, v6, .ref p7, v8, v9, v10, v11])), (p7, .inr (0, [.int 268435455, .int 0, .int 0, .int 0, v12, .ref p13, .ref p14, .ref p15, .ref p16, .ref p17, v18, v19])), (p5, .inr (2, [.int 1, v20, .int 99, .int 0, .int 1, v21, v22, .int 0, v23, v24, v25, v26, .ref p27, v28])), (p27, .inr (4, [v29, v30, v31, v32, .int 0])), (p13, .inl (k 0, 60, .inl f33)), (p14, .inl (k 0, 60, .inl f34)), (p15, .inl (k 0, 60, .inl f35)), (p16, .inl (k 0, 60, .inl f36)), (p17, .inl (k 0, 60, .inl f37))] s.heap.size = A at hD hZ ⊢
  have hA : ∀ q : Nat, s.heap.size ≤ q → A q := fun q h => by rw [← hAe]; exact Or.inr h
  have hS : va_S A s.heap s.heap [] := va_S.rf
  have hP : va_P G vwCl [(p0, .inr (6, [v1, v2, v3, v4, .ref p5, v6, .ref p7, v8, v9, v10, v11])), (p7, .inr (0, [.int 268435455, .int 0, .int 0, .int 0, v12, .ref p13, .ref p14, .ref p15, .ref p16, .ref p17, v18, v19])), (p5, .inr (2, [.int 1, v20, .int 99, .int 0, .int 1, v21, v22, .int 0, v23, v24, v25, v26, .ref p27, v28])), (p27, .inr (4, [v29, v30, v31, v32, .int 0])), (p13, .inl (k 0, 60, .inl f33)), (p14, .inl (k 0, 60, .inl f34)), (p15, .inl (k 0, 60, .inl f35)), (p16, .inl (k 0, 60, .inl f36)), (p17, .inl (k 0, 60, .inl f37))] s.heap := hP
  have hl := lv_entry ([.ref p0, .int 1, .int 2]) (n := 5) (Nat.le_of_ble_eq_true rfl)
  rw [lg_entry_eq]
  generalize (lg_sl ([.ref p0, .int 1, .int 2]) ++ List.replicate (5 - (lg_sl ([.ref p0, .int 1, .int 2])).length) Slot.unset).toArray = ls at hl ⊢
  have hl : lv_has ls 5 [(0, .ref p0), (1, .int 1), (2, .int 2)] := hl
  have h0w := hts (.fieldLink RX9 23 "RopeTown" "plan" "LRopeTown$Plan;") (by decide +kernel)
  have h1w : ∀ w ∈ wsX90, w ∈ wsX9_ride := by decide +kernel
  have h2w := hts (.fieldLink RX9 42 "RopeTown" "book" "LRopeTown$Book;") (by decide +kernel)
  have h3w : ∀ w ∈ wsX10, w ∈ wsX9_ride := by decide +kernel
  have h4w := hts (.initialized RX3) (by decide +kernel)
  have h5w := hts (.instanceMethod yX3_rideTrouble) (by decide +kernel)
  have h6w := hts (.selects RX3 yX3_rideTrouble yX3_rideTrouble) (by decide +kernel)
  have h7w := hts (.instanceMethod yX3_windingTo) (by decide +kernel)
  have h8w := hts (.selects RX3 yX3_windingTo yX3_windingTo) (by decide +kernel)
  have h9w := hts (.initialized RX7) (by decide +kernel)
  have h10w := hts (.static yX7_move) (by decide +kernel)
  have h11w := hts (.initialized RX1) (by decide +kernel)
  have h12w := hts (.instanceMethod yX1_note) (by decide +kernel)
  have h13w := hts (.selects RX1 yX1_note yX1_note) (by decide +kernel)
  refine lv_aload_n hx hb dX9_ride_0 rfl (lv_at hl 0 rfl) ?_
  refine lv_aload_n hx hb dX9_ride_1 rfl (lv_at hl 0 rfl) ?_
  refine va_get (D := G) (ci := 6) (v := .ref p5) (C := RX9) (T := TX9) (N := 11) (ref := RX9) hx hb hts h1w hown hX.1 hP 0 rfl rfl 4 (by decide) h0w (fun _ h9 => h9) rfl dX9_ride_2 ?_
  refine lv_aload_n hx hb dX9_ride_5 rfl (lv_at hl 0 rfl) ?_
  refine va_get (D := G) (ci := 6) (v := .ref p7) (C := RX9) (T := TX9) (N := 11) (ref := RX9) hx hb hts h1w hown hX.1 hP 0 rfl rfl 6 (by decide) h2w (fun _ h9 => h9) rfl dX9_ride_6 ?_
  refine va_getN (D := G) (ci := 0) (v := .int 268435455) (C := RX1) (T := TX1) (N := 12) (ref := RX1) (host := RX9) hx hb hts h3w hown hX.1 hP 1 rfl rfl 0 (by decide) (nf_37 hX.2.2.1) (fun _ h9 => h9) rfl dX9_ride_9 ?_
  refine lv_iload_n hx hb dX9_ride_12 rfl (lv_at hl 1 rfl) ?_
  refine lv_iload_n hx hb dX9_ride_13 rfl (lv_at hl 2 rfl) ?_
  refine cz_i (wr := [(p0, .inr (6, [v1, v2, v3, v4, .ref p5, v6, .ref p7, v8, v9, v10, v11])), (p7, .inr (0, [.int 268435455, .int 0, .int 0, .int 0, v12, .ref p13, .ref p14, .ref p15, .ref p16, .ref p17, v18, v19])), (p13, .inl (k 0, 60, .inl f33)), (p14, .inl (k 0, 60, .inl f34)), (p15, .inl (k 0, 60, .inl f35)), (p16, .inl (k 0, 60, .inl f36)), (p17, .inl (k 0, 60, .inl f37))]) (va_runVN (As := [.int 268435455, .int 1, .int 2]) (rest := [.ref p0]) ⟨hx, hb, hml, hown, hts⟩ (cX3_rideTrouble_10 l G k p5 v20 (.int 0) (.int 1) v21 v22 v23 v24 v25 v26 p27 v28 v29 v30 v31 v32 s.heap.size) ⟨va_cnB 3 hts gX9_ride_X3_rideTrouble_n213 rfl rfl rfl (nm_19 hX.2.2.1) h4w (by decide +kernel) ⟨Nat.le_of_ble_eq_true rfl, Nat.le_of_ble_eq_true rfl⟩, h5w, h6w⟩ (cz_preV hZ hS hX hP hD [2, 3] rfl rfl (ci := 2) (q0 := 2) rfl rfl) rfl rfl hl.1 rfl (lv_room (Nat.le_of_ble_eq_true rfl)) dX9_ride_14 ⟨Nat.le_of_ble_eq_true rfl, Nat.le_of_ble_eq_true rfl⟩) hP hD hS hA [2, 3] [0, 1, 4, 5, 6, 7, 8] rfl rfl (by decide) (by decide) (fun r u H locs hp hP hD hS => ?_)
  have hp : r = 0 := hp
  subst hp
  refine cz_i (wr := [(p13, .inl (k 0, 60, .inl f33)), (p14, .inl (k 0, 60, .inl f34)), (p15, .inl (k 0, 60, .inl f35)), (p16, .inl (k 0, 60, .inl f36)), (p17, .inl (k 0, 60, .inl f37)), (p5, .inr (2, [.int 1, v20, .int 99, .int 0, .int 1, v21, v22, .int 0, v23, v24, v25, v26, .ref p27, v28])), (p27, .inr (4, [v29, v30, v31, v32, .int 0]))]) (va_runV (As := [.int 0]) (rest := []) ⟨hx, hb, hml, hown, hts⟩ (cX9_judged_3 l G k p0 v1 v2 v3 v4 (.ref p5) v6 p7 v8 v9 v10 v11 (.int 268435455) (.int 0) (.int 0) v12 (.ref p13) (.ref p14) (.ref p15) (.ref p16) (.ref p17) v18 v19 H.size) (cwV 1 hts gX9_ride_X9_judged rfl rfl rfl (by decide +kernel) ⟨Nat.le_of_ble_eq_true rfl, Nat.le_of_ble_eq_true rfl⟩) (cz_preV hZ hS hX hP hD [0, 1] rfl rfl (ci := 6) (q0 := 0) rfl rfl) rfl rfl hl.1 rfl (lv_room (Nat.le_of_ble_eq_true rfl)) dX9_ride_17 ⟨Nat.le_of_ble_eq_true rfl, Nat.le_of_ble_eq_true rfl⟩) hP hD hS hA [0, 1] [2, 3, 4, 5, 6, 7, 8] rfl rfl (by decide) (by decide) (fun r u H locs hp hP hD hS => ?_)
  have hp : r = 0 := hp
  subst hp
  refine lv_istore_n (lv' := [(3, .int 0), (0, .ref p0), (1, .int 1), (2, .int 2)]) hx hb dX9_ride_20 rfl hl (by decide) rfl (fun ls hl => ?_)
  refine lv_iload_n hx hb dX9_ride_21 rfl (lv_at hl 0 rfl) ?_
  refine lv_if_ne (tgt := 74) hx hb dX9_ride_22 (by decide) (fun q => absurd (by decide +kernel) (q)) (fun _ => ?_)
  refine lv_iload_n hx hb dX9_ride_25 rfl (lv_at hl 3 rfl) ?_
  refine lv_iconst (v := 2) hx hb dX9_ride_26 (by decide +kernel) ?_
  refine lv_icmp_ne (tgt := 48) hx hb dX9_ride_27 (by decide) (fun q => absurd (by decide +kernel) (q)) (fun _ => ?_)
  refine lv_aload_n hx hb dX9_ride_30 rfl (lv_at hl 1 rfl) ?_
  refine va_get (D := G) (ci := 6) (v := .ref p5) (C := RX9) (T := TX9) (N := 11) (ref := RX9) hx hb hts h1w hown hX.1 hP 7 rfl rfl 4 (by decide) h0w (fun _ h9 => h9) rfl dX9_ride_31 ?_
  refine lv_aload_n hx hb dX9_ride_34 rfl (lv_at hl 1 rfl) ?_
  refine va_get (D := G) (ci := 6) (v := .ref p7) (C := RX9) (T := TX9) (N := 11) (ref := RX9) hx hb hts h1w hown hX.1 hP 7 rfl rfl 6 (by decide) h2w (fun _ h9 => h9) rfl dX9_ride_35 ?_
  refine va_getN (D := G) (ci := 0) (v := .int 268435455) (C := RX1) (T := TX1) (N := 12) (ref := RX1) (host := RX9) hx hb hts h3w hown hX.1 hP 8 rfl rfl 0 (by decide) (nf_37 hX.2.2.1) (fun _ h9 => h9) rfl dX9_ride_38 ?_
  refine lv_iload_n hx hb dX9_ride_41 rfl (lv_at hl 2 rfl) ?_
  refine cz_i (wr := [(p13, .inl (k 0, 60, .inl f33)), (p14, .inl (k 0, 60, .inl f34)), (p15, .inl (k 0, 60, .inl f35)), (p16, .inl (k 0, 60, .inl f36)), (p17, .inl (k 0, 60, .inl f37)), (p27, .inr (4, [v29, v30, v31, v32, .int 0])), (p0, .inr (6, [v1, v2, v3, v4, .ref p5, v6, .ref p7, v8, v9, v10, v11])), (p7, .inr (0, [.int 268435455, .int 0, .int 0, .int 0, v12, .ref p13, .ref p14, .ref p15, .ref p16, .ref p17, v18, v19]))]) (va_runVN (As := [.int 268435455, .int 1]) (rest := []) ⟨hx, hb, hml, hown, hts⟩ (cX3_windingTo_0 l G k p5 v20 (.int 99) v21 v22 v23 v24 v25 v26 (.ref p27) v28 H.size) ⟨va_cnB 2 hts gX9_ride_X3_windingTo_n216 rfl rfl rfl (nm_21 hX.2.2.1) h4w (by decide +kernel) ⟨Nat.le_of_ble_eq_true rfl, Nat.le_of_ble_eq_true rfl⟩, h7w, h8w⟩ (cz_preV hZ hS hX hP hD [5] rfl rfl (ci := 2) (q0 := 5) rfl rfl) rfl rfl hl.1 rfl (lv_room (Nat.le_of_ble_eq_true rfl)) dX9_ride_42 ⟨Nat.le_of_ble_eq_true rfl, Nat.le_of_ble_eq_true rfl⟩) hP hD hS hA [5] [0, 1, 2, 3, 4, 6, 7, 8] rfl rfl (by decide) (by decide) (fun r u H locs hp hP hD hS => ?_)
  have hp : r = 1 := hp
  subst hp
  refine lv_goto (tgt := 49) hx hb dX9_ride_45 (by decide) ?_
  refine lv_istore (lv' := [(4, .int 1), (3, .int 0), (0, .ref p0), (1, .int 1), (2, .int 2)]) hx hb dX9_ride_49 hl (by decide) rfl (fun ls hl => ?_)
  refine lv_aload_n hx hb dX9_ride_51 rfl (lv_at hl 2 rfl) ?_
  refine va_get (D := G) (ci := 6) (v := .ref p7) (C := RX9) (T := TX9) (N := 11) (ref := RX9) hx hb hts h1w hown hX.1 hP 6 rfl rfl 6 (by decide) h2w (fun _ h9 => h9) rfl dX9_ride_52 ?_
  refine lv_iconst (v := 2) hx hb dX9_ride_55 (by decide +kernel) ?_
  refine lv_iload_n hx hb dX9_ride_56 rfl (lv_at hl 3 rfl) ?_
  refine lv_iload_n hx hb dX9_ride_57 rfl (lv_at hl 4 rfl) ?_
  refine lv_iload hx hb dX9_ride_58 (lv_at hl 0 rfl) ?_
  refine lv_aload_n hx hb dX9_ride_60 rfl (lv_at hl 2 rfl) ?_
  refine va_get (D := G) (ci := 6) (v := .ref p7) (C := RX9) (T := TX9) (N := 11) (ref := RX9) hx hb hts h1w hown hX.1 hP 6 rfl rfl 6 (by decide) h2w (fun _ h9 => h9) rfl dX9_ride_61 ?_
  refine va_getN (D := G) (ci := 0) (v := .int 268435455) (C := RX1) (T := TX1) (N := 12) (ref := RX1) (host := RX9) hx hb hts h3w hown hX.1 hP 7 rfl rfl 0 (by decide) (nf_37 hX.2.2.1) (fun _ h9 => h9) rfl dX9_ride_64 ?_
  refine lv_iload_n hx hb dX9_ride_67 rfl (lv_at hl 3 rfl) ?_
  refine cz_i (wr := [(p13, .inl (k 0, 60, .inl f33)), (p14, .inl (k 0, 60, .inl f34)), (p15, .inl (k 0, 60, .inl f35)), (p16, .inl (k 0, 60, .inl f36)), (p17, .inl (k 0, 60, .inl f37)), (p27, .inr (4, [v29, v30, v31, v32, .int 0])), (p0, .inr (6, [v1, v2, v3, v4, .ref p5, v6, .ref p7, v8, v9, v10, v11])), (p7, .inr (0, [.int 268435455, .int 0, .int 0, .int 0, v12, .ref p13, .ref p14, .ref p15, .ref p16, .ref p17, v18, v19])), (p5, .inr (2, [.int 1, v20, .int 99, .int 0, .int 1, v21, v22, .int 0, v23, v24, v25, v26, .ref p27, v28]))]) (va_runSN (As := [.int 268435455, .int 1]) (rest := [.int 1, .int 2, .int 1, .int 2, .ref p7]) ⟨hx, hb, hml, hown, hts⟩ (cX7_move_1 l G k H.size) ⟨va_cnB 2 hts gX9_ride_X7_move_n219 rfl rfl rfl (nm_22 hX.2.2.1) h9w (by decide +kernel) ⟨Nat.le_of_ble_eq_true rfl, Nat.le_of_ble_eq_true rfl⟩, h10w, trivial⟩ (cz_preS hZ hS hX hP hD [] rfl rfl) rfl rfl hl.1 rfl (lv_room (Nat.le_of_ble_eq_true rfl)) dX9_ride_68 ⟨Nat.le_of_ble_eq_true rfl, Nat.le_of_ble_eq_true rfl⟩) hP hD hS hA [] [0, 1, 2, 3, 4, 5, 6, 7, 8] rfl rfl (by decide) (by decide) (fun r u H locs hp hP hD hS => ?_)
  have hp : r = 536870911 := hp
  subst hp
  refine cz_v (wr := [(p27, .inr (4, [v29, v30, v31, v32, .int 0])), (p0, .inr (6, [v1, v2, v3, v4, .ref p5, v6, .ref p7, v8, v9, v10, v11])), (p5, .inr (2, [.int 1, v20, .int 99, .int 0, .int 1, v21, v22, .int 0, v23, v24, v25, v26, .ref p27, v28]))]) (va_runVN (As := [.int 2, .int 1, .int 2, .int 1, .int 536870911]) (rest := []) ⟨hx, hb, hml, hown, hts⟩ (cX1_note_0 l G k p7 v12 p13 p14 p15 p16 p17 v18 v19 f33 f34 f35 f36 f37 H.size) ⟨va_cnB 5 hts gX9_ride_X1_note_n203 rfl rfl rfl (nm_15 hX.2.2.1) h11w (by decide +kernel) ⟨Nat.le_of_ble_eq_true rfl, Nat.le_of_ble_eq_true rfl⟩, h12w, h13w⟩ (cz_preV hZ hS hX hP hD [7, 0, 1, 2, 3, 4] rfl rfl (ci := 0) (q0 := 7) rfl rfl) rfl rfl hl.1 rfl (lv_room (Nat.le_of_ble_eq_true rfl)) dX9_ride_71 ⟨Nat.le_of_ble_eq_true rfl, Nat.le_of_ble_eq_true rfl⟩) hP hD hS hA [7, 0, 1, 2, 3, 4] [5, 6, 8] rfl rfl (by decide) (by decide) (fun u H locs hp hP hD hS => ?_)
  refine lv_iload_n hx hb dX9_ride_74 rfl (lv_at hl 1 rfl) ?_
  have hP9 := hP.sub (ws' := [(p27, .inr (4, [v29, v30, v31, v32, .int 0])), (p0, .inr (6, [v1, v2, v3, v4, .ref p5, v6, .ref p7, v8, v9, v10, v11])), (p5, .inr (2, [.int 1, v20, .int 99, .int 0, .int 1, v21, v22, .int 0, v23, v24, v25, v26, .ref p27, v28])), (p7, .inr (0, [.int 536870911, .int 1, .int 1, .int 1, v12, .ref p13, .ref p14, .ref p15, .ref p16, .ref p17, v18, v19])), (p13, .inl (k 0, 60, .inl (upd f33 (0 : Int32).toNatClampNeg 2))), (p14, .inl (k 0, 60, .inl (upd f34 (0 : Int32).toNatClampNeg 1))), (p15, .inl (k 0, 60, .inl (upd f35 (0 : Int32).toNatClampNeg 2))), (p16, .inl (k 0, 60, .inl (upd f36 (0 : Int32).toNatClampNeg 268435455))), (p17, .inl (k 0, 60, .inl (upd f37 (0 : Int32).toNatClampNeg 1)))]) [0, 1, 2, 3, 4, 5, 6, 7, 8] rfl
  have hD9 := hD.sub (ws' := [(p27, .inr (4, [v29, v30, v31, v32, .int 0])), (p0, .inr (6, [v1, v2, v3, v4, .ref p5, v6, .ref p7, v8, v9, v10, v11])), (p5, .inr (2, [.int 1, v20, .int 99, .int 0, .int 1, v21, v22, .int 0, v23, v24, v25, v26, .ref p27, v28])), (p7, .inr (0, [.int 536870911, .int 1, .int 1, .int 1, v12, .ref p13, .ref p14, .ref p15, .ref p16, .ref p17, v18, v19])), (p13, .inl (k 0, 60, .inl (upd f33 (0 : Int32).toNatClampNeg 2))), (p14, .inl (k 0, 60, .inl (upd f34 (0 : Int32).toNatClampNeg 1))), (p15, .inl (k 0, 60, .inl (upd f35 (0 : Int32).toNatClampNeg 2))), (p16, .inl (k 0, 60, .inl (upd f36 (0 : Int32).toNatClampNeg 268435455))), (p17, .inl (k 0, 60, .inl (upd f37 (0 : Int32).toNatClampNeg 1)))]) [0, 1, 2, 3, 4, 5, 6, 7, 8] (by decide) rfl
  exact W.iret (v := 0) hx hb hr (fun t ht hW => ⟨⟨0, (), rfl, rfl, by rw [ht]; exact hP9, hD9⟩, hS.F ht⟩) hS.2.2 dX9_ride_75

set_option maxHeartbeats 4000000 in
set_option maxRecDepth 100000 in
theorem cX3_rideTrouble_11 (l : Launch) (G : va_G) (k : Nat → ClassId) (p0 : Nat) (i1 : Int32) (v2 : Value) (v3 : Value) (v4 : Value) (v5 : Value) (v6 : Value) (v7 : Value) (v8 : Value) (v9 : Value) (v10 : Value) (v11 : Value) (v12 : Value) (v13 : Value) (v14 : Value) (sz : Nat) (hi1 : 2 < i1) : CMi l G k yX3_rideTrouble wsX3_rideTrouble ({ frames := 1, cells := 0, slots := 0, locals := 21 }) [.ref p0, .int 268435455, .int 1, .int i1] sz [(p0, .inr (2, [.int 1, v2, v3, v4, v5, v6, v7, v8, v9, v10, v11, v12, v13, v14]))] (fun r (u : Unit) => r = 1) (fun (u : Unit) => [(p0, .inr (2, [.int 1, v2, v3, v4, v5, v6, v7, v8, v9, v10, v11, v12, v13, v14]))]) := by
  refine Met.ofW (cc := cX3_rideTrouble) (maxL := 4) (ret := (some .int)) (by decide) rfl ?_
  intro p e s m args below meth c s₁ B hml hv
  obtain ⟨rfl, hsz, hP, hX, hD0, hZ0⟩ := hv
  have hx := B.exec
  have hb := B.bytes
  have hr := B.returns
  have hts := atoms_spec (ws := wsX3_rideTrouble) B.pre
  have hown : s.vm.findClass RX3 = some m.cls := findClass_of_methodNamed B.named
  subst hsz
  have hD := hD0.self (sz := s.heap.size)
  have hZ := ZX.up hP hZ0
  generalize hAe : va_A [(p0, .inr (2, [.int 1, v2, v3, v4, v5, v6, v7, v8, v9, v10, v11, v12, v13, v14]))] s.heap.size = A at hD hZ ⊢
  have hA : ∀ q : Nat, s.heap.size ≤ q → A q := fun q h => by rw [← hAe]; exact Or.inr h
  have hS : va_S A s.heap s.heap [] := va_S.rf
  have hP : va_P G vwCl [(p0, .inr (2, [.int 1, v2, v3, v4, v5, v6, v7, v8, v9, v10, v11, v12, v13, v14]))] s.heap := hP
  have hl := lv_entry ([.ref p0, .int 268435455, .int 1, .int i1]) (n := 4) (Nat.le_of_ble_eq_true rfl)
  rw [lg_entry_eq]
  generalize (lg_sl ([.ref p0, .int 268435455, .int 1, .int i1]) ++ List.replicate (4 - (lg_sl ([.ref p0, .int 268435455, .int 1, .int i1])).length) Slot.unset).toArray = ls at hl ⊢
  have hl : lv_has ls 4 [(0, .ref p0), (1, .int 268435455), (2, .int 1), (3, .int i1)] := hl
  refine lv_aload_n hx hb dX3_rideTrouble_0 rfl (lv_at hl 0 rfl) ?_
  refine lv_iload_n hx hb dX3_rideTrouble_1 rfl (lv_at hl 2 rfl) ?_
  refine cz_i (wr := []) (va_runV (As := [.int 1]) (rest := []) ⟨hx, hb, hml, hown, hts⟩ (cX3_hasDepth_3 l G k p0 v2 v3 v4 v5 v6 v7 v8 v9 v10 v11 v12 v13 v14 s.heap.size) (cwV 1 hts gX3_rideTrouble_X3_hasDepth rfl rfl rfl (by decide +kernel) ⟨Nat.le_of_ble_eq_true rfl, Nat.le_of_ble_eq_true rfl⟩) (cz_preV hZ hS hX hP hD [0] rfl rfl (ci := 2) (q0 := 0) rfl rfl) rfl rfl hl.1 rfl (lv_room (Nat.le_of_ble_eq_true rfl)) dX3_rideTrouble_2 ⟨Nat.le_of_ble_eq_true rfl, Nat.le_of_ble_eq_true rfl⟩) hP hD hS hA [0] [] rfl rfl (by decide) (by decide) (fun r u H locs hp hP hD hS => ?_)
  have hp : r = 1 := hp
  subst hp
  refine lv_if_eq (tgt := 17) hx hb dX3_rideTrouble_5 (by decide) (fun q => absurd (q) (by decide +kernel)) (fun _ => ?_)
  refine lv_iload_n hx hb dX3_rideTrouble_8 rfl (lv_at hl 3 rfl) ?_
  refine lv_if_lt (tgt := 17) hx hb dX3_rideTrouble_9 (by decide) (fun q_1 => absurd q_1 (zg_nlt hi1 (by decide))) (fun _ => ?_)
  refine lv_iload_n hx hb dX3_rideTrouble_12 rfl (lv_at hl 3 rfl) ?_
  refine lv_iconst (v := 2) hx hb dX3_rideTrouble_13 (by decide +kernel) ?_
  refine lv_icmp_le (tgt := 19) hx hb dX3_rideTrouble_14 (by decide) (fun q_2 => absurd q_2 (zg_nle hi1 (by decide))) (fun _ => ?_)
  refine lv_iconst (v := 1) hx hb dX3_rideTrouble_17 (by decide +kernel) ?_
  have hP9 := hP.sub (ws' := [(p0, .inr (2, [.int 1, v2, v3, v4, v5, v6, v7, v8, v9, v10, v11, v12, v13, v14]))]) [0] rfl
  have hD9 := hD.sub (ws' := [(p0, .inr (2, [.int 1, v2, v3, v4, v5, v6, v7, v8, v9, v10, v11, v12, v13, v14]))]) [0] (by decide) rfl
  exact W.iret (v := 1) hx hb hr (fun t ht hW => ⟨⟨1, (), rfl, rfl, by rw [ht]; exact hP9, hD9⟩, hS.F ht⟩) hS.2.2 dX3_rideTrouble_18

set_option maxHeartbeats 4000000 in
set_option maxRecDepth 100000 in
theorem cX9_ride_11 (l : Launch) (G : va_G) (k : Nat → ClassId) (p0 : Nat) (i1 : Int32) (v2 : Value) (v3 : Value) (v4 : Value) (v5 : Value) (p6 : Nat) (v7 : Value) (p8 : Nat) (v9 : Value) (v10 : Value) (v11 : Value) (v12 : Value) (v13 : Value) (v14 : Value) (v15 : Value) (v16 : Value) (v17 : Value) (v18 : Value) (v19 : Value) (v20 : Value) (v21 : Value) (v22 : Value) (p23 : Nat) (v24 : Value) (v25 : Value) (v26 : Value) (v27 : Value) (v28 : Value) (v29 : Value) (v30 : Value) (v31 : Value) (v32 : Value) (v33 : Value) (v34 : Value) (v35 : Value) (v36 : Value) (sz : Nat) (hi1 : 2 < i1) : CMi l G k yX9_ride wsX9_ride ({ frames := 2, cells := 0, slots := 0, locals := 44 }) [.ref p0, .int 1, .int i1] sz [(p0, .inr (6, [v2, v3, v4, v5, .ref p6, v7, .ref p8, v9, v10, v11, v12])), (p8, .inr (0, [.int 268435455, v13, v14, v15, v16, v17, v18, v19, v20, v21, v22, .ref p23])), (p6, .inr (2, [.int 1, v24, v25, v26, v27, v28, v29, v30, v31, v32, v33, v34, v35, v36])), (p23, .inl (k 0, 3, .inl (fun _ => 0)))] (fun r (u : Unit) => r = 1) (fun (u : Unit) => [(p6, .inr (2, [.int 1, v24, v25, v26, v27, v28, v29, v30, v31, v32, v33, v34, v35, v36])), (p0, .inr (6, [v2, v3, v4, v5, .ref p6, v7, .ref p8, v9, v10, v11, v12])), (p8, .inr (0, [.int 268435455, v13, v14, v15, v16, v17, v18, v19, v20, v21, v22, .ref p23])), (p23, .inl (k 0, 3, .inl (upd (fun _ => 0) (1 : Int32).toNatClampNeg 1)))]) := by
  refine Met.ofW (cc := cX9_ride) (maxL := 5) (ret := (some .int)) (by decide) rfl ?_
  intro p e s m args below meth c s₁ B hml hv
  obtain ⟨rfl, hsz, hP, hX, hD0, hZ0⟩ := hv
  have hx := B.exec
  have hb := B.bytes
  have hr := B.returns
  have hts := atoms_spec (ws := wsX9_ride) B.pre
  have hown : s.vm.findClass RX9 = some m.cls := findClass_of_methodNamed B.named
  subst hsz
  have hD := hD0.self (sz := s.heap.size)
  have hZ := ZX.up hP hZ0
  generalize hAe : va_A [(p0, .inr (6, [v2, v3, v4, v5, .ref p6, v7, .ref p8, v9, v10, v11, v12])), (p8, .inr (0, [.int 268435455, v13, v14, v15, v16, v17, v18, v19, v20, v21, v22, .ref p23])), (p6, .inr (2, [.int 1, v24, v25, v26, v27, v28, v29, v30, v31, v32, v33, v34, v35, v36])), (p23, .inl (k 0, 3, .inl (fun _ => 0)))] s.heap.size = A at hD hZ ⊢
  have hA : ∀ q : Nat, s.heap.size ≤ q → A q := fun q h => by rw [← hAe]; exact Or.inr h
  have hS : va_S A s.heap s.heap [] := va_S.rf
  have hP : va_P G vwCl [(p0, .inr (6, [v2, v3, v4, v5, .ref p6, v7, .ref p8, v9, v10, v11, v12])), (p8, .inr (0, [.int 268435455, v13, v14, v15, v16, v17, v18, v19, v20, v21, v22, .ref p23])), (p6, .inr (2, [.int 1, v24, v25, v26, v27, v28, v29, v30, v31, v32, v33, v34, v35, v36])), (p23, .inl (k 0, 3, .inl (fun _ => 0)))] s.heap := hP
  have hl := lv_entry ([.ref p0, .int 1, .int i1]) (n := 5) (Nat.le_of_ble_eq_true rfl)
  rw [lg_entry_eq]
  generalize (lg_sl ([.ref p0, .int 1, .int i1]) ++ List.replicate (5 - (lg_sl ([.ref p0, .int 1, .int i1])).length) Slot.unset).toArray = ls at hl ⊢
  have hl : lv_has ls 5 [(0, .ref p0), (1, .int 1), (2, .int i1)] := hl
  have h0w := hts (.fieldLink RX9 23 "RopeTown" "plan" "LRopeTown$Plan;") (by decide +kernel)
  have h1w : ∀ w ∈ wsX90, w ∈ wsX9_ride := by decide +kernel
  have h2w := hts (.fieldLink RX9 42 "RopeTown" "book" "LRopeTown$Book;") (by decide +kernel)
  have h3w : ∀ w ∈ wsX10, w ∈ wsX9_ride := by decide +kernel
  have h4w := hts (.initialized RX3) (by decide +kernel)
  have h5w := hts (.instanceMethod yX3_rideTrouble) (by decide +kernel)
  have h6w := hts (.selects RX3 yX3_rideTrouble yX3_rideTrouble) (by decide +kernel)
  refine lv_aload_n hx hb dX9_ride_0 rfl (lv_at hl 0 rfl) ?_
  refine lv_aload_n hx hb dX9_ride_1 rfl (lv_at hl 0 rfl) ?_
  refine va_get (D := G) (ci := 6) (v := .ref p6) (C := RX9) (T := TX9) (N := 11) (ref := RX9) hx hb hts h1w hown hX.1 hP 0 rfl rfl 4 (by decide) h0w (fun _ h9 => h9) rfl dX9_ride_2 ?_
  refine lv_aload_n hx hb dX9_ride_5 rfl (lv_at hl 0 rfl) ?_
  refine va_get (D := G) (ci := 6) (v := .ref p8) (C := RX9) (T := TX9) (N := 11) (ref := RX9) hx hb hts h1w hown hX.1 hP 0 rfl rfl 6 (by decide) h2w (fun _ h9 => h9) rfl dX9_ride_6 ?_
  refine va_getN (D := G) (ci := 0) (v := .int 268435455) (C := RX1) (T := TX1) (N := 12) (ref := RX1) (host := RX9) hx hb hts h3w hown hX.1 hP 1 rfl rfl 0 (by decide) (nf_37 hX.2.2.1) (fun _ h9 => h9) rfl dX9_ride_9 ?_
  refine lv_iload_n hx hb dX9_ride_12 rfl (lv_at hl 1 rfl) ?_
  refine lv_iload_n hx hb dX9_ride_13 rfl (lv_at hl 2 rfl) ?_
  refine cz_i (wr := [(p0, .inr (6, [v2, v3, v4, v5, .ref p6, v7, .ref p8, v9, v10, v11, v12])), (p8, .inr (0, [.int 268435455, v13, v14, v15, v16, v17, v18, v19, v20, v21, v22, .ref p23])), (p23, .inl (k 0, 3, .inl (fun _ => 0)))]) (va_runVN (As := [.int 268435455, .int 1, .int i1]) (rest := [.ref p0]) ⟨hx, hb, hml, hown, hts⟩ (cX3_rideTrouble_11 l G k p6 i1 v24 v25 v26 v27 v28 v29 v30 v31 v32 v33 v34 v35 v36 s.heap.size hi1) ⟨va_cnB 3 hts gX9_ride_X3_rideTrouble_n213 rfl rfl rfl (nm_19 hX.2.2.1) h4w (by decide +kernel) ⟨Nat.le_of_ble_eq_true rfl, Nat.le_of_ble_eq_true rfl⟩, h5w, h6w⟩ (cz_preV hZ hS hX hP hD [2] rfl rfl (ci := 2) (q0 := 2) rfl rfl) rfl rfl hl.1 rfl (lv_room (Nat.le_of_ble_eq_true rfl)) dX9_ride_14 ⟨Nat.le_of_ble_eq_true rfl, Nat.le_of_ble_eq_true rfl⟩) hP hD hS hA [2] [0, 1, 3] rfl rfl (by decide) (by decide) (fun r u H locs hp hP hD hS => ?_)
  have hp : r = 1 := hp
  subst hp
  refine cz_i (wr := [(p6, .inr (2, [.int 1, v24, v25, v26, v27, v28, v29, v30, v31, v32, v33, v34, v35, v36]))]) (va_runV (As := [.int 1]) (rest := []) ⟨hx, hb, hml, hown, hts⟩ (cX9_judged_0 l G k p0 v2 v3 v4 v5 (.ref p6) v7 p8 v9 v10 v11 v12 (.int 268435455) v13 v14 v15 v16 v17 v18 v19 v20 v21 v22 p23 H.size) (cwV 1 hts gX9_ride_X9_judged rfl rfl rfl (by decide +kernel) ⟨Nat.le_of_ble_eq_true rfl, Nat.le_of_ble_eq_true rfl⟩) (cz_preV hZ hS hX hP hD [0, 1, 2] rfl rfl (ci := 6) (q0 := 0) rfl rfl) rfl rfl hl.1 rfl (lv_room (Nat.le_of_ble_eq_true rfl)) dX9_ride_17 ⟨Nat.le_of_ble_eq_true rfl, Nat.le_of_ble_eq_true rfl⟩) hP hD hS hA [0, 1, 2] [3] rfl rfl (by decide) (by decide) (fun r u H locs hp hP hD hS => ?_)
  have hp : r = 1 := hp
  subst hp
  refine lv_istore_n (lv' := [(3, .int 1), (0, .ref p0), (1, .int 1), (2, .int i1)]) hx hb dX9_ride_20 rfl hl (by decide) rfl (fun ls hl => ?_)
  refine lv_iload_n hx hb dX9_ride_21 rfl (lv_at hl 0 rfl) ?_
  refine lv_if_ne (tgt := 74) hx hb dX9_ride_22 (by decide) (fun _ => ?_) (fun q => absurd (q) (by decide +kernel))
  refine lv_iload_n hx hb dX9_ride_74 rfl (lv_at hl 0 rfl) ?_
  have hP9 := hP.sub (ws' := [(p6, .inr (2, [.int 1, v24, v25, v26, v27, v28, v29, v30, v31, v32, v33, v34, v35, v36])), (p0, .inr (6, [v2, v3, v4, v5, .ref p6, v7, .ref p8, v9, v10, v11, v12])), (p8, .inr (0, [.int 268435455, v13, v14, v15, v16, v17, v18, v19, v20, v21, v22, .ref p23])), (p23, .inl (k 0, 3, .inl (upd (fun _ => 0) (1 : Int32).toNatClampNeg 1)))]) [0, 1, 2, 3] rfl
  have hD9 := hD.sub (ws' := [(p6, .inr (2, [.int 1, v24, v25, v26, v27, v28, v29, v30, v31, v32, v33, v34, v35, v36])), (p0, .inr (6, [v2, v3, v4, v5, .ref p6, v7, .ref p8, v9, v10, v11, v12])), (p8, .inr (0, [.int 268435455, v13, v14, v15, v16, v17, v18, v19, v20, v21, v22, .ref p23])), (p23, .inl (k 0, 3, .inl (upd (fun _ => 0) (1 : Int32).toNatClampNeg 1)))]) [0, 1, 2, 3] (by decide) rfl
  exact W.iret (v := 1) hx hb hr (fun t ht hW => ⟨⟨1, (), rfl, rfl, by rw [ht]; exact hP9, hD9⟩, hS.F ht⟩) hS.2.2 dX9_ride_75

set_option maxHeartbeats 4000000 in
set_option maxRecDepth 100000 in
theorem cX9_winding_0 (l : Launch) (G : va_G) (k : Nat → ClassId) (p0 : Nat) (i1 : Int32) (v2 : Value) (v3 : Value) (v4 : Value) (v5 : Value) (p6 : Nat) (v7 : Value) (v8 : Value) (v9 : Value) (v10 : Value) (v11 : Value) (v12 : Value) (v13 : Value) (v14 : Value) (v15 : Value) (v16 : Value) (v17 : Value) (v18 : Value) (v19 : Value) (v20 : Value) (v21 : Value) (v22 : Value) (v23 : Value) (v24 : Value) (v25 : Value) (v26 : Value) (sz : Nat) (hi1 : i1 < 0) : CMi l G k yX9_winding wsX9_winding ({ frames := 1, cells := 0, slots := 0, locals := 21 }) [.ref p0, .int i1] sz [(p0, .inr (6, [v2, v3, v4, v5, .ref p6, v7, v8, v9, v10, v11, v12])), (p6, .inr (2, [v13, v14, v15, v16, v17, v18, v19, v20, v21, v22, v23, v24, v25, v26]))] (fun r (u : Unit) => r = (-1)) (fun (u : Unit) => [(p0, .inr (6, [v2, v3, v4, v5, .ref p6, v7, v8, v9, v10, v11, v12])), (p6, .inr (2, [v13, v14, v15, v16, v17, v18, v19, v20, v21, v22, v23, v24, v25, v26]))]) := by
  refine Met.ofW (cc := cX9_winding) (maxL := 2) (ret := (some .int)) (by decide) rfl ?_
  intro p e s m args below meth c s₁ B hml hv
  obtain ⟨rfl, hsz, hP, hX, hD0, hZ0⟩ := hv
  have hx := B.exec
  have hb := B.bytes
  have hr := B.returns
  have hts := atoms_spec (ws := wsX9_winding) B.pre
  have hown : s.vm.findClass RX9 = some m.cls := findClass_of_methodNamed B.named
  subst hsz
  have hD := hD0.self (sz := s.heap.size)
  have hZ := ZX.up hP hZ0
  generalize hAe : va_A [(p0, .inr (6, [v2, v3, v4, v5, .ref p6, v7, v8, v9, v10, v11, v12])), (p6, .inr (2, [v13, v14, v15, v16, v17, v18, v19, v20, v21, v22, v23, v24, v25, v26]))] s.heap.size = A at hD hZ ⊢
  have hA : ∀ q : Nat, s.heap.size ≤ q → A q := fun q h => by rw [← hAe]; exact Or.inr h
  have hS : va_S A s.heap s.heap [] := va_S.rf
  have hP : va_P G vwCl [(p0, .inr (6, [v2, v3, v4, v5, .ref p6, v7, v8, v9, v10, v11, v12])), (p6, .inr (2, [v13, v14, v15, v16, v17, v18, v19, v20, v21, v22, v23, v24, v25, v26]))] s.heap := hP
  have hl := lv_entry ([.ref p0, .int i1]) (n := 2) (Nat.le_of_ble_eq_true rfl)
  rw [lg_entry_eq]
  generalize (lg_sl ([.ref p0, .int i1]) ++ List.replicate (2 - (lg_sl ([.ref p0, .int i1])).length) Slot.unset).toArray = ls at hl ⊢
  have hl : lv_has ls 2 [(0, .ref p0), (1, .int i1)] := hl
  have h0w := hts (.fieldLink RX9 23 "RopeTown" "plan" "LRopeTown$Plan;") (by decide +kernel)
  have h1w : ∀ w ∈ wsX90, w ∈ wsX9_winding := by decide +kernel
  have h2w := hts (.initialized RX3) (by decide +kernel)
  have h3w := hts (.instanceMethod yX3_hasDepth) (by decide +kernel)
  have h4w := hts (.selects RX3 yX3_hasDepth yX3_hasDepth) (by decide +kernel)
  refine lv_aload_n hx hb dX9_winding_0 rfl (lv_at hl 0 rfl) ?_
  refine va_get (D := G) (ci := 6) (v := .ref p6) (C := RX9) (T := TX9) (N := 11) (ref := RX9) hx hb hts h1w hown hX.1 hP 0 rfl rfl 4 (by decide) h0w (fun _ h9 => h9) rfl dX9_winding_1 ?_
  refine lv_iload_n hx hb dX9_winding_4 rfl (lv_at hl 1 rfl) ?_
  refine cz_i (wr := [(p0, .inr (6, [v2, v3, v4, v5, .ref p6, v7, v8, v9, v10, v11, v12])), (p6, .inr (2, [v13, v14, v15, v16, v17, v18, v19, v20, v21, v22, v23, v24, v25, v26]))]) (va_runVN (As := [.int i1]) (rest := []) ⟨hx, hb, hml, hown, hts⟩ (cX3_hasDepth_0 l G k p6 i1 s.heap.size hi1) ⟨va_cnB 1 hts gX9_winding_X3_hasDepth_n222 rfl rfl rfl (nm_23 hX.2.2.1) h2w (by decide +kernel) ⟨Nat.le_of_ble_eq_true rfl, Nat.le_of_ble_eq_true rfl⟩, h3w, h4w⟩ (cz_preV hZ hS hX hP hD [] rfl rfl (ci := 2) (q0 := 1) rfl rfl) rfl rfl hl.1 rfl (lv_room (Nat.le_of_ble_eq_true rfl)) dX9_winding_5 ⟨Nat.le_of_ble_eq_true rfl, Nat.le_of_ble_eq_true rfl⟩) hP hD hS hA [] [0, 1] rfl rfl (by decide) (by decide) (fun r u H locs hp hP hD hS => ?_)
  have hp : r = 0 := hp
  subst hp
  refine lv_if_eq (tgt := 25) hx hb dX9_winding_8 (by decide) (fun _ => ?_) (fun q => absurd (by decide +kernel) (q))
  refine lv_iconst (v := (-1)) hx hb dX9_winding_25 (by decide +kernel) ?_
  have hP9 := hP.sub (ws' := [(p0, .inr (6, [v2, v3, v4, v5, .ref p6, v7, v8, v9, v10, v11, v12])), (p6, .inr (2, [v13, v14, v15, v16, v17, v18, v19, v20, v21, v22, v23, v24, v25, v26]))]) [0, 1] rfl
  have hD9 := hD.sub (ws' := [(p0, .inr (6, [v2, v3, v4, v5, .ref p6, v7, v8, v9, v10, v11, v12])), (p6, .inr (2, [v13, v14, v15, v16, v17, v18, v19, v20, v21, v22, v23, v24, v25, v26]))]) [0, 1] (by decide) rfl
  exact W.iret (v := (-1)) hx hb hr (fun t ht hW => ⟨⟨(-1), (), rfl, rfl, by rw [ht]; exact hP9, hD9⟩, hS.F ht⟩) hS.2.2 dX9_winding_26

set_option maxHeartbeats 4000000 in
set_option maxRecDepth 100000 in
theorem cX9_winding_1 (l : Launch) (G : va_G) (k : Nat → ClassId) (p0 : Nat) (v1 : Value) (v2 : Value) (v3 : Value) (v4 : Value) (p5 : Nat) (v6 : Value) (p7 : Nat) (v8 : Value) (v9 : Value) (v10 : Value) (v11 : Value) (v12 : Value) (v13 : Value) (v14 : Value) (v15 : Value) (v16 : Value) (v17 : Value) (v18 : Value) (v19 : Value) (v20 : Value) (v21 : Value) (v22 : Value) (v23 : Value) (v24 : Value) (v25 : Value) (v26 : Value) (v27 : Value) (v28 : Value) (v29 : Value) (v30 : Value) (v31 : Value) (v32 : Value) (v33 : Value) (v34 : Value) (v35 : Value) (sz : Nat) : CMi l G k yX9_winding wsX9_winding ({ frames := 1, cells := 0, slots := 0, locals := 21 }) [.ref p0, .int 0] sz [(p0, .inr (6, [v1, v2, v3, v4, .ref p5, v6, .ref p7, v8, v9, v10, v11])), (p5, .inr (2, [.int 1, v12, v13, v14, v15, v16, v17, v18, v19, v20, v21, v22, v23, v24])), (p7, .inr (0, [.int 268435455, v25, v26, v27, v28, v29, v30, v31, v32, v33, v34, v35]))] (fun r (u : Unit) => r = (-1)) (fun (u : Unit) => [(p0, .inr (6, [v1, v2, v3, v4, .ref p5, v6, .ref p7, v8, v9, v10, v11])), (p7, .inr (0, [.int 268435455, v25, v26, v27, v28, v29, v30, v31, v32, v33, v34, v35])), (p5, .inr (2, [.int 1, v12, v13, v14, v15, v16, v17, v18, v19, v20, v21, v22, v23, v24]))]) := by
  refine Met.ofW (cc := cX9_winding) (maxL := 2) (ret := (some .int)) (by decide) rfl ?_
  intro p e s m args below meth c s₁ B hml hv
  obtain ⟨rfl, hsz, hP, hX, hD0, hZ0⟩ := hv
  have hx := B.exec
  have hb := B.bytes
  have hr := B.returns
  have hts := atoms_spec (ws := wsX9_winding) B.pre
  have hown : s.vm.findClass RX9 = some m.cls := findClass_of_methodNamed B.named
  subst hsz
  have hD := hD0.self (sz := s.heap.size)
  have hZ := ZX.up hP hZ0
  generalize hAe : va_A [(p0, .inr (6, [v1, v2, v3, v4, .ref p5, v6, .ref p7, v8, v9, v10, v11])), (p5, .inr (2, [.int 1, v12, v13, v14, v15, v16, v17, v18, v19, v20, v21, v22, v23, v24])), (p7, .inr (0, [.int 268435455, v25, v26, v27, v28, v29, v30, v31, v32, v33, v34, v35]))] s.heap.size = A at hD hZ ⊢
  have hA : ∀ q : Nat, s.heap.size ≤ q → A q := fun q h => by rw [← hAe]; exact Or.inr h
  have hS : va_S A s.heap s.heap [] := va_S.rf
  have hP : va_P G vwCl [(p0, .inr (6, [v1, v2, v3, v4, .ref p5, v6, .ref p7, v8, v9, v10, v11])), (p5, .inr (2, [.int 1, v12, v13, v14, v15, v16, v17, v18, v19, v20, v21, v22, v23, v24])), (p7, .inr (0, [.int 268435455, v25, v26, v27, v28, v29, v30, v31, v32, v33, v34, v35]))] s.heap := hP
  have hl := lv_entry ([.ref p0, .int 0]) (n := 2) (Nat.le_of_ble_eq_true rfl)
  rw [lg_entry_eq]
  generalize (lg_sl ([.ref p0, .int 0]) ++ List.replicate (2 - (lg_sl ([.ref p0, .int 0])).length) Slot.unset).toArray = ls at hl ⊢
  have hl : lv_has ls 2 [(0, .ref p0), (1, .int 0)] := hl
  have h0w := hts (.fieldLink RX9 23 "RopeTown" "plan" "LRopeTown$Plan;") (by decide +kernel)
  have h1w : ∀ w ∈ wsX90, w ∈ wsX9_winding := by decide +kernel
  have h2w := hts (.initialized RX3) (by decide +kernel)
  have h3w := hts (.instanceMethod yX3_hasDepth) (by decide +kernel)
  have h4w := hts (.selects RX3 yX3_hasDepth yX3_hasDepth) (by decide +kernel)
  have h5w := hts (.fieldLink RX9 42 "RopeTown" "book" "LRopeTown$Book;") (by decide +kernel)
  have h6w : ∀ w ∈ wsX10, w ∈ wsX9_winding := by decide +kernel
  have h7w := hts (.initialized RX7) (by decide +kernel)
  have h8w := hts (.static yX7_depth) (by decide +kernel)
  refine lv_aload_n hx hb dX9_winding_0 rfl (lv_at hl 0 rfl) ?_
  refine va_get (D := G) (ci := 6) (v := .ref p5) (C := RX9) (T := TX9) (N := 11) (ref := RX9) hx hb hts h1w hown hX.1 hP 0 rfl rfl 4 (by decide) h0w (fun _ h9 => h9) rfl dX9_winding_1 ?_
  refine lv_iload_n hx hb dX9_winding_4 rfl (lv_at hl 1 rfl) ?_
  refine cz_i (wr := [(p0, .inr (6, [v1, v2, v3, v4, .ref p5, v6, .ref p7, v8, v9, v10, v11])), (p7, .inr (0, [.int 268435455, v25, v26, v27, v28, v29, v30, v31, v32, v33, v34, v35]))]) (va_runVN (As := [.int 0]) (rest := []) ⟨hx, hb, hml, hown, hts⟩ (cX3_hasDepth_2 l G k p5 v12 v13 v14 v15 v16 v17 v18 v19 v20 v21 v22 v23 v24 s.heap.size) ⟨va_cnB 1 hts gX9_winding_X3_hasDepth_n222 rfl rfl rfl (nm_23 hX.2.2.1) h2w (by decide +kernel) ⟨Nat.le_of_ble_eq_true rfl, Nat.le_of_ble_eq_true rfl⟩, h3w, h4w⟩ (cz_preV hZ hS hX hP hD [1] rfl rfl (ci := 2) (q0 := 1) rfl rfl) rfl rfl hl.1 rfl (lv_room (Nat.le_of_ble_eq_true rfl)) dX9_winding_5 ⟨Nat.le_of_ble_eq_true rfl, Nat.le_of_ble_eq_true rfl⟩) hP hD hS hA [1] [0, 2] rfl rfl (by decide) (by decide) (fun r u H locs hp hP hD hS => ?_)
  have hp : r = 1 := hp
  subst hp
  refine lv_if_eq (tgt := 25) hx hb dX9_winding_8 (by decide) (fun q => absurd (q) (by decide +kernel)) (fun _ => ?_)
  refine lv_iload_n hx hb dX9_winding_11 rfl (lv_at hl 1 rfl) ?_
  refine lv_aload_n hx hb dX9_winding_12 rfl (lv_at hl 0 rfl) ?_
  refine va_get (D := G) (ci := 6) (v := .ref p7) (C := RX9) (T := TX9) (N := 11) (ref := RX9) hx hb hts h1w hown hX.1 hP 0 rfl rfl 6 (by decide) h5w (fun _ h9 => h9) rfl dX9_winding_13 ?_
  refine va_getN (D := G) (ci := 0) (v := .int 268435455) (C := RX1) (T := TX1) (N := 12) (ref := RX1) (host := RX9) hx hb hts h6w hown hX.1 hP 1 rfl rfl 0 (by decide) (nf_37 hX.2.2.1) (fun _ h9 => h9) rfl dX9_winding_16 ?_
  refine cz_i (wr := [(p0, .inr (6, [v1, v2, v3, v4, .ref p5, v6, .ref p7, v8, v9, v10, v11])), (p7, .inr (0, [.int 268435455, v25, v26, v27, v28, v29, v30, v31, v32, v33, v34, v35])), (p5, .inr (2, [.int 1, v12, v13, v14, v15, v16, v17, v18, v19, v20, v21, v22, v23, v24]))]) (va_runSN (As := [.int 268435455]) (rest := [.int 0]) ⟨hx, hb, hml, hown, hts⟩ (cX7_depth_0 l G k H.size) ⟨va_cnB 1 hts gX9_winding_X7_depth_n126 rfl rfl rfl (nm_24 hX.2.2.1) h7w (by decide +kernel) ⟨Nat.le_of_ble_eq_true rfl, Nat.le_of_ble_eq_true rfl⟩, h8w, trivial⟩ (cz_preS hZ hS hX hP hD [] rfl rfl) rfl rfl hl.1 rfl (lv_room (Nat.le_of_ble_eq_true rfl)) dX9_winding_19 ⟨Nat.le_of_ble_eq_true rfl, Nat.le_of_ble_eq_true rfl⟩) hP hD hS hA [] [0, 1, 2] rfl rfl (by decide) (by decide) (fun r u H locs hp hP hD hS => ?_)
  have hp : r = 0 := hp
  subst hp
  refine lv_icmp_ne (tgt := 27) hx hb dX9_winding_22 (by decide) (fun q => absurd (by decide +kernel) (q)) (fun _ => ?_)
  refine lv_iconst (v := (-1)) hx hb dX9_winding_25 (by decide +kernel) ?_
  have hP9 := hP.sub (ws' := [(p0, .inr (6, [v1, v2, v3, v4, .ref p5, v6, .ref p7, v8, v9, v10, v11])), (p7, .inr (0, [.int 268435455, v25, v26, v27, v28, v29, v30, v31, v32, v33, v34, v35])), (p5, .inr (2, [.int 1, v12, v13, v14, v15, v16, v17, v18, v19, v20, v21, v22, v23, v24]))]) [0, 1, 2] rfl
  have hD9 := hD.sub (ws' := [(p0, .inr (6, [v1, v2, v3, v4, .ref p5, v6, .ref p7, v8, v9, v10, v11])), (p7, .inr (0, [.int 268435455, v25, v26, v27, v28, v29, v30, v31, v32, v33, v34, v35])), (p5, .inr (2, [.int 1, v12, v13, v14, v15, v16, v17, v18, v19, v20, v21, v22, v23, v24]))]) [0, 1, 2] (by decide) rfl
  exact W.iret (v := (-1)) hx hb hr (fun t ht hW => ⟨⟨(-1), (), rfl, rfl, by rw [ht]; exact hP9, hD9⟩, hS.F ht⟩) hS.2.2 dX9_winding_26

