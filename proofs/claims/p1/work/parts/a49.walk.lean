set_option maxHeartbeats 4000000 in
set_option maxRecDepth 100000 in
theorem cX10_pack_1 (l : Launch) (G : va_G) (k : Nat → ClassId) (p0 : Nat) (sz : Nat) : CMl l G k yX10_pack wsX10_pack ({ frames := 0, cells := 0, slots := 0, locals := 0 }) [.ref p0, .int 1] sz [(p0, .inl (k 0, 7, .inl (upd (upd (upd (upd (upd (upd (upd (upd (upd (upd (upd (upd (upd (upd (fun _ => 0) (0 : Int32).toNatClampNeg 15) (1 : Int32).toNatClampNeg 15) (2 : Int32).toNatClampNeg 15) (3 : Int32).toNatClampNeg 15) (4 : Int32).toNatClampNeg 15) (5 : Int32).toNatClampNeg 15) (6 : Int32).toNatClampNeg 15) (0 : Int32).toNatClampNeg 15) (1 : Int32).toNatClampNeg 15) (2 : Int32).toNatClampNeg 15) (3 : Int32).toNatClampNeg 15) (4 : Int32).toNatClampNeg 15) (5 : Int32).toNatClampNeg 15) (6 : Int32).toNatClampNeg 15)))] (fun r (u : Unit) => r = 536870911) (fun (u : Unit) => [(p0, .inl (k 0, 7, .inl (upd (upd (upd (upd (upd (upd (upd (upd (upd (upd (upd (upd (upd (upd (fun _ => 0) (0 : Int32).toNatClampNeg 15) (1 : Int32).toNatClampNeg 15) (2 : Int32).toNatClampNeg 15) (3 : Int32).toNatClampNeg 15) (4 : Int32).toNatClampNeg 15) (5 : Int32).toNatClampNeg 15) (6 : Int32).toNatClampNeg 15) (0 : Int32).toNatClampNeg 15) (1 : Int32).toNatClampNeg 15) (2 : Int32).toNatClampNeg 15) (3 : Int32).toNatClampNeg 15) (4 : Int32).toNatClampNeg 15) (5 : Int32).toNatClampNeg 15) (6 : Int32).toNatClampNeg 15)))]) := by
  refine Met.ofW (cc := cX10_pack) (maxL := 5) (ret := (some .long)) (by decide) rfl ?_
  intro p e s m args below meth c s₁ B hml hv
  obtain ⟨rfl, hsz, hP, hX, hD0, hZ0⟩ := hv
  have hx := B.exec
  have hb := B.bytes
  have hr := B.returns
  have hts := atoms_spec (ws := wsX10_pack) B.pre
  have hown : s.vm.findClass RX10 = some m.cls := findClass_of_methodNamed B.named
  subst hsz
  have hD := hD0.self (sz := s.heap.size)
  have hZ := ZX.up hP hZ0
  generalize hAe : va_A [(p0, .inl (k 0, 7, .inl (upd (upd (upd (upd (upd (upd (upd (upd (upd (upd (upd (upd (upd (upd (fun _ => 0) (0 : Int32).toNatClampNeg 15) (1 : Int32).toNatClampNeg 15) (2 : Int32).toNatClampNeg 15) (3 : Int32).toNatClampNeg 15) (4 : Int32).toNatClampNeg 15) (5 : Int32).toNatClampNeg 15) (6 : Int32).toNatClampNeg 15) (0 : Int32).toNatClampNeg 15) (1 : Int32).toNatClampNeg 15) (2 : Int32).toNatClampNeg 15) (3 : Int32).toNatClampNeg 15) (4 : Int32).toNatClampNeg 15) (5 : Int32).toNatClampNeg 15) (6 : Int32).toNatClampNeg 15)))] s.heap.size = A at hD hZ ⊢
  have hA : ∀ q : Nat, s.heap.size ≤ q → A q := fun q h => by rw [← hAe]; exact Or.inr h
  have hS : va_S A s.heap s.heap [] := va_S.rf
  have hP : va_P G vwCl [(p0, .inl (k 0, 7, .inl (upd (upd (upd (upd (upd (upd (upd (upd (upd (upd (upd (upd (upd (upd (fun _ => 0) (0 : Int32).toNatClampNeg 15) (1 : Int32).toNatClampNeg 15) (2 : Int32).toNatClampNeg 15) (3 : Int32).toNatClampNeg 15) (4 : Int32).toNatClampNeg 15) (5 : Int32).toNatClampNeg 15) (6 : Int32).toNatClampNeg 15) (0 : Int32).toNatClampNeg 15) (1 : Int32).toNatClampNeg 15) (2 : Int32).toNatClampNeg 15) (3 : Int32).toNatClampNeg 15) (4 : Int32).toNatClampNeg 15) (5 : Int32).toNatClampNeg 15) (6 : Int32).toNatClampNeg 15)))] s.heap := hP
  have hl := lv_entry ([.ref p0, .int 1]) (n := 5) (Nat.le_of_ble_eq_true rfl)
  rw [lg_entry_eq]
  generalize (lg_sl ([.ref p0, .int 1]) ++ List.replicate (5 - (lg_sl ([.ref p0, .int 1])).length) Slot.unset).toArray = ls at hl ⊢
  have hl : lv_has ls 5 [(0, .ref p0), (1, .int 1)] := hl
  have h0w := hts (.constantLong RX10 425 (16)) (by decide +kernel)
  refine lv_iload_n hx hb dX10_pack_0 rfl (lv_at hl 1 rfl) ?_
  refine lv_i2l (v := 1) hx hb dX10_pack_1 (by decide +kernel) ?_
  refine lv_lstore_n (lv' := [(2, .long 1), (0, .ref p0), (1, .int 1)]) hx hb dX10_pack_2 rfl hl (by decide) rfl (fun ls hl => ?_)
  refine lv_iconst (v := 0) hx hb dX10_pack_3 (by decide +kernel) ?_
  refine lv_istore (lv' := [(4, .int 0), (2, .long 1), (0, .ref p0), (1, .int 1)]) hx hb dX10_pack_4 hl (by decide) rfl (fun ls hl => ?_)
  refine lv_iload hx hb dX10_pack_6 (lv_at hl 0 rfl) ?_
  refine lv_bipush (v := 7) hx hb dX10_pack_8 (by decide +kernel) ?_
  refine lv_icmp_ge (tgt := 31) hx hb dX10_pack_10 (by decide) (fun q => absurd (q) (by decide +kernel)) (fun _ => ?_)
  refine lv_ldc2 (v := 16) hx hb hown h0w dX10_pack_13 ?_
  refine lv_lload_n hx hb dX10_pack_16 rfl (lv_at hl 1 rfl) ?_
  refine lv_lmul hx hb dX10_pack_17 ?_
  refine cz_tl (w := 16) (by decide +kernel) ?_
  refine lv_aload_n hx hb dX10_pack_18 rfl (lv_at hl 2 rfl) ?_
  refine lv_iload hx hb dX10_pack_19 (lv_at hl 0 rfl) ?_
  refine va_iald hx hb hX.1 hP 0 0 rfl rfl (by unfold vp_in; decide +kernel) dX10_pack_21 ?_
  refine cz_ti (w := 15) (by rfl) ?_
  refine lv_i2l (v := 15) hx hb dX10_pack_22 (by decide +kernel) ?_
  refine lv_ladd hx hb dX10_pack_23 ?_
  refine cz_tl (w := 31) (by decide +kernel) ?_
  refine lv_lstore_n (lv' := [(2, .long 31), (4, .int 0), (0, .ref p0), (1, .int 1)]) hx hb dX10_pack_24 rfl hl (by decide) rfl (fun ls hl => ?_)
  refine lv_iinc (v := 1) (lv' := [(4, .int 1), (2, .long 31), (0, .ref p0), (1, .int 1)]) hx hb dX10_pack_25 hl (k := 1) rfl (by decide +kernel) (by decide) rfl (fun ls hl => ?_)
  refine lv_goto (tgt := 6) hx hb dX10_pack_28 (by decide) ?_
  refine lv_iload hx hb dX10_pack_6 (lv_at hl 0 rfl) ?_
  refine lv_bipush (v := 7) hx hb dX10_pack_8 (by decide +kernel) ?_
  refine lv_icmp_ge (tgt := 31) hx hb dX10_pack_10 (by decide) (fun q => absurd (q) (by decide +kernel)) (fun _ => ?_)
  refine lv_ldc2 (v := 16) hx hb hown h0w dX10_pack_13 ?_
  refine lv_lload_n hx hb dX10_pack_16 rfl (lv_at hl 1 rfl) ?_
  refine lv_lmul hx hb dX10_pack_17 ?_
  refine cz_tl (w := 496) (by decide +kernel) ?_
  refine lv_aload_n hx hb dX10_pack_18 rfl (lv_at hl 2 rfl) ?_
  refine lv_iload hx hb dX10_pack_19 (lv_at hl 0 rfl) ?_
  refine va_iald hx hb hX.1 hP 0 0 rfl rfl (by unfold vp_in; decide +kernel) dX10_pack_21 ?_
  refine cz_ti (w := 15) (by rfl) ?_
  refine lv_i2l (v := 15) hx hb dX10_pack_22 (by decide +kernel) ?_
  refine lv_ladd hx hb dX10_pack_23 ?_
  refine cz_tl (w := 511) (by decide +kernel) ?_
  refine lv_lstore_n (lv' := [(2, .long 511), (4, .int 1), (0, .ref p0), (1, .int 1)]) hx hb dX10_pack_24 rfl hl (by decide) rfl (fun ls hl => ?_)
  refine lv_iinc (v := 2) (lv' := [(4, .int 2), (2, .long 511), (0, .ref p0), (1, .int 1)]) hx hb dX10_pack_25 hl (k := 1) rfl (by decide +kernel) (by decide) rfl (fun ls hl => ?_)
  refine lv_goto (tgt := 6) hx hb dX10_pack_28 (by decide) ?_
  refine lv_iload hx hb dX10_pack_6 (lv_at hl 0 rfl) ?_
  refine lv_bipush (v := 7) hx hb dX10_pack_8 (by decide +kernel) ?_
  refine lv_icmp_ge (tgt := 31) hx hb dX10_pack_10 (by decide) (fun q => absurd (q) (by decide +kernel)) (fun _ => ?_)
  refine lv_ldc2 (v := 16) hx hb hown h0w dX10_pack_13 ?_
  refine lv_lload_n hx hb dX10_pack_16 rfl (lv_at hl 1 rfl) ?_
  refine lv_lmul hx hb dX10_pack_17 ?_
  refine cz_tl (w := 8176) (by decide +kernel) ?_
  refine lv_aload_n hx hb dX10_pack_18 rfl (lv_at hl 2 rfl) ?_
  refine lv_iload hx hb dX10_pack_19 (lv_at hl 0 rfl) ?_
  refine va_iald hx hb hX.1 hP 0 0 rfl rfl (by unfold vp_in; decide +kernel) dX10_pack_21 ?_
  refine cz_ti (w := 15) (by rfl) ?_
  refine lv_i2l (v := 15) hx hb dX10_pack_22 (by decide +kernel) ?_
  refine lv_ladd hx hb dX10_pack_23 ?_
  refine cz_tl (w := 8191) (by decide +kernel) ?_
  refine lv_lstore_n (lv' := [(2, .long 8191), (4, .int 2), (0, .ref p0), (1, .int 1)]) hx hb dX10_pack_24 rfl hl (by decide) rfl (fun ls hl => ?_)
  refine lv_iinc (v := 3) (lv' := [(4, .int 3), (2, .long 8191), (0, .ref p0), (1, .int 1)]) hx hb dX10_pack_25 hl (k := 1) rfl (by decide +kernel) (by decide) rfl (fun ls hl => ?_)
  refine lv_goto (tgt := 6) hx hb dX10_pack_28 (by decide) ?_
  refine lv_iload hx hb dX10_pack_6 (lv_at hl 0 rfl) ?_
  refine lv_bipush (v := 7) hx hb dX10_pack_8 (by decide +kernel) ?_
  refine lv_icmp_ge (tgt := 31) hx hb dX10_pack_10 (by decide) (fun q => absurd (q) (by decide +kernel)) (fun _ => ?_)
  refine lv_ldc2 (v := 16) hx hb hown h0w dX10_pack_13 ?_
  refine lv_lload_n hx hb dX10_pack_16 rfl (lv_at hl 1 rfl) ?_
  refine lv_lmul hx hb dX10_pack_17 ?_
  refine cz_tl (w := 131056) (by decide +kernel) ?_
  refine lv_aload_n hx hb dX10_pack_18 rfl (lv_at hl 2 rfl) ?_
  refine lv_iload hx hb dX10_pack_19 (lv_at hl 0 rfl) ?_
  refine va_iald hx hb hX.1 hP 0 0 rfl rfl (by unfold vp_in; decide +kernel) dX10_pack_21 ?_
  refine cz_ti (w := 15) (by rfl) ?_
  refine lv_i2l (v := 15) hx hb dX10_pack_22 (by decide +kernel) ?_
  refine lv_ladd hx hb dX10_pack_23 ?_
  refine cz_tl (w := 131071) (by decide +kernel) ?_
  refine lv_lstore_n (lv' := [(2, .long 131071), (4, .int 3), (0, .ref p0), (1, .int 1)]) hx hb dX10_pack_24 rfl hl (by decide) rfl (fun ls hl => ?_)
  refine lv_iinc (v := 4) (lv' := [(4, .int 4), (2, .long 131071), (0, .ref p0), (1, .int 1)]) hx hb dX10_pack_25 hl (k := 1) rfl (by decide +kernel) (by decide) rfl (fun ls hl => ?_)
  refine lv_goto (tgt := 6) hx hb dX10_pack_28 (by decide) ?_
  refine lv_iload hx hb dX10_pack_6 (lv_at hl 0 rfl) ?_
  refine lv_bipush (v := 7) hx hb dX10_pack_8 (by decide +kernel) ?_
  refine lv_icmp_ge (tgt := 31) hx hb dX10_pack_10 (by decide) (fun q => absurd (q) (by decide +kernel)) (fun _ => ?_)
  refine lv_ldc2 (v := 16) hx hb hown h0w dX10_pack_13 ?_
  refine lv_lload_n hx hb dX10_pack_16 rfl (lv_at hl 1 rfl) ?_
  refine lv_lmul hx hb dX10_pack_17 ?_
  refine cz_tl (w := 2097136) (by decide +kernel) ?_
  refine lv_aload_n hx hb dX10_pack_18 rfl (lv_at hl 2 rfl) ?_
  refine lv_iload hx hb dX10_pack_19 (lv_at hl 0 rfl) ?_
  refine va_iald hx hb hX.1 hP 0 0 rfl rfl (by unfold vp_in; decide +kernel) dX10_pack_21 ?_
  refine cz_ti (w := 15) (by rfl) ?_
  refine lv_i2l (v := 15) hx hb dX10_pack_22 (by decide +kernel) ?_
  refine lv_ladd hx hb dX10_pack_23 ?_
  refine cz_tl (w := 2097151) (by decide +kernel) ?_
  refine lv_lstore_n (lv' := [(2, .long 2097151), (4, .int 4), (0, .ref p0), (1, .int 1)]) hx hb dX10_pack_24 rfl hl (by decide) rfl (fun ls hl => ?_)
  refine lv_iinc (v := 5) (lv' := [(4, .int 5), (2, .long 2097151), (0, .ref p0), (1, .int 1)]) hx hb dX10_pack_25 hl (k := 1) rfl (by decide +kernel) (by decide) rfl (fun ls hl => ?_)
  refine lv_goto (tgt := 6) hx hb dX10_pack_28 (by decide) ?_
  refine lv_iload hx hb dX10_pack_6 (lv_at hl 0 rfl) ?_
  refine lv_bipush (v := 7) hx hb dX10_pack_8 (by decide +kernel) ?_
  refine lv_icmp_ge (tgt := 31) hx hb dX10_pack_10 (by decide) (fun q => absurd (q) (by decide +kernel)) (fun _ => ?_)
  refine lv_ldc2 (v := 16) hx hb hown h0w dX10_pack_13 ?_
  refine lv_lload_n hx hb dX10_pack_16 rfl (lv_at hl 1 rfl) ?_
  refine lv_lmul hx hb dX10_pack_17 ?_
  refine cz_tl (w := 33554416) (by decide +kernel) ?_
  refine lv_aload_n hx hb dX10_pack_18 rfl (lv_at hl 2 rfl) ?_
  refine lv_iload hx hb dX10_pack_19 (lv_at hl 0 rfl) ?_
  refine va_iald hx hb hX.1 hP 0 0 rfl rfl (by unfold vp_in; decide +kernel) dX10_pack_21 ?_
  refine cz_ti (w := 15) (by rfl) ?_
  refine lv_i2l (v := 15) hx hb dX10_pack_22 (by decide +kernel) ?_
  refine lv_ladd hx hb dX10_pack_23 ?_
  refine cz_tl (w := 33554431) (by decide +kernel) ?_
  refine lv_lstore_n (lv' := [(2, .long 33554431), (4, .int 5), (0, .ref p0), (1, .int 1)]) hx hb dX10_pack_24 rfl hl (by decide) rfl (fun ls hl => ?_)
  refine lv_iinc (v := 6) (lv' := [(4, .int 6), (2, .long 33554431), (0, .ref p0), (1, .int 1)]) hx hb dX10_pack_25 hl (k := 1) rfl (by decide +kernel) (by decide) rfl (fun ls hl => ?_)
  refine lv_goto (tgt := 6) hx hb dX10_pack_28 (by decide) ?_
  refine lv_iload hx hb dX10_pack_6 (lv_at hl 0 rfl) ?_
  refine lv_bipush (v := 7) hx hb dX10_pack_8 (by decide +kernel) ?_
  refine lv_icmp_ge (tgt := 31) hx hb dX10_pack_10 (by decide) (fun q => absurd (q) (by decide +kernel)) (fun _ => ?_)
  refine lv_ldc2 (v := 16) hx hb hown h0w dX10_pack_13 ?_
  refine lv_lload_n hx hb dX10_pack_16 rfl (lv_at hl 1 rfl) ?_
  refine lv_lmul hx hb dX10_pack_17 ?_
  refine cz_tl (w := 536870896) (by decide +kernel) ?_
  refine lv_aload_n hx hb dX10_pack_18 rfl (lv_at hl 2 rfl) ?_
  refine lv_iload hx hb dX10_pack_19 (lv_at hl 0 rfl) ?_
  refine va_iald hx hb hX.1 hP 0 0 rfl rfl (by unfold vp_in; decide +kernel) dX10_pack_21 ?_
  refine cz_ti (w := 15) (by rfl) ?_
  refine lv_i2l (v := 15) hx hb dX10_pack_22 (by decide +kernel) ?_
  refine lv_ladd hx hb dX10_pack_23 ?_
  refine cz_tl (w := 536870911) (by decide +kernel) ?_
  refine lv_lstore_n (lv' := [(2, .long 536870911), (4, .int 6), (0, .ref p0), (1, .int 1)]) hx hb dX10_pack_24 rfl hl (by decide) rfl (fun ls hl => ?_)
  refine lv_iinc (v := 7) (lv' := [(4, .int 7), (2, .long 536870911), (0, .ref p0), (1, .int 1)]) hx hb dX10_pack_25 hl (k := 1) rfl (by decide +kernel) (by decide) rfl (fun ls hl => ?_)
  refine lv_goto (tgt := 6) hx hb dX10_pack_28 (by decide) ?_
  refine lv_iload hx hb dX10_pack_6 (lv_at hl 0 rfl) ?_
  refine lv_bipush (v := 7) hx hb dX10_pack_8 (by decide +kernel) ?_
  refine lv_icmp_ge (tgt := 31) hx hb dX10_pack_10 (by decide) (fun _ => ?_) (fun q => absurd (by decide +kernel) (q))
  refine lv_lload_n hx hb dX10_pack_31 rfl (lv_at hl 1 rfl) ?_
  have hP9 := hP.sub (ws' := [(p0, .inl (k 0, 7, .inl (upd (upd (upd (upd (upd (upd (upd (upd (upd (upd (upd (upd (upd (upd (fun _ => 0) (0 : Int32).toNatClampNeg 15) (1 : Int32).toNatClampNeg 15) (2 : Int32).toNatClampNeg 15) (3 : Int32).toNatClampNeg 15) (4 : Int32).toNatClampNeg 15) (5 : Int32).toNatClampNeg 15) (6 : Int32).toNatClampNeg 15) (0 : Int32).toNatClampNeg 15) (1 : Int32).toNatClampNeg 15) (2 : Int32).toNatClampNeg 15) (3 : Int32).toNatClampNeg 15) (4 : Int32).toNatClampNeg 15) (5 : Int32).toNatClampNeg 15) (6 : Int32).toNatClampNeg 15)))]) [0] rfl
  have hD9 := hD.sub (ws' := [(p0, .inl (k 0, 7, .inl (upd (upd (upd (upd (upd (upd (upd (upd (upd (upd (upd (upd (upd (upd (fun _ => 0) (0 : Int32).toNatClampNeg 15) (1 : Int32).toNatClampNeg 15) (2 : Int32).toNatClampNeg 15) (3 : Int32).toNatClampNeg 15) (4 : Int32).toNatClampNeg 15) (5 : Int32).toNatClampNeg 15) (6 : Int32).toNatClampNeg 15) (0 : Int32).toNatClampNeg 15) (1 : Int32).toNatClampNeg 15) (2 : Int32).toNatClampNeg 15) (3 : Int32).toNatClampNeg 15) (4 : Int32).toNatClampNeg 15) (5 : Int32).toNatClampNeg 15) (6 : Int32).toNatClampNeg 15)))]) [0] (by decide) rfl
  exact W.lret (v := 536870911) hx hb hr (fun t ht hW => ⟨⟨536870911, (), rfl, rfl, by rw [ht]; exact hP9, hD9⟩, hS.F ht⟩) hS.2.2 dX10_pack_32

set_option maxHeartbeats 4000000 in
set_option maxRecDepth 100000 in
theorem cX10_foldOf_1 (l : Launch) (G : va_G) (k : Nat → ClassId) (sz : Nat) : CMi l G k yX10_foldOf wsX10_foldOf ({ frames := 0, cells := 0, slots := 0, locals := 0 }) [.long 536870911] sz [] (fun r (u : Unit) => r = 4662) (fun (u : Unit) => []) := by
  refine Met.ofW (cc := cX10_foldOf) (maxL := 4) (ret := (some .int)) (by decide) rfl ?_
  intro p e s m args below meth c s₁ B hml hv
  obtain ⟨rfl, hsz, hP, hX, hD0, hZ0⟩ := hv
  have hx := B.exec
  have hb := B.bytes
  have hr := B.returns
  have hts := atoms_spec (ws := wsX10_foldOf) B.pre
  have hown : s.vm.findClass RX10 = some m.cls := findClass_of_methodNamed B.named
  subst hsz
  have hD := hD0.self (sz := s.heap.size)
  have hZ := ZX.up hP hZ0
  generalize hAe : va_A [] s.heap.size = A at hD hZ ⊢
  have hA : ∀ q : Nat, s.heap.size ≤ q → A q := fun q h => by rw [← hAe]; exact Or.inr h
  have hS : va_S A s.heap s.heap [] := va_S.rf
  have hP : va_P G vwCl [] s.heap := hP
  have hl := lv_entry ([.long 536870911]) (n := 4) (Nat.le_of_ble_eq_true rfl)
  rw [lg_entry_eq]
  generalize (lg_sl ([.long 536870911]) ++ List.replicate (4 - (lg_sl ([.long 536870911])).length) Slot.unset).toArray = ls at hl ⊢
  have hl : lv_has ls 4 [(0, .long 536870911)] := hl
  have h0w := hts (.constantLong RX10 430 (-7046029254386353131)) (by decide +kernel)
  refine lv_lload_n hx hb dX10_foldOf_0 rfl (lv_at hl 0 rfl) ?_
  refine lv_ldc2 (v := (-7046029254386353131)) hx hb hown h0w dX10_foldOf_1 ?_
  refine lv_lmul hx hb dX10_foldOf_4 ?_
  refine cz_tl (w := (-7948336807518305301)) (by decide +kernel) ?_
  refine lv_lstore_n (lv' := [(2, .long (-7948336807518305301)), (0, .long 536870911)]) hx hb dX10_foldOf_5 rfl hl (by decide) rfl (fun ls hl => ?_)
  refine lv_lload_n hx hb dX10_foldOf_6 rfl (lv_at hl 0 rfl) ?_
  refine lv_bipush (v := 51) hx hb dX10_foldOf_7 (by decide +kernel) ?_
  refine lv_lushr (v := 4662) hx hb dX10_foldOf_9 (by decide +kernel) ?_
  refine lv_l2i (v := 4662) hx hb dX10_foldOf_10 (by decide +kernel) ?_
  have hP9 := hP.sub (ws' := []) [] rfl
  have hD9 := hD.sub (ws' := []) [] (by decide) rfl
  exact W.iret (v := 4662) hx hb hr (fun t ht hW => ⟨⟨4662, (), rfl, rfl, by rw [ht]; exact hP9, hD9⟩, hS.F ht⟩) hS.2.2 dX10_foldOf_11

set_option maxHeartbeats 4000000 in
set_option maxRecDepth 100000 in
theorem cX10_come_1 (l : Launch) (G : va_G) (k : Nat → ClassId) (p0 : Nat) (v1 : Value) (v2 : Value) (v3 : Value) (v4 : Value) (v5 : Value) (v6 : Value) (v7 : Value) (v8 : Value) (v9 : Value) (v10 : Value) (v11 : Value) (v12 : Value) (v13 : Value) (v14 : Value) (v15 : Value) (v16 : Value) (v17 : Value) (v18 : Value) (v19 : Value) (v20 : Value) (v21 : Value) (v22 : Value) (v23 : Value) (v24 : Value) (v25 : Value) (v26 : Value) (v27 : Value) (v28 : Value) (v29 : Value) (v30 : Value) (v31 : Value) (v32 : Value) (v33 : Value) (v34 : Value) (v35 : Value) (v36 : Value) (v37 : Value) (v38 : Value) (v39 : Value) (v40 : Value) (v41 : Value) (v42 : Value) (v43 : Value) (v44 : Value) (v45 : Value) (p46 : Nat) (p47 : Nat) (p48 : Nat) (p49 : Nat) (p50 : Nat) (v51 : Value) (v52 : Value) (v53 : Value) (v54 : Value) (v55 : Value) (v56 : Value) (v57 : Value) (v58 : Value) (v59 : Value) (v60 : Value) (v61 : Value) (v62 : Value) (v63 : Value) (v64 : Value) (v65 : Value) (v66 : Value) (v67 : Value) (v68 : Value) (v69 : Value) (v70 : Value) (f71 : Nat → Int64) (f72 : Nat → Int32) (f73 : Nat → Int32) (f74 : Nat → Int32) (sz : Nat) : CMv l G k yX10_come wsX10_come ({ frames := 1, cells := 0, slots := 0, locals := 23 }) [.ref p0, .long 536870911, .int 1] sz [(p0, .inr (7, (v1 :: v2 :: v3 :: v4 :: v5 :: v6 :: v7 :: v8 :: v9 :: v10 :: v11 :: v12 :: v13 :: v14 :: v15 :: v16 :: v17 :: v18 :: v19 :: v20 :: v21 :: v22 :: v23 :: v24 :: v25 :: v26 :: v27 :: v28 :: v29 :: v30 :: v31 :: v32 :: v33 :: v34 :: v35 :: v36 :: v37 :: v38 :: v39 :: v40 :: v41 :: v42 :: v43 :: v44 :: v45 :: .ref p46 :: .ref p47 :: .ref p48 :: .ref p49 :: .ref p50 :: .int 1 :: v51 :: v52 :: v53 :: v54 :: v55 :: v56 :: v57 :: v58 :: v59 :: v60 :: v61 :: v62 :: v63 :: v64 :: v65 :: v66 :: v67 :: v68 :: v69 :: v70 :: []))), (p49, .inl (k 0, 8192, .inl (upd (fun _ => (-1)) (7991 : Int32).toNatClampNeg 0))), (p46, .inl (k 2, 1501, .inr (.inl f71))), (p47, .inl (k 0, 1501, .inl f72)), (p50, .inl (k 3, 1501, .inl f73)), (p48, .inl (k 0, 1501, .inl f74))] (fun (u : Unit) => True) (fun (u : Unit) => [(p0, .inr (7, (v1 :: v2 :: v3 :: v4 :: v5 :: v6 :: v7 :: v8 :: v9 :: v10 :: v11 :: v12 :: v13 :: v14 :: v15 :: v16 :: v17 :: v18 :: v19 :: v20 :: v21 :: v22 :: v23 :: v24 :: v25 :: v26 :: v27 :: v28 :: v29 :: v30 :: v31 :: v32 :: v33 :: v34 :: v35 :: v36 :: v37 :: v38 :: v39 :: v40 :: v41 :: v42 :: v43 :: v44 :: v45 :: .ref p46 :: .ref p47 :: .ref p48 :: .ref p49 :: .ref p50 :: .int 2 :: v51 :: v52 :: v53 :: v54 :: v55 :: v56 :: v57 :: v58 :: v59 :: v60 :: v61 :: v62 :: v63 :: v64 :: v65 :: v66 :: v67 :: v68 :: v69 :: v70 :: []))), (p49, .inl (k 0, 8192, .inl (upd (upd (fun _ => (-1)) (7991 : Int32).toNatClampNeg 0) (4662 : Int32).toNatClampNeg 1))), (p46, .inl (k 2, 1501, .inr (.inl (vp_updL f71 (1 : Int32).toNatClampNeg 536870911)))), (p47, .inl (k 0, 1501, .inl (upd f72 (1 : Int32).toNatClampNeg 1))), (p50, .inl (k 3, 1501, .inl (upd f73 (1 : Int32).toNatClampNeg (vp_nar .boolean 0)))), (p48, .inl (k 0, 1501, .inl (upd f74 (1 : Int32).toNatClampNeg (-1))))]) := by
  refine Met.ofW (cc := cX10_come) (maxL := 6) (ret := none) (by decide) rfl ?_
  intro p e s m args below meth c s₁ B hml hv
  obtain ⟨rfl, hsz, hP, hX, hD0, hZ0⟩ := hv
  have hx := B.exec
  have hb := B.bytes
  have hr := B.returns
  have hts := atoms_spec (ws := wsX10_come) B.pre
  have hown : s.vm.findClass RX10 = some m.cls := findClass_of_methodNamed B.named
  subst hsz
  have hD := hD0.self (sz := s.heap.size)
  have hZ := ZX.up hP hZ0
  generalize hAe : va_A [(p0, .inr (7, (v1 :: v2 :: v3 :: v4 :: v5 :: v6 :: v7 :: v8 :: v9 :: v10 :: v11 :: v12 :: v13 :: v14 :: v15 :: v16 :: v17 :: v18 :: v19 :: v20 :: v21 :: v22 :: v23 :: v24 :: v25 :: v26 :: v27 :: v28 :: v29 :: v30 :: v31 :: v32 :: v33 :: v34 :: v35 :: v36 :: v37 :: v38 :: v39 :: v40 :: v41 :: v42 :: v43 :: v44 :: v45 :: .ref p46 :: .ref p47 :: .ref p48 :: .ref p49 :: .ref p50 :: .int 1 :: v51 :: v52 :: v53 :: v54 :: v55 :: v56 :: v57 :: v58 :: v59 :: v60 :: v61 :: v62 :: v63 :: v64 :: v65 :: v66 :: v67 :: v68 :: v69 :: v70 :: []))), (p49, .inl (k 0, 8192, .inl (upd (fun _ => (-1)) (7991 : Int32).toNatClampNeg 0))), (p46, .inl (k 2, 1501, .inr (.inl f71))), (p47, .inl (k 0, 1501, .inl f72)), (p50, .inl (k 3, 1501, .inl f73)), (p48, .inl (k 0, 1501, .inl f74))] s.heap.size = A at hD hZ ⊢
  have hA : ∀ q : Nat, s.heap.size ≤ q → A q := fun q h => by rw [← hAe]; exact Or.inr h
  have hS : va_S A s.heap s.heap [] := va_S.rf
  have hP : va_P G vwCl [(p0, .inr (7, (v1 :: v2 :: v3 :: v4 :: v5 :: v6 :: v7 :: v8 :: v9 :: v10 :: v11 :: v12 :: v13 :: v14 :: v15 :: v16 :: v17 :: v18 :: v19 :: v20 :: v21 :: v22 :: v23 :: v24 :: v25 :: v26 :: v27 :: v28 :: v29 :: v30 :: v31 :: v32 :: v33 :: v34 :: v35 :: v36 :: v37 :: v38 :: v39 :: v40 :: v41 :: v42 :: v43 :: v44 :: v45 :: .ref p46 :: .ref p47 :: .ref p48 :: .ref p49 :: .ref p50 :: .int 1 :: v51 :: v52 :: v53 :: v54 :: v55 :: v56 :: v57 :: v58 :: v59 :: v60 :: v61 :: v62 :: v63 :: v64 :: v65 :: v66 :: v67 :: v68 :: v69 :: v70 :: []))), (p49, .inl (k 0, 8192, .inl (upd (fun _ => (-1)) (7991 : Int32).toNatClampNeg 0))), (p46, .inl (k 2, 1501, .inr (.inl f71))), (p47, .inl (k 0, 1501, .inl f72)), (p50, .inl (k 3, 1501, .inl f73)), (p48, .inl (k 0, 1501, .inl f74))] s.heap := hP
  have hl := lv_entry ([.ref p0, .long 536870911, .int 1]) (n := 6) (Nat.le_of_ble_eq_true rfl)
  rw [lg_entry_eq]
  generalize (lg_sl ([.ref p0, .long 536870911, .int 1]) ++ List.replicate (6 - (lg_sl ([.ref p0, .long 536870911, .int 1])).length) Slot.unset).toArray = ls at hl ⊢
  have hl : lv_has ls 6 [(0, .ref p0), (1, .long 536870911), (3, .int 1)] := hl
  have h0w := hts (.fieldLink RX10 127 "RopeTownModel" "heads" "[I") (by decide +kernel)
  have h1w : ∀ w ∈ wsX100, w ∈ wsX10_come := by decide +kernel
  have h2w := hts (.fieldLink RX10 436 "RopeTownModel" "states" "I") (by decide +kernel)
  have h3w := hts (.fieldLink RX10 117 "RopeTownModel" "state" "[J") (by decide +kernel)
  have h4w := hts (.fieldLink RX10 121 "RopeTownModel" "far" "[I") (by decide +kernel)
  have h5w := hts (.fieldLink RX10 130 "RopeTownModel" "isDone" "[Z") (by decide +kernel)
  have h6w := hts (.fieldLink RX10 124 "RopeTownModel" "next" "[I") (by decide +kernel)
  refine lv_lload_n hx hb dX10_come_0 rfl (lv_at hl 1 rfl) ?_
  refine cz_i (wr := [(p0, .inr (7, (v1 :: v2 :: v3 :: v4 :: v5 :: v6 :: v7 :: v8 :: v9 :: v10 :: v11 :: v12 :: v13 :: v14 :: v15 :: v16 :: v17 :: v18 :: v19 :: v20 :: v21 :: v22 :: v23 :: v24 :: v25 :: v26 :: v27 :: v28 :: v29 :: v30 :: v31 :: v32 :: v33 :: v34 :: v35 :: v36 :: v37 :: v38 :: v39 :: v40 :: v41 :: v42 :: v43 :: v44 :: v45 :: .ref p46 :: .ref p47 :: .ref p48 :: .ref p49 :: .ref p50 :: .int 1 :: v51 :: v52 :: v53 :: v54 :: v55 :: v56 :: v57 :: v58 :: v59 :: v60 :: v61 :: v62 :: v63 :: v64 :: v65 :: v66 :: v67 :: v68 :: v69 :: v70 :: []))), (p49, .inl (k 0, 8192, .inl (upd (fun _ => (-1)) (7991 : Int32).toNatClampNeg 0))), (p46, .inl (k 2, 1501, .inr (.inl f71))), (p47, .inl (k 0, 1501, .inl f72)), (p50, .inl (k 3, 1501, .inl f73)), (p48, .inl (k 0, 1501, .inl f74))]) (va_runS (As := [.long 536870911]) (rest := []) ⟨hx, hb, hml, hown, hts⟩ (cX10_foldOf_1 l G k s.heap.size) (cwS 1 hts gX10_come_X10_foldOf rfl rfl rfl (by decide +kernel) ⟨Nat.le_of_ble_eq_true rfl, Nat.le_of_ble_eq_true rfl⟩) (cz_preS hZ hS hX hP hD [] rfl rfl) rfl rfl hl.1 rfl (lv_room (Nat.le_of_ble_eq_true rfl)) dX10_come_1 ⟨Nat.le_of_ble_eq_true rfl, Nat.le_of_ble_eq_true rfl⟩) hP hD hS hA [] [0, 1, 2, 3, 4, 5] rfl rfl (by decide) (by decide) (fun r u H locs hp hP hD hS => ?_)
  have hp : r = 4662 := hp
  subst hp
  refine lv_istore (lv' := [(4, .int 4662), (0, .ref p0), (1, .long 536870911), (3, .int 1)]) hx hb dX10_come_4 hl (by decide) rfl (fun ls hl => ?_)
  refine lv_aload_n hx hb dX10_come_6 rfl (lv_at hl 1 rfl) ?_
  refine va_get (D := G) (ci := 7) (v := .ref p49) (C := RX10) (T := TX10) (N := 71) (ref := RX10) hx hb hts h1w hown hX.1 hP 0 rfl rfl 48 (by decide) h0w (fun _ h9 => h9) rfl dX10_come_7 ?_
  refine lv_iload hx hb dX10_come_10 (lv_at hl 0 rfl) ?_
  refine va_iald hx hb hX.1 hP 1 0 rfl rfl (by unfold vp_in; decide +kernel) dX10_come_12 ?_
  refine cz_ti (w := (-1)) (by rfl) ?_
  refine lv_istore (lv' := [(5, .int (-1)), (4, .int 4662), (0, .ref p0), (1, .long 536870911), (3, .int 1)]) hx hb dX10_come_13 hl (by decide) rfl (fun ls hl => ?_)
  refine lv_iload hx hb dX10_come_15 (lv_at hl 0 rfl) ?_
  refine lv_iconst (v := (-1)) hx hb dX10_come_17 (by decide +kernel) ?_
  refine lv_icmp_eq (tgt := 67) hx hb dX10_come_18 (by decide) (fun _ => ?_) (fun q => absurd (by decide +kernel) (q))
  refine lv_aload_n hx hb dX10_come_67 rfl (lv_at hl 2 rfl) ?_
  refine va_get (D := G) (ci := 7) (v := .int 1) (C := RX10) (T := TX10) (N := 71) (ref := RX10) hx hb hts h1w hown hX.1 hP 0 rfl rfl 50 (by decide) h2w (fun _ h9 => h9) rfl dX10_come_68 ?_
  refine lv_sipush (v := 1500) hx hb dX10_come_71 (by decide +kernel) ?_
  refine lv_icmp_ne (tgt := 83) hx hb dX10_come_74 (by decide) (fun _ => ?_) (fun q => absurd (q) (by decide +kernel))
  refine lv_aload_n hx hb dX10_come_83 rfl (lv_at hl 2 rfl) ?_
  refine va_get (D := G) (ci := 7) (v := .ref p46) (C := RX10) (T := TX10) (N := 71) (ref := RX10) hx hb hts h1w hown hX.1 hP 0 rfl rfl 45 (by decide) h3w (fun _ h9 => h9) rfl dX10_come_84 ?_
  refine lv_aload_n hx hb dX10_come_87 rfl (lv_at hl 2 rfl) ?_
  refine va_get (D := G) (ci := 7) (v := .int 1) (C := RX10) (T := TX10) (N := 71) (ref := RX10) hx hb hts h1w hown hX.1 hP 0 rfl rfl 50 (by decide) h2w (fun _ h9 => h9) rfl dX10_come_88 ?_
  refine lv_lload_n hx hb dX10_come_91 rfl (lv_at hl 3 rfl) ?_
  refine va_last hx hb hX.1 hP hD hS 2 2 rfl rfl (by unfold vp_in; decide +kernel) dX10_come_92 (fun H locs hP hD hS => ?_)
  refine lv_aload_n hx hb dX10_come_93 rfl (lv_at hl 2 rfl) ?_
  refine va_get (D := G) (ci := 7) (v := .ref p47) (C := RX10) (T := TX10) (N := 71) (ref := RX10) hx hb hts h1w hown hX.1 hP 0 rfl rfl 46 (by decide) h4w (fun _ h9 => h9) rfl dX10_come_94 ?_
  refine lv_aload_n hx hb dX10_come_97 rfl (lv_at hl 2 rfl) ?_
  refine va_get (D := G) (ci := 7) (v := .int 1) (C := RX10) (T := TX10) (N := 71) (ref := RX10) hx hb hts h1w hown hX.1 hP 0 rfl rfl 50 (by decide) h2w (fun _ h9 => h9) rfl dX10_come_98 ?_
  refine lv_iload_n hx hb dX10_come_101 rfl (lv_at hl 4 rfl) ?_
  refine va_iast hx hb hX.1 hP hD hS 3 0 rfl rfl (by unfold vp_in; decide +kernel) dX10_come_102 (fun H locs hP hD hS => ?_)
  refine lv_aload_n hx hb dX10_come_103 rfl (lv_at hl 2 rfl) ?_
  refine va_get (D := G) (ci := 7) (v := .ref p50) (C := RX10) (T := TX10) (N := 71) (ref := RX10) hx hb hts h1w hown hX.1 hP 0 rfl rfl 49 (by decide) h5w (fun _ h9 => h9) rfl dX10_come_104 ?_
  refine lv_aload_n hx hb dX10_come_107 rfl (lv_at hl 2 rfl) ?_
  refine va_get (D := G) (ci := 7) (v := .int 1) (C := RX10) (T := TX10) (N := 71) (ref := RX10) hx hb hts h1w hown hX.1 hP 0 rfl rfl 50 (by decide) h2w (fun _ h9 => h9) rfl dX10_come_108 ?_
  refine lv_iconst (v := 0) hx hb dX10_come_111 (by decide +kernel) ?_
  refine va_zast hx hb hX.1 hP hD hS 4 3 rfl rfl (by unfold vp_in; decide +kernel) dX10_come_112 (fun H locs hP hD hS => ?_)
  refine lv_aload_n hx hb dX10_come_113 rfl (lv_at hl 2 rfl) ?_
  refine va_get (D := G) (ci := 7) (v := .ref p48) (C := RX10) (T := TX10) (N := 71) (ref := RX10) hx hb hts h1w hown hX.1 hP 0 rfl rfl 47 (by decide) h6w (fun _ h9 => h9) rfl dX10_come_114 ?_
  refine lv_aload_n hx hb dX10_come_117 rfl (lv_at hl 2 rfl) ?_
  refine va_get (D := G) (ci := 7) (v := .int 1) (C := RX10) (T := TX10) (N := 71) (ref := RX10) hx hb hts h1w hown hX.1 hP 0 rfl rfl 50 (by decide) h2w (fun _ h9 => h9) rfl dX10_come_118 ?_
  refine lv_aload_n hx hb dX10_come_121 rfl (lv_at hl 2 rfl) ?_
  refine va_get (D := G) (ci := 7) (v := .ref p49) (C := RX10) (T := TX10) (N := 71) (ref := RX10) hx hb hts h1w hown hX.1 hP 0 rfl rfl 48 (by decide) h0w (fun _ h9 => h9) rfl dX10_come_122 ?_
  refine lv_iload hx hb dX10_come_125 (lv_at hl 1 rfl) ?_
  refine va_iald hx hb hX.1 hP 1 0 rfl rfl (by unfold vp_in; decide +kernel) dX10_come_127 ?_
  refine cz_ti (w := (-1)) (by rfl) ?_
  refine va_iast hx hb hX.1 hP hD hS 5 0 rfl rfl (by unfold vp_in; decide +kernel) dX10_come_128 (fun H locs hP hD hS => ?_)
  refine lv_aload_n hx hb dX10_come_129 rfl (lv_at hl 2 rfl) ?_
  refine va_get (D := G) (ci := 7) (v := .ref p49) (C := RX10) (T := TX10) (N := 71) (ref := RX10) hx hb hts h1w hown hX.1 hP 0 rfl rfl 48 (by decide) h0w (fun _ h9 => h9) rfl dX10_come_130 ?_
  refine lv_iload hx hb dX10_come_133 (lv_at hl 1 rfl) ?_
  refine lv_aload_n hx hb dX10_come_135 rfl (lv_at hl 2 rfl) ?_
  refine va_get (D := G) (ci := 7) (v := .int 1) (C := RX10) (T := TX10) (N := 71) (ref := RX10) hx hb hts h1w hown hX.1 hP 0 rfl rfl 50 (by decide) h2w (fun _ h9 => h9) rfl dX10_come_136 ?_
  refine va_iast hx hb hX.1 hP hD hS 1 0 rfl rfl (by unfold vp_in; decide +kernel) dX10_come_139 (fun H locs hP hD hS => ?_)
  obtain ⟨hP, hD⟩ : va_P G vwCl [(p0, .inr (7, (v1 :: v2 :: v3 :: v4 :: v5 :: v6 :: v7 :: v8 :: v9 :: v10 :: v11 :: v12 :: v13 :: v14 :: v15 :: v16 :: v17 :: v18 :: v19 :: v20 :: v21 :: v22 :: v23 :: v24 :: v25 :: v26 :: v27 :: v28 :: v29 :: v30 :: v31 :: v32 :: v33 :: v34 :: v35 :: v36 :: v37 :: v38 :: v39 :: v40 :: v41 :: v42 :: v43 :: v44 :: v45 :: .ref p46 :: .ref p47 :: .ref p48 :: .ref p49 :: .ref p50 :: .int 1 :: v51 :: v52 :: v53 :: v54 :: v55 :: v56 :: v57 :: v58 :: v59 :: v60 :: v61 :: v62 :: v63 :: v64 :: v65 :: v66 :: v67 :: v68 :: v69 :: v70 :: []))), (p49, .inl (k 0, 8192, .inl (upd (upd (fun _ => (-1)) (7991 : Int32).toNatClampNeg 0) (4662 : Int32).toNatClampNeg 1))), (p46, .inl (k 2, 1501, .inr (.inl (vp_updL f71 (1 : Int32).toNatClampNeg 536870911)))), (p47, .inl (k 0, 1501, .inl (upd f72 (1 : Int32).toNatClampNeg 1))), (p50, .inl (k 3, 1501, .inl (upd f73 (1 : Int32).toNatClampNeg (vp_nar .boolean 0)))), (p48, .inl (k 0, 1501, .inl (upd f74 (1 : Int32).toNatClampNeg (-1))))] H ∧ va_D A [(p0, .inr (7, (v1 :: v2 :: v3 :: v4 :: v5 :: v6 :: v7 :: v8 :: v9 :: v10 :: v11 :: v12 :: v13 :: v14 :: v15 :: v16 :: v17 :: v18 :: v19 :: v20 :: v21 :: v22 :: v23 :: v24 :: v25 :: v26 :: v27 :: v28 :: v29 :: v30 :: v31 :: v32 :: v33 :: v34 :: v35 :: v36 :: v37 :: v38 :: v39 :: v40 :: v41 :: v42 :: v43 :: v44 :: v45 :: .ref p46 :: .ref p47 :: .ref p48 :: .ref p49 :: .ref p50 :: .int 1 :: v51 :: v52 :: v53 :: v54 :: v55 :: v56 :: v57 :: v58 :: v59 :: v60 :: v61 :: v62 :: v63 :: v64 :: v65 :: v66 :: v67 :: v68 :: v69 :: v70 :: []))), (p49, .inl (k 0, 8192, .inl (upd (upd (fun _ => (-1)) (7991 : Int32).toNatClampNeg 0) (4662 : Int32).toNatClampNeg 1))), (p46, .inl (k 2, 1501, .inr (.inl (vp_updL f71 (1 : Int32).toNatClampNeg 536870911)))), (p47, .inl (k 0, 1501, .inl (upd f72 (1 : Int32).toNatClampNeg 1))), (p50, .inl (k 3, 1501, .inl (upd f73 (1 : Int32).toNatClampNeg (vp_nar .boolean 0)))), (p48, .inl (k 0, 1501, .inl (upd f74 (1 : Int32).toNatClampNeg (-1))))] := ⟨hP, hD⟩
  refine lv_aload_n hx hb dX10_come_140 rfl (lv_at hl 2 rfl) ?_
  refine lv_dup hx hb dX10_come_141 rfl ?_
  refine va_get (D := G) (ci := 7) (v := .int 1) (C := RX10) (T := TX10) (N := 71) (ref := RX10) hx hb hts h1w hown hX.1 hP 0 rfl rfl 50 (by decide) h2w (fun _ h9 => h9) rfl dX10_come_142 ?_
  refine lv_iconst (v := 1) hx hb dX10_come_145 (by decide +kernel) ?_
  refine lv_iadd hx hb dX10_come_146 ?_
  refine cz_ti (w := 2) (by decide +kernel) ?_
  refine va_put (D := G) (ci := 7) (v := .int 2) (ty := .int) (C := RX10) (T := TX10) (N := 71) (ref := RX10) hx hb hts h1w tyX10 tyX10_ok nmX10 hown hX.1 hP hD hS 0 rfl rfl 50 (by decide) h2w (fun _ h9 => h9) rfl (by decide +kernel) rfl rfl (Nat.le_of_ble_eq_true rfl) dX10_come_147 (fun H locs hP hD hS => ?_)
  have hP9 := hP.sub (ws' := [(p0, .inr (7, (v1 :: v2 :: v3 :: v4 :: v5 :: v6 :: v7 :: v8 :: v9 :: v10 :: v11 :: v12 :: v13 :: v14 :: v15 :: v16 :: v17 :: v18 :: v19 :: v20 :: v21 :: v22 :: v23 :: v24 :: v25 :: v26 :: v27 :: v28 :: v29 :: v30 :: v31 :: v32 :: v33 :: v34 :: v35 :: v36 :: v37 :: v38 :: v39 :: v40 :: v41 :: v42 :: v43 :: v44 :: v45 :: .ref p46 :: .ref p47 :: .ref p48 :: .ref p49 :: .ref p50 :: .int 2 :: v51 :: v52 :: v53 :: v54 :: v55 :: v56 :: v57 :: v58 :: v59 :: v60 :: v61 :: v62 :: v63 :: v64 :: v65 :: v66 :: v67 :: v68 :: v69 :: v70 :: []))), (p49, .inl (k 0, 8192, .inl (upd (upd (fun _ => (-1)) (7991 : Int32).toNatClampNeg 0) (4662 : Int32).toNatClampNeg 1))), (p46, .inl (k 2, 1501, .inr (.inl (vp_updL f71 (1 : Int32).toNatClampNeg 536870911)))), (p47, .inl (k 0, 1501, .inl (upd f72 (1 : Int32).toNatClampNeg 1))), (p50, .inl (k 3, 1501, .inl (upd f73 (1 : Int32).toNatClampNeg (vp_nar .boolean 0)))), (p48, .inl (k 0, 1501, .inl (upd f74 (1 : Int32).toNatClampNeg (-1))))]) [0, 1, 2, 3, 4, 5] rfl
  have hD9 := hD.sub (ws' := [(p0, .inr (7, (v1 :: v2 :: v3 :: v4 :: v5 :: v6 :: v7 :: v8 :: v9 :: v10 :: v11 :: v12 :: v13 :: v14 :: v15 :: v16 :: v17 :: v18 :: v19 :: v20 :: v21 :: v22 :: v23 :: v24 :: v25 :: v26 :: v27 :: v28 :: v29 :: v30 :: v31 :: v32 :: v33 :: v34 :: v35 :: v36 :: v37 :: v38 :: v39 :: v40 :: v41 :: v42 :: v43 :: v44 :: v45 :: .ref p46 :: .ref p47 :: .ref p48 :: .ref p49 :: .ref p50 :: .int 2 :: v51 :: v52 :: v53 :: v54 :: v55 :: v56 :: v57 :: v58 :: v59 :: v60 :: v61 :: v62 :: v63 :: v64 :: v65 :: v66 :: v67 :: v68 :: v69 :: v70 :: []))), (p49, .inl (k 0, 8192, .inl (upd (upd (fun _ => (-1)) (7991 : Int32).toNatClampNeg 0) (4662 : Int32).toNatClampNeg 1))), (p46, .inl (k 2, 1501, .inr (.inl (vp_updL f71 (1 : Int32).toNatClampNeg 536870911)))), (p47, .inl (k 0, 1501, .inl (upd f72 (1 : Int32).toNatClampNeg 1))), (p50, .inl (k 3, 1501, .inl (upd f73 (1 : Int32).toNatClampNeg (vp_nar .boolean 0)))), (p48, .inl (k 0, 1501, .inl (upd f74 (1 : Int32).toNatClampNeg (-1))))]) [0, 1, 2, 3, 4, 5] (by decide) rfl
  exact W.vret hx hb hr (fun t ht hW => ⟨⟨(), rfl, trivial, by rw [ht]; exact hP9, hD9⟩, hS.F ht⟩) hS.2.2 dX10_come_150

