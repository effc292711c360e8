set_option maxHeartbeats 4000000 in
set_option maxRecDepth 100000 in
theorem mX10_loadOf_44 (l : Launch) (G : va_G) (k : Nat → ClassId) (ar : Nat → Nat) (fi : Nat → Int) (fa : Nat → Int → Int) (fl : Nat → Int64) (b0 : Int) (sz : Nat) (hR : ∀ j, inR (fi j)) (hRa : ∀ j t, inR (fa j t)) (hr_b0 : inR b0) (hth : 0 ≤ fi 12 ∧ fi 12 ≤ 7) (hb : b0 = 0 ∨ b0 = 1) : CNi l G k (EZ k) yX10_loadOf wzX10_loadOf ({ frames := 1, cells := 0, slots := 0, locals := 21 }) [.ref (ar 71), .ref (ar 44), .int (Int32.ofInt (b0))] sz (wM k ar fi fa fl) (fun (r0 : Int32) (u : Int) => r0 = Int32.ofInt (u) ∧ (inR u) ∧ (u = (gs (lc (fa 44) (fa 5) b0) (fi 12)))) (fun (u : Int) => (wM k ar fi fa fl)) := by
  refine Met.ofW (cc := cX10_loadOf) (maxL := 5) (ret := (some .int)) (by decide) rfl ?_
  intro p e s m args below meth c s₁ B hml hv
  obtain ⟨rfl, hsz, hP, hX, hD0, hZ0⟩ := hv
  have hx := B.exec
  have hb := B.bytes
  have hr := B.returns
  have hts := atoms_spec (ws := wzX10_loadOf) B.pre
  have hown : s.vm.findClass RX10 = some m.cls := findClass_of_methodNamed B.named
  subst hsz
  have hD := hD0.self (sz := s.heap.size)
  have hZ := hZ0
  generalize hAe : va_A (wM k ar fi fa fl) s.heap.size = A at hD hZ ⊢
  have hA : ∀ q : Nat, s.heap.size ≤ q → A q := fun q h => by rw [← hAe]; exact Or.inr h
  have hS : va_S A s.heap s.heap [] := va_S.rf
  have hl := lv_entry ([.ref (ar 71), .ref (ar 44), .int (Int32.ofInt (b0))]) (n := 5) (Nat.le_of_ble_eq_true rfl)
  rw [lg_entry_eq]
  generalize (lg_sl ([.ref (ar 71), .ref (ar 44), .int (Int32.ofInt (b0))]) ++ List.replicate (5 - (lg_sl ([.ref (ar 71), .ref (ar 44), .int (Int32.ofInt (b0))])).length) Slot.unset).toArray = ls at hl ⊢
  have hl : lv_has ls 5 [(0, .ref (ar 71)), (1, .ref (ar 44)), (2, .int (Int32.ofInt (b0)))] := hl
  obtain ⟨H, eH⟩ : ∃ H, H = s.heap := ⟨_, rfl⟩
  rw [← eH] at hP
  have hS : va_S A s.heap H [] := by rw [eH]; exact hS
  have gW : s.heap = H := eH.symm
  refine iv_heap gW ?_
  have h0w := hts (.fieldLink RX10 174 "RopeTownModel" "things" "I") (wz_at 21 11 rfl)
  have h1w : ∀ w ∈ wsX100, w ∈ wzX10_loadOf := fun w h => List.mem_cons_of_mem _ (inlX10 w h)
  have h2w := hts (.fieldLink RX10 60 "RopeTownModel" "weight" "[I") (wz_at 6 8 rfl)
  refine lv_iconst (v := Int32.ofInt 0) hx hb dX10_loadOf_0 (by decide +kernel) ?_
  refine lv_istore_n (lv' := [(3, .int (Int32.ofInt (0))), (0, .ref (ar 71)), (1, .ref (ar 44)), (2, .int (Int32.ofInt (b0)))]) hx hb dX10_loadOf_1 rfl hl (by decide) rfl (fun ls hl => ?_)
  refine lv_iconst (v := Int32.ofInt 0) hx hb dX10_loadOf_2 (by decide +kernel) ?_
  refine lv_istore (lv' := [(4, .int (Int32.ofInt (0))), (3, .int (Int32.ofInt (0))), (0, .ref (ar 71)), (1, .ref (ar 44)), (2, .int (Int32.ofInt (b0)))]) hx hb dX10_loadOf_3 hl (by decide) rfl (fun ls hl => ?_)
  refine iv_loop (α := Int × Int) (nL := 5) (fun b9 => (wM k ar fi fa fl)) (fun b9 => [(4, .int (Int32.ofInt (b9.1))), (3, .int (Int32.ofInt (b9.2))), (0, .ref (ar 71)), (1, .ref (ar 44)), (2, .int (Int32.ofInt (b0)))]) (fun b9 => (fi 12 - b9.1).toNat) (fun b9 => inR b9.1 ∧ inR b9.2 ∧ ((0 ≤ b9.1 ∧ b9.1 ≤ fi 12) ∧ b9.2 = gs (lc (fa 44) (fa 5) b0) b9.1)) ?_ (0, 0) (show inR 0 ∧ inR 0 ∧ ((0 ≤ 0 ∧ 0 ≤ fi 12) ∧ 0 = gs (lc (fa 44) (fa 5) b0) 0) from ⟨(by omega), (by omega), (by exact ⟨by omega, gs_0 rfl (by omega)⟩)⟩) hP hD hS hl
  rintro ⟨x4_1, x3_2⟩ ih hi9 H locs ls hP hD hS hl
  obtain ⟨r_x4_1, r_x3_2, hinv⟩ : inR x4_1 ∧ inR x3_2 ∧ ((0 ≤ x4_1 ∧ x4_1 ≤ fi 12) ∧ x3_2 = gs (lc (fa 44) (fa 5) b0) x4_1) := hi9
  obtain ⟨hJ1, hJ2⟩ := hinv
  obtain ⟨hP, hD⟩ : va_P G vwCl (wM k ar fi fa fl) H ∧ va_D A (wM k ar fi fa fl) := ⟨hP, hD⟩
  have hl : lv_has ls 5 [(4, .int (Int32.ofInt (x4_1))), (3, .int (Int32.ofInt (x3_2))), (0, .ref (ar 71)), (1, .ref (ar 44)), (2, .int (Int32.ofInt (b0)))] := hl
  refine lv_iload hx hb dX10_loadOf_5 (lv_at hl 0 rfl) ?_
  refine lv_aload_n hx hb dX10_loadOf_7 rfl (lv_at hl 2 rfl) ?_
  refine va_get (D := G) (ci := 7) (v := .int (Int32.ofInt (fi 12))) (C := RX10) (T := TX10) (N := 71) (ref := RX10) hx hb hts h1w hown hX.1 hP 0 rfl rfl 12 (by decide) h0w (fun _ h9 => h9) rfl dX10_loadOf_8 ?_
  have rf12 := hR 12
  refine iv_icmp_ge (tgt := 45) hx hb (by omega) (by omega) dX10_loadOf_11 (by decide) (fun q3 => ?_) (fun q3 => ?_)
  · refine lv_iload_n hx hb dX10_loadOf_45 rfl (lv_at hl 1 rfl) ?_
    exact W.iret (v := Int32.ofInt (x3_2)) hx hb hr (fun t ht hW => ⟨⟨Int32.ofInt (x3_2), (x3_2), rfl, ⟨rfl, (show (inR x3_2) ∧ (x3_2 = (gs (lc (fa 44) (fa 5) b0) (fi 12))) from ⟨(by omega), (by rw [show fi 12 = x4_1 by omega]; exact hJ2)⟩)⟩, by rw [ht]; exact hP, hD⟩, hS.F ht⟩) hS.2.2 dX10_loadOf_46
  · refine lv_iload_n hx hb dX10_loadOf_14 rfl (lv_at hl 1 rfl) ?_
    refine lv_aload_n hx hb dX10_loadOf_15 rfl (lv_at hl 3 rfl) ?_
    refine lv_iload hx hb dX10_loadOf_16 (lv_at hl 0 rfl) ?_
    refine iv_iald hx hb hX.1 hP 20 0 rfl rfl (by omega) (by omega) (by decide) dX10_loadOf_18 ?_
    refine iv_top (fun z4 ez4 => ?_)
    have rz4 : inR z4 := ez4 ▸ (hRa 44) _
    have ez4 : z4 = (fa 44) x4_1 := ez4
    refine lv_iload_n hx hb dX10_loadOf_19 rfl (lv_at hl 4 rfl) ?_
    refine c0_i (va_runS (As := [.int (Int32.ofInt (z4)), .int (Int32.ofInt (b0))]) (rest := [.int (Int32.ofInt (x3_2))]) ⟨hx, hb, hml, hown, hts⟩ (mX10_isInBucket l G k z4 b0 H.size (by omega) (by omega) (show b0 = 0 ∨ b0 = 1 from by omega)) (cwS 2 hts (gz [.methodLink RX10 359 yX10_isInBucket, .static yX10_isInBucket, .initialized RX10] (.code yX10_isInBucket cX10_isInBucket 2 (some .boolean)) [(25, 21), (25, 22), (0, 5), (25, 23)] rfl) rfl rfl rfl (by decide +kernel) ⟨Nat.le_of_ble_eq_true rfl, Nat.le_of_ble_eq_true rfl⟩) (cr_pre0 (EZ_ok k) hZ hS hX hP hD hA) rfl rfl hl.1 rfl (lv_room (Nat.le_of_ble_eq_true rfl)) dX10_loadOf_20 ⟨Nat.le_of_ble_eq_true rfl, Nat.le_of_ble_eq_true rfl⟩) hP hD hS hA (fun r u H locs hp hP hD hS => ?_)
    obtain ⟨c5, rfl⟩ : ∃ z, z = u := ⟨_, rfl⟩
    obtain ⟨h9, rc5, hp5⟩ : r = Int32.ofInt c5 ∧ (inR c5) ∧ ((c5 = 1 ∧ z4 = 12 + b0) ∨ (c5 = 0 ∧ ¬ z4 = 12 + b0)) := hp
    subst h9
    refine iv_if_eq (tgt := 36) hx hb (by omega) dX10_loadOf_23 (by decide) (fun q6 => ?_) (fun q6 => ?_)
    · refine lv_iconst (v := Int32.ofInt 0) hx hb dX10_loadOf_36 (by decide +kernel) ?_
      refine iv_add (x := x3_2) (y := 0) hx hb dX10_loadOf_37 ?_
      refine iv_wr ?_
      refine iv_top (fun z7 ez7 => ?_)
      have rz7 : inR z7 := ez7 ▸ bWr_r _
      have hS9 := ez7
      refine lv_istore_n (lv' := [(3, .int (Int32.ofInt (z7))), (4, .int (Int32.ofInt (x4_1))), (0, .ref (ar 71)), (1, .ref (ar 44)), (2, .int (Int32.ofInt (b0)))]) hx hb dX10_loadOf_38 rfl hl (by decide) rfl (fun ls hl => ?_)
      refine lv_iinc (v := Int32.ofInt (x4_1 + 1)) (lv' := [(4, .int (Int32.ofInt ((x4_1 + 1)))), (3, .int (Int32.ofInt (z7))), (0, .ref (ar 71)), (1, .ref (ar 44)), (2, .int (Int32.ofInt (b0)))]) hx hb dX10_loadOf_39 hl (k := 1) rfl (Int32.ofInt_add _ _).symm (by decide) rfl (fun ls hl => ?_)
      refine lv_goto (tgt := 5) hx hb dX10_loadOf_42 (by decide) ?_
      have hl : lv_has ls 5 [(4, .int (Int32.ofInt ((x4_1 + 1)))), (3, .int (Int32.ofInt (z7))), (0, .ref (ar 71)), (1, .ref (ar 44)), (2, .int (Int32.ofInt (b0)))] := lv_sub hl [0, 1, 2, 3, 4] rfl
      exact ih ((x4_1 + 1), z7) (show (fi 12 - (x4_1 + 1)).toNat < (fi 12 - x4_1).toNat from by omega) (show inR (x4_1 + 1) ∧ inR z7 ∧ ((0 ≤ (x4_1 + 1) ∧ (x4_1 + 1) ≤ fi 12) ∧ z7 = gs (lc (fa 44) (fa 5) b0) (x4_1 + 1)) from ⟨(by omega), (by omega), (by first | exact ⟨by omega, gs_s hJ2 (by omega) (lc_y (p := fa 44) (W := fa 5) (b := b0) (by omega) (by omega)) hS9 rfl⟩ | exact ⟨by omega, gs_s hJ2 (by omega) (lc_n (p := fa 44) (W := fa 5) (b := b0) (by omega) rfl) hS9 rfl⟩)⟩) _ _ _ hP hD hS hl
    · refine lv_aload_n hx hb dX10_loadOf_26 rfl (lv_at hl 2 rfl) ?_
      refine va_get (D := G) (ci := 7) (v := .ref (ar 5)) (C := RX10) (T := TX10) (N := 71) (ref := RX10) hx hb hts h1w hown hX.1 hP 0 rfl rfl 5 (by decide) h2w (fun _ h9 => h9) rfl dX10_loadOf_27 ?_
      refine lv_iload hx hb dX10_loadOf_30 (lv_at hl 0 rfl) ?_
      refine iv_iald hx hb hX.1 hP 3 0 rfl rfl (by omega) (by omega) (by decide) dX10_loadOf_32 ?_
      refine iv_top (fun z8 ez8 => ?_)
      have rz8 : inR z8 := ez8 ▸ (hRa 5) _
      have ez8 : z8 = (fa 5) x4_1 := ez8
      refine lv_goto (tgt := 37) hx hb dX10_loadOf_33 (by decide) ?_
      refine iv_add (x := x3_2) (y := z8) hx hb dX10_loadOf_37 ?_
      refine iv_wr ?_
      refine iv_top (fun z9 ez9 => ?_)
      have rz9 : inR z9 := ez9 ▸ bWr_r _
      have hS9 := ez9
      refine lv_istore_n (lv' := [(3, .int (Int32.ofInt (z9))), (4, .int (Int32.ofInt (x4_1))), (0, .ref (ar 71)), (1, .ref (ar 44)), (2, .int (Int32.ofInt (b0)))]) hx hb dX10_loadOf_38 rfl hl (by decide) rfl (fun ls hl => ?_)
      refine lv_iinc (v := Int32.ofInt (x4_1 + 1)) (lv' := [(4, .int (Int32.ofInt ((x4_1 + 1)))), (3, .int (Int32.ofInt (z9))), (0, .ref (ar 71)), (1, .ref (ar 44)), (2, .int (Int32.ofInt (b0)))]) hx hb dX10_loadOf_39 hl (k := 1) rfl (Int32.ofInt_add _ _).symm (by decide) rfl (fun ls hl => ?_)
      refine lv_goto (tgt := 5) hx hb dX10_loadOf_42 (by decide) ?_
      have hl : lv_has ls 5 [(4, .int (Int32.ofInt ((x4_1 + 1)))), (3, .int (Int32.ofInt (z9))), (0, .ref (ar 71)), (1, .ref (ar 44)), (2, .int (Int32.ofInt (b0)))] := lv_sub hl [0, 1, 2, 3, 4] rfl
      exact ih ((x4_1 + 1), z9) (show (fi 12 - (x4_1 + 1)).toNat < (fi 12 - x4_1).toNat from by omega) (show inR (x4_1 + 1) ∧ inR z9 ∧ ((0 ≤ (x4_1 + 1) ∧ (x4_1 + 1) ≤ fi 12) ∧ z9 = gs (lc (fa 44) (fa 5) b0) (x4_1 + 1)) from ⟨(by omega), (by omega), (by first | exact ⟨by omega, gs_s hJ2 (by omega) (lc_y (p := fa 44) (W := fa 5) (b := b0) (by omega) (by omega)) hS9 rfl⟩ | exact ⟨by omega, gs_s hJ2 (by omega) (lc_n (p := fa 44) (W := fa 5) (b := b0) (by omega) rfl) hS9 rfl⟩)⟩) _ _ _ hP hD hS hl

set_option maxHeartbeats 4000000 in
set_option maxRecDepth 100000 in
theorem mX10_sideOf_44 (l : Launch) (G : va_G) (k : Nat → ClassId) (ar : Nat → Nat) (fi : Nat → Int) (fa : Nat → Int → Int) (fl : Nat → Int64) (b0 : Int) (a0 : Int) (sz : Nat) (hR : ∀ j, inR (fi j)) (hRa : ∀ j t, inR (fa j t)) (hr_b0 : inR b0) (hr_a0 : inR a0) (hth : 0 ≤ fi 12 ∧ fi 12 ≤ 7) (hb : b0 = 0 ∨ b0 = 1) : CNi l G k (EZ k) yX10_sideOf wzX10_sideOf ({ frames := 2, cells := 0, slots := 0, locals := 45 }) [.ref (ar 71), .ref (ar 44), .int (Int32.ofInt (b0)), .int (Int32.ofInt (a0))] sz (wM k ar fi fa fl) (fun (r0 : Int32) (u : Int) => r0 = Int32.ofInt (u) ∧ (inR u) ∧ (u = sdV (gs (lc (fa 44) (fa 5) b0) (fi 12)) (fa 3 3) (buD b0 a0 (fa 3 0)))) (fun (u : Int) => (wM k ar fi fa fl)) := by
  refine Met.ofW (cc := cX10_sideOf) (maxL := 4) (ret := (some .int)) (by decide) rfl ?_
  intro p e s m args below meth c s₁ B hml hv
  obtain ⟨rfl, hsz, hP, hX, hD0, hZ0⟩ := hv
  have hx := B.exec
  have hb := B.bytes
  have hr := B.returns
  have hts := atoms_spec (ws := wzX10_sideOf) B.pre
  have hown : s.vm.findClass RX10 = some m.cls := findClass_of_methodNamed B.named
  subst hsz
  have hD := hD0.self (sz := s.heap.size)
  have hZ := hZ0
  generalize hAe : va_A (wM k ar fi fa fl) s.heap.size = A at hD hZ ⊢
  have hA : ∀ q : Nat, s.heap.size ≤ q → A q := fun q h => by rw [← hAe]; exact Or.inr h
  have hS : va_S A s.heap s.heap [] := va_S.rf
  have hl := lv_entry ([.ref (ar 71), .ref (ar 44), .int (Int32.ofInt (b0)), .int (Int32.ofInt (a0))]) (n := 4) (Nat.le_of_ble_eq_true rfl)
  rw [lg_entry_eq]
  generalize (lg_sl ([.ref (ar 71), .ref (ar 44), .int (Int32.ofInt (b0)), .int (Int32.ofInt (a0))]) ++ List.replicate (4 - (lg_sl ([.ref (ar 71), .ref (ar 44), .int (Int32.ofInt (b0)), .int (Int32.ofInt (a0))])).length) Slot.unset).toArray = ls at hl ⊢
  have hl : lv_has ls 4 [(0, .ref (ar 71)), (1, .ref (ar 44)), (2, .int (Int32.ofInt (b0))), (3, .int (Int32.ofInt (a0)))] := hl
  obtain ⟨H, eH⟩ : ∃ H, H = s.heap := ⟨_, rfl⟩
  rw [← eH] at hP
  have hS : va_S A s.heap H [] := by rw [eH]; exact hS
  have gW : s.heap = H := eH.symm
  refine iv_heap gW ?_
  have h0w := hts (.fieldLink RX10 54 "RopeTownModel" "rule" "[I") (wz_at 6 6 rfl)
  have h1w : ∀ w ∈ wsX100, w ∈ wzX10_sideOf := fun w h => List.mem_cons_of_mem _ (inlX10 w h)
  refine lv_aload_n hx hb dX10_sideOf_0 rfl (lv_at hl 0 rfl) ?_
  refine lv_aload_n hx hb dX10_sideOf_1 rfl (lv_at hl 1 rfl) ?_
  refine lv_iload_n hx hb dX10_sideOf_2 rfl (lv_at hl 2 rfl) ?_
  refine cr_i (va_runV (As := [.ref (ar 44), .int (Int32.ofInt (b0))]) (rest := []) ⟨hx, hb, hml, hown, hts⟩ (mX10_loadOf_44 l G k ar fi fa fl b0 H.size hR hRa (by omega) (show 0 ≤ (fi 12) ∧ (fi 12) ≤ 7 from by omega) (show b0 = 0 ∨ b0 = 1 from by omega)) (cwV 2 hts (gz [.methodLink RX10 362 yX10_loadOf, .instanceMethod yX10_loadOf, .selects RX10 yX10_loadOf yX10_loadOf, .initialized RX10] (.code yX10_loadOf cX10_loadOf 5 (some .int)) [(26, 0), (26, 1), (26, 2), (0, 5), (26, 3)] rfl) rfl rfl rfl (by decide +kernel) ⟨Nat.le_of_ble_eq_true rfl, Nat.le_of_ble_eq_true rfl⟩) (cr_preV (EZ_ok k) hZ hS hX hP hD hA (ci := 7) (q0 := 0) rfl rfl) rfl rfl hl.1 rfl (lv_room (Nat.le_of_ble_eq_true rfl)) dX10_sideOf_3 ⟨Nat.le_of_ble_eq_true rfl, Nat.le_of_ble_eq_true rfl⟩) hD hS hA (fun r u H locs hp hP hD hS => ?_)
  obtain ⟨c1, rfl⟩ : ∃ z, z = u := ⟨_, rfl⟩
  obtain ⟨h9, rc1, hp1⟩ : r = Int32.ofInt c1 ∧ (inR c1) ∧ (c1 = (gs (lc ((fa 44)) ((fa 5)) b0) ((fi 12)))) := hp
  subst h9
  have hLd3 := hp1
  refine lv_aload_n hx hb dX10_sideOf_6 rfl (lv_at hl 0 rfl) ?_
  refine va_get (D := G) (ci := 7) (v := .ref (ar 3)) (C := RX10) (T := TX10) (N := 71) (ref := RX10) hx hb hts h1w hown hX.1 hP 0 rfl rfl 3 (by decide) h0w (fun _ h9 => h9) rfl dX10_sideOf_7 ?_
  refine lv_iconst (v := Int32.ofInt 3) hx hb dX10_sideOf_10 (by decide +kernel) ?_
  refine iv_iald hx hb hX.1 hP 1 0 rfl rfl (by omega) (by omega) (by decide) dX10_sideOf_11 ?_
  refine iv_top (fun z2 ez2 => ?_)
  have rz2 : inR z2 := ez2 ▸ (hRa 3) _
  have ez2 : z2 = (fa 3) 3 := ez2
  have hz3 := ez2
  refine lv_aload_n hx hb dX10_sideOf_12 rfl (lv_at hl 0 rfl) ?_
  refine lv_iload_n hx hb dX10_sideOf_13 rfl (lv_at hl 2 rfl) ?_
  refine lv_iload_n hx hb dX10_sideOf_14 rfl (lv_at hl 3 rfl) ?_
  refine cr_i (va_runV (As := [.int (Int32.ofInt (b0)), .int (Int32.ofInt (a0))]) (rest := [.int (Int32.ofInt (z2)), .int (Int32.ofInt (c1))]) ⟨hx, hb, hml, hown, hts⟩ (mX10_depthOf l G k ar fi fa fl b0 a0 H.size hR hRa (by omega) (by omega)) (cwV 2 hts (gz [.methodLink RX10 352 yX10_depthOf, .instanceMethod yX10_depthOf, .selects RX10 yX10_depthOf yX10_depthOf, .initialized RX10] (.code yX10_depthOf cX10_depthOf 3 (some .int)) [(24, 7), (24, 8), (24, 9), (0, 5), (24, 10)] rfl) rfl rfl rfl (by decide +kernel) ⟨Nat.le_of_ble_eq_true rfl, Nat.le_of_ble_eq_true rfl⟩) (cr_preV (EZ_ok k) hZ hS hX hP hD hA (ci := 7) (q0 := 0) rfl rfl) rfl rfl hl.1 rfl (lv_room (Nat.le_of_ble_eq_true rfl)) dX10_sideOf_15 ⟨Nat.le_of_ble_eq_true rfl, Nat.le_of_ble_eq_true rfl⟩) hD hS hA (fun r u H locs hp hP hD hS => ?_)
  obtain ⟨c3, rfl⟩ : ∃ z, z = u := ⟨_, rfl⟩
  obtain ⟨h9, rc3, hp3⟩ : r = Int32.ofInt c3 ∧ (inR c3) ∧ (c3 = buD b0 a0 ((fa 3) 0)) := hp
  subst h9
  have hBu15 := hp3
  refine iv_mul (x := z2) (y := c3) hx hb dX10_sideOf_18 ?_
  refine iv_wr ?_
  refine iv_top (fun z4 ez4 => ?_)
  have rz4 : inR z4 := ez4 ▸ bWr_r _
  have hs1 := ez4
  refine iv_add (x := c1) (y := z4) hx hb dX10_sideOf_19 ?_
  refine iv_wr ?_
  refine iv_top (fun z5 ez5 => ?_)
  have rz5 : inR z5 := ez5 ▸ bWr_r _
  have hs2 := ez5
  exact W.iret (v := Int32.ofInt (z5)) hx hb hr (fun t ht hW => ⟨⟨Int32.ofInt (z5), (z5), rfl, ⟨rfl, (show (inR z5) ∧ (z5 = sdV (gs (lc (fa 44) (fa 5) b0) (fi 12)) (fa 3 3) (buD b0 a0 (fa 3 0))) from ⟨(by omega), (by unfold sdV; rw [hs2, hs1, hLd3, hBu15, hz3])⟩)⟩, by rw [ht]; exact hP, hD⟩, hS.F ht⟩) hS.2.2 dX10_sideOf_20

set_option maxHeartbeats 4000000 in
set_option maxRecDepth 100000 in
theorem mX10_manyOf_44 (l : Launch) (G : va_G) (k : Nat → ClassId) (ar : Nat → Nat) (fi : Nat → Int) (fa : Nat → Int → Int) (fl : Nat → Int64) (b0 : Int) (w0 : Int) (sz : Nat) (hR : ∀ j, inR (fi j)) (hRa : ∀ j t, inR (fa j t)) (hr_b0 : inR b0) (hr_w0 : inR w0) (hth : 0 ≤ fi 12 ∧ fi 12 ≤ 7) (hb : b0 = 0 ∨ b0 = 1) : CNi l G k (EZ k) yX10_manyOf wzX10_manyOf ({ frames := 1, cells := 0, slots := 0, locals := 21 }) [.ref (ar 71), .ref (ar 44), .int (Int32.ofInt (b0)), .int (Int32.ofInt (w0))] sz (wM k ar fi fa fl) (fun (r0 : Int32) (u : Int) => r0 = Int32.ofInt (u) ∧ (inR u) ∧ (u = gs (mc (fa 44) (fa 4) b0 w0) (fi 12))) (fun (u : Int) => (wM k ar fi fa fl)) := by
  refine Met.ofW (cc := cX10_manyOf) (maxL := 6) (ret := (some .int)) (by decide) rfl ?_
  intro p e s m args below meth c s₁ B hml hv
  obtain ⟨rfl, hsz, hP, hX, hD0, hZ0⟩ := hv
  have hx := B.exec
  have hb := B.bytes
  have hr := B.returns
  have hts := atoms_spec (ws := wzX10_manyOf) B.pre
  have hown : s.vm.findClass RX10 = some m.cls := findClass_of_methodNamed B.named
  subst hsz
  have hD := hD0.self (sz := s.heap.size)
  have hZ := hZ0
  generalize hAe : va_A (wM k ar fi fa fl) s.heap.size = A at hD hZ ⊢
  have hA : ∀ q : Nat, s.heap.size ≤ q → A q := fun q h => by rw [← hAe]; exact Or.inr h
  have hS : va_S A s.heap s.heap [] := va_S.rf
  have hl := lv_entry ([.ref (ar 71), .ref (ar 44), .int (Int32.ofInt (b0)), .int (Int32.ofInt (w0))]) (n := 6) (Nat.le_of_ble_eq_true rfl)
  rw [lg_entry_eq]
  generalize (lg_sl ([.ref (ar 71), .ref (ar 44), .int (Int32.ofInt (b0)), .int (Int32.ofInt (w0))]) ++ List.replicate (6 - (lg_sl ([.ref (ar 71), .ref (ar 44), .int (Int32.ofInt (b0)), .int (Int32.ofInt (w0))])).length) Slot.unset).toArray = ls at hl ⊢
  have hl : lv_has ls 6 [(0, .ref (ar 71)), (1, .ref (ar 44)), (2, .int (Int32.ofInt (b0))), (3, .int (Int32.ofInt (w0)))] := hl
  obtain ⟨H, eH⟩ : ∃ H, H = s.heap := ⟨_, rfl⟩
  rw [← eH] at hP
  have hS : va_S A s.heap H [] := by rw [eH]; exact hS
  have gW : s.heap = H := eH.symm
  refine iv_heap gW ?_
  have h0w := hts (.fieldLink RX10 174 "RopeTownModel" "things" "I") (wz_at 21 11 rfl)
  have h1w : ∀ w ∈ wsX100, w ∈ wzX10_manyOf := fun w h => List.mem_cons_of_mem _ (inlX10 w h)
  have h2w := hts (.fieldLink RX10 57 "RopeTownModel" "kind" "[I") (wz_at 6 7 rfl)
  refine lv_iconst (v := Int32.ofInt 0) hx hb dX10_manyOf_0 (by decide +kernel) ?_
  refine lv_istore (lv' := [(4, .int (Int32.ofInt (0))), (0, .ref (ar 71)), (1, .ref (ar 44)), (2, .int (Int32.ofInt (b0))), (3, .int (Int32.ofInt (w0)))]) hx hb dX10_manyOf_1 hl (by decide) rfl (fun ls hl => ?_)
  refine lv_iconst (v := Int32.ofInt 0) hx hb dX10_manyOf_3 (by decide +kernel) ?_
  refine lv_istore (lv' := [(5, .int (Int32.ofInt (0))), (4, .int (Int32.ofInt (0))), (0, .ref (ar 71)), (1, .ref (ar 44)), (2, .int (Int32.ofInt (b0))), (3, .int (Int32.ofInt (w0)))]) hx hb dX10_manyOf_4 hl (by decide) rfl (fun ls hl => ?_)
  refine iv_loop (α := Int × Int) (nL := 6) (fun b9 => (wM k ar fi fa fl)) (fun b9 => [(5, .int (Int32.ofInt (b9.1))), (4, .int (Int32.ofInt (b9.2))), (0, .ref (ar 71)), (1, .ref (ar 44)), (2, .int (Int32.ofInt (b0))), (3, .int (Int32.ofInt (w0)))]) (fun b9 => (fi 12 - b9.1).toNat) (fun b9 => inR b9.1 ∧ inR b9.2 ∧ ((0 ≤ b9.1 ∧ b9.1 ≤ fi 12) ∧ b9.2 = gs (mc (fa 44) (fa 4) b0 w0) b9.1)) ?_ (0, 0) (show inR 0 ∧ inR 0 ∧ ((0 ≤ 0 ∧ 0 ≤ fi 12) ∧ 0 = gs (mc (fa 44) (fa 4) b0 w0) 0) from ⟨(by omega), (by omega), (by exact ⟨by omega, gs_0 rfl (by omega)⟩)⟩) hP hD hS hl
  rintro ⟨x5_1, x4_2⟩ ih hi9 H locs ls hP hD hS hl
  obtain ⟨r_x5_1, r_x4_2, hinv⟩ : inR x5_1 ∧ inR x4_2 ∧ ((0 ≤ x5_1 ∧ x5_1 ≤ fi 12) ∧ x4_2 = gs (mc (fa 44) (fa 4) b0 w0) x5_1) := hi9
  obtain ⟨hJ1, hJ2⟩ := hinv
  obtain ⟨hP, hD⟩ : va_P G vwCl (wM k ar fi fa fl) H ∧ va_D A (wM k ar fi fa fl) := ⟨hP, hD⟩
  have hl : lv_has ls 6 [(5, .int (Int32.ofInt (x5_1))), (4, .int (Int32.ofInt (x4_2))), (0, .ref (ar 71)), (1, .ref (ar 44)), (2, .int (Int32.ofInt (b0))), (3, .int (Int32.ofInt (w0)))] := hl
  refine lv_iload hx hb dX10_manyOf_6 (lv_at hl 0 rfl) ?_
  refine lv_aload_n hx hb dX10_manyOf_8 rfl (lv_at hl 2 rfl) ?_
  refine va_get (D := G) (ci := 7) (v := .int (Int32.ofInt (fi 12))) (C := RX10) (T := TX10) (N := 71) (ref := RX10) hx hb hts h1w hown hX.1 hP 0 rfl rfl 12 (by decide) h0w (fun _ h9 => h9) rfl dX10_manyOf_9 ?_
  have rf12 := hR 12
  refine iv_icmp_ge (tgt := 53) hx hb (by omega) (by omega) dX10_manyOf_12 (by decide) (fun q3 => ?_) (fun q3 => ?_)
  · refine lv_iload hx hb dX10_manyOf_53 (lv_at hl 1 rfl) ?_
    exact W.iret (v := Int32.ofInt (x4_2)) hx hb hr (fun t ht hW => ⟨⟨Int32.ofInt (x4_2), (x4_2), rfl, ⟨rfl, (show (inR x4_2) ∧ (x4_2 = gs (mc (fa 44) (fa 4) b0 w0) (fi 12)) from ⟨(by omega), (by rw [show fi 12 = x5_1 by omega]; exact hJ2)⟩)⟩, by rw [ht]; exact hP, hD⟩, hS.F ht⟩) hS.2.2 dX10_manyOf_55
  · refine lv_iload hx hb dX10_manyOf_15 (lv_at hl 1 rfl) ?_
    refine lv_aload_n hx hb dX10_manyOf_17 rfl (lv_at hl 3 rfl) ?_
    refine lv_iload hx hb dX10_manyOf_18 (lv_at hl 0 rfl) ?_
    refine iv_iald hx hb hX.1 hP 20 0 rfl rfl (by omega) (by omega) (by decide) dX10_manyOf_20 ?_
    refine iv_top (fun z4 ez4 => ?_)
    have rz4 : inR z4 := ez4 ▸ (hRa 44) _
    have ez4 : z4 = (fa 44) x5_1 := ez4
    refine lv_iload_n hx hb dX10_manyOf_21 rfl (lv_at hl 4 rfl) ?_
    refine c0_i (va_runS (As := [.int (Int32.ofInt (z4)), .int (Int32.ofInt (b0))]) (rest := [.int (Int32.ofInt (x4_2))]) ⟨hx, hb, hml, hown, hts⟩ (mX10_isInBucket l G k z4 b0 H.size (by omega) (by omega) (show b0 = 0 ∨ b0 = 1 from by omega)) (cwS 2 hts (gz [.methodLink RX10 359 yX10_isInBucket, .static yX10_isInBucket, .initialized RX10] (.code yX10_isInBucket cX10_isInBucket 2 (some .boolean)) [(25, 21), (25, 22), (0, 5), (25, 23)] rfl) rfl rfl rfl (by decide +kernel) ⟨Nat.le_of_ble_eq_true rfl, Nat.le_of_ble_eq_true rfl⟩) (cr_pre0 (EZ_ok k) hZ hS hX hP hD hA) rfl rfl hl.1 rfl (lv_room (Nat.le_of_ble_eq_true rfl)) dX10_manyOf_22 ⟨Nat.le_of_ble_eq_true rfl, Nat.le_of_ble_eq_true rfl⟩) hP hD hS hA (fun r u H locs hp hP hD hS => ?_)
    obtain ⟨c5, rfl⟩ : ∃ z, z = u := ⟨_, rfl⟩
    obtain ⟨h9, rc5, hp5⟩ : r = Int32.ofInt c5 ∧ (inR c5) ∧ ((c5 = 1 ∧ z4 = 12 + b0) ∨ (c5 = 0 ∧ ¬ z4 = 12 + b0)) := hp
    subst h9
    refine iv_if_eq (tgt := 43) hx hb (by omega) dX10_manyOf_25 (by decide) (fun q6 => ?_) (fun q6 => ?_)
    · refine lv_iconst (v := Int32.ofInt 0) hx hb dX10_manyOf_43 (by decide +kernel) ?_
      refine iv_add (x := x4_2) (y := 0) hx hb dX10_manyOf_44 ?_
      refine iv_wr ?_
      refine iv_top (fun z7 ez7 => ?_)
      have rz7 : inR z7 := ez7 ▸ bWr_r _
      have hS9 := ez7
      refine lv_istore (lv' := [(4, .int (Int32.ofInt (z7))), (5, .int (Int32.ofInt (x5_1))), (0, .ref (ar 71)), (1, .ref (ar 44)), (2, .int (Int32.ofInt (b0))), (3, .int (Int32.ofInt (w0)))]) hx hb dX10_manyOf_45 hl (by decide) rfl (fun ls hl => ?_)
      refine lv_iinc (v := Int32.ofInt (x5_1 + 1)) (lv' := [(5, .int (Int32.ofInt ((x5_1 + 1)))), (4, .int (Int32.ofInt (z7))), (0, .ref (ar 71)), (1, .ref (ar 44)), (2, .int (Int32.ofInt (b0))), (3, .int (Int32.ofInt (w0)))]) hx hb dX10_manyOf_47 hl (k := 1) rfl (Int32.ofInt_add _ _).symm (by decide) rfl (fun ls hl => ?_)
      refine lv_goto (tgt := 6) hx hb dX10_manyOf_50 (by decide) ?_
      have hl : lv_has ls 6 [(5, .int (Int32.ofInt ((x5_1 + 1)))), (4, .int (Int32.ofInt (z7))), (0, .ref (ar 71)), (1, .ref (ar 44)), (2, .int (Int32.ofInt (b0))), (3, .int (Int32.ofInt (w0)))] := lv_sub hl [0, 1, 2, 3, 4, 5] rfl
      exact ih ((x5_1 + 1), z7) (show (fi 12 - (x5_1 + 1)).toNat < (fi 12 - x5_1).toNat from by omega) (show inR (x5_1 + 1) ∧ inR z7 ∧ ((0 ≤ (x5_1 + 1) ∧ (x5_1 + 1) ≤ fi 12) ∧ z7 = gs (mc (fa 44) (fa 4) b0 w0) (x5_1 + 1)) from ⟨(by omega), (by omega), (by first | exact ⟨by omega, gs_s hJ2 (by omega) (mc_y (p := fa 44) (K := fa 4) (b := b0) (w := w0) (by omega) (by omega) rfl) hS9 rfl⟩ | exact ⟨by omega, gs_s hJ2 (by omega) (mc_n (p := fa 44) (K := fa 4) (b := b0) (w := w0) (by omega) rfl) hS9 rfl⟩)⟩) _ _ _ hP hD hS hl
    · refine lv_aload_n hx hb dX10_manyOf_28 rfl (lv_at hl 2 rfl) ?_
      refine va_get (D := G) (ci := 7) (v := .ref (ar 4)) (C := RX10) (T := TX10) (N := 71) (ref := RX10) hx hb hts h1w hown hX.1 hP 0 rfl rfl 4 (by decide) h2w (fun _ h9 => h9) rfl dX10_manyOf_29 ?_
      refine lv_iload hx hb dX10_manyOf_32 (lv_at hl 0 rfl) ?_
      refine iv_iald hx hb hX.1 hP 2 0 rfl rfl (by omega) (by omega) (by decide) dX10_manyOf_34 ?_
      refine iv_top (fun z8 ez8 => ?_)
      have rz8 : inR z8 := ez8 ▸ (hRa 4) _
      have ez8 : z8 = (fa 4) x5_1 := ez8
      refine lv_iload_n hx hb dX10_manyOf_35 rfl (lv_at hl 5 rfl) ?_
      refine iv_icmp_ne (tgt := 43) hx hb (by omega) (by omega) dX10_manyOf_36 (by decide) (fun q9 => ?_) (fun q9 => ?_)
      · refine lv_iconst (v := Int32.ofInt 0) hx hb dX10_manyOf_43 (by decide +kernel) ?_
        refine iv_add (x := x4_2) (y := 0) hx hb dX10_manyOf_44 ?_
        refine iv_wr ?_
        refine iv_top (fun z10 ez10 => ?_)
        have rz10 : inR z10 := ez10 ▸ bWr_r _
        have hS9 := ez10
        refine lv_istore (lv' := [(4, .int (Int32.ofInt (z10))), (5, .int (Int32.ofInt (x5_1))), (0, .ref (ar 71)), (1, .ref (ar 44)), (2, .int (Int32.ofInt (b0))), (3, .int (Int32.ofInt (w0)))]) hx hb dX10_manyOf_45 hl (by decide) rfl (fun ls hl => ?_)
        refine lv_iinc (v := Int32.ofInt (x5_1 + 1)) (lv' := [(5, .int (Int32.ofInt ((x5_1 + 1)))), (4, .int (Int32.ofInt (z10))), (0, .ref (ar 71)), (1, .ref (ar 44)), (2, .int (Int32.ofInt (b0))), (3, .int (Int32.ofInt (w0)))]) hx hb dX10_manyOf_47 hl (k := 1) rfl (Int32.ofInt_add _ _).symm (by decide) rfl (fun ls hl => ?_)
        refine lv_goto (tgt := 6) hx hb dX10_manyOf_50 (by decide) ?_
        have hl : lv_has ls 6 [(5, .int (Int32.ofInt ((x5_1 + 1)))), (4, .int (Int32.ofInt (z10))), (0, .ref (ar 71)), (1, .ref (ar 44)), (2, .int (Int32.ofInt (b0))), (3, .int (Int32.ofInt (w0)))] := lv_sub hl [0, 1, 2, 3, 4, 5] rfl
        exact ih ((x5_1 + 1), z10) (show (fi 12 - (x5_1 + 1)).toNat < (fi 12 - x5_1).toNat from by omega) (show inR (x5_1 + 1) ∧ inR z10 ∧ ((0 ≤ (x5_1 + 1) ∧ (x5_1 + 1) ≤ fi 12) ∧ z10 = gs (mc (fa 44) (fa 4) b0 w0) (x5_1 + 1)) from ⟨(by omega), (by omega), (by first | exact ⟨by omega, gs_s hJ2 (by omega) (mc_y (p := fa 44) (K := fa 4) (b := b0) (w := w0) (by omega) (by omega) rfl) hS9 rfl⟩ | exact ⟨by omega, gs_s hJ2 (by omega) (mc_n (p := fa 44) (K := fa 4) (b := b0) (w := w0) (by omega) rfl) hS9 rfl⟩)⟩) _ _ _ hP hD hS hl
      · refine lv_iconst (v := Int32.ofInt 1) hx hb dX10_manyOf_39 (by decide +kernel) ?_
        refine lv_goto (tgt := 44) hx hb dX10_manyOf_40 (by decide) ?_
        refine iv_add (x := x4_2) (y := 1) hx hb dX10_manyOf_44 ?_
        refine iv_wr ?_
        refine iv_top (fun z11 ez11 => ?_)
        have rz11 : inR z11 := ez11 ▸ bWr_r _
        have hS9 := ez11
        refine lv_istore (lv' := [(4, .int (Int32.ofInt (z11))), (5, .int (Int32.ofInt (x5_1))), (0, .ref (ar 71)), (1, .ref (ar 44)), (2, .int (Int32.ofInt (b0))), (3, .int (Int32.ofInt (w0)))]) hx hb dX10_manyOf_45 hl (by decide) rfl (fun ls hl => ?_)
        refine lv_iinc (v := Int32.ofInt (x5_1 + 1)) (lv' := [(5, .int (Int32.ofInt ((x5_1 + 1)))), (4, .int (Int32.ofInt (z11))), (0, .ref (ar 71)), (1, .ref (ar 44)), (2, .int (Int32.ofInt (b0))), (3, .int (Int32.ofInt (w0)))]) hx hb dX10_manyOf_47 hl (k := 1) rfl (Int32.ofInt_add _ _).symm (by decide) rfl (fun ls hl => ?_)
        refine lv_goto (tgt := 6) hx hb dX10_manyOf_50 (by decide) ?_
        have hl : lv_has ls 6 [(5, .int (Int32.ofInt ((x5_1 + 1)))), (4, .int (Int32.ofInt (z11))), (0, .ref (ar 71)), (1, .ref (ar 44)), (2, .int (Int32.ofInt (b0))), (3, .int (Int32.ofInt (w0)))] := lv_sub hl [0, 1, 2, 3, 4, 5] rfl
        exact ih ((x5_1 + 1), z11) (show (fi 12 - (x5_1 + 1)).toNat < (fi 12 - x5_1).toNat from by omega) (show inR (x5_1 + 1) ∧ inR z11 ∧ ((0 ≤ (x5_1 + 1) ∧ (x5_1 + 1) ≤ fi 12) ∧ z11 = gs (mc (fa 44) (fa 4) b0 w0) (x5_1 + 1)) from ⟨(by omega), (by omega), (by first | exact ⟨by omega, gs_s hJ2 (by omega) (mc_y (p := fa 44) (K := fa 4) (b := b0) (w := w0) (by omega) (by omega) rfl) hS9 rfl⟩ | exact ⟨by omega, gs_s hJ2 (by omega) (mc_n (p := fa 44) (K := fa 4) (b := b0) (w := w0) (by omega) rfl) hS9 rfl⟩)⟩) _ _ _ hP hD hS hl

set_option maxHeartbeats 4000000 in
set_option maxRecDepth 100000 in
theorem mX10_loadOf_54 (l : Launch) (G : va_G) (k : Nat → ClassId) (ar : Nat → Nat) (fi : Nat → Int) (fa : Nat → Int → Int) (fl : Nat → Int64) (b0 : Int) (sz : Nat) (hR : ∀ j, inR (fi j)) (hRa : ∀ j t, inR (fa j t)) (hr_b0 : inR b0) (hth : 0 ≤ fi 12 ∧ fi 12 ≤ 7) (hb : b0 = 0 ∨ b0 = 1) : CNi l G k (EZ k) yX10_loadOf wzX10_loadOf ({ frames := 1, cells := 0, slots := 0, locals := 21 }) [.ref (ar 71), .ref (ar 54), .int (Int32.ofInt (b0))] sz (wM k ar fi fa fl) (fun (r0 : Int32) (u : Int) => r0 = Int32.ofInt (u) ∧ (inR u) ∧ (u = (gs (lc (fa 54) (fa 5) b0) (fi 12)))) (fun (u : Int) => (wM k ar fi fa fl)) := by
  refine Met.ofW (cc := cX10_loadOf) (maxL := 5) (ret := (some .int)) (by decide) rfl ?_
  intro p e s m args below meth c s₁ B hml hv
  obtain ⟨rfl, hsz, hP, hX, hD0, hZ0⟩ := hv
  have hx := B.exec
  have hb := B.bytes
  have hr := B.returns
  have hts := atoms_spec (ws := wzX10_loadOf) B.pre
  have hown : s.vm.findClass RX10 = some m.cls := findClass_of_methodNamed B.named
  subst hsz
  have hD := hD0.self (sz := s.heap.size)
  have hZ := hZ0
  generalize hAe : va_A (wM k ar fi fa fl) s.heap.size = A at hD hZ ⊢
  have hA : ∀ q : Nat, s.heap.size ≤ q → A q := fun q h => by rw [← hAe]; exact Or.inr h
  have hS : va_S A s.heap s.heap [] := va_S.rf
  have hl := lv_entry ([.ref (ar 71), .ref (ar 54), .int (Int32.ofInt (b0))]) (n := 5) (Nat.le_of_ble_eq_true rfl)
  rw [lg_entry_eq]
  generalize (lg_sl ([.ref (ar 71), .ref (ar 54), .int (Int32.ofInt (b0))]) ++ List.replicate (5 - (lg_sl ([.ref (ar 71), .ref (ar 54), .int (Int32.ofInt (b0))])).length) Slot.unset).toArray = ls at hl ⊢
  have hl : lv_has ls 5 [(0, .ref (ar 71)), (1, .ref (ar 54)), (2, .int (Int32.ofInt (b0)))] := hl
  obtain ⟨H, eH⟩ : ∃ H, H = s.heap := ⟨_, rfl⟩
  rw [← eH] at hP
  have hS : va_S A s.heap H [] := by rw [eH]; exact hS
  have gW : s.heap = H := eH.symm
  refine iv_heap gW ?_
  have h0w := hts (.fieldLink RX10 174 "RopeTownModel" "things" "I") (wz_at 21 11 rfl)
  have h1w : ∀ w ∈ wsX100, w ∈ wzX10_loadOf := fun w h => List.mem_cons_of_mem _ (inlX10 w h)
  have h2w := hts (.fieldLink RX10 60 "RopeTownModel" "weight" "[I") (wz_at 6 8 rfl)
  refine lv_iconst (v := Int32.ofInt 0) hx hb dX10_loadOf_0 (by decide +kernel) ?_
  refine lv_istore_n (lv' := [(3, .int (Int32.ofInt (0))), (0, .ref (ar 71)), (1, .ref (ar 54)), (2, .int (Int32.ofInt (b0)))]) hx hb dX10_loadOf_1 rfl hl (by decide) rfl (fun ls hl => ?_)
  refine lv_iconst (v := Int32.ofInt 0) hx hb dX10_loadOf_2 (by decide +kernel) ?_
  refine lv_istore (lv' := [(4, .int (Int32.ofInt (0))), (3, .int (Int32.ofInt (0))), (0, .ref (ar 71)), (1, .ref (ar 54)), (2, .int (Int32.ofInt (b0)))]) hx hb dX10_loadOf_3 hl (by decide) rfl (fun ls hl => ?_)
  refine iv_loop (α := Int × Int) (nL := 5) (fun b9 => (wM k ar fi fa fl)) (fun b9 => [(4, .int (Int32.ofInt (b9.1))), (3, .int (Int32.ofInt (b9.2))), (0, .ref (ar 71)), (1, .ref (ar 54)), (2, .int (Int32.ofInt (b0)))]) (fun b9 => (fi 12 - b9.1).toNat) (fun b9 => inR b9.1 ∧ inR b9.2 ∧ ((0 ≤ b9.1 ∧ b9.1 ≤ fi 12) ∧ b9.2 = gs (lc (fa 54) (fa 5) b0) b9.1)) ?_ (0, 0) (show inR 0 ∧ inR 0 ∧ ((0 ≤ 0 ∧ 0 ≤ fi 12) ∧ 0 = gs (lc (fa 54) (fa 5) b0) 0) from ⟨(by omega), (by omega), (by exact ⟨by omega, gs_0 rfl (by omega)⟩)⟩) hP hD hS hl
  rintro ⟨x4_1, x3_2⟩ ih hi9 H locs ls hP hD hS hl
  obtain ⟨r_x4_1, r_x3_2, hinv⟩ : inR x4_1 ∧ inR x3_2 ∧ ((0 ≤ x4_1 ∧ x4_1 ≤ fi 12) ∧ x3_2 = gs (lc (fa 54) (fa 5) b0) x4_1) := hi9
  obtain ⟨hJ1, hJ2⟩ := hinv
  obtain ⟨hP, hD⟩ : va_P G vwCl (wM k ar fi fa fl) H ∧ va_D A (wM k ar fi fa fl) := ⟨hP, hD⟩
  have hl : lv_has ls 5 [(4, .int (Int32.ofInt (x4_1))), (3, .int (Int32.ofInt (x3_2))), (0, .ref (ar 71)), (1, .ref (ar 54)), (2, .int (Int32.ofInt (b0)))] := hl
  refine lv_iload hx hb dX10_loadOf_5 (lv_at hl 0 rfl) ?_
  refine lv_aload_n hx hb dX10_loadOf_7 rfl (lv_at hl 2 rfl) ?_
  refine va_get (D := G) (ci := 7) (v := .int (Int32.ofInt (fi 12))) (C := RX10) (T := TX10) (N := 71) (ref := RX10) hx hb hts h1w hown hX.1 hP 0 rfl rfl 12 (by decide) h0w (fun _ h9 => h9) rfl dX10_loadOf_8 ?_
  have rf12 := hR 12
  refine iv_icmp_ge (tgt := 45) hx hb (by omega) (by omega) dX10_loadOf_11 (by decide) (fun q3 => ?_) (fun q3 => ?_)
  · refine lv_iload_n hx hb dX10_loadOf_45 rfl (lv_at hl 1 rfl) ?_
    exact W.iret (v := Int32.ofInt (x3_2)) hx hb hr (fun t ht hW => ⟨⟨Int32.ofInt (x3_2), (x3_2), rfl, ⟨rfl, (show (inR x3_2) ∧ (x3_2 = (gs (lc (fa 54) (fa 5) b0) (fi 12))) from ⟨(by omega), (by rw [show fi 12 = x4_1 by omega]; exact hJ2)⟩)⟩, by rw [ht]; exact hP, hD⟩, hS.F ht⟩) hS.2.2 dX10_loadOf_46
  · refine lv_iload_n hx hb dX10_loadOf_14 rfl (lv_at hl 1 rfl) ?_
    refine lv_aload_n hx hb dX10_loadOf_15 rfl (lv_at hl 3 rfl) ?_
    refine lv_iload hx hb dX10_loadOf_16 (lv_at hl 0 rfl) ?_
    refine iv_iald hx hb hX.1 hP 27 0 rfl rfl (by omega) (by omega) (by decide) dX10_loadOf_18 ?_
    refine iv_top (fun z4 ez4 => ?_)
    have rz4 : inR z4 := ez4 ▸ (hRa 54) _
    have ez4 : z4 = (fa 54) x4_1 := ez4
    refine lv_iload_n hx hb dX10_loadOf_19 rfl (lv_at hl 4 rfl) ?_
    refine c0_i (va_runS (As := [.int (Int32.ofInt (z4)), .int (Int32.ofInt (b0))]) (rest := [.int (Int32.ofInt (x3_2))]) ⟨hx, hb, hml, hown, hts⟩ (mX10_isInBucket l G k z4 b0 H.size (by omega) (by omega) (show b0 = 0 ∨ b0 = 1 from by omega)) (cwS 2 hts (gz [.methodLink RX10 359 yX10_isInBucket, .static yX10_isInBucket, .initialized RX10] (.code yX10_isInBucket cX10_isInBucket 2 (some .boolean)) [(25, 21), (25, 22), (0, 5), (25, 23)] rfl) rfl rfl rfl (by decide +kernel) ⟨Nat.le_of_ble_eq_true rfl, Nat.le_of_ble_eq_true rfl⟩) (cr_pre0 (EZ_ok k) hZ hS hX hP hD hA) rfl rfl hl.1 rfl (lv_room (Nat.le_of_ble_eq_true rfl)) dX10_loadOf_20 ⟨Nat.le_of_ble_eq_true rfl, Nat.le_of_ble_eq_true rfl⟩) hP hD hS hA (fun r u H locs hp hP hD hS => ?_)
    obtain ⟨c5, rfl⟩ : ∃ z, z = u := ⟨_, rfl⟩
    obtain ⟨h9, rc5, hp5⟩ : r = Int32.ofInt c5 ∧ (inR c5) ∧ ((c5 = 1 ∧ z4 = 12 + b0) ∨ (c5 = 0 ∧ ¬ z4 = 12 + b0)) := hp
    subst h9
    refine iv_if_eq (tgt := 36) hx hb (by omega) dX10_loadOf_23 (by decide) (fun q6 => ?_) (fun q6 => ?_)
    · refine lv_iconst (v := Int32.ofInt 0) hx hb dX10_loadOf_36 (by decide +kernel) ?_
      refine iv_add (x := x3_2) (y := 0) hx hb dX10_loadOf_37 ?_
      refine iv_wr ?_
      refine iv_top (fun z7 ez7 => ?_)
      have rz7 : inR z7 := ez7 ▸ bWr_r _
      have hS9 := ez7
      refine lv_istore_n (lv' := [(3, .int (Int32.ofInt (z7))), (4, .int (Int32.ofInt (x4_1))), (0, .ref (ar 71)), (1, .ref (ar 54)), (2, .int (Int32.ofInt (b0)))]) hx hb dX10_loadOf_38 rfl hl (by decide) rfl (fun ls hl => ?_)
      refine lv_iinc (v := Int32.ofInt (x4_1 + 1)) (lv' := [(4, .int (Int32.ofInt ((x4_1 + 1)))), (3, .int (Int32.ofInt (z7))), (0, .ref (ar 71)), (1, .ref (ar 54)), (2, .int (Int32.ofInt (b0)))]) hx hb dX10_loadOf_39 hl (k := 1) rfl (Int32.ofInt_add _ _).symm (by decide) rfl (fun ls hl => ?_)
      refine lv_goto (tgt := 5) hx hb dX10_loadOf_42 (by decide) ?_
      have hl : lv_has ls 5 [(4, .int (Int32.ofInt ((x4_1 + 1)))), (3, .int (Int32.ofInt (z7))), (0, .ref (ar 71)), (1, .ref (ar 54)), (2, .int (Int32.ofInt (b0)))] := lv_sub hl [0, 1, 2, 3, 4] rfl
      exact ih ((x4_1 + 1), z7) (show (fi 12 - (x4_1 + 1)).toNat < (fi 12 - x4_1).toNat from by omega) (show inR (x4_1 + 1) ∧ inR z7 ∧ ((0 ≤ (x4_1 + 1) ∧ (x4_1 + 1) ≤ fi 12) ∧ z7 = gs (lc (fa 54) (fa 5) b0) (x4_1 + 1)) from ⟨(by omega), (by omega), (by first | exact ⟨by omega, gs_s hJ2 (by omega) (lc_y (p := fa 54) (W := fa 5) (b := b0) (by omega) (by omega)) hS9 rfl⟩ | exact ⟨by omega, gs_s hJ2 (by omega) (lc_n (p := fa 54) (W := fa 5) (b := b0) (by omega) rfl) hS9 rfl⟩)⟩) _ _ _ hP hD hS hl
    · refine lv_aload_n hx hb dX10_loadOf_26 rfl (lv_at hl 2 rfl) ?_
      refine va_get (D := G) (ci := 7) (v := .ref (ar 5)) (C := RX10) (T := TX10) (N := 71) (ref := RX10) hx hb hts h1w hown hX.1 hP 0 rfl rfl 5 (by decide) h2w (fun _ h9 => h9) rfl dX10_loadOf_27 ?_
      refine lv_iload hx hb dX10_loadOf_30 (lv_at hl 0 rfl) ?_
      refine iv_iald hx hb hX.1 hP 3 0 rfl rfl (by omega) (by omega) (by decide) dX10_loadOf_32 ?_
      refine iv_top (fun z8 ez8 => ?_)
      have rz8 : inR z8 := ez8 ▸ (hRa 5) _
      have ez8 : z8 = (fa 5) x4_1 := ez8
      refine lv_goto (tgt := 37) hx hb dX10_loadOf_33 (by decide) ?_
      refine iv_add (x := x3_2) (y := z8) hx hb dX10_loadOf_37 ?_
      refine iv_wr ?_
      refine iv_top (fun z9 ez9 => ?_)
      have rz9 : inR z9 := ez9 ▸ bWr_r _
      have hS9 := ez9
      refine lv_istore_n (lv' := [(3, .int (Int32.ofInt (z9))), (4, .int (Int32.ofInt (x4_1))), (0, .ref (ar 71)), (1, .ref (ar 54)), (2, .int (Int32.ofInt (b0)))]) hx hb dX10_loadOf_38 rfl hl (by decide) rfl (fun ls hl => ?_)
      refine lv_iinc (v := Int32.ofInt (x4_1 + 1)) (lv' := [(4, .int (Int32.ofInt ((x4_1 + 1)))), (3, .int (Int32.ofInt (z9))), (0, .ref (ar 71)), (1, .ref (ar 54)), (2, .int (Int32.ofInt (b0)))]) hx hb dX10_loadOf_39 hl (k := 1) rfl (Int32.ofInt_add _ _).symm (by decide) rfl (fun ls hl => ?_)
      refine lv_goto (tgt := 5) hx hb dX10_loadOf_42 (by decide) ?_
      have hl : lv_has ls 5 [(4, .int (Int32.ofInt ((x4_1 + 1)))), (3, .int (Int32.ofInt (z9))), (0, .ref (ar 71)), (1, .ref (ar 54)), (2, .int (Int32.ofInt (b0)))] := lv_sub hl [0, 1, 2, 3, 4] rfl
      exact ih ((x4_1 + 1), z9) (show (fi 12 - (x4_1 + 1)).toNat < (fi 12 - x4_1).toNat from by omega) (show inR (x4_1 + 1) ∧ inR z9 ∧ ((0 ≤ (x4_1 + 1) ∧ (x4_1 + 1) ≤ fi 12) ∧ z9 = gs (lc (fa 54) (fa 5) b0) (x4_1 + 1)) from ⟨(by omega), (by omega), (by first | exact ⟨by omega, gs_s hJ2 (by omega) (lc_y (p := fa 54) (W := fa 5) (b := b0) (by omega) (by omega)) hS9 rfl⟩ | exact ⟨by omega, gs_s hJ2 (by omega) (lc_n (p := fa 54) (W := fa 5) (b := b0) (by omega) rfl) hS9 rfl⟩)⟩) _ _ _ hP hD hS hl

set_option maxHeartbeats 4000000 in
set_option maxRecDepth 100000 in
theorem mX10_sideOf_54 (l : Launch) (G : va_G) (k : Nat → ClassId) (ar : Nat → Nat) (fi : Nat → Int) (fa : Nat → Int → Int) (fl : Nat → Int64) (b0 : Int) (a0 : Int) (sz : Nat) (hR : ∀ j, inR (fi j)) (hRa : ∀ j t, inR (fa j t)) (hr_b0 : inR b0) (hr_a0 : inR a0) (hth : 0 ≤ fi 12 ∧ fi 12 ≤ 7) (hb : b0 = 0 ∨ b0 = 1) : CNi l G k (EZ k) yX10_sideOf wzX10_sideOf ({ frames := 2, cells := 0, slots := 0, locals := 45 }) [.ref (ar 71), .ref (ar 54), .int (Int32.ofInt (b0)), .int (Int32.ofInt (a0))] sz (wM k ar fi fa fl) (fun (r0 : Int32) (u : Int) => r0 = Int32.ofInt (u) ∧ (inR u) ∧ (u = sdV (gs (lc (fa 54) (fa 5) b0) (fi 12)) (fa 3 3) (buD b0 a0 (fa 3 0)))) (fun (u : Int) => (wM k ar fi fa fl)) := by
  refine Met.ofW (cc := cX10_sideOf) (maxL := 4) (ret := (some .int)) (by decide) rfl ?_
  intro p e s m args below meth c s₁ B hml hv
  obtain ⟨rfl, hsz, hP, hX, hD0, hZ0⟩ := hv
  have hx := B.exec
  have hb := B.bytes
  have hr := B.returns
  have hts := atoms_spec (ws := wzX10_sideOf) B.pre
  have hown : s.vm.findClass RX10 = some m.cls := findClass_of_methodNamed B.named
  subst hsz
  have hD := hD0.self (sz := s.heap.size)
  have hZ := hZ0
  generalize hAe : va_A (wM k ar fi fa fl) s.heap.size = A at hD hZ ⊢
  have hA : ∀ q : Nat, s.heap.size ≤ q → A q := fun q h => by rw [← hAe]; exact Or.inr h
  have hS : va_S A s.heap s.heap [] := va_S.rf
  have hl := lv_entry ([.ref (ar 71), .ref (ar 54), .int (Int32.ofInt (b0)), .int (Int32.ofInt (a0))]) (n := 4) (Nat.le_of_ble_eq_true rfl)
  rw [lg_entry_eq]
  generalize (lg_sl ([.ref (ar 71), .ref (ar 54), .int (Int32.ofInt (b0)), .int (Int32.ofInt (a0))]) ++ List.replicate (4 - (lg_sl ([.ref (ar 71), .ref (ar 54), .int (Int32.ofInt (b0)), .int (Int32.ofInt (a0))])).length) Slot.unset).toArray = ls at hl ⊢
  have hl : lv_has ls 4 [(0, .ref (ar 71)), (1, .ref (ar 54)), (2, .int (Int32.ofInt (b0))), (3, .int (Int32.ofInt (a0)))] := hl
  obtain ⟨H, eH⟩ : ∃ H, H = s.heap := ⟨_, rfl⟩
  rw [← eH] at hP
  have hS : va_S A s.heap H [] := by rw [eH]; exact hS
  have gW : s.heap = H := eH.symm
  refine iv_heap gW ?_
  have h0w := hts (.fieldLink RX10 54 "RopeTownModel" "rule" "[I") (wz_at 6 6 rfl)
  have h1w : ∀ w ∈ wsX100, w ∈ wzX10_sideOf := fun w h => List.mem_cons_of_mem _ (inlX10 w h)
  refine lv_aload_n hx hb dX10_sideOf_0 rfl (lv_at hl 0 rfl) ?_
  refine lv_aload_n hx hb dX10_sideOf_1 rfl (lv_at hl 1 rfl) ?_
  refine lv_iload_n hx hb dX10_sideOf_2 rfl (lv_at hl 2 rfl) ?_
  refine cr_i (va_runV (As := [.ref (ar 54), .int (Int32.ofInt (b0))]) (rest := []) ⟨hx, hb, hml, hown, hts⟩ (mX10_loadOf_54 l G k ar fi fa fl b0 H.size hR hRa (by omega) (show 0 ≤ (fi 12) ∧ (fi 12) ≤ 7 from by omega) (show b0 = 0 ∨ b0 = 1 from by omega)) (cwV 2 hts (gz [.methodLink RX10 362 yX10_loadOf, .instanceMethod yX10_loadOf, .selects RX10 yX10_loadOf yX10_loadOf, .initialized RX10] (.code yX10_loadOf cX10_loadOf 5 (some .int)) [(26, 0), (26, 1), (26, 2), (0, 5), (26, 3)] rfl) rfl rfl rfl (by decide +kernel) ⟨Nat.le_of_ble_eq_true rfl, Nat.le_of_ble_eq_true rfl⟩) (cr_preV (EZ_ok k) hZ hS hX hP hD hA (ci := 7) (q0 := 0) rfl rfl) rfl rfl hl.1 rfl (lv_room (Nat.le_of_ble_eq_true rfl)) dX10_sideOf_3 ⟨Nat.le_of_ble_eq_true rfl, Nat.le_of_ble_eq_true rfl⟩) hD hS hA (fun r u H locs hp hP hD hS => ?_)
  obtain ⟨c1, rfl⟩ : ∃ z, z = u := ⟨_, rfl⟩
  obtain ⟨h9, rc1, hp1⟩ : r = Int32.ofInt c1 ∧ (inR c1) ∧ (c1 = (gs (lc ((fa 54)) ((fa 5)) b0) ((fi 12)))) := hp
  subst h9
  have hLd3 := hp1
  refine lv_aload_n hx hb dX10_sideOf_6 rfl (lv_at hl 0 rfl) ?_
  refine va_get (D := G) (ci := 7) (v := .ref (ar 3)) (C := RX10) (T := TX10) (N := 71) (ref := RX10) hx hb hts h1w hown hX.1 hP 0 rfl rfl 3 (by decide) h0w (fun _ h9 => h9) rfl dX10_sideOf_7 ?_
  refine lv_iconst (v := Int32.ofInt 3) hx hb dX10_sideOf_10 (by decide +kernel) ?_
  refine iv_iald hx hb hX.1 hP 1 0 rfl rfl (by omega) (by omega) (by decide) dX10_sideOf_11 ?_
  refine iv_top (fun z2 ez2 => ?_)
  have rz2 : inR z2 := ez2 ▸ (hRa 3) _
  have ez2 : z2 = (fa 3) 3 := ez2
  have hz3 := ez2
  refine lv_aload_n hx hb dX10_sideOf_12 rfl (lv_at hl 0 rfl) ?_
  refine lv_iload_n hx hb dX10_sideOf_13 rfl (lv_at hl 2 rfl) ?_
  refine lv_iload_n hx hb dX10_sideOf_14 rfl (lv_at hl 3 rfl) ?_
  refine cr_i (va_runV (As := [.int (Int32.ofInt (b0)), .int (Int32.ofInt (a0))]) (rest := [.int (Int32.ofInt (z2)), .int (Int32.ofInt (c1))]) ⟨hx, hb, hml, hown, hts⟩ (mX10_depthOf l G k ar fi fa fl b0 a0 H.size hR hRa (by omega) (by omega)) (cwV 2 hts (gz [.methodLink RX10 352 yX10_depthOf, .instanceMethod yX10_depthOf, .selects RX10 yX10_depthOf yX10_depthOf, .initialized RX10] (.code yX10_depthOf cX10_depthOf 3 (some .int)) [(24, 7), (24, 8), (24, 9), (0, 5), (24, 10)] rfl) rfl rfl rfl (by decide +kernel) ⟨Nat.le_of_ble_eq_true rfl, Nat.le_of_ble_eq_true rfl⟩) (cr_preV (EZ_ok k) hZ hS hX hP hD hA (ci := 7) (q0 := 0) rfl rfl) rfl rfl hl.1 rfl (lv_room (Nat.le_of_ble_eq_true rfl)) dX10_sideOf_15 ⟨Nat.le_of_ble_eq_true rfl, Nat.le_of_ble_eq_true rfl⟩) hD hS hA (fun r u H locs hp hP hD hS => ?_)
  obtain ⟨c3, rfl⟩ : ∃ z, z = u := ⟨_, rfl⟩
  obtain ⟨h9, rc3, hp3⟩ : r = Int32.ofInt c3 ∧ (inR c3) ∧ (c3 = buD b0 a0 ((fa 3) 0)) := hp
  subst h9
  have hBu15 := hp3
  refine iv_mul (x := z2) (y := c3) hx hb dX10_sideOf_18 ?_
  refine iv_wr ?_
  refine iv_top (fun z4 ez4 => ?_)
  have rz4 : inR z4 := ez4 ▸ bWr_r _
  have hs1 := ez4
  refine iv_add (x := c1) (y := z4) hx hb dX10_sideOf_19 ?_
  refine iv_wr ?_
  refine iv_top (fun z5 ez5 => ?_)
  have rz5 : inR z5 := ez5 ▸ bWr_r _
  have hs2 := ez5
  exact W.iret (v := Int32.ofInt (z5)) hx hb hr (fun t ht hW => ⟨⟨Int32.ofInt (z5), (z5), rfl, ⟨rfl, (show (inR z5) ∧ (z5 = sdV (gs (lc (fa 54) (fa 5) b0) (fi 12)) (fa 3 3) (buD b0 a0 (fa 3 0))) from ⟨(by omega), (by unfold sdV; rw [hs2, hs1, hLd3, hBu15, hz3])⟩)⟩, by rw [ht]; exact hP, hD⟩, hS.F ht⟩) hS.2.2 dX10_sideOf_20

set_option maxHeartbeats 4000000 in
set_option maxRecDepth 100000 in
theorem mX10_manyOf_54 (l : Launch) (G : va_G) (k : Nat → ClassId) (ar : Nat → Nat) (fi : Nat → Int) (fa : Nat → Int → Int) (fl : Nat → Int64) (b0 : Int) (w0 : Int) (sz : Nat) (hR : ∀ j, inR (fi j)) (hRa : ∀ j t, inR (fa j t)) (hr_b0 : inR b0) (hr_w0 : inR w0) (hth : 0 ≤ fi 12 ∧ fi 12 ≤ 7) (hb : b0 = 0 ∨ b0 = 1) : CNi l G k (EZ k) yX10_manyOf wzX10_manyOf ({ frames := 1, cells := 0, slots := 0, locals := 21 }) [.ref (ar 71), .ref (ar 54), .int (Int32.ofInt (b0)), .int (Int32.ofInt (w0))] sz (wM k ar fi fa fl) (fun (r0 : Int32) (u : Int) => r0 = Int32.ofInt (u) ∧ (inR u) ∧ (u = gs (mc (fa 54) (fa 4) b0 w0) (fi 12))) (fun (u : Int) => (wM k ar fi fa fl)) := by
  refine Met.ofW (cc := cX10_manyOf) (maxL := 6) (ret := (some .int)) (by decide) rfl ?_
  intro p e s m args below meth c s₁ B hml hv
  obtain ⟨rfl, hsz, hP, hX, hD0, hZ0⟩ := hv
  have hx := B.exec
  have hb := B.bytes
  have hr := B.returns
  have hts := atoms_spec (ws := wzX10_manyOf) B.pre
  have hown : s.vm.findClass RX10 = some m.cls := findClass_of_methodNamed B.named
  subst hsz
  have hD := hD0.self (sz := s.heap.size)
  have hZ := hZ0
  generalize hAe : va_A (wM k ar fi fa fl) s.heap.size = A at hD hZ ⊢
  have hA : ∀ q : Nat, s.heap.size ≤ q → A q := fun q h => by rw [← hAe]; exact Or.inr h
  have hS : va_S A s.heap s.heap [] := va_S.rf
  have hl := lv_entry ([.ref (ar 71), .ref (ar 54), .int (Int32.ofInt (b0)), .int (Int32.ofInt (w0))]) (n := 6) (Nat.le_of_ble_eq_true rfl)
  rw [lg_entry_eq]
  generalize (lg_sl ([.ref (ar 71), .ref (ar 54), .int (Int32.ofInt (b0)), .int (Int32.ofInt (w0))]) ++ List.replicate (6 - (lg_sl ([.ref (ar 71), .ref (ar 54), .int (Int32.ofInt (b0)), .int (Int32.ofInt (w0))])).length) Slot.unset).toArray = ls at hl ⊢
  have hl : lv_has ls 6 [(0, .ref (ar 71)), (1, .ref (ar 54)), (2, .int (Int32.ofInt (b0))), (3, .int (Int32.ofInt (w0)))] := hl
  obtain ⟨H, eH⟩ : ∃ H, H = s.heap := ⟨_, rfl⟩
  rw [← eH] at hP
  have hS : va_S A s.heap H [] := by rw [eH]; exact hS
  have gW : s.heap = H := eH.symm
  refine iv_heap gW ?_
  have h0w := hts (.fieldLink RX10 174 "RopeTownModel" "things" "I") (wz_at 21 11 rfl)
  have h1w : ∀ w ∈ wsX100, w ∈ wzX10_manyOf := fun w h => List.mem_cons_of_mem _ (inlX10 w h)
  have h2w := hts (.fieldLink RX10 57 "RopeTownModel" "kind" "[I") (wz_at 6 7 rfl)
  refine lv_iconst (v := Int32.ofInt 0) hx hb dX10_manyOf_0 (by decide +kernel) ?_
  refine lv_istore (lv' := [(4, .int (Int32.ofInt (0))), (0, .ref (ar 71)), (1, .ref (ar 54)), (2, .int (Int32.ofInt (b0))), (3, .int (Int32.ofInt (w0)))]) hx hb dX10_manyOf_1 hl (by decide) rfl (fun ls hl => ?_)
  refine lv_iconst (v := Int32.ofInt 0) hx hb dX10_manyOf_3 (by decide +kernel) ?_
  refine lv_istore (lv' := [(5, .int (Int32.ofInt (0))), (4, .int (Int32.ofInt (0))), (0, .ref (ar 71)), (1, .ref (ar 54)), (2, .int (Int32.ofInt (b0))), (3, .int (Int32.ofInt (w0)))]) hx hb dX10_manyOf_4 hl (by decide) rfl (fun ls hl => ?_)
  refine iv_loop (α := Int × Int) (nL := 6) (fun b9 => (wM k ar fi fa fl)) (fun b9 => [(5, .int (Int32.ofInt (b9.1))), (4, .int (Int32.ofInt (b9.2))), (0, .ref (ar 71)), (1, .ref (ar 54)), (2, .int (Int32.ofInt (b0))), (3, .int (Int32.ofInt (w0)))]) (fun b9 => (fi 12 - b9.1).toNat) (fun b9 => inR b9.1 ∧ inR b9.2 ∧ ((0 ≤ b9.1 ∧ b9.1 ≤ fi 12) ∧ b9.2 = gs (mc (fa 54) (fa 4) b0 w0) b9.1)) ?_ (0, 0) (show inR 0 ∧ inR 0 ∧ ((0 ≤ 0 ∧ 0 ≤ fi 12) ∧ 0 = gs (mc (fa 54) (fa 4) b0 w0) 0) from ⟨(by omega), (by omega), (by exact ⟨by omega, gs_0 rfl (by omega)⟩)⟩) hP hD hS hl
  rintro ⟨x5_1, x4_2⟩ ih hi9 H locs ls hP hD hS hl
  obtain ⟨r_x5_1, r_x4_2, hinv⟩ : inR x5_1 ∧ inR x4_2 ∧ ((0 ≤ x5_1 ∧ x5_1 ≤ fi 12) ∧ x4_2 = gs (mc (fa 54) (fa 4) b0 w0) x5_1) := hi9
  obtain ⟨hJ1, hJ2⟩ := hinv
  obtain ⟨hP, hD⟩ : va_P G vwCl (wM k ar fi fa fl) H ∧ va_D A (wM k ar fi fa fl) := ⟨hP, hD⟩
  have hl : lv_has ls 6 [(5, .int (Int32.ofInt (x5_1))), (4, .int (Int32.ofInt (x4_2))), (0, .ref (ar 71)), (1, .ref (ar 54)), (2, .int (Int32.ofInt (b0))), (3, .int (Int32.ofInt (w0)))] := hl
  refine lv_iload hx hb dX10_manyOf_6 (lv_at hl 0 rfl) ?_
  refine lv_aload_n hx hb dX10_manyOf_8 rfl (lv_at hl 2 rfl) ?_
  refine va_get (D := G) (ci := 7) (v := .int (Int32.ofInt (fi 12))) (C := RX10) (T := TX10) (N := 71) (ref := RX10) hx hb hts h1w hown hX.1 hP 0 rfl rfl 12 (by decide) h0w (fun _ h9 => h9) rfl dX10_manyOf_9 ?_
  have rf12 := hR 12
  refine iv_icmp_ge (tgt := 53) hx hb (by omega) (by omega) dX10_manyOf_12 (by decide) (fun q3 => ?_) (fun q3 => ?_)
  · refine lv_iload hx hb dX10_manyOf_53 (lv_at hl 1 rfl) ?_
    exact W.iret (v := Int32.ofInt (x4_2)) hx hb hr (fun t ht hW => ⟨⟨Int32.ofInt (x4_2), (x4_2), rfl, ⟨rfl, (show (inR x4_2) ∧ (x4_2 = gs (mc (fa 54) (fa 4) b0 w0) (fi 12)) from ⟨(by omega), (by rw [show fi 12 = x5_1 by omega]; exact hJ2)⟩)⟩, by rw [ht]; exact hP, hD⟩, hS.F ht⟩) hS.2.2 dX10_manyOf_55
  · refine lv_iload hx hb dX10_manyOf_15 (lv_at hl 1 rfl) ?_
    refine lv_aload_n hx hb dX10_manyOf_17 rfl (lv_at hl 3 rfl) ?_
    refine lv_iload hx hb dX10_manyOf_18 (lv_at hl 0 rfl) ?_
    refine iv_iald hx hb hX.1 hP 27 0 rfl rfl (by omega) (by omega) (by decide) dX10_manyOf_20 ?_
    refine iv_top (fun z4 ez4 => ?_)
    have rz4 : inR z4 := ez4 ▸ (hRa 54) _
    have ez4 : z4 = (fa 54) x5_1 := ez4
    refine lv_iload_n hx hb dX10_manyOf_21 rfl (lv_at hl 4 rfl) ?_
    refine c0_i (va_runS (As := [.int (Int32.ofInt (z4)), .int (Int32.ofInt (b0))]) (rest := [.int (Int32.ofInt (x4_2))]) ⟨hx, hb, hml, hown, hts⟩ (mX10_isInBucket l G k z4 b0 H.size (by omega) (by omega) (show b0 = 0 ∨ b0 = 1 from by omega)) (cwS 2 hts (gz [.methodLink RX10 359 yX10_isInBucket, .static yX10_isInBucket, .initialized RX10] (.code yX10_isInBucket cX10_isInBucket 2 (some .boolean)) [(25, 21), (25, 22), (0, 5), (25, 23)] rfl) rfl rfl rfl (by decide +kernel) ⟨Nat.le_of_ble_eq_true rfl, Nat.le_of_ble_eq_true rfl⟩) (cr_pre0 (EZ_ok k) hZ hS hX hP hD hA) rfl rfl hl.1 rfl (lv_room (Nat.le_of_ble_eq_true rfl)) dX10_manyOf_22 ⟨Nat.le_of_ble_eq_true rfl, Nat.le_of_ble_eq_true rfl⟩) hP hD hS hA (fun r u H locs hp hP hD hS => ?_)
    obtain ⟨c5, rfl⟩ : ∃ z, z = u := ⟨_, rfl⟩
    obtain ⟨h9, rc5, hp5⟩ : r = Int32.ofInt c5 ∧ (inR c5) ∧ ((c5 = 1 ∧ z4 = 12 + b0) ∨ (c5 = 0 ∧ ¬ z4 = 12 + b0)) := hp
    subst h9
    refine iv_if_eq (tgt := 43) hx hb (by omega) dX10_manyOf_25 (by decide) (fun q6 => ?_) (fun q6 => ?_)
    · refine lv_iconst (v := Int32.ofInt 0) hx hb dX10_manyOf_43 (by decide +kernel) ?_
      refine iv_add (x := x4_2) (y := 0) hx hb dX10_manyOf_44 ?_
      refine iv_wr ?_
      refine iv_top (fun z7 ez7 => ?_)
      have rz7 : inR z7 := ez7 ▸ bWr_r _
      have hS9 := ez7
      refine lv_istore (lv' := [(4, .int (Int32.ofInt (z7))), (5, .int (Int32.ofInt (x5_1))), (0, .ref (ar 71)), (1, .ref (ar 54)), (2, .int (Int32.ofInt (b0))), (3, .int (Int32.ofInt (w0)))]) hx hb dX10_manyOf_45 hl (by decide) rfl (fun ls hl => ?_)
      refine lv_iinc (v := Int32.ofInt (x5_1 + 1)) (lv' := [(5, .int (Int32.ofInt ((x5_1 + 1)))), (4, .int (Int32.ofInt (z7))), (0, .ref (ar 71)), (1, .ref (ar 54)), (2, .int (Int32.ofInt (b0))), (3, .int (Int32.ofInt (w0)))]) hx hb dX10_manyOf_47 hl (k := 1) rfl (Int32.ofInt_add _ _).symm (by decide) rfl (fun ls hl => ?_)
      refine lv_goto (tgt := 6) hx hb dX10_manyOf_50 (by decide) ?_
      have hl : lv_has ls 6 [(5, .int (Int32.ofInt ((x5_1 + 1)))), (4, .int (Int32.ofInt (z7))), (0, .ref (ar 71)), (1, .ref (ar 54)), (2, .int (Int32.ofInt (b0))), (3, .int (Int32.ofInt (w0)))] := lv_sub hl [0, 1, 2, 3, 4, 5] rfl
      exact ih ((x5_1 + 1), z7) (show (fi 12 - (x5_1 + 1)).toNat < (fi 12 - x5_1).toNat from by omega) (show inR (x5_1 + 1) ∧ inR z7 ∧ ((0 ≤ (x5_1 + 1) ∧ (x5_1 + 1) ≤ fi 12) ∧ z7 = gs (mc (fa 54) (fa 4) b0 w0) (x5_1 + 1)) from ⟨(by omega), (by omega), (by first | exact ⟨by omega, gs_s hJ2 (by omega) (mc_y (p := fa 54) (K := fa 4) (b := b0) (w := w0) (by omega) (by omega) rfl) hS9 rfl⟩ | exact ⟨by omega, gs_s hJ2 (by omega) (mc_n (p := fa 54) (K := fa 4) (b := b0) (w := w0) (by omega) rfl) hS9 rfl⟩)⟩) _ _ _ hP hD hS hl
    · refine lv_aload_n hx hb dX10_manyOf_28 rfl (lv_at hl 2 rfl) ?_
      refine va_get (D := G) (ci := 7) (v := .ref (ar 4)) (C := RX10) (T := TX10) (N := 71) (ref := RX10) hx hb hts h1w hown hX.1 hP 0 rfl rfl 4 (by decide) h2w (fun _ h9 => h9) rfl dX10_manyOf_29 ?_
      refine lv_iload hx hb dX10_manyOf_32 (lv_at hl 0 rfl) ?_
      refine iv_iald hx hb hX.1 hP 2 0 rfl rfl (by omega) (by omega) (by decide) dX10_manyOf_34 ?_
      refine iv_top (fun z8 ez8 => ?_)
      have rz8 : inR z8 := ez8 ▸ (hRa 4) _
      have ez8 : z8 = (fa 4) x5_1 := ez8
      refine lv_iload_n hx hb dX10_manyOf_35 rfl (lv_at hl 5 rfl) ?_
      refine iv_icmp_ne (tgt := 43) hx hb (by omega) (by omega) dX10_manyOf_36 (by decide) (fun q9 => ?_) (fun q9 => ?_)
      · refine lv_iconst (v := Int32.ofInt 0) hx hb dX10_manyOf_43 (by decide +kernel) ?_
        refine iv_add (x := x4_2) (y := 0) hx hb dX10_manyOf_44 ?_
        refine iv_wr ?_
        refine iv_top (fun z10 ez10 => ?_)
        have rz10 : inR z10 := ez10 ▸ bWr_r _
        have hS9 := ez10
        refine lv_istore (lv' := [(4, .int (Int32.ofInt (z10))), (5, .int (Int32.ofInt (x5_1))), (0, .ref (ar 71)), (1, .ref (ar 54)), (2, .int (Int32.ofInt (b0))), (3, .int (Int32.ofInt (w0)))]) hx hb dX10_manyOf_45 hl (by decide) rfl (fun ls hl => ?_)
        refine lv_iinc (v := Int32.ofInt (x5_1 + 1)) (lv' := [(5, .int (Int32.ofInt ((x5_1 + 1)))), (4, .int (Int32.ofInt (z10))), (0, .ref (ar 71)), (1, .ref (ar 54)), (2, .int (Int32.ofInt (b0))), (3, .int (Int32.ofInt (w0)))]) hx hb dX10_manyOf_47 hl (k := 1) rfl (Int32.ofInt_add _ _).symm (by decide) rfl (fun ls hl => ?_)
        refine lv_goto (tgt := 6) hx hb dX10_manyOf_50 (by decide) ?_
        have hl : lv_has ls 6 [(5, .int (Int32.ofInt ((x5_1 + 1)))), (4, .int (Int32.ofInt (z10))), (0, .ref (ar 71)), (1, .ref (ar 54)), (2, .int (Int32.ofInt (b0))), (3, .int (Int32.ofInt (w0)))] := lv_sub hl [0, 1, 2, 3, 4, 5] rfl
        exact ih ((x5_1 + 1), z10) (show (fi 12 - (x5_1 + 1)).toNat < (fi 12 - x5_1).toNat from by omega) (show inR (x5_1 + 1) ∧ inR z10 ∧ ((0 ≤ (x5_1 + 1) ∧ (x5_1 + 1) ≤ fi 12) ∧ z10 = gs (mc (fa 54) (fa 4) b0 w0) (x5_1 + 1)) from ⟨(by omega), (by omega), (by first | exact ⟨by omega, gs_s hJ2 (by omega) (mc_y (p := fa 54) (K := fa 4) (b := b0) (w := w0) (by omega) (by omega) rfl) hS9 rfl⟩ | exact ⟨by omega, gs_s hJ2 (by omega) (mc_n (p := fa 54) (K := fa 4) (b := b0) (w := w0) (by omega) rfl) hS9 rfl⟩)⟩) _ _ _ hP hD hS hl
      · refine lv_iconst (v := Int32.ofInt 1) hx hb dX10_manyOf_39 (by decide +kernel) ?_
        refine lv_goto (tgt := 44) hx hb dX10_manyOf_40 (by decide) ?_
        refine iv_add (x := x4_2) (y := 1) hx hb dX10_manyOf_44 ?_
        refine iv_wr ?_
        refine iv_top (fun z11 ez11 => ?_)
        have rz11 : inR z11 := ez11 ▸ bWr_r _
        have hS9 := ez11
        refine lv_istore (lv' := [(4, .int (Int32.ofInt (z11))), (5, .int (Int32.ofInt (x5_1))), (0, .ref (ar 71)), (1, .ref (ar 54)), (2, .int (Int32.ofInt (b0))), (3, .int (Int32.ofInt (w0)))]) hx hb dX10_manyOf_45 hl (by decide) rfl (fun ls hl => ?_)
        refine lv_iinc (v := Int32.ofInt (x5_1 + 1)) (lv' := [(5, .int (Int32.ofInt ((x5_1 + 1)))), (4, .int (Int32.ofInt (z11))), (0, .ref (ar 71)), (1, .ref (ar 54)), (2, .int (Int32.ofInt (b0))), (3, .int (Int32.ofInt (w0)))]) hx hb dX10_manyOf_47 hl (k := 1) rfl (Int32.ofInt_add _ _).symm (by decide) rfl (fun ls hl => ?_)
        refine lv_goto (tgt := 6) hx hb dX10_manyOf_50 (by decide) ?_
        have hl : lv_has ls 6 [(5, .int (Int32.ofInt ((x5_1 + 1)))), (4, .int (Int32.ofInt (z11))), (0, .ref (ar 71)), (1, .ref (ar 54)), (2, .int (Int32.ofInt (b0))), (3, .int (Int32.ofInt (w0)))] := lv_sub hl [0, 1, 2, 3, 4, 5] rfl
        exact ih ((x5_1 + 1), z11) (show (fi 12 - (x5_1 + 1)).toNat < (fi 12 - x5_1).toNat from by omega) (show inR (x5_1 + 1) ∧ inR z11 ∧ ((0 ≤ (x5_1 + 1) ∧ (x5_1 + 1) ≤ fi 12) ∧ z11 = gs (mc (fa 54) (fa 4) b0 w0) (x5_1 + 1)) from ⟨(by omega), (by omega), (by first | exact ⟨by omega, gs_s hJ2 (by omega) (mc_y (p := fa 54) (K := fa 4) (b := b0) (w := w0) (by omega) (by omega) rfl) hS9 rfl⟩ | exact ⟨by omega, gs_s hJ2 (by omega) (mc_n (p := fa 54) (K := fa 4) (b := b0) (w := w0) (by omega) rfl) hS9 rfl⟩)⟩) _ _ _ hP hD hS hl

