set_option maxHeartbeats 4000000 in
set_option maxRecDepth 100000 in
theorem mX10_fault (l : Launch) (G : va_G) (k : Nat → ClassId) (ar : Nat → Nat) (fi : Nat → Int) (fa : Nat → Int → Int) (fl : Nat → Int64) (sz : Nat) (hR : ∀ j, inR (fi j)) (hRa : ∀ j t, inR (fa j t)) : CNi l G k (EZ k) yX10_fault wzX10_fault ({ frames := 0, cells := 0, slots := 0, locals := 0 }) [.ref (ar 71)] sz (wM k ar fi fa fl) (fun (r0 : Int32) (u : Int × Int) => r0 = Int32.ofInt (u.1) ∧ (inR u.1) ∧ (inR u.2) ∧ (u.1 = fi 26)) (fun (u : Int × Int) => (wM k ar (uF fi 2 (u.2)) fa fl)) := by
  refine Met.ofW (cc := cX10_fault) (maxL := 1) (ret := (some .int)) (by decide) rfl ?_
  intro p e s m args below meth c s₁ B hml hv
  obtain ⟨rfl, hsz, hP, hX, hD0, hZ0⟩ := hv
  have hx := B.exec
  have hb := B.bytes
  have hr := B.returns
  have hts := atoms_spec (ws := wzX10_fault) B.pre
  have hown : s.vm.findClass RX10 = some m.cls := findClass_of_methodNamed B.named
  subst hsz
  have hD := hD0.self (sz := s.heap.size)
  have hZ := hZ0
  generalize hAe : va_A (wM k ar fi fa fl) s.heap.size = A at hD hZ ⊢
  have hA : ∀ q : Nat, s.heap.size ≤ q → A q := fun q h => by rw [← hAe]; exact Or.inr h
  have hS : va_S A s.heap s.heap [] := va_S.rf
  have hl := lv_entry ([.ref (ar 71)]) (n := 1) (Nat.le_of_ble_eq_true rfl)
  rw [lg_entry_eq]
  generalize (lg_sl ([.ref (ar 71)]) ++ List.replicate (1 - (lg_sl ([.ref (ar 71)])).length) Slot.unset).toArray = ls at hl ⊢
  have hl : lv_has ls 1 [(0, .ref (ar 71))] := hl
  obtain ⟨H, eH⟩ : ∃ H, H = s.heap := ⟨_, rfl⟩
  rw [← eH] at hP
  have hS : va_S A s.heap H [] := by rw [eH]; exact hS
  have gW : s.heap = H := eH.symm
  refine iv_heap gW ?_
  have h0w := hts (.fieldLink RX10 171 "RopeTownModel" "code" "I") (wz_at 8 12 rfl)
  have h1w : ∀ w ∈ wsX100, w ∈ wzX10_fault := fun w h => List.mem_cons_of_mem _ (inlX10 w h)
  have h2w := hts (.fieldLink RX10 83 "RopeTownModel" "faultPlace" "I") (wz_at 6 16 rfl)
  refine lv_aload_n hx hb dX10_fault_0 rfl (lv_at hl 0 rfl) ?_
  refine lv_iconst (v := Int32.ofInt 0) hx hb dX10_fault_1 (by decide +kernel) ?_
  refine iv_put (ci := 7) (v := .int (Int32.ofInt (0))) (ty := .int) (C := RX10) (T := TX10) (N := 71) (ref := RX10) hx hb hts h1w tyX10 tyX10_ok nmX10 hown hX.1 hP hD hS 0 rfl rfl 2 (by decide) h0w (fun _ h9 => h9) rfl (by decide +kernel) rfl rfl (Nat.le_of_ble_eq_true rfl) (wM_F2 _ _ _ _ _) dX10_fault_2 (fun H locs hP hD hS => ?_)
  refine lv_aload_n hx hb dX10_fault_5 rfl (lv_at hl 0 rfl) ?_
  refine va_get (D := G) (ci := 7) (v := .int (Int32.ofInt (fi 26))) (C := RX10) (T := TX10) (N := 71) (ref := RX10) hx hb hts h1w hown hX.1 hP 0 rfl rfl 26 (by decide) h2w (fun _ h9 => h9) rfl dX10_fault_6 ?_
  have rf26 := hR 26
  exact W.iret (v := Int32.ofInt (fi 26)) hx hb hr (fun t ht hW => ⟨⟨Int32.ofInt (fi 26), (fi 26, 0), rfl, ⟨rfl, (show (inR (fi 26)) ∧ (inR 0) ∧ ((fi 26) = fi 26) from ⟨(hR 26), (by omega), (by omega)⟩)⟩, by rw [ht]; exact hP, hD⟩, hS.F ht⟩) hS.2.2 dX10_fault_9

set_option maxHeartbeats 4000000 in
set_option maxRecDepth 100000 in
theorem mX10_ridesOf (l : Launch) (G : va_G) (k : Nat → ClassId) (ar : Nat → Nat) (fi : Nat → Int) (fa : Nat → Int → Int) (fl : Nat → Int64) (sz : Nat) (hR : ∀ j, inR (fi j)) (hRa : ∀ j t, inR (fa j t)) (hmv : 0 ≤ fi 29 ∧ fi 29 ≤ 60) : CNi l G k (EZ k) yX10_ridesOf wzX10_ridesOf ({ frames := 0, cells := 0, slots := 0, locals := 0 }) [.ref (ar 71)] sz (wM k ar fi fa fl) (fun (r0 : Int32) (u : Int) => r0 = Int32.ofInt (u) ∧ (inR u) ∧ (True)) (fun (u : Int) => (wM k ar fi fa fl)) := by
  refine Met.ofW (cc := cX10_ridesOf) (maxL := 3) (ret := (some .int)) (by decide) rfl ?_
  intro p e s m args below meth c s₁ B hml hv
  obtain ⟨rfl, hsz, hP, hX, hD0, hZ0⟩ := hv
  have hx := B.exec
  have hb := B.bytes
  have hr := B.returns
  have hts := atoms_spec (ws := wzX10_ridesOf) B.pre
  have hown : s.vm.findClass RX10 = some m.cls := findClass_of_methodNamed B.named
  subst hsz
  have hD := hD0.self (sz := s.heap.size)
  have hZ := hZ0
  generalize hAe : va_A (wM k ar fi fa fl) s.heap.size = A at hD hZ ⊢
  have hA : ∀ q : Nat, s.heap.size ≤ q → A q := fun q h => by rw [← hAe]; exact Or.inr h
  have hS : va_S A s.heap s.heap [] := va_S.rf
  have hl := lv_entry ([.ref (ar 71)]) (n := 3) (Nat.le_of_ble_eq_true rfl)
  rw [lg_entry_eq]
  generalize (lg_sl ([.ref (ar 71)]) ++ List.replicate (3 - (lg_sl ([.ref (ar 71)])).length) Slot.unset).toArray = ls at hl ⊢
  have hl : lv_has ls 3 [(0, .ref (ar 71))] := hl
  obtain ⟨H, eH⟩ : ∃ H, H = s.heap := ⟨_, rfl⟩
  rw [← eH] at hP
  have hS : va_S A s.heap H [] := by rw [eH]; exact hS
  have gW : s.heap = H := eH.symm
  refine iv_heap gW ?_
  have h0w := hts (.fieldLink RX10 330 "RopeTownModel" "moves" "I") (wz_at 21 14 rfl)
  have h1w : ∀ w ∈ wsX100, w ∈ wzX10_ridesOf := fun w h => List.mem_cons_of_mem _ (inlX10 w h)
  have h2w := hts (.fieldLink RX10 93 "RopeTownModel" "moveWhich" "[I") (wz_at 6 19 rfl)
  refine lv_iconst (v := Int32.ofInt 0) hx hb dX10_ridesOf_0 (by decide +kernel) ?_
  refine lv_istore_n (lv' := [(1, .int (Int32.ofInt (0))), (0, .ref (ar 71))]) hx hb dX10_ridesOf_1 rfl hl (by decide) rfl (fun ls hl => ?_)
  refine lv_iconst (v := Int32.ofInt 0) hx hb dX10_ridesOf_2 (by decide +kernel) ?_
  refine lv_istore_n (lv' := [(2, .int (Int32.ofInt (0))), (1, .int (Int32.ofInt (0))), (0, .ref (ar 71))]) hx hb dX10_ridesOf_3 rfl hl (by decide) rfl (fun ls hl => ?_)
  refine iv_loop (α := Int × Int) (nL := 3) (fun b9 => (wM k ar fi fa fl)) (fun b9 => [(2, .int (Int32.ofInt (b9.1))), (1, .int (Int32.ofInt (b9.2))), (0, .ref (ar 71))]) (fun b9 => (fi 29 - b9.1).toNat) (fun b9 => inR b9.1 ∧ inR b9.2 ∧ (0 ≤ b9.1)) ?_ (0, 0) (show inR 0 ∧ inR 0 ∧ (0 ≤ 0) from ⟨(by omega), (by omega), (by omega)⟩) hP hD hS hl
  rintro ⟨x2_1, x1_2⟩ ih hi9 H locs ls hP hD hS hl
  obtain ⟨r_x2_1, r_x1_2, hinv⟩ : inR x2_1 ∧ inR x1_2 ∧ (0 ≤ x2_1) := hi9
  obtain ⟨hP, hD⟩ : va_P G vwCl (wM k ar fi fa fl) H ∧ va_D A (wM k ar fi fa fl) := ⟨hP, hD⟩
  have hl : lv_has ls 3 [(2, .int (Int32.ofInt (x2_1))), (1, .int (Int32.ofInt (x1_2))), (0, .ref (ar 71))] := hl
  refine lv_iload_n hx hb dX10_ridesOf_4 rfl (lv_at hl 0 rfl) ?_
  refine lv_aload_n hx hb dX10_ridesOf_5 rfl (lv_at hl 2 rfl) ?_
  refine va_get (D := G) (ci := 7) (v := .int (Int32.ofInt (fi 29))) (C := RX10) (T := TX10) (N := 71) (ref := RX10) hx hb hts h1w hown hX.1 hP 0 rfl rfl 29 (by decide) h0w (fun _ h9 => h9) rfl dX10_ridesOf_6 ?_
  have rf29 := hR 29
  refine iv_icmp_ge (tgt := 36) hx hb (by omega) (by omega) dX10_ridesOf_9 (by decide) (fun q3 => ?_) (fun q3 => ?_)
  · refine lv_iload_n hx hb dX10_ridesOf_36 rfl (lv_at hl 1 rfl) ?_
    exact W.iret (v := Int32.ofInt (x1_2)) hx hb hr (fun t ht hW => ⟨⟨Int32.ofInt (x1_2), (x1_2), rfl, ⟨rfl, (show (inR x1_2) ∧ (True) from ⟨(by omega), trivial⟩)⟩, by rw [ht]; exact hP, hD⟩, hS.F ht⟩) hS.2.2 dX10_ridesOf_37
  · refine lv_iload_n hx hb dX10_ridesOf_12 rfl (lv_at hl 1 rfl) ?_
    refine lv_aload_n hx hb dX10_ridesOf_13 rfl (lv_at hl 2 rfl) ?_
    refine va_get (D := G) (ci := 7) (v := .ref (ar 34)) (C := RX10) (T := TX10) (N := 71) (ref := RX10) hx hb hts h1w hown hX.1 hP 0 rfl rfl 34 (by decide) h2w (fun _ h9 => h9) rfl dX10_ridesOf_14 ?_
    refine lv_iload_n hx hb dX10_ridesOf_17 rfl (lv_at hl 0 rfl) ?_
    refine iv_iald hx hb hX.1 hP 13 0 rfl rfl (by omega) (by omega) (by decide) dX10_ridesOf_18 ?_
    refine iv_top (fun z4 ez4 => ?_)
    have rz4 : inR z4 := ez4 ▸ (hRa 34) _
    have ez4 : z4 = (fa 34) x2_1 := ez4
    refine lv_iconst (v := Int32.ofInt 2) hx hb dX10_ridesOf_19 (by decide +kernel) ?_
    refine iv_icmp_ne (tgt := 27) hx hb (by omega) (by omega) dX10_ridesOf_20 (by decide) (fun q5 => ?_) (fun q5 => ?_)
    · refine lv_iconst (v := Int32.ofInt 0) hx hb dX10_ridesOf_27 (by decide +kernel) ?_
      refine iv_add (x := x1_2) (y := 0) hx hb dX10_ridesOf_28 ?_
      refine iv_wr ?_
      refine iv_top (fun z6 ez6 => ?_)
      have rz6 : inR z6 := ez6 ▸ bWr_r _
      refine lv_istore_n (lv' := [(1, .int (Int32.ofInt (z6))), (2, .int (Int32.ofInt (x2_1))), (0, .ref (ar 71))]) hx hb dX10_ridesOf_29 rfl hl (by decide) rfl (fun ls hl => ?_)
      refine lv_iinc (v := Int32.ofInt (x2_1 + 1)) (lv' := [(2, .int (Int32.ofInt ((x2_1 + 1)))), (1, .int (Int32.ofInt (z6))), (0, .ref (ar 71))]) hx hb dX10_ridesOf_30 hl (k := 1) rfl (Int32.ofInt_add _ _).symm (by decide) rfl (fun ls hl => ?_)
      refine lv_goto (tgt := 4) hx hb dX10_ridesOf_33 (by decide) ?_
      have hl : lv_has ls 3 [(2, .int (Int32.ofInt ((x2_1 + 1)))), (1, .int (Int32.ofInt (z6))), (0, .ref (ar 71))] := lv_sub hl [0, 1, 2] rfl
      exact ih ((x2_1 + 1), z6) (show (fi 29 - (x2_1 + 1)).toNat < (fi 29 - x2_1).toNat from by omega) (show inR (x2_1 + 1) ∧ inR z6 ∧ (0 ≤ (x2_1 + 1)) from ⟨(by omega), (by omega), (by omega)⟩) _ _ _ hP hD hS hl
    · refine lv_iconst (v := Int32.ofInt 1) hx hb dX10_ridesOf_23 (by decide +kernel) ?_
      refine lv_goto (tgt := 28) hx hb dX10_ridesOf_24 (by decide) ?_
      refine iv_add (x := x1_2) (y := 1) hx hb dX10_ridesOf_28 ?_
      refine iv_wr ?_
      refine iv_top (fun z7 ez7 => ?_)
      have rz7 : inR z7 := ez7 ▸ bWr_r _
      refine lv_istore_n (lv' := [(1, .int (Int32.ofInt (z7))), (2, .int (Int32.ofInt (x2_1))), (0, .ref (ar 71))]) hx hb dX10_ridesOf_29 rfl hl (by decide) rfl (fun ls hl => ?_)
      refine lv_iinc (v := Int32.ofInt (x2_1 + 1)) (lv' := [(2, .int (Int32.ofInt ((x2_1 + 1)))), (1, .int (Int32.ofInt (z7))), (0, .ref (ar 71))]) hx hb dX10_ridesOf_30 hl (k := 1) rfl (Int32.ofInt_add _ _).symm (by decide) rfl (fun ls hl => ?_)
      refine lv_goto (tgt := 4) hx hb dX10_ridesOf_33 (by decide) ?_
      have hl : lv_has ls 3 [(2, .int (Int32.ofInt ((x2_1 + 1)))), (1, .int (Int32.ofInt (z7))), (0, .ref (ar 71))] := lv_sub hl [0, 1, 2] rfl
      exact ih ((x2_1 + 1), z7) (show (fi 29 - (x2_1 + 1)).toNat < (fi 29 - x2_1).toNat from by omega) (show inR (x2_1 + 1) ∧ inR z7 ∧ (0 ≤ (x2_1 + 1)) from ⟨(by omega), (by omega), (by omega)⟩) _ _ _ hP hD hS hl

set_option maxHeartbeats 4000000 in
set_option maxRecDepth 100000 in
theorem mX10_count (l : Launch) (G : va_G) (k : Nat → ClassId) (ar : Nat → Nat) (fi : Nat → Int) (fa : Nat → Int → Int) (fl : Nat → Int64) (w0 : Int) (sz : Nat) (hR : ∀ j, inR (fi j)) (hRa : ∀ j t, inR (fa j t)) (hr_w0 : inR w0) (hmv : 0 ≤ fi 29 ∧ fi 29 ≤ 60) : CNi l G k (EZ k) yX10_count wzX10_count ({ frames := 1, cells := 0, slots := 0, locals := 22 }) [.ref (ar 71), .int (Int32.ofInt (w0))] sz (wM k ar fi fa fl) (fun (r0 : Int32) (u : Int × Int) => r0 = Int32.ofInt (u.1) ∧ (inR u.1) ∧ (inR u.2) ∧ (True)) (fun (u : Int × Int) => (wM k ar (uF fi 2 (u.2)) fa fl)) := by
  refine Met.ofW (cc := cX10_count) (maxL := 2) (ret := (some .int)) (by decide) rfl ?_
  intro p e s m args below meth c s₁ B hml hv
  obtain ⟨rfl, hsz, hP, hX, hD0, hZ0⟩ := hv
  have hx := B.exec
  have hb := B.bytes
  have hr := B.returns
  have hts := atoms_spec (ws := wzX10_count) B.pre
  have hown : s.vm.findClass RX10 = some m.cls := findClass_of_methodNamed B.named
  subst hsz
  have hD := hD0.self (sz := s.heap.size)
  have hZ := hZ0
  generalize hAe : va_A (wM k ar fi fa fl) s.heap.size = A at hD hZ ⊢
  have hA : ∀ q : Nat, s.heap.size ≤ q → A q := fun q h => by rw [← hAe]; exact Or.inr h
  have hS : va_S A s.heap s.heap [] := va_S.rf
  have hl := lv_entry ([.ref (ar 71), .int (Int32.ofInt (w0))]) (n := 2) (Nat.le_of_ble_eq_true rfl)
  rw [lg_entry_eq]
  generalize (lg_sl ([.ref (ar 71), .int (Int32.ofInt (w0))]) ++ List.replicate (2 - (lg_sl ([.ref (ar 71), .int (Int32.ofInt (w0))])).length) Slot.unset).toArray = ls at hl ⊢
  have hl : lv_has ls 2 [(0, .ref (ar 71)), (1, .int (Int32.ofInt (w0)))] := hl
  obtain ⟨H, eH⟩ : ∃ H, H = s.heap := ⟨_, rfl⟩
  rw [← eH] at hP
  have hS : va_S A s.heap H [] := by rw [eH]; exact hS
  have gW : s.heap = H := eH.symm
  refine iv_heap gW ?_
  have h0w := hts (.fieldLink RX10 171 "RopeTownModel" "code" "I") (wz_at 8 12 rfl)
  have h1w : ∀ w ∈ wsX100, w ∈ wzX10_count := fun w h => List.mem_cons_of_mem _ (inlX10 w h)
  have h2w := hts (.fieldLink RX10 54 "RopeTownModel" "rule" "[I") (wz_at 6 6 rfl)
  have h3w := hts (.fieldLink RX10 174 "RopeTownModel" "things" "I") (wz_at 21 11 rfl)
  have h4w := hts (.fieldLink RX10 324 "RopeTownModel" "rules" "I") (wz_at 21 12 rfl)
  have h5w := hts (.fieldLink RX10 327 "RopeTownModel" "bucket0" "I") (wz_at 21 13 rfl)
  have h6w := hts (.fieldLink RX10 330 "RopeTownModel" "moves" "I") (wz_at 21 14 rfl)
  have h7w := hts (.fieldLink RX10 333 "RopeTownModel" "cost" "I") (wz_at 21 15 rfl)
  have h8w := hts (.fieldLink RX10 336 "RopeTownModel" "days" "I") (wz_at 21 16 rfl)
  have h9w := hts (.fieldLink RX10 181 "RopeTownModel" "taped" "I") (wz_at 8 13 rfl)
  have h10w := hts (.fieldLink RX10 77 "RopeTownModel" "status" "[I") (wz_at 6 14 rfl)
  refine lv_aload_n hx hb dX10_count_0 rfl (lv_at hl 0 rfl) ?_
  refine lv_iconst (v := Int32.ofInt 0) hx hb dX10_count_1 (by decide +kernel) ?_
  refine iv_put (ci := 7) (v := .int (Int32.ofInt (0))) (ty := .int) (C := RX10) (T := TX10) (N := 71) (ref := RX10) hx hb hts h1w tyX10 tyX10_ok nmX10 hown hX.1 hP hD hS 0 rfl rfl 2 (by decide) h0w (fun _ h9 => h9) rfl (by decide +kernel) rfl rfl (Nat.le_of_ble_eq_true rfl) (wM_F2 _ _ _ _ _) dX10_count_2 (fun H locs hP hD hS => ?_)
  refine lv_iload_n hx hb dX10_count_5 rfl (lv_at hl 1 rfl) ?_
  refine lv_bipush (v := Int32.ofInt 14) hx hb dX10_count_6 (by decide +kernel) ?_
  refine lv_bipush (v := Int32.ofInt 16) hx hb dX10_count_8 (by decide +kernel) ?_
  refine c0_i (va_runS (As := [.int (Int32.ofInt (w0)), .int (Int32.ofInt (14)), .int (Int32.ofInt (16))]) (rest := []) ⟨hx, hb, hml, hown, hts⟩ (mX10_isIn l G k w0 14 16 H.size (by omega) (by omega) (by omega)) (cwS 3 hts (gz [.methodLink RX10 177 yX10_isIn, .static yX10_isIn, .initialized RX10] (.code yX10_isIn cX10_isIn 3 (some .boolean)) [(18, 16), (18, 17), (0, 5), (18, 18)] rfl) rfl rfl rfl (by decide +kernel) ⟨Nat.le_of_ble_eq_true rfl, Nat.le_of_ble_eq_true rfl⟩) (cr_pre0 (EZ_ok k) hZ hS hX hP hD hA) rfl rfl hl.1 rfl (lv_room (Nat.le_of_ble_eq_true rfl)) dX10_count_10 ⟨Nat.le_of_ble_eq_true rfl, Nat.le_of_ble_eq_true rfl⟩) hP hD hS hA (fun r u H locs hp hP hD hS => ?_)
  obtain ⟨c1, rfl⟩ : ∃ z, z = u := ⟨_, rfl⟩
  obtain ⟨h9, rc1, hp1⟩ : r = Int32.ofInt c1 ∧ (inR c1) ∧ ((c1 = 1 ∧ 14 ≤ w0 ∧ w0 ≤ 16) ∨ (c1 = 0 ∧ (w0 < 14 ∨ 16 < w0))) := hp
  subst h9
  refine iv_if_eq (tgt := 26) hx hb (by omega) dX10_count_13 (by decide) (fun q2 => ?_) (fun q2 => ?_)
  · refine lv_iload_n hx hb dX10_count_26 rfl (lv_at hl 1 rfl) ?_
    obtain q3 | q3 | q3 | q3 | q3 | q3 | q3 | q3 | q3 | q3 | q3 | q3 | q3 | q3 | q3 : (w0 < 0 ∨ 13 < w0) ∨ w0 = 0 ∨ w0 = 1 ∨ w0 = 2 ∨ w0 = 3 ∨ w0 = 4 ∨ w0 = 5 ∨ w0 = 6 ∨ w0 = 7 ∨ w0 = 8 ∨ w0 = 9 ∨ w0 = 10 ∨ w0 = 11 ∨ w0 = 12 ∨ w0 = 13 := by omega
    · refine lv_tableOut (tgt := 150) hx hb dX10_count_27 (by rw [iz_toInt (by omega)]; exact q3) (by decide) ?_
      refine lv_aload_n hx hb dX10_count_150 rfl (lv_at hl 0 rfl) ?_
      refine lv_iconst (v := Int32.ofInt 1) hx hb dX10_count_151 (by decide +kernel) ?_
      refine cr_i (va_runV (As := [.int (Int32.ofInt (1))]) (rest := []) ⟨hx, hb, hml, hown, hts⟩ (mX10_fail l G k ar (uF fi 2 (0)) fa fl 1 H.size (iF hR (by omega)) hRa (by omega)) (cwV 1 hts (gz [.methodLink RX10 315 yX10_fail, .instanceMethod yX10_fail, .selects RX10 yX10_fail yX10_fail, .initialized RX10] (.code yX10_fail cX10_fail 2 (some .int)) [(16, 17), (16, 18), (16, 19), (0, 5), (16, 20)] rfl) rfl rfl rfl (by decide +kernel) ⟨Nat.le_of_ble_eq_true rfl, Nat.le_of_ble_eq_true rfl⟩) (cr_preV (EZ_ok k) hZ hS hX hP hD hA (ci := 7) (q0 := 0) rfl rfl) rfl rfl hl.1 rfl (lv_room (Nat.le_of_ble_eq_true rfl)) dX10_count_152 ⟨Nat.le_of_ble_eq_true rfl, Nat.le_of_ble_eq_true rfl⟩) hD hS hA (fun r u H locs hp hP hD hS => ?_)
      obtain ⟨c4, c5⟩ := u
      obtain ⟨hP, hD⟩ : va_P G vwCl (wM k ar (uF fi 2 (c5)) fa fl) H ∧ va_D A (wM k ar (uF fi 2 (c5)) fa fl) := ⟨hP, hD⟩
      obtain ⟨h9, rc4, rc5, hp5⟩ : r = Int32.ofInt c4 ∧ (inR c4) ∧ (inR c5) ∧ (c4 = 0 ∧ c5 = 1) := hp
      subst h9
      exact W.iret (v := Int32.ofInt (c4)) hx hb hr (fun t ht hW => ⟨⟨Int32.ofInt (c4), (c4, c5), rfl, ⟨rfl, (show (inR c4) ∧ (inR c5) ∧ (True) from ⟨(by omega), (by omega), trivial⟩)⟩, by rw [ht]; exact hP, hD⟩, hS.F ht⟩) hS.2.2 dX10_count_155
    · refine lv_tableIn (tgt := 96) hx hb dX10_count_27 (by rw [iz_toInt (by omega)]; omega) (by rw [iz_toInt (by omega)]; omega) (off := 69) (by rw [iz_toInt (by omega), q3]; decide +kernel) (by decide) ?_
      refine lv_aload_n hx hb dX10_count_96 rfl (lv_at hl 0 rfl) ?_
      refine va_get (D := G) (ci := 7) (v := .ref (ar 3)) (C := RX10) (T := TX10) (N := 71) (ref := RX10) hx hb hts h1w hown hX.1 hP 0 rfl rfl 3 (by decide) h2w (fun _ h9 => h9) rfl dX10_count_97 ?_
      refine lv_iconst (v := Int32.ofInt 0) hx hb dX10_count_100 (by decide +kernel) ?_
      refine iv_iald hx hb hX.1 hP 1 0 rfl rfl (by omega) (by omega) (by decide) dX10_count_101 ?_
      refine iv_top (fun z6 ez6 => ?_)
      have rz6 : inR z6 := ez6 ▸ (hRa 3) _
      have ez6 : z6 = (fa 3) 0 := ez6
      exact W.iret (v := Int32.ofInt (z6)) hx hb hr (fun t ht hW => ⟨⟨Int32.ofInt (z6), (z6, 0), rfl, ⟨rfl, (show (inR z6) ∧ (inR 0) ∧ (True) from ⟨(by omega), (by omega), trivial⟩)⟩, by rw [ht]; exact hP, hD⟩, hS.F ht⟩) hS.2.2 dX10_count_102
    · refine lv_tableIn (tgt := 103) hx hb dX10_count_27 (by rw [iz_toInt (by omega)]; omega) (by rw [iz_toInt (by omega)]; omega) (off := 76) (by rw [iz_toInt (by omega), q3]; decide +kernel) (by decide) ?_
      refine lv_aload_n hx hb dX10_count_103 rfl (lv_at hl 0 rfl) ?_
      refine va_get (D := G) (ci := 7) (v := .int (Int32.ofInt (fi 12))) (C := RX10) (T := TX10) (N := 71) (ref := RX10) hx hb hts h1w hown hX.1 hP 0 rfl rfl 12 (by decide) h3w (fun _ h9 => h9) rfl dX10_count_104 ?_
      have rf12 := hR 12
      exact W.iret (v := Int32.ofInt (fi 12)) hx hb hr (fun t ht hW => ⟨⟨Int32.ofInt (fi 12), (fi 12, 0), rfl, ⟨rfl, (show (inR (fi 12)) ∧ (inR 0) ∧ (True) from ⟨(hR 12), (by omega), trivial⟩)⟩, by rw [ht]; exact hP, hD⟩, hS.F ht⟩) hS.2.2 dX10_count_107
    · refine lv_tableIn (tgt := 108) hx hb dX10_count_27 (by rw [iz_toInt (by omega)]; omega) (by rw [iz_toInt (by omega)]; omega) (off := 81) (by rw [iz_toInt (by omega), q3]; decide +kernel) (by decide) ?_
      refine lv_aload_n hx hb dX10_count_108 rfl (lv_at hl 0 rfl) ?_
      refine va_get (D := G) (ci := 7) (v := .ref (ar 3)) (C := RX10) (T := TX10) (N := 71) (ref := RX10) hx hb hts h1w hown hX.1 hP 0 rfl rfl 3 (by decide) h2w (fun _ h9 => h9) rfl dX10_count_109 ?_
      refine lv_iload_n hx hb dX10_count_112 rfl (lv_at hl 1 rfl) ?_
      refine iv_iald hx hb hX.1 hP 1 0 rfl rfl (by omega) (by omega) (by decide) dX10_count_113 ?_
      refine iv_top (fun z7 ez7 => ?_)
      have rz7 : inR z7 := ez7 ▸ (hRa 3) _
      have ez7 : z7 = (fa 3) w0 := ez7
      exact W.iret (v := Int32.ofInt (z7)) hx hb hr (fun t ht hW => ⟨⟨Int32.ofInt (z7), (z7, 0), rfl, ⟨rfl, (show (inR z7) ∧ (inR 0) ∧ (True) from ⟨(by omega), (by omega), trivial⟩)⟩, by rw [ht]; exact hP, hD⟩, hS.F ht⟩) hS.2.2 dX10_count_114
    · refine lv_tableIn (tgt := 108) hx hb dX10_count_27 (by rw [iz_toInt (by omega)]; omega) (by rw [iz_toInt (by omega)]; omega) (off := 81) (by rw [iz_toInt (by omega), q3]; decide +kernel) (by decide) ?_
      refine lv_aload_n hx hb dX10_count_108 rfl (lv_at hl 0 rfl) ?_
      refine va_get (D := G) (ci := 7) (v := .ref (ar 3)) (C := RX10) (T := TX10) (N := 71) (ref := RX10) hx hb hts h1w hown hX.1 hP 0 rfl rfl 3 (by decide) h2w (fun _ h9 => h9) rfl dX10_count_109 ?_
      refine lv_iload_n hx hb dX10_count_112 rfl (lv_at hl 1 rfl) ?_
      refine iv_iald hx hb hX.1 hP 1 0 rfl rfl (by omega) (by omega) (by decide) dX10_count_113 ?_
      refine iv_top (fun z8 ez8 => ?_)
      have rz8 : inR z8 := ez8 ▸ (hRa 3) _
      have ez8 : z8 = (fa 3) w0 := ez8
      exact W.iret (v := Int32.ofInt (z8)) hx hb hr (fun t ht hW => ⟨⟨Int32.ofInt (z8), (z8, 0), rfl, ⟨rfl, (show (inR z8) ∧ (inR 0) ∧ (True) from ⟨(by omega), (by omega), trivial⟩)⟩, by rw [ht]; exact hP, hD⟩, hS.F ht⟩) hS.2.2 dX10_count_114
    · refine lv_tableIn (tgt := 108) hx hb dX10_count_27 (by rw [iz_toInt (by omega)]; omega) (by rw [iz_toInt (by omega)]; omega) (off := 81) (by rw [iz_toInt (by omega), q3]; decide +kernel) (by decide) ?_
      refine lv_aload_n hx hb dX10_count_108 rfl (lv_at hl 0 rfl) ?_
      refine va_get (D := G) (ci := 7) (v := .ref (ar 3)) (C := RX10) (T := TX10) (N := 71) (ref := RX10) hx hb hts h1w hown hX.1 hP 0 rfl rfl 3 (by decide) h2w (fun _ h9 => h9) rfl dX10_count_109 ?_
      refine lv_iload_n hx hb dX10_count_112 rfl (lv_at hl 1 rfl) ?_
      refine iv_iald hx hb hX.1 hP 1 0 rfl rfl (by omega) (by omega) (by decide) dX10_count_113 ?_
      refine iv_top (fun z9 ez9 => ?_)
      have rz9 : inR z9 := ez9 ▸ (hRa 3) _
      have ez9 : z9 = (fa 3) w0 := ez9
      exact W.iret (v := Int32.ofInt (z9)) hx hb hr (fun t ht hW => ⟨⟨Int32.ofInt (z9), (z9, 0), rfl, ⟨rfl, (show (inR z9) ∧ (inR 0) ∧ (True) from ⟨(by omega), (by omega), trivial⟩)⟩, by rw [ht]; exact hP, hD⟩, hS.F ht⟩) hS.2.2 dX10_count_114
    · refine lv_tableIn (tgt := 108) hx hb dX10_count_27 (by rw [iz_toInt (by omega)]; omega) (by rw [iz_toInt (by omega)]; omega) (off := 81) (by rw [iz_toInt (by omega), q3]; decide +kernel) (by decide) ?_
      refine lv_aload_n hx hb dX10_count_108 rfl (lv_at hl 0 rfl) ?_
      refine va_get (D := G) (ci := 7) (v := .ref (ar 3)) (C := RX10) (T := TX10) (N := 71) (ref := RX10) hx hb hts h1w hown hX.1 hP 0 rfl rfl 3 (by decide) h2w (fun _ h9 => h9) rfl dX10_count_109 ?_
      refine lv_iload_n hx hb dX10_count_112 rfl (lv_at hl 1 rfl) ?_
      refine iv_iald hx hb hX.1 hP 1 0 rfl rfl (by omega) (by omega) (by decide) dX10_count_113 ?_
      refine iv_top (fun z10 ez10 => ?_)
      have rz10 : inR z10 := ez10 ▸ (hRa 3) _
      have ez10 : z10 = (fa 3) w0 := ez10
      exact W.iret (v := Int32.ofInt (z10)) hx hb hr (fun t ht hW => ⟨⟨Int32.ofInt (z10), (z10, 0), rfl, ⟨rfl, (show (inR z10) ∧ (inR 0) ∧ (True) from ⟨(by omega), (by omega), trivial⟩)⟩, by rw [ht]; exact hP, hD⟩, hS.F ht⟩) hS.2.2 dX10_count_114
    · refine lv_tableIn (tgt := 108) hx hb dX10_count_27 (by rw [iz_toInt (by omega)]; omega) (by rw [iz_toInt (by omega)]; omega) (off := 81) (by rw [iz_toInt (by omega), q3]; decide +kernel) (by decide) ?_
      refine lv_aload_n hx hb dX10_count_108 rfl (lv_at hl 0 rfl) ?_
      refine va_get (D := G) (ci := 7) (v := .ref (ar 3)) (C := RX10) (T := TX10) (N := 71) (ref := RX10) hx hb hts h1w hown hX.1 hP 0 rfl rfl 3 (by decide) h2w (fun _ h9 => h9) rfl dX10_count_109 ?_
      refine lv_iload_n hx hb dX10_count_112 rfl (lv_at hl 1 rfl) ?_
      refine iv_iald hx hb hX.1 hP 1 0 rfl rfl (by omega) (by omega) (by decide) dX10_count_113 ?_
      refine iv_top (fun z11 ez11 => ?_)
      have rz11 : inR z11 := ez11 ▸ (hRa 3) _
      have ez11 : z11 = (fa 3) w0 := ez11
      exact W.iret (v := Int32.ofInt (z11)) hx hb hr (fun t ht hW => ⟨⟨Int32.ofInt (z11), (z11, 0), rfl, ⟨rfl, (show (inR z11) ∧ (inR 0) ∧ (True) from ⟨(by omega), (by omega), trivial⟩)⟩, by rw [ht]; exact hP, hD⟩, hS.F ht⟩) hS.2.2 dX10_count_114
    · refine lv_tableIn (tgt := 115) hx hb dX10_count_27 (by rw [iz_toInt (by omega)]; omega) (by rw [iz_toInt (by omega)]; omega) (off := 88) (by rw [iz_toInt (by omega), q3]; decide +kernel) (by decide) ?_
      refine lv_aload_n hx hb dX10_count_115 rfl (lv_at hl 0 rfl) ?_
      refine va_get (D := G) (ci := 7) (v := .int (Int32.ofInt (fi 13))) (C := RX10) (T := TX10) (N := 71) (ref := RX10) hx hb hts h1w hown hX.1 hP 0 rfl rfl 13 (by decide) h4w (fun _ h9 => h9) rfl dX10_count_116 ?_
      have rf13 := hR 13
      exact W.iret (v := Int32.ofInt (fi 13)) hx hb hr (fun t ht hW => ⟨⟨Int32.ofInt (fi 13), (fi 13, 0), rfl, ⟨rfl, (show (inR (fi 13)) ∧ (inR 0) ∧ (True) from ⟨(hR 13), (by omega), trivial⟩)⟩, by rw [ht]; exact hP, hD⟩, hS.F ht⟩) hS.2.2 dX10_count_119
    · refine lv_tableIn (tgt := 120) hx hb dX10_count_27 (by rw [iz_toInt (by omega)]; omega) (by rw [iz_toInt (by omega)]; omega) (off := 93) (by rw [iz_toInt (by omega), q3]; decide +kernel) (by decide) ?_
      refine lv_aload_n hx hb dX10_count_120 rfl (lv_at hl 0 rfl) ?_
      refine va_get (D := G) (ci := 7) (v := .int (Int32.ofInt (fi 28))) (C := RX10) (T := TX10) (N := 71) (ref := RX10) hx hb hts h1w hown hX.1 hP 0 rfl rfl 28 (by decide) h5w (fun _ h9 => h9) rfl dX10_count_121 ?_
      have rf28 := hR 28
      exact W.iret (v := Int32.ofInt (fi 28)) hx hb hr (fun t ht hW => ⟨⟨Int32.ofInt (fi 28), (fi 28, 0), rfl, ⟨rfl, (show (inR (fi 28)) ∧ (inR 0) ∧ (True) from ⟨(hR 28), (by omega), trivial⟩)⟩, by rw [ht]; exact hP, hD⟩, hS.F ht⟩) hS.2.2 dX10_count_124
    · refine lv_tableIn (tgt := 125) hx hb dX10_count_27 (by rw [iz_toInt (by omega)]; omega) (by rw [iz_toInt (by omega)]; omega) (off := 98) (by rw [iz_toInt (by omega), q3]; decide +kernel) (by decide) ?_
      refine lv_aload_n hx hb dX10_count_125 rfl (lv_at hl 0 rfl) ?_
      refine va_get (D := G) (ci := 7) (v := .int (Int32.ofInt (fi 29))) (C := RX10) (T := TX10) (N := 71) (ref := RX10) hx hb hts h1w hown hX.1 hP 0 rfl rfl 29 (by decide) h6w (fun _ h9 => h9) rfl dX10_count_126 ?_
      have rf29 := hR 29
      exact W.iret (v := Int32.ofInt (fi 29)) hx hb hr (fun t ht hW => ⟨⟨Int32.ofInt (fi 29), (fi 29, 0), rfl, ⟨rfl, (show (inR (fi 29)) ∧ (inR 0) ∧ (True) from ⟨(hR 29), (by omega), trivial⟩)⟩, by rw [ht]; exact hP, hD⟩, hS.F ht⟩) hS.2.2 dX10_count_129
    · refine lv_tableIn (tgt := 130) hx hb dX10_count_27 (by rw [iz_toInt (by omega)]; omega) (by rw [iz_toInt (by omega)]; omega) (off := 103) (by rw [iz_toInt (by omega), q3]; decide +kernel) (by decide) ?_
      refine lv_aload_n hx hb dX10_count_130 rfl (lv_at hl 0 rfl) ?_
      refine cr_i (va_runV (As := []) (rest := []) ⟨hx, hb, hml, hown, hts⟩ (mX10_ridesOf l G k ar (uF fi 2 (0)) fa fl H.size (iF hR (by omega)) hRa (show 0 ≤ (fi 29) ∧ (fi 29) ≤ 60 from by omega)) (cwV 0 hts (gz [.methodLink RX10 343 yX10_ridesOf, .instanceMethod yX10_ridesOf, .selects RX10 yX10_ridesOf yX10_ridesOf, .initialized RX10] (.code yX10_ridesOf cX10_ridesOf 3 (some .int)) [(22, 18), (22, 19), (22, 20), (0, 5), (22, 21)] rfl) rfl rfl rfl (by decide +kernel) ⟨Nat.le_of_ble_eq_true rfl, Nat.le_of_ble_eq_true rfl⟩) (cr_preV (EZ_ok k) hZ hS hX hP hD hA (ci := 7) (q0 := 0) rfl rfl) rfl rfl hl.1 rfl (lv_room (Nat.le_of_ble_eq_true rfl)) dX10_count_131 ⟨Nat.le_of_ble_eq_true rfl, Nat.le_of_ble_eq_true rfl⟩) hD hS hA (fun r u H locs hp hP hD hS => ?_)
      obtain ⟨c12, rfl⟩ : ∃ z, z = u := ⟨_, rfl⟩
      obtain ⟨h9, rc12, hp12⟩ : r = Int32.ofInt c12 ∧ (inR c12) ∧ (True) := hp
      subst h9
      exact W.iret (v := Int32.ofInt (c12)) hx hb hr (fun t ht hW => ⟨⟨Int32.ofInt (c12), (c12, 0), rfl, ⟨rfl, (show (inR c12) ∧ (inR 0) ∧ (True) from ⟨(by omega), (by omega), trivial⟩)⟩, by rw [ht]; exact hP, hD⟩, hS.F ht⟩) hS.2.2 dX10_count_134
    · refine lv_tableIn (tgt := 135) hx hb dX10_count_27 (by rw [iz_toInt (by omega)]; omega) (by rw [iz_toInt (by omega)]; omega) (off := 108) (by rw [iz_toInt (by omega), q3]; decide +kernel) (by decide) ?_
      refine lv_aload_n hx hb dX10_count_135 rfl (lv_at hl 0 rfl) ?_
      refine va_get (D := G) (ci := 7) (v := .int (Int32.ofInt (fi 30))) (C := RX10) (T := TX10) (N := 71) (ref := RX10) hx hb hts h1w hown hX.1 hP 0 rfl rfl 30 (by decide) h7w (fun _ h9 => h9) rfl dX10_count_136 ?_
      have rf30 := hR 30
      exact W.iret (v := Int32.ofInt (fi 30)) hx hb hr (fun t ht hW => ⟨⟨Int32.ofInt (fi 30), (fi 30, 0), rfl, ⟨rfl, (show (inR (fi 30)) ∧ (inR 0) ∧ (True) from ⟨(hR 30), (by omega), trivial⟩)⟩, by rw [ht]; exact hP, hD⟩, hS.F ht⟩) hS.2.2 dX10_count_139
    · refine lv_tableIn (tgt := 140) hx hb dX10_count_27 (by rw [iz_toInt (by omega)]; omega) (by rw [iz_toInt (by omega)]; omega) (off := 113) (by rw [iz_toInt (by omega), q3]; decide +kernel) (by decide) ?_
      refine lv_aload_n hx hb dX10_count_140 rfl (lv_at hl 0 rfl) ?_
      refine va_get (D := G) (ci := 7) (v := .int (Int32.ofInt (fi 31))) (C := RX10) (T := TX10) (N := 71) (ref := RX10) hx hb hts h1w hown hX.1 hP 0 rfl rfl 31 (by decide) h8w (fun _ h9 => h9) rfl dX10_count_141 ?_
      have rf31 := hR 31
      exact W.iret (v := Int32.ofInt (fi 31)) hx hb hr (fun t ht hW => ⟨⟨Int32.ofInt (fi 31), (fi 31, 0), rfl, ⟨rfl, (show (inR (fi 31)) ∧ (inR 0) ∧ (True) from ⟨(hR 31), (by omega), trivial⟩)⟩, by rw [ht]; exact hP, hD⟩, hS.F ht⟩) hS.2.2 dX10_count_144
    · refine lv_tableIn (tgt := 145) hx hb dX10_count_27 (by rw [iz_toInt (by omega)]; omega) (by rw [iz_toInt (by omega)]; omega) (off := 118) (by rw [iz_toInt (by omega), q3]; decide +kernel) (by decide) ?_
      refine lv_aload_n hx hb dX10_count_145 rfl (lv_at hl 0 rfl) ?_
      refine va_get (D := G) (ci := 7) (v := .int (Int32.ofInt (fi 17))) (C := RX10) (T := TX10) (N := 71) (ref := RX10) hx hb hts h1w hown hX.1 hP 0 rfl rfl 17 (by decide) h9w (fun _ h9 => h9) rfl dX10_count_146 ?_
      have rf17 := hR 17
      exact W.iret (v := Int32.ofInt (fi 17)) hx hb hr (fun t ht hW => ⟨⟨Int32.ofInt (fi 17), (fi 17, 0), rfl, ⟨rfl, (show (inR (fi 17)) ∧ (inR 0) ∧ (True) from ⟨(hR 17), (by omega), trivial⟩)⟩, by rw [ht]; exact hP, hD⟩, hS.F ht⟩) hS.2.2 dX10_count_149
  · refine lv_aload_n hx hb dX10_count_16 rfl (lv_at hl 0 rfl) ?_
    refine va_get (D := G) (ci := 7) (v := .ref (ar 11)) (C := RX10) (T := TX10) (N := 71) (ref := RX10) hx hb hts h1w hown hX.1 hP 0 rfl rfl 11 (by decide) h10w (fun _ h9 => h9) rfl dX10_count_17 ?_
    refine lv_iload_n hx hb dX10_count_20 rfl (lv_at hl 1 rfl) ?_
    refine lv_bipush (v := Int32.ofInt 14) hx hb dX10_count_21 (by decide +kernel) ?_
    refine iv_sub (x := w0) (y := 14) hx hb dX10_count_23 ?_
    refine iv_iald hx hb hX.1 hP 9 0 rfl rfl (by omega) (by omega) (by decide) dX10_count_24 ?_
    refine iv_top (fun z13 ez13 => ?_)
    have rz13 : inR z13 := ez13 ▸ (hRa 11) _
    have ez13 : z13 = (fa 11) (w0 - 14) := ez13
    exact W.iret (v := Int32.ofInt (z13)) hx hb hr (fun t ht hW => ⟨⟨Int32.ofInt (z13), (z13, 0), rfl, ⟨rfl, (show (inR z13) ∧ (inR 0) ∧ (True) from ⟨(by omega), (by omega), trivial⟩)⟩, by rw [ht]; exact hP, hD⟩, hS.F ht⟩) hS.2.2 dX10_count_25

set_option maxHeartbeats 4000000 in
set_option maxRecDepth 100000 in
theorem mX10_depthOf (l : Launch) (G : va_G) (k : Nat → ClassId) (ar : Nat → Nat) (fi : Nat → Int) (fa : Nat → Int → Int) (fl : Nat → Int64) (b0 : Int) (a0 : Int) (sz : Nat) (hR : ∀ j, inR (fi j)) (hRa : ∀ j t, inR (fa j t)) (hr_b0 : inR b0) (hr_a0 : inR a0) : CNi l G k (EZ k) yX10_depthOf wzX10_depthOf ({ frames := 1, cells := 0, slots := 0, locals := 20 }) [.ref (ar 71), .int (Int32.ofInt (b0)), .int (Int32.ofInt (a0))] sz (wM k ar fi fa fl) (fun (r0 : Int32) (u : Int) => r0 = Int32.ofInt (u) ∧ (inR u) ∧ (u = buD b0 a0 (fa 3 0))) (fun (u : Int) => (wM k ar fi fa fl)) := by
  refine Met.ofW (cc := cX10_depthOf) (maxL := 3) (ret := (some .int)) (by decide) rfl ?_
  intro p e s m args below meth c s₁ B hml hv
  obtain ⟨rfl, hsz, hP, hX, hD0, hZ0⟩ := hv
  have hx := B.exec
  have hb := B.bytes
  have hr := B.returns
  have hts := atoms_spec (ws := wzX10_depthOf) B.pre
  have hown : s.vm.findClass RX10 = some m.cls := findClass_of_methodNamed B.named
  subst hsz
  have hD := hD0.self (sz := s.heap.size)
  have hZ := hZ0
  generalize hAe : va_A (wM k ar fi fa fl) s.heap.size = A at hD hZ ⊢
  have hA : ∀ q : Nat, s.heap.size ≤ q → A q := fun q h => by rw [← hAe]; exact Or.inr h
  have hS : va_S A s.heap s.heap [] := va_S.rf
  have hl := lv_entry ([.ref (ar 71), .int (Int32.ofInt (b0)), .int (Int32.ofInt (a0))]) (n := 3) (Nat.le_of_ble_eq_true rfl)
  rw [lg_entry_eq]
  generalize (lg_sl ([.ref (ar 71), .int (Int32.ofInt (b0)), .int (Int32.ofInt (a0))]) ++ List.replicate (3 - (lg_sl ([.ref (ar 71), .int (Int32.ofInt (b0)), .int (Int32.ofInt (a0))])).length) Slot.unset).toArray = ls at hl ⊢
  have hl : lv_has ls 3 [(0, .ref (ar 71)), (1, .int (Int32.ofInt (b0))), (2, .int (Int32.ofInt (a0)))] := hl
  obtain ⟨H, eH⟩ : ∃ H, H = s.heap := ⟨_, rfl⟩
  rw [← eH] at hP
  have hS : va_S A s.heap H [] := by rw [eH]; exact hS
  have gW : s.heap = H := eH.symm
  refine iv_heap gW ?_
  refine lv_iload_n hx hb dX10_depthOf_0 rfl (lv_at hl 1 rfl) ?_
  refine iv_if_ne (tgt := 8) hx hb (by omega) dX10_depthOf_1 (by decide) (fun q1 => ?_) (fun q1 => ?_)
  · refine lv_aload_n hx hb dX10_depthOf_8 rfl (lv_at hl 0 rfl) ?_
    refine cr_i (va_runV (As := []) (rest := []) ⟨hx, hb, hml, hown, hts⟩ (mX10_depths l G k ar fi fa fl H.size hR hRa) (cwV 0 hts (gz [.methodLink RX10 346 yX10_depths, .instanceMethod yX10_depths, .selects RX10 yX10_depths yX10_depths, .initialized RX10] (.code yX10_depths cX10_depths 1 (some .int)) [(24, 11), (24, 12), (24, 13), (0, 5), (24, 14)] rfl) rfl rfl rfl (by decide +kernel) ⟨Nat.le_of_ble_eq_true rfl, Nat.le_of_ble_eq_true rfl⟩) (cr_preV (EZ_ok k) hZ hS hX hP hD hA (ci := 7) (q0 := 0) rfl rfl) rfl rfl hl.1 rfl (lv_room (Nat.le_of_ble_eq_true rfl)) dX10_depthOf_9 ⟨Nat.le_of_ble_eq_true rfl, Nat.le_of_ble_eq_true rfl⟩) hD hS hA (fun r u H locs hp hP hD hS => ?_)
    obtain ⟨c2, rfl⟩ : ∃ z, z = u := ⟨_, rfl⟩
    obtain ⟨h9, rc2, hp2⟩ : r = Int32.ofInt c2 ∧ (inR c2) ∧ (c2 = (fa 3) 0) := hp
    subst h9
    refine lv_iload_n hx hb dX10_depthOf_12 rfl (lv_at hl 2 rfl) ?_
    refine iv_sub (x := c2) (y := a0) hx hb dX10_depthOf_13 ?_
    refine iv_wr ?_
    refine iv_top (fun z3 ez3 => ?_)
    have rz3 : inR z3 := ez3 ▸ bWr_r _
    exact W.iret (v := Int32.ofInt (z3)) hx hb hr (fun t ht hW => ⟨⟨Int32.ofInt (z3), (z3), rfl, ⟨rfl, (show (inR z3) ∧ (z3 = buD b0 a0 (fa 3 0)) from ⟨(by omega), (by first | exact buD_y (by omega) rfl | exact buD_n (by omega) (by assumption) (by omega))⟩)⟩, by rw [ht]; exact hP, hD⟩, hS.F ht⟩) hS.2.2 dX10_depthOf_14
  · refine lv_iload_n hx hb dX10_depthOf_4 rfl (lv_at hl 2 rfl) ?_
    refine lv_goto (tgt := 14) hx hb dX10_depthOf_5 (by decide) ?_
    exact W.iret (v := Int32.ofInt (a0)) hx hb hr (fun t ht hW => ⟨⟨Int32.ofInt (a0), (a0), rfl, ⟨rfl, (show (inR a0) ∧ (a0 = buD b0 a0 (fa 3 0)) from ⟨(by omega), (by first | exact buD_y (by omega) rfl | exact buD_n (by omega) (by assumption) (by omega))⟩)⟩, by rw [ht]; exact hP, hD⟩, hS.F ht⟩) hS.2.2 dX10_depthOf_14

set_option maxHeartbeats 4000000 in
set_option maxRecDepth 100000 in
theorem mX10_isInBucket (l : Launch) (G : va_G) (k : Nat → ClassId) (p0 : Int) (b0 : Int) (sz : Nat) (hr_p0 : inR p0) (hr_b0 : inR b0) (hb : b0 = 0 ∨ b0 = 1) : CNi l G k (EZ k) yX10_isInBucket wzX10_isInBucket ({ frames := 0, cells := 0, slots := 0, locals := 0 }) [.int (Int32.ofInt (p0)), .int (Int32.ofInt (b0))] sz [] (fun (r0 : Int32) (u : Int) => r0 = Int32.ofInt (u) ∧ (inR u) ∧ ((u = 1 ∧ p0 = 12 + b0) ∨ (u = 0 ∧ ¬ p0 = 12 + b0))) (fun (u : Int) => []) := by
  refine Met.ofW (cc := cX10_isInBucket) (maxL := 2) (ret := (some .boolean)) (by decide) rfl ?_
  intro p e s m args below meth c s₁ B hml hv
  obtain ⟨rfl, hsz, hP, hX, hD0, hZ0⟩ := hv
  have hx := B.exec
  have hb := B.bytes
  have hr := B.returns
  have hts := atoms_spec (ws := wzX10_isInBucket) B.pre
  have hown : s.vm.findClass RX10 = some m.cls := findClass_of_methodNamed B.named
  subst hsz
  have hD := hD0.self (sz := s.heap.size)
  have hZ := hZ0
  generalize hAe : va_A [] s.heap.size = A at hD hZ ⊢
  have hA : ∀ q : Nat, s.heap.size ≤ q → A q := fun q h => by rw [← hAe]; exact Or.inr h
  have hS : va_S A s.heap s.heap [] := va_S.rf
  have hl := lv_entry ([.int (Int32.ofInt (p0)), .int (Int32.ofInt (b0))]) (n := 2) (Nat.le_of_ble_eq_true rfl)
  rw [lg_entry_eq]
  generalize (lg_sl ([.int (Int32.ofInt (p0)), .int (Int32.ofInt (b0))]) ++ List.replicate (2 - (lg_sl ([.int (Int32.ofInt (p0)), .int (Int32.ofInt (b0))])).length) Slot.unset).toArray = ls at hl ⊢
  have hl : lv_has ls 2 [(0, .int (Int32.ofInt (p0))), (1, .int (Int32.ofInt (b0)))] := hl
  obtain ⟨H, eH⟩ : ∃ H, H = s.heap := ⟨_, rfl⟩
  rw [← eH] at hP
  have hS : va_S A s.heap H [] := by rw [eH]; exact hS
  have gW : s.heap = H := eH.symm
  refine iv_heap gW ?_
  refine lv_iload_n hx hb dX10_isInBucket_0 rfl (lv_at hl 0 rfl) ?_
  refine lv_bipush (v := Int32.ofInt 12) hx hb dX10_isInBucket_1 (by decide +kernel) ?_
  refine lv_iload_n hx hb dX10_isInBucket_3 rfl (lv_at hl 1 rfl) ?_
  refine iv_add (x := 12) (y := b0) hx hb dX10_isInBucket_4 ?_
  refine iv_icmp_ne (tgt := 12) hx hb (by omega) (by omega) dX10_isInBucket_5 (by decide) (fun q1 => ?_) (fun q1 => ?_)
  · refine lv_iconst (v := Int32.ofInt 0) hx hb dX10_isInBucket_12 (by decide +kernel) ?_
    exact W.zret (v := Int32.ofInt (0)) hx hb hr (nz_bool (by omega)) (fun t ht hW => ⟨⟨Int32.ofInt (0), (0), rfl, ⟨rfl, (show (inR 0) ∧ ((0 = 1 ∧ p0 = 12 + b0) ∨ (0 = 0 ∧ ¬ p0 = 12 + b0)) from ⟨(by omega), (by omega)⟩)⟩, by rw [ht]; exact hP, hD⟩, hS.F ht⟩) hS.2.2 dX10_isInBucket_13
  · refine lv_iconst (v := Int32.ofInt 1) hx hb dX10_isInBucket_8 (by decide +kernel) ?_
    refine lv_goto (tgt := 13) hx hb dX10_isInBucket_9 (by decide) ?_
    exact W.zret (v := Int32.ofInt (1)) hx hb hr (nz_bool (by omega)) (fun t ht hW => ⟨⟨Int32.ofInt (1), (1), rfl, ⟨rfl, (show (inR 1) ∧ ((1 = 1 ∧ p0 = 12 + b0) ∨ (1 = 0 ∧ ¬ p0 = 12 + b0)) from ⟨(by omega), (by omega)⟩)⟩, by rw [ht]; exact hP, hD⟩, hS.F ht⟩) hS.2.2 dX10_isInBucket_13

set_option maxHeartbeats 4000000 in
set_option maxRecDepth 100000 in
theorem mX10_isServed (l : Launch) (G : va_G) (k : Nat → ClassId) (ar : Nat → Nat) (fi : Nat → Int) (fa : Nat → Int → Int) (fl : Nat → Int64) (t0 : Int) (p0 : Int) (sz : Nat) (hR : ∀ j, inR (fi j)) (hRa : ∀ j t, inR (fa j t)) (hr_t0 : inR t0) (hr_p0 : inR p0) (h0 : 0 ≤ t0 ∧ t0 < 14) : CNi l G k (EZ k) yX10_isServed wzX10_isServed ({ frames := 0, cells := 0, slots := 0, locals := 0 }) [.ref (ar 71), .int (Int32.ofInt (t0)), .int (Int32.ofInt (p0))] sz (wM k ar fi fa fl) (fun (r0 : Int32) (u : Int) => r0 = Int32.ofInt (u) ∧ (inR u) ∧ ((u = 1 ∧ svM p0 (fa 7 t0)) ∨ (u = 0 ∧ ¬ svM p0 (fa 7 t0)))) (fun (u : Int) => (wM k ar fi fa fl)) := by
  refine Met.ofW (cc := cX10_isServed) (maxL := 3) (ret := (some .boolean)) (by decide) rfl ?_
  intro p e s m args below meth c s₁ B hml hv
  obtain ⟨rfl, hsz, hP, hX, hD0, hZ0⟩ := hv
  have hx := B.exec
  have hb := B.bytes
  have hr := B.returns
  have hts := atoms_spec (ws := wzX10_isServed) B.pre
  have hown : s.vm.findClass RX10 = some m.cls := findClass_of_methodNamed B.named
  subst hsz
  have hD := hD0.self (sz := s.heap.size)
  have hZ := hZ0
  generalize hAe : va_A (wM k ar fi fa fl) s.heap.size = A at hD hZ ⊢
  have hA : ∀ q : Nat, s.heap.size ≤ q → A q := fun q h => by rw [← hAe]; exact Or.inr h
  have hS : va_S A s.heap s.heap [] := va_S.rf
  have hl := lv_entry ([.ref (ar 71), .int (Int32.ofInt (t0)), .int (Int32.ofInt (p0))]) (n := 3) (Nat.le_of_ble_eq_true rfl)
  rw [lg_entry_eq]
  generalize (lg_sl ([.ref (ar 71), .int (Int32.ofInt (t0)), .int (Int32.ofInt (p0))]) ++ List.replicate (3 - (lg_sl ([.ref (ar 71), .int (Int32.ofInt (t0)), .int (Int32.ofInt (p0))])).length) Slot.unset).toArray = ls at hl ⊢
  have hl : lv_has ls 3 [(0, .ref (ar 71)), (1, .int (Int32.ofInt (t0))), (2, .int (Int32.ofInt (p0)))] := hl
  obtain ⟨H, eH⟩ : ∃ H, H = s.heap := ⟨_, rfl⟩
  rw [← eH] at hP
  have hS : va_S A s.heap H [] := by rw [eH]; exact hS
  have gW : s.heap = H := eH.symm
  refine iv_heap gW ?_
  have h0w := hts (.fieldLink RX10 65 "RopeTownModel" "aim" "[I") (wz_at 6 10 rfl)
  have h1w : ∀ w ∈ wsX100, w ∈ wzX10_isServed := fun w h => List.mem_cons_of_mem _ (inlX10 w h)
  refine lv_iload_n hx hb dX10_isServed_0 rfl (lv_at hl 2 rfl) ?_
  refine lv_bipush (v := Int32.ofInt 14) hx hb dX10_isServed_1 (by decide +kernel) ?_
  refine iv_icmp_eq (tgt := 26) hx hb (by omega) (by omega) dX10_isServed_3 (by decide) (fun q1 => ?_) (fun q1 => ?_)
  · refine lv_iconst (v := Int32.ofInt 1) hx hb dX10_isServed_26 (by decide +kernel) ?_
    refine lv_goto (tgt := 31) hx hb dX10_isServed_27 (by decide) ?_
    exact W.zret (v := Int32.ofInt (1)) hx hb hr (nz_bool (by omega)) (fun t ht hW => ⟨⟨Int32.ofInt (1), (1), rfl, ⟨rfl, (show (inR 1) ∧ ((1 = 1 ∧ svM p0 (fa 7 t0)) ∨ (1 = 0 ∧ ¬ svM p0 (fa 7 t0))) from ⟨(by omega), (by unfold svM; omega)⟩)⟩, by rw [ht]; exact hP, hD⟩, hS.F ht⟩) hS.2.2 dX10_isServed_31
  · refine lv_aload_n hx hb dX10_isServed_6 rfl (lv_at hl 0 rfl) ?_
    refine va_get (D := G) (ci := 7) (v := .ref (ar 7)) (C := RX10) (T := TX10) (N := 71) (ref := RX10) hx hb hts h1w hown hX.1 hP 0 rfl rfl 7 (by decide) h0w (fun _ h9 => h9) rfl dX10_isServed_7 ?_
    refine lv_iload_n hx hb dX10_isServed_10 rfl (lv_at hl 1 rfl) ?_
    refine iv_iald hx hb hX.1 hP 5 0 rfl rfl (by omega) (by omega) (by decide) dX10_isServed_11 ?_
    refine iv_top (fun z2 ez2 => ?_)
    have rz2 : inR z2 := ez2 ▸ (hRa 7) _
    have ez2 : z2 = (fa 7) t0 := ez2
    refine lv_iconst (v := Int32.ofInt (-1)) hx hb dX10_isServed_12 (by decide +kernel) ?_
    refine iv_icmp_eq (tgt := 30) hx hb (by omega) (by omega) dX10_isServed_13 (by decide) (fun q3 => ?_) (fun q3 => ?_)
    · refine lv_iconst (v := Int32.ofInt 0) hx hb dX10_isServed_30 (by decide +kernel) ?_
      exact W.zret (v := Int32.ofInt (0)) hx hb hr (nz_bool (by omega)) (fun t ht hW => ⟨⟨Int32.ofInt (0), (0), rfl, ⟨rfl, (show (inR 0) ∧ ((0 = 1 ∧ svM p0 (fa 7 t0)) ∨ (0 = 0 ∧ ¬ svM p0 (fa 7 t0))) from ⟨(by omega), (by unfold svM; omega)⟩)⟩, by rw [ht]; exact hP, hD⟩, hS.F ht⟩) hS.2.2 dX10_isServed_31
    · refine lv_iload_n hx hb dX10_isServed_16 rfl (lv_at hl 2 rfl) ?_
      refine lv_aload_n hx hb dX10_isServed_17 rfl (lv_at hl 0 rfl) ?_
      refine va_get (D := G) (ci := 7) (v := .ref (ar 7)) (C := RX10) (T := TX10) (N := 71) (ref := RX10) hx hb hts h1w hown hX.1 hP 0 rfl rfl 7 (by decide) h0w (fun _ h9 => h9) rfl dX10_isServed_18 ?_
      refine lv_iload_n hx hb dX10_isServed_21 rfl (lv_at hl 1 rfl) ?_
      refine iv_iald hx hb hX.1 hP 5 0 rfl rfl (by omega) (by omega) (by decide) dX10_isServed_22 ?_
      refine iv_top (fun z4 ez4 => ?_)
      have rz4 : inR z4 := ez4 ▸ (hRa 7) _
      have ez4 : z4 = (fa 7) t0 := ez4
      refine iv_icmp_ne (tgt := 30) hx hb (by omega) (by omega) dX10_isServed_23 (by decide) (fun q5 => ?_) (fun q5 => ?_)
      · refine lv_iconst (v := Int32.ofInt 0) hx hb dX10_isServed_30 (by decide +kernel) ?_
        exact W.zret (v := Int32.ofInt (0)) hx hb hr (nz_bool (by omega)) (fun t ht hW => ⟨⟨Int32.ofInt (0), (0), rfl, ⟨rfl, (show (inR 0) ∧ ((0 = 1 ∧ svM p0 (fa 7 t0)) ∨ (0 = 0 ∧ ¬ svM p0 (fa 7 t0))) from ⟨(by omega), (by unfold svM; omega)⟩)⟩, by rw [ht]; exact hP, hD⟩, hS.F ht⟩) hS.2.2 dX10_isServed_31
      · refine lv_iconst (v := Int32.ofInt 1) hx hb dX10_isServed_26 (by decide +kernel) ?_
        refine lv_goto (tgt := 31) hx hb dX10_isServed_27 (by decide) ?_
        exact W.zret (v := Int32.ofInt (1)) hx hb hr (nz_bool (by omega)) (fun t ht hW => ⟨⟨Int32.ofInt (1), (1), rfl, ⟨rfl, (show (inR 1) ∧ ((1 = 1 ∧ svM p0 (fa 7 t0)) ∨ (1 = 0 ∧ ¬ svM p0 (fa 7 t0))) from ⟨(by omega), (by unfold svM; omega)⟩)⟩, by rw [ht]; exact hP, hD⟩, hS.F ht⟩) hS.2.2 dX10_isServed_31

