set_option maxHeartbeats 4000000 in
set_option maxRecDepth 100000 in
theorem mX10_winding (l : Launch) (G : va_G) (k : Nat → ClassId) (ar : Nat → Nat) (fi : Nat → Int) (fa : Nat → Int → Int) (fl : Nat → Int64) (d0 : Int) (sz : Nat) (hR : ∀ j, inR (fi j)) (hRa : ∀ j t, inR (fa j t)) (hr_d0 : inR d0) (hth : 0 ≤ fi 12 ∧ fi 12 ≤ 7) : CNi l G k (EZ k) yX10_winding wzX10_winding ({ frames := 4, cells := 0, slots := 0, locals := 95 }) [.ref (ar 71), .int (Int32.ofInt (d0))] sz (wM k ar fi fa fl) (fun (r0 : Int32) (u : Int × Int × Int × Int × Int) => r0 = Int32.ofInt (u.1) ∧ (inR u.1) ∧ (inR u.2.1) ∧ (inR u.2.2.1) ∧ (inR u.2.2.2.1) ∧ (inR u.2.2.2.2) ∧ (True)) (fun (u : Int × Int × Int × Int × Int) => (wM k ar (uF (uF (uF (uF fi 2 (u.2.1)) 41 (u.2.2.1)) 42 (u.2.2.2.1)) 43 (u.2.2.2.2)) fa fl)) := by
  refine Met.ofW (cc := cX10_winding) (maxL := 2) (ret := (some .int)) (by decide) rfl ?_
  intro p e s m args below meth c s₁ B hml hv
  obtain ⟨rfl, hsz, hP, hX, hD0, hZ0⟩ := hv
  have hx := B.exec
  have hb := B.bytes
  have hr := B.returns
  have hts := atoms_spec (ws := wzX10_winding) B.pre
  have hown : s.vm.findClass RX10 = some m.cls := findClass_of_methodNamed B.named
  subst hsz
  have hD := hD0.self (sz := s.heap.size)
  have hZ := hZ0
  generalize hAe : va_A (wM k ar fi fa fl) s.heap.size = A at hD hZ ⊢
  have hA : ∀ q : Nat, s.heap.size ≤ q → A q := fun q h => by rw [← hAe]; exact Or.inr h
  have hS : va_S A s.heap s.heap [] := va_S.rf
  have hl := lv_entry ([.ref (ar 71), .int (Int32.ofInt (d0))]) (n := 2) (Nat.le_of_ble_eq_true rfl)
  rw [lg_entry_eq]
  generalize (lg_sl ([.ref (ar 71), .int (Int32.ofInt (d0))]) ++ List.replicate (2 - (lg_sl ([.ref (ar 71), .int (Int32.ofInt (d0))])).length) Slot.unset).toArray = ls at hl ⊢
  have hl : lv_has ls 2 [(0, .ref (ar 71)), (1, .int (Int32.ofInt (d0)))] := hl
  obtain ⟨H, eH⟩ : ∃ H, H = s.heap := ⟨_, rfl⟩
  rw [← eH] at hP
  have hS : va_S A s.heap H [] := by rw [eH]; exact hS
  have gW : s.heap = H := eH.symm
  refine iv_heap gW ?_
  have h0w := hts (.fieldLink RX10 171 "RopeTownModel" "code" "I") (wz_at 8 12 rfl)
  have h1w : ∀ w ∈ wsX100, w ∈ wzX10_winding := fun w h => List.mem_cons_of_mem _ (inlX10 w h)
  have h2w := hts (.fieldLink RX10 327 "RopeTownModel" "bucket0" "I") (wz_at 21 13 rfl)
  have h3w := hts (.fieldLink RX10 87 "RopeTownModel" "place" "[I") (wz_at 6 17 rfl)
  have h4w := hts (.fieldLink RX10 391 "RopeTownModel" "wound" "I") (wz_at 30 6 rfl)
  refine lv_aload_n hx hb dX10_winding_0 rfl (lv_at hl 0 rfl) ?_
  refine lv_iconst (v := Int32.ofInt 0) hx hb dX10_winding_1 (by decide +kernel) ?_
  refine iv_put (ci := 7) (v := .int (Int32.ofInt (0))) (ty := .int) (C := RX10) (T := TX10) (N := 71) (ref := RX10) hx hb hts h1w tyX10 tyX10_ok nmX10 hown hX.1 hP hD hS 0 rfl rfl 2 (by decide) h0w (fun _ h9 => h9) rfl (by decide +kernel) rfl rfl (Nat.le_of_ble_eq_true rfl) (wM_F2 _ _ _ _ _) dX10_winding_2 (fun H locs hP hD hS => ?_)
  refine lv_iload_n hx hb dX10_winding_5 rfl (lv_at hl 1 rfl) ?_
  refine lv_iconst (v := Int32.ofInt 0) hx hb dX10_winding_6 (by decide +kernel) ?_
  refine lv_aload_n hx hb dX10_winding_7 rfl (lv_at hl 0 rfl) ?_
  refine cr_i (va_runV (As := []) (rest := [.int (Int32.ofInt (0)), .int (Int32.ofInt (d0))]) ⟨hx, hb, hml, hown, hts⟩ (mX10_depths l G k ar (uF fi 2 (0)) fa fl H.size (iF hR (by omega)) hRa) (cwV 0 hts (gz [.methodLink RX10 346 yX10_depths, .instanceMethod yX10_depths, .selects RX10 yX10_depths yX10_depths, .initialized RX10] (.code yX10_depths cX10_depths 1 (some .int)) [(24, 11), (24, 12), (24, 13), (0, 5), (24, 14)] rfl) rfl rfl rfl (by decide +kernel) ⟨Nat.le_of_ble_eq_true rfl, Nat.le_of_ble_eq_true rfl⟩) (cr_preV (EZ_ok k) hZ hS hX hP hD hA (ci := 7) (q0 := 0) rfl rfl) rfl rfl hl.1 rfl (lv_room (Nat.le_of_ble_eq_true rfl)) dX10_winding_8 ⟨Nat.le_of_ble_eq_true rfl, Nat.le_of_ble_eq_true rfl⟩) hD hS hA (fun r u H locs hp hP hD hS => ?_)
  obtain ⟨c1, rfl⟩ : ∃ z, z = u := ⟨_, rfl⟩
  obtain ⟨h9, rc1, hp1⟩ : r = Int32.ofInt c1 ∧ (inR c1) ∧ (c1 = (fa 3) 0) := hp
  subst h9
  refine c0_i (va_runS (As := [.int (Int32.ofInt (d0)), .int (Int32.ofInt (0)), .int (Int32.ofInt (c1))]) (rest := []) ⟨hx, hb, hml, hown, hts⟩ (mX10_isIn l G k d0 0 c1 H.size (by omega) (by omega) (by omega)) (cwS 3 hts (gz [.methodLink RX10 177 yX10_isIn, .static yX10_isIn, .initialized RX10] (.code yX10_isIn cX10_isIn 3 (some .boolean)) [(18, 16), (18, 17), (0, 5), (18, 18)] rfl) rfl rfl rfl (by decide +kernel) ⟨Nat.le_of_ble_eq_true rfl, Nat.le_of_ble_eq_true rfl⟩) (cr_pre0 (EZ_ok k) hZ hS hX hP hD hA) rfl rfl hl.1 rfl (lv_room (Nat.le_of_ble_eq_true rfl)) dX10_winding_11 ⟨Nat.le_of_ble_eq_true rfl, Nat.le_of_ble_eq_true rfl⟩) hP hD hS hA (fun r u H locs hp hP hD hS => ?_)
  obtain ⟨c2, rfl⟩ : ∃ z, z = u := ⟨_, rfl⟩
  obtain ⟨h9, rc2, hp2⟩ : r = Int32.ofInt c2 ∧ (inR c2) ∧ ((c2 = 1 ∧ 0 ≤ d0 ∧ d0 ≤ c1) ∨ (c2 = 0 ∧ (d0 < 0 ∨ c1 < d0))) := hp
  subst h9
  refine iv_if_eq (tgt := 25) hx hb (by omega) dX10_winding_14 (by decide) (fun q3 => ?_) (fun q3 => ?_)
  · refine lv_iconst (v := Int32.ofInt (-1)) hx hb dX10_winding_25 (by decide +kernel) ?_
    exact W.iret (v := Int32.ofInt ((-1))) hx hb hr (fun t ht hW => ⟨⟨Int32.ofInt ((-1)), ((-1), 0, fi 41, fi 42, fi 43), rfl, ⟨rfl, (show (inR (-1)) ∧ (inR 0) ∧ (inR (fi 41)) ∧ (inR (fi 42)) ∧ (inR (fi 43)) ∧ (True) from ⟨(by omega), (by omega), (hR 41), (hR 42), (hR 43), trivial⟩)⟩, by rw [ht]; exact hP, hD⟩, hS.F ht⟩) hS.2.2 dX10_winding_26
  · refine lv_iload_n hx hb dX10_winding_17 rfl (lv_at hl 1 rfl) ?_
    refine lv_aload_n hx hb dX10_winding_18 rfl (lv_at hl 0 rfl) ?_
    refine va_get (D := G) (ci := 7) (v := .int (Int32.ofInt (fi 28))) (C := RX10) (T := TX10) (N := 71) (ref := RX10) hx hb hts h1w hown hX.1 hP 0 rfl rfl 28 (by decide) h2w (fun _ h9 => h9) rfl dX10_winding_19 ?_
    have rf28 := hR 28
    refine iv_icmp_ne (tgt := 27) hx hb (by omega) (by omega) dX10_winding_22 (by decide) (fun q4 => ?_) (fun q4 => ?_)
    · refine lv_aload_n hx hb dX10_winding_27 rfl (lv_at hl 0 rfl) ?_
      refine lv_aload_n hx hb dX10_winding_28 rfl (lv_at hl 0 rfl) ?_
      refine va_get (D := G) (ci := 7) (v := .ref (ar 32)) (C := RX10) (T := TX10) (N := 71) (ref := RX10) hx hb hts h1w hown hX.1 hP 0 rfl rfl 32 (by decide) h3w (fun _ h9 => h9) rfl dX10_winding_29 ?_
      refine lv_aload_n hx hb dX10_winding_32 rfl (lv_at hl 0 rfl) ?_
      refine va_get (D := G) (ci := 7) (v := .int (Int32.ofInt (fi 28))) (C := RX10) (T := TX10) (N := 71) (ref := RX10) hx hb hts h1w hown hX.1 hP 0 rfl rfl 28 (by decide) h2w (fun _ h9 => h9) rfl dX10_winding_33 ?_
      have rf28 := hR 28
      refine lv_iload_n hx hb dX10_winding_36 rfl (lv_at hl 1 rfl) ?_
      refine cr_v (va_runV (As := [.ref (ar 32), .int (Int32.ofInt (fi 28)), .int (Int32.ofInt (d0))]) (rest := []) ⟨hx, hb, hml, hown, hts⟩ (mX10_tellRide_32 l G k ar (uF fi 2 (0)) fa fl (fi 28) d0 H.size (iF hR (by omega)) hRa (hR 28) (by omega) (show 0 ≤ (fi 12) ∧ (fi 12) ≤ 7 from by omega)) (cwV 3 hts (gz [.methodLink RX10 405 yX10_tellRide, .instanceMethod yX10_tellRide, .selects RX10 yX10_tellRide yX10_tellRide, .initialized RX10] (.code yX10_tellRide cX10_tellRide 8 none) [(30, 19), (30, 20), (30, 21), (0, 5), (30, 22)] rfl) rfl rfl rfl (by decide +kernel) ⟨Nat.le_of_ble_eq_true rfl, Nat.le_of_ble_eq_true rfl⟩) (cr_preV (EZ_ok k) hZ hS hX hP hD hA (ci := 7) (q0 := 0) rfl rfl) rfl rfl hl.1 rfl (lv_room (Nat.le_of_ble_eq_true rfl)) dX10_winding_37 ⟨Nat.le_of_ble_eq_true rfl, Nat.le_of_ble_eq_true rfl⟩) hD hS hA (fun u H locs hp hP hD hS => ?_)
      obtain ⟨c5, c6, c7⟩ := u
      obtain ⟨hP, hD⟩ : va_P G vwCl (wM k ar (uF (uF (uF (uF fi 2 (0)) 41 (c5)) 42 (c6)) 43 (c7)) fa fl) H ∧ va_D A (wM k ar (uF (uF (uF (uF fi 2 (0)) 41 (c5)) 42 (c6)) 43 (c7)) fa fl) := ⟨hP, hD⟩
      obtain ⟨rc5, rc6, rc7, hp7⟩ : (inR c5) ∧ (inR c6) ∧ (inR c7) ∧ (LM c5 c6 (exM (gs (lc ((fa 32)) ((fa 5)) 0) ((fi 12))) (gs (lc ((fa 32)) ((fa 5)) 1) ((fi 12))) ((fa 3) 3) ((fa 3) 0) (stD (fi 28) d0)) (fi 28) d0) := hp
      have hLm37 := hp7
      refine lv_aload_n hx hb dX10_winding_40 rfl (lv_at hl 0 rfl) ?_
      refine va_get (D := G) (ci := 7) (v := .int (Int32.ofInt (c7))) (C := RX10) (T := TX10) (N := 71) (ref := RX10) hx hb hts h1w hown hX.1 hP 0 rfl rfl 43 (by decide) h4w (fun _ h9 => h9) rfl dX10_winding_41 ?_
      exact W.iret (v := Int32.ofInt (c7)) hx hb hr (fun t ht hW => ⟨⟨Int32.ofInt (c7), (c7, 0, c5, c6, c7), rfl, ⟨rfl, (show (inR c7) ∧ (inR 0) ∧ (inR c5) ∧ (inR c6) ∧ (inR c7) ∧ (True) from ⟨(by omega), (by omega), (by omega), (by omega), (by omega), trivial⟩)⟩, by rw [ht]; exact hP, hD⟩, hS.F ht⟩) hS.2.2 dX10_winding_44
    · refine lv_iconst (v := Int32.ofInt (-1)) hx hb dX10_winding_25 (by decide +kernel) ?_
      exact W.iret (v := Int32.ofInt ((-1))) hx hb hr (fun t ht hW => ⟨⟨Int32.ofInt ((-1)), ((-1), 0, fi 41, fi 42, fi 43), rfl, ⟨rfl, (show (inR (-1)) ∧ (inR 0) ∧ (inR (fi 41)) ∧ (inR (fi 42)) ∧ (inR (fi 43)) ∧ (True) from ⟨(by omega), (by omega), (hR 41), (hR 42), (hR 43), trivial⟩)⟩, by rw [ht]; exact hP, hD⟩, hS.F ht⟩) hS.2.2 dX10_winding_26

set_option maxHeartbeats 4000000 in
set_option maxRecDepth 100000 in
theorem mX10_may (l : Launch) (G : va_G) (k : Nat → ClassId) (ar : Nat → Nat) (fi : Nat → Int) (fa : Nat → Int → Int) (fl : Nat → Int64) (d0 : Int) (sz : Nat) (hR : ∀ j, inR (fi j)) (hRa : ∀ j t, inR (fa j t)) (hr_d0 : inR d0) (hth : 0 ≤ fi 12 ∧ fi 12 ≤ 7) (hru : 0 ≤ fi 13 ∧ fi 13 ≤ 4) (hRW : ∀ q9, 0 ≤ q9 → q9 < fi 13 → RWf (fa 10) (fa 8 q9) (fa 9 q9)) : CNi l G k (EZ k) yX10_may wzX10_may ({ frames := 4, cells := 0, slots := 0, locals := 95 }) [.ref (ar 71), .int (Int32.ofInt (d0))] sz (wM k ar fi fa fl) (fun (r0 : Int32) (u : Int × (Int → Int) × (Int → Int) × Int × Int × Int × Int) => r0 = Int32.ofInt (u.1) ∧ (inR u.1) ∧ (∀ t, inR (u.2.1 t)) ∧ (∀ t, inR (u.2.2.1 t)) ∧ (inR u.2.2.2.1) ∧ (inR u.2.2.2.2.1) ∧ (inR u.2.2.2.2.2.1) ∧ (inR u.2.2.2.2.2.2) ∧ (True)) (fun (u : Int × (Int → Int) × (Int → Int) × Int × Int × Int × Int) => (wM k ar (uF (uF (uF (uF fi 2 (u.2.2.2.1)) 41 (u.2.2.2.2.1)) 42 (u.2.2.2.2.2.1)) 43 (u.2.2.2.2.2.2)) (uF (uF fa 39 (u.2.1)) 40 (u.2.2.1)) fl)) := by
  refine Met.ofW (cc := cX10_may) (maxL := 4) (ret := (some .int)) (by decide) rfl ?_
  intro p e s m args below meth c s₁ B hml hv
  obtain ⟨rfl, hsz, hP, hX, hD0, hZ0⟩ := hv
  have hx := B.exec
  have hb := B.bytes
  have hr := B.returns
  have hts := atoms_spec (ws := wzX10_may) B.pre
  have hown : s.vm.findClass RX10 = some m.cls := findClass_of_methodNamed B.named
  subst hsz
  have hD := hD0.self (sz := s.heap.size)
  have hZ := hZ0
  generalize hAe : va_A (wM k ar fi fa fl) s.heap.size = A at hD hZ ⊢
  have hA : ∀ q : Nat, s.heap.size ≤ q → A q := fun q h => by rw [← hAe]; exact Or.inr h
  have hS : va_S A s.heap s.heap [] := va_S.rf
  have hl := lv_entry ([.ref (ar 71), .int (Int32.ofInt (d0))]) (n := 4) (Nat.le_of_ble_eq_true rfl)
  rw [lg_entry_eq]
  generalize (lg_sl ([.ref (ar 71), .int (Int32.ofInt (d0))]) ++ List.replicate (4 - (lg_sl ([.ref (ar 71), .int (Int32.ofInt (d0))])).length) Slot.unset).toArray = ls at hl ⊢
  have hl : lv_has ls 4 [(0, .ref (ar 71)), (1, .int (Int32.ofInt (d0)))] := hl
  obtain ⟨H, eH⟩ : ∃ H, H = s.heap := ⟨_, rfl⟩
  rw [← eH] at hP
  have hS : va_S A s.heap H [] := by rw [eH]; exact hS
  have gW : s.heap = H := eH.symm
  refine iv_heap gW ?_
  have h0w := hts (.fieldLink RX10 171 "RopeTownModel" "code" "I") (wz_at 8 12 rfl)
  have h1w : ∀ w ∈ wsX100, w ∈ wzX10_may := fun w h => List.mem_cons_of_mem _ (inlX10 w h)
  have h2w := hts (.fieldLink RX10 327 "RopeTownModel" "bucket0" "I") (wz_at 21 13 rfl)
  have h3w := hts (.fieldLink RX10 87 "RopeTownModel" "place" "[I") (wz_at 6 17 rfl)
  refine lv_aload_n hx hb dX10_may_0 rfl (lv_at hl 0 rfl) ?_
  refine lv_iconst (v := Int32.ofInt 0) hx hb dX10_may_1 (by decide +kernel) ?_
  refine iv_put (ci := 7) (v := .int (Int32.ofInt (0))) (ty := .int) (C := RX10) (T := TX10) (N := 71) (ref := RX10) hx hb hts h1w tyX10 tyX10_ok nmX10 hown hX.1 hP hD hS 0 rfl rfl 2 (by decide) h0w (fun _ h9 => h9) rfl (by decide +kernel) rfl rfl (Nat.le_of_ble_eq_true rfl) (wM_F2 _ _ _ _ _) dX10_may_2 (fun H locs hP hD hS => ?_)
  refine lv_iload_n hx hb dX10_may_5 rfl (lv_at hl 1 rfl) ?_
  refine lv_iconst (v := Int32.ofInt 0) hx hb dX10_may_6 (by decide +kernel) ?_
  refine lv_aload_n hx hb dX10_may_7 rfl (lv_at hl 0 rfl) ?_
  refine cr_i (va_runV (As := []) (rest := [.int (Int32.ofInt (0)), .int (Int32.ofInt (d0))]) ⟨hx, hb, hml, hown, hts⟩ (mX10_depths l G k ar (uF fi 2 (0)) fa fl H.size (iF hR (by omega)) hRa) (cwV 0 hts (gz [.methodLink RX10 346 yX10_depths, .instanceMethod yX10_depths, .selects RX10 yX10_depths yX10_depths, .initialized RX10] (.code yX10_depths cX10_depths 1 (some .int)) [(24, 11), (24, 12), (24, 13), (0, 5), (24, 14)] rfl) rfl rfl rfl (by decide +kernel) ⟨Nat.le_of_ble_eq_true rfl, Nat.le_of_ble_eq_true rfl⟩) (cr_preV (EZ_ok k) hZ hS hX hP hD hA (ci := 7) (q0 := 0) rfl rfl) rfl rfl hl.1 rfl (lv_room (Nat.le_of_ble_eq_true rfl)) dX10_may_8 ⟨Nat.le_of_ble_eq_true rfl, Nat.le_of_ble_eq_true rfl⟩) hD hS hA (fun r u H locs hp hP hD hS => ?_)
  obtain ⟨c1, rfl⟩ : ∃ z, z = u := ⟨_, rfl⟩
  obtain ⟨h9, rc1, hp1⟩ : r = Int32.ofInt c1 ∧ (inR c1) ∧ (c1 = (fa 3) 0) := hp
  subst h9
  refine c0_i (va_runS (As := [.int (Int32.ofInt (d0)), .int (Int32.ofInt (0)), .int (Int32.ofInt (c1))]) (rest := []) ⟨hx, hb, hml, hown, hts⟩ (mX10_isIn l G k d0 0 c1 H.size (by omega) (by omega) (by omega)) (cwS 3 hts (gz [.methodLink RX10 177 yX10_isIn, .static yX10_isIn, .initialized RX10] (.code yX10_isIn cX10_isIn 3 (some .boolean)) [(18, 16), (18, 17), (0, 5), (18, 18)] rfl) rfl rfl rfl (by decide +kernel) ⟨Nat.le_of_ble_eq_true rfl, Nat.le_of_ble_eq_true rfl⟩) (cr_pre0 (EZ_ok k) hZ hS hX hP hD hA) rfl rfl hl.1 rfl (lv_room (Nat.le_of_ble_eq_true rfl)) dX10_may_11 ⟨Nat.le_of_ble_eq_true rfl, Nat.le_of_ble_eq_true rfl⟩) hP hD hS hA (fun r u H locs hp hP hD hS => ?_)
  obtain ⟨c2, rfl⟩ : ∃ z, z = u := ⟨_, rfl⟩
  obtain ⟨h9, rc2, hp2⟩ : r = Int32.ofInt c2 ∧ (inR c2) ∧ ((c2 = 1 ∧ 0 ≤ d0 ∧ d0 ≤ c1) ∨ (c2 = 0 ∧ (d0 < 0 ∨ c1 < d0))) := hp
  subst h9
  refine iv_if_eq (tgt := 51) hx hb (by omega) dX10_may_14 (by decide) (fun q3 => ?_) (fun q3 => ?_)
  · refine lv_iconst (v := Int32.ofInt 0) hx hb dX10_may_51 (by decide +kernel) ?_
    exact W.iret (v := Int32.ofInt (0)) hx hb hr (fun t ht hW => ⟨⟨Int32.ofInt (0), (0, fa 39, fa 40, 0, fi 41, fi 42, fi 43), rfl, ⟨rfl, (show (inR 0) ∧ (∀ t, inR ((fa 39) t)) ∧ (∀ t, inR ((fa 40) t)) ∧ (inR 0) ∧ (inR (fi 41)) ∧ (inR (fi 42)) ∧ (inR (fi 43)) ∧ (True) from ⟨(by omega), (hRa 39), (hRa 40), (by omega), (hR 41), (hR 42), (hR 43), trivial⟩)⟩, by rw [ht]; exact hP, hD⟩, hS.F ht⟩) hS.2.2 dX10_may_52
  · refine lv_iload_n hx hb dX10_may_17 rfl (lv_at hl 1 rfl) ?_
    refine lv_aload_n hx hb dX10_may_18 rfl (lv_at hl 0 rfl) ?_
    refine va_get (D := G) (ci := 7) (v := .int (Int32.ofInt (fi 28))) (C := RX10) (T := TX10) (N := 71) (ref := RX10) hx hb hts h1w hown hX.1 hP 0 rfl rfl 28 (by decide) h2w (fun _ h9 => h9) rfl dX10_may_19 ?_
    have rf28 := hR 28
    refine iv_icmp_eq (tgt := 51) hx hb (by omega) (by omega) dX10_may_22 (by decide) (fun q4 => ?_) (fun q4 => ?_)
    · refine lv_iconst (v := Int32.ofInt 0) hx hb dX10_may_51 (by decide +kernel) ?_
      exact W.iret (v := Int32.ofInt (0)) hx hb hr (fun t ht hW => ⟨⟨Int32.ofInt (0), (0, fa 39, fa 40, 0, fi 41, fi 42, fi 43), rfl, ⟨rfl, (show (inR 0) ∧ (∀ t, inR ((fa 39) t)) ∧ (∀ t, inR ((fa 40) t)) ∧ (inR 0) ∧ (inR (fi 41)) ∧ (inR (fi 42)) ∧ (inR (fi 43)) ∧ (True) from ⟨(by omega), (hRa 39), (hRa 40), (by omega), (hR 41), (hR 42), (hR 43), trivial⟩)⟩, by rw [ht]; exact hP, hD⟩, hS.F ht⟩) hS.2.2 dX10_may_52
    · refine lv_aload_n hx hb dX10_may_25 rfl (lv_at hl 0 rfl) ?_
      refine lv_aload_n hx hb dX10_may_26 rfl (lv_at hl 0 rfl) ?_
      refine va_get (D := G) (ci := 7) (v := .ref (ar 32)) (C := RX10) (T := TX10) (N := 71) (ref := RX10) hx hb hts h1w hown hX.1 hP 0 rfl rfl 32 (by decide) h3w (fun _ h9 => h9) rfl dX10_may_27 ?_
      refine cr_i (va_runV (As := [.ref (ar 32)]) (rest := []) ⟨hx, hb, hml, hown, hts⟩ (mX10_keepsCap_32 l G k ar (uF fi 2 (0)) fa fl H.size (iF hR (by omega)) hRa (show 0 ≤ (fi 12) ∧ (fi 12) ≤ 7 from by omega)) (cwV 1 hts (gz [.methodLink RX10 397 yX10_keepsCap, .instanceMethod yX10_keepsCap, .selects RX10 yX10_keepsCap yX10_keepsCap, .initialized RX10] (.code yX10_keepsCap cX10_keepsCap 2 (some .boolean)) [(30, 11), (30, 12), (30, 13), (0, 5), (30, 14)] rfl) rfl rfl rfl (by decide +kernel) ⟨Nat.le_of_ble_eq_true rfl, Nat.le_of_ble_eq_true rfl⟩) (cr_preV (EZ_ok k) hZ hS hX hP hD hA (ci := 7) (q0 := 0) rfl rfl) rfl rfl hl.1 rfl (lv_room (Nat.le_of_ble_eq_true rfl)) dX10_may_30 ⟨Nat.le_of_ble_eq_true rfl, Nat.le_of_ble_eq_true rfl⟩) hD hS hA (fun r u H locs hp hP hD hS => ?_)
      obtain ⟨c5, rfl⟩ : ∃ z, z = u := ⟨_, rfl⟩
      obtain ⟨h9, rc5, hp5⟩ : r = Int32.ofInt c5 ∧ (inR c5) ∧ ((c5 = 1 ∧ (gs (lc ((fa 32)) ((fa 5)) 0) ((fi 12))) ≤ (fa 3) 2 ∧ (gs (lc ((fa 32)) ((fa 5)) 1) ((fi 12))) ≤ (fa 3) 2) ∨ (c5 = 0 ∧ ¬ ((gs (lc ((fa 32)) ((fa 5)) 0) ((fi 12))) ≤ (fa 3) 2 ∧ (gs (lc ((fa 32)) ((fa 5)) 1) ((fi 12))) ≤ (fa 3) 2))) := hp
      subst h9
      refine iv_if_eq (tgt := 51) hx hb (by omega) dX10_may_33 (by decide) (fun q6 => ?_) (fun q6 => ?_)
      · refine lv_iconst (v := Int32.ofInt 0) hx hb dX10_may_51 (by decide +kernel) ?_
        exact W.iret (v := Int32.ofInt (0)) hx hb hr (fun t ht hW => ⟨⟨Int32.ofInt (0), (0, fa 39, fa 40, 0, fi 41, fi 42, fi 43), rfl, ⟨rfl, (show (inR 0) ∧ (∀ t, inR ((fa 39) t)) ∧ (∀ t, inR ((fa 40) t)) ∧ (inR 0) ∧ (inR (fi 41)) ∧ (inR (fi 42)) ∧ (inR (fi 43)) ∧ (True) from ⟨(by omega), (hRa 39), (hRa 40), (by omega), (hR 41), (hR 42), (hR 43), trivial⟩)⟩, by rw [ht]; exact hP, hD⟩, hS.F ht⟩) hS.2.2 dX10_may_52
      · refine lv_aload_n hx hb dX10_may_36 rfl (lv_at hl 0 rfl) ?_
        refine lv_aload_n hx hb dX10_may_37 rfl (lv_at hl 0 rfl) ?_
        refine va_get (D := G) (ci := 7) (v := .ref (ar 32)) (C := RX10) (T := TX10) (N := 71) (ref := RX10) hx hb hts h1w hown hX.1 hP 0 rfl rfl 32 (by decide) h3w (fun _ h9 => h9) rfl dX10_may_38 ?_
        refine lv_aload_n hx hb dX10_may_41 rfl (lv_at hl 0 rfl) ?_
        refine va_get (D := G) (ci := 7) (v := .int (Int32.ofInt (fi 28))) (C := RX10) (T := TX10) (N := 71) (ref := RX10) hx hb hts h1w hown hX.1 hP 0 rfl rfl 28 (by decide) h2w (fun _ h9 => h9) rfl dX10_may_42 ?_
        have rf28 := hR 28
        refine cr_i (va_runV (As := [.ref (ar 32), .int (Int32.ofInt (fi 28))]) (rest := []) ⟨hx, hb, hml, hown, hts⟩ (mX10_keepsRules_32 l G k ar (uF fi 2 (0)) fa fl (fi 28) H.size (iF hR (by omega)) hRa (hR 28) (show 0 ≤ (fi 12) ∧ (fi 12) ≤ 7 from by omega) (show 0 ≤ (fi 13) ∧ (fi 13) ≤ 4 from by omega) (show ∀ q9, 0 ≤ q9 → q9 < (fi 13) → RWf ((fa 10)) ((fa 8) q9) ((fa 9) q9) from by first | exact hRW | omega)) (cwV 2 hts (gz [.methodLink RX10 401 yX10_keepsRules, .instanceMethod yX10_keepsRules, .selects RX10 yX10_keepsRules yX10_keepsRules, .initialized RX10] (.code yX10_keepsRules cX10_keepsRules 3 (some .boolean)) [(30, 15), (30, 16), (30, 17), (0, 5), (30, 18)] rfl) rfl rfl rfl (by decide +kernel) ⟨Nat.le_of_ble_eq_true rfl, Nat.le_of_ble_eq_true rfl⟩) (cr_preV (EZ_ok k) hZ hS hX hP hD hA (ci := 7) (q0 := 0) rfl rfl) rfl rfl hl.1 rfl (lv_room (Nat.le_of_ble_eq_true rfl)) dX10_may_45 ⟨Nat.le_of_ble_eq_true rfl, Nat.le_of_ble_eq_true rfl⟩) hD hS hA (fun r u H locs hp hP hD hS => ?_)
        obtain ⟨c7, c8, c9⟩ := u
        obtain ⟨hP, hD⟩ : va_P G vwCl (wM k ar (uF fi 2 (0)) (uF (uF fa 39 (c8)) 40 (c9)) fl) H ∧ va_D A (wM k ar (uF fi 2 (0)) (uF (uF fa 39 (c8)) 40 (c9)) fl) := ⟨hP, hD⟩
        obtain ⟨h9, rc7, rc8, rc9, hp9⟩ : r = Int32.ofInt c7 ∧ (inR c7) ∧ (∀ t, inR (c8 t)) ∧ (∀ t, inR (c9 t)) ∧ (KrP c7 (bkI (fun q => evR ((fa 10)) (vls ((fa 32)) ((fa 4)) ((fa 5)) 0 ((fi 12)) ((fa 3) 0) (fi 28)) ((fa 8) q) ((fa 9) q)) ((fi 13))) (bkI (fun q => evR ((fa 10)) (vls ((fa 32)) ((fa 4)) ((fa 5)) 1 ((fi 12)) ((fa 3) 0) (fi 28)) ((fa 8) q) ((fa 9) q)) ((fi 13)))) := hp
        subst h9
        have hKr45 := hp9
        unfold KrP at hp9
        refine iv_if_ne (tgt := 53) hx hb (by omega) dX10_may_48 (by decide) (fun q10 => ?_) (fun q10 => ?_)
        · refine lv_aload_n hx hb dX10_may_53 rfl (lv_at hl 0 rfl) ?_
          refine lv_aload_n hx hb dX10_may_54 rfl (lv_at hl 0 rfl) ?_
          refine va_get (D := G) (ci := 7) (v := .ref (ar 32)) (C := RX10) (T := TX10) (N := 71) (ref := RX10) hx hb hts h1w hown hX.1 hP 0 rfl rfl 32 (by decide) h3w (fun _ h9 => h9) rfl dX10_may_55 ?_
          refine lv_aload_n hx hb dX10_may_58 rfl (lv_at hl 0 rfl) ?_
          refine va_get (D := G) (ci := 7) (v := .int (Int32.ofInt (fi 28))) (C := RX10) (T := TX10) (N := 71) (ref := RX10) hx hb hts h1w hown hX.1 hP 0 rfl rfl 28 (by decide) h2w (fun _ h9 => h9) rfl dX10_may_59 ?_
          have rf28 := hR 28
          refine lv_iload_n hx hb dX10_may_62 rfl (lv_at hl 1 rfl) ?_
          refine cr_v (va_runV (As := [.ref (ar 32), .int (Int32.ofInt (fi 28)), .int (Int32.ofInt (d0))]) (rest := []) ⟨hx, hb, hml, hown, hts⟩ (mX10_tellRide_32 l G k ar (uF fi 2 (0)) (uF (uF fa 39 (c8)) 40 (c9)) fl (fi 28) d0 H.size (iF hR (by omega)) (iG (iG hRa rc8) rc9) (hR 28) (by omega) (show 0 ≤ (fi 12) ∧ (fi 12) ≤ 7 from by omega)) (cwV 3 hts (gz [.methodLink RX10 405 yX10_tellRide, .instanceMethod yX10_tellRide, .selects RX10 yX10_tellRide yX10_tellRide, .initialized RX10] (.code yX10_tellRide cX10_tellRide 8 none) [(30, 19), (30, 20), (30, 21), (0, 5), (30, 22)] rfl) rfl rfl rfl (by decide +kernel) ⟨Nat.le_of_ble_eq_true rfl, Nat.le_of_ble_eq_true rfl⟩) (cr_preV (EZ_ok k) hZ hS hX hP hD hA (ci := 7) (q0 := 0) rfl rfl) rfl rfl hl.1 rfl (lv_room (Nat.le_of_ble_eq_true rfl)) dX10_may_63 ⟨Nat.le_of_ble_eq_true rfl, Nat.le_of_ble_eq_true rfl⟩) hD hS hA (fun u H locs hp hP hD hS => ?_)
          obtain ⟨c11, c12, c13⟩ := u
          obtain ⟨hP, hD⟩ : va_P G vwCl (wM k ar (uF (uF (uF (uF fi 2 (0)) 41 (c11)) 42 (c12)) 43 (c13)) (uF (uF fa 39 (c8)) 40 (c9)) fl) H ∧ va_D A (wM k ar (uF (uF (uF (uF fi 2 (0)) 41 (c11)) 42 (c12)) 43 (c13)) (uF (uF fa 39 (c8)) 40 (c9)) fl) := ⟨hP, hD⟩
          obtain ⟨rc11, rc12, rc13, hp13⟩ : (inR c11) ∧ (inR c12) ∧ (inR c13) ∧ (LM c11 c12 (exM (gs (lc ((fa 32)) ((fa 5)) 0) ((fi 12))) (gs (lc ((fa 32)) ((fa 5)) 1) ((fi 12))) ((fa 3) 3) ((fa 3) 0) (stD (fi 28) d0)) (fi 28) d0) := hp
          have hLm63 := hp13
          refine lv_iconst (v := Int32.ofInt 0) hx hb dX10_may_66 (by decide +kernel) ?_
          refine lv_istore_n (lv' := [(2, .int (Int32.ofInt (0))), (0, .ref (ar 71)), (1, .int (Int32.ofInt (d0)))]) hx hb dX10_may_67 rfl hl (by decide) rfl (fun ls hl => ?_)
          refine lv_iconst (v := Int32.ofInt 0) hx hb dX10_may_68 (by decide +kernel) ?_
          refine lv_istore_n (lv' := [(3, .int (Int32.ofInt (0))), (2, .int (Int32.ofInt (0))), (0, .ref (ar 71)), (1, .int (Int32.ofInt (d0)))]) hx hb dX10_may_69 rfl hl (by decide) rfl (fun ls hl => ?_)
          refine iv_loop (α := Int × Int) (nL := 4) (fun b9 => (wM k ar (uF (uF (uF (uF fi 2 (0)) 41 (c11)) 42 (c12)) 43 (c13)) (uF (uF fa 39 (c8)) 40 (c9)) fl)) (fun b9 => [(3, .int (Int32.ofInt (b9.1))), (2, .int (Int32.ofInt (b9.2))), (0, .ref (ar 71)), (1, .int (Int32.ofInt (d0)))]) (fun b9 => (3 - b9.1).toNat) (fun b9 => inR b9.1 ∧ inR b9.2 ∧ (0 ≤ b9.1 ∧ b9.1 ≤ 3)) ?_ (0, 0) (show inR 0 ∧ inR 0 ∧ (0 ≤ 0 ∧ 0 ≤ 3) from ⟨(by omega), (by omega), (by omega)⟩) hP hD hS hl
          rintro ⟨x3_14, x2_15⟩ ih hi9 H locs ls hP hD hS hl
          obtain ⟨r_x3_14, r_x2_15, hinv⟩ : inR x3_14 ∧ inR x2_15 ∧ (0 ≤ x3_14 ∧ x3_14 ≤ 3) := hi9
          obtain ⟨hP, hD⟩ : va_P G vwCl (wM k ar (uF (uF (uF (uF fi 2 (0)) 41 (c11)) 42 (c12)) 43 (c13)) (uF (uF fa 39 (c8)) 40 (c9)) fl) H ∧ va_D A (wM k ar (uF (uF (uF (uF fi 2 (0)) 41 (c11)) 42 (c12)) 43 (c13)) (uF (uF fa 39 (c8)) 40 (c9)) fl) := ⟨hP, hD⟩
          have hl : lv_has ls 4 [(3, .int (Int32.ofInt (x3_14))), (2, .int (Int32.ofInt (x2_15))), (0, .ref (ar 71)), (1, .int (Int32.ofInt (d0)))] := hl
          refine lv_iload_n hx hb dX10_may_70 rfl (lv_at hl 0 rfl) ?_
          refine lv_iconst (v := Int32.ofInt 2) hx hb dX10_may_71 (by decide +kernel) ?_
          refine iv_icmp_gt (tgt := 99) hx hb (by omega) (by omega) dX10_may_72 (by decide) (fun q16 => ?_) (fun q16 => ?_)
          · refine lv_iload_n hx hb dX10_may_99 rfl (lv_at hl 1 rfl) ?_
            exact W.iret (v := Int32.ofInt (x2_15)) hx hb hr (fun t ht hW => ⟨⟨Int32.ofInt (x2_15), (x2_15, c8, c9, 0, c11, c12, c13), rfl, ⟨rfl, (show (inR x2_15) ∧ (∀ t, inR (c8 t)) ∧ (∀ t, inR (c9 t)) ∧ (inR 0) ∧ (inR c11) ∧ (inR c12) ∧ (inR c13) ∧ (True) from ⟨(by omega), rc8, rc9, (by omega), (by omega), (by omega), (by omega), trivial⟩)⟩, by rw [ht]; exact hP, hD⟩, hS.F ht⟩) hS.2.2 dX10_may_100
          · refine lv_iload_n hx hb dX10_may_75 rfl (lv_at hl 1 rfl) ?_
            refine lv_aload_n hx hb dX10_may_76 rfl (lv_at hl 2 rfl) ?_
            refine lv_iload_n hx hb dX10_may_77 rfl (lv_at hl 0 rfl) ?_
            refine cr_i (va_runV (As := [.int (Int32.ofInt (x3_14))]) (rest := [.int (Int32.ofInt (x2_15))]) ⟨hx, hb, hml, hown, hts⟩ (mX10_swing l G k ar (uF (uF (uF (uF fi 2 (0)) 41 (c11)) 42 (c12)) 43 (c13)) (uF (uF fa 39 (c8)) 40 (c9)) fl x3_14 H.size (iF (iF (iF (iF hR (by omega)) (by omega)) (by omega)) (by omega)) (iG (iG hRa rc8) rc9) (by omega)) (cwV 1 hts (gz [.methodLink RX10 409 yX10_swing, .instanceMethod yX10_swing, .selects RX10 yX10_swing yX10_swing, .initialized RX10] (.code yX10_swing cX10_swing 2 (some .int)) [(31, 6), (31, 7), (31, 8), (0, 5), (31, 9)] rfl) rfl rfl rfl (by decide +kernel) ⟨Nat.le_of_ble_eq_true rfl, Nat.le_of_ble_eq_true rfl⟩) (cr_preV (EZ_ok k) hZ hS hX hP hD hA (ci := 7) (q0 := 0) rfl rfl) rfl rfl hl.1 rfl (lv_room (Nat.le_of_ble_eq_true rfl)) dX10_may_78 ⟨Nat.le_of_ble_eq_true rfl, Nat.le_of_ble_eq_true rfl⟩) hD hS hA (fun r u H locs hp hP hD hS => ?_)
            obtain ⟨c17, rfl⟩ : ∃ z, z = u := ⟨_, rfl⟩
            obtain ⟨h9, rc17, hp17⟩ : r = Int32.ofInt c17 ∧ (inR c17) ∧ (c17 = swM x3_14 (c11) (c12) ((fa 3) 4) ((fa 3) 5) ((fa 3) 6)) := hp
            subst h9
            have hSw78 := hp17
            refine iv_if_ne (tgt := 90) hx hb (by omega) dX10_may_81 (by decide) (fun q18 => ?_) (fun q18 => ?_)
            · refine lv_iconst (v := Int32.ofInt 0) hx hb dX10_may_90 (by decide +kernel) ?_
              refine iv_or hx hb dX10_may_91 ?_
              refine iv_top (fun z19 ez19 => ?_)
              have rz19 : inR z19 := ez19 ▸ bOr_r _ _
              refine lv_istore_n (lv' := [(2, .int (Int32.ofInt (z19))), (3, .int (Int32.ofInt (x3_14))), (0, .ref (ar 71)), (1, .int (Int32.ofInt (d0)))]) hx hb dX10_may_92 rfl hl (by decide) rfl (fun ls hl => ?_)
              refine lv_iinc (v := Int32.ofInt (x3_14 + 1)) (lv' := [(3, .int (Int32.ofInt ((x3_14 + 1)))), (2, .int (Int32.ofInt (z19))), (0, .ref (ar 71)), (1, .int (Int32.ofInt (d0)))]) hx hb dX10_may_93 hl (k := 1) rfl (Int32.ofInt_add _ _).symm (by decide) rfl (fun ls hl => ?_)
              refine lv_goto (tgt := 70) hx hb dX10_may_96 (by decide) ?_
              have hl : lv_has ls 4 [(3, .int (Int32.ofInt ((x3_14 + 1)))), (2, .int (Int32.ofInt (z19))), (0, .ref (ar 71)), (1, .int (Int32.ofInt (d0)))] := lv_sub hl [0, 1, 2, 3] rfl
              exact ih ((x3_14 + 1), z19) (show (3 - (x3_14 + 1)).toNat < (3 - x3_14).toNat from by omega) (show inR (x3_14 + 1) ∧ inR z19 ∧ (0 ≤ (x3_14 + 1) ∧ (x3_14 + 1) ≤ 3) from ⟨(by omega), (by omega), (by omega)⟩) _ _ _ hP hD hS hl
            · refine lv_iconst (v := Int32.ofInt 1) hx hb dX10_may_84 (by decide +kernel) ?_
              refine lv_iload_n hx hb dX10_may_85 rfl (lv_at hl 0 rfl) ?_
              refine iv_shl hx hb dX10_may_86 ?_
              refine iv_top (fun z20 ez20 => ?_)
              have rz20 : inR z20 := ez20 ▸ bShl_r _ _
              refine lv_goto (tgt := 91) hx hb dX10_may_87 (by decide) ?_
              refine iv_or hx hb dX10_may_91 ?_
              refine iv_top (fun z21 ez21 => ?_)
              have rz21 : inR z21 := ez21 ▸ bOr_r _ _
              refine lv_istore_n (lv' := [(2, .int (Int32.ofInt (z21))), (3, .int (Int32.ofInt (x3_14))), (0, .ref (ar 71)), (1, .int (Int32.ofInt (d0)))]) hx hb dX10_may_92 rfl hl (by decide) rfl (fun ls hl => ?_)
              refine lv_iinc (v := Int32.ofInt (x3_14 + 1)) (lv' := [(3, .int (Int32.ofInt ((x3_14 + 1)))), (2, .int (Int32.ofInt (z21))), (0, .ref (ar 71)), (1, .int (Int32.ofInt (d0)))]) hx hb dX10_may_93 hl (k := 1) rfl (Int32.ofInt_add _ _).symm (by decide) rfl (fun ls hl => ?_)
              refine lv_goto (tgt := 70) hx hb dX10_may_96 (by decide) ?_
              have hl : lv_has ls 4 [(3, .int (Int32.ofInt ((x3_14 + 1)))), (2, .int (Int32.ofInt (z21))), (0, .ref (ar 71)), (1, .int (Int32.ofInt (d0)))] := lv_sub hl [0, 1, 2, 3] rfl
              exact ih ((x3_14 + 1), z21) (show (3 - (x3_14 + 1)).toNat < (3 - x3_14).toNat from by omega) (show inR (x3_14 + 1) ∧ inR z21 ∧ (0 ≤ (x3_14 + 1) ∧ (x3_14 + 1) ≤ 3) from ⟨(by omega), (by omega), (by omega)⟩) _ _ _ hP hD hS hl
        · refine lv_iconst (v := Int32.ofInt 0) hx hb dX10_may_51 (by decide +kernel) ?_
          exact W.iret (v := Int32.ofInt (0)) hx hb hr (fun t ht hW => ⟨⟨Int32.ofInt (0), (0, c8, c9, 0, fi 41, fi 42, fi 43), rfl, ⟨rfl, (show (inR 0) ∧ (∀ t, inR (c8 t)) ∧ (∀ t, inR (c9 t)) ∧ (inR 0) ∧ (inR (fi 41)) ∧ (inR (fi 42)) ∧ (inR (fi 43)) ∧ (True) from ⟨(by omega), rc8, rc9, (by omega), (hR 41), (hR 42), (hR 43), trivial⟩)⟩, by rw [ht]; exact hP, hD⟩, hS.F ht⟩) hS.2.2 dX10_may_52

set_option maxHeartbeats 4000000 in
set_option maxRecDepth 100000 in
theorem mX10_undo (l : Launch) (G : va_G) (k : Nat → ClassId) (ar : Nat → Nat) (fi : Nat → Int) (fa : Nat → Int → Int) (fl : Nat → Int64) (sz : Nat) (hR : ∀ j, inR (fi j)) (hRa : ∀ j t, inR (fa j t)) (hmv : 0 ≤ fi 29 ∧ fi 29 ≤ 60) (hPM : ∀ i, 0 ≤ i → i < fi 29 → ¬ fa 34 i = 2 → 0 ≤ fa 35 i ∧ fa 35 i < 7) : CNi l G k (EZ k) yX10_undo wzX10_undo ({ frames := 0, cells := 0, slots := 0, locals := 0 }) [.ref (ar 71)] sz (wM k ar fi fa fl) (fun (r0 : Int32) (u : Int × (Int → Int) × Int × Int × Int × Int) => r0 = Int32.ofInt (u.1) ∧ (inR u.1) ∧ (∀ t, inR (u.2.1 t)) ∧ (inR u.2.2.1) ∧ (inR u.2.2.2.1) ∧ (inR u.2.2.2.2.1) ∧ (inR u.2.2.2.2.2) ∧ (((0 ≤ u.2.2.2.2.1 ∧ u.2.2.2.2.1 ≤ 60) ∧ (∀ i, 0 ≤ i → i < u.2.2.2.2.1 → ¬ fa 34 i = 2 → 0 ≤ fa 35 i ∧ fa 35 i < 7)) ∧ UnM (fi 29) u.2.2.2.2.1 u.1 (fi 28) u.2.2.2.1 (fa 34) (fa 35) (fa 37) (fa 32) u.2.1)) (fun (u : Int × (Int → Int) × Int × Int × Int × Int) => (wM k ar (uF (uF (uF (uF fi 2 (u.2.2.1)) 28 (u.2.2.2.1)) 29 (u.2.2.2.2.1)) 30 (u.2.2.2.2.2)) (uF fa 32 (u.2.1)) fl)) := by
  refine Met.ofW (cc := cX10_undo) (maxL := 1) (ret := (some .int)) (by decide) rfl ?_
  intro p e s m args below meth c s₁ B hml hv
  obtain ⟨rfl, hsz, hP, hX, hD0, hZ0⟩ := hv
  have hx := B.exec
  have hb := B.bytes
  have hr := B.returns
  have hts := atoms_spec (ws := wzX10_undo) B.pre
  have hown : s.vm.findClass RX10 = some m.cls := findClass_of_methodNamed B.named
  subst hsz
  have hD := hD0.self (sz := s.heap.size)
  have hZ := hZ0
  generalize hAe : va_A (wM k ar fi fa fl) s.heap.size = A at hD hZ ⊢
  have hA : ∀ q : Nat, s.heap.size ≤ q → A q := fun q h => by rw [← hAe]; exact Or.inr h
  have hS : va_S A s.heap s.heap [] := va_S.rf
  have hl := lv_entry ([.ref (ar 71)]) (n := 1) (Nat.le_of_ble_eq_true rfl)
  rw [lg_entry_eq]
  generalize (lg_sl ([.ref (ar 71)]) ++ List.replicate (1 - (lg_sl ([.ref (ar 71)])).length) Slot.unset).toArray = ls at hl ⊢
  have hl : lv_has ls 1 [(0, .ref (ar 71))] := hl
  obtain ⟨H, eH⟩ : ∃ H, H = s.heap := ⟨_, rfl⟩
  rw [← eH] at hP
  have hS : va_S A s.heap H [] := by rw [eH]; exact hS
  have gW : s.heap = H := eH.symm
  refine iv_heap gW ?_
  have h0w := hts (.fieldLink RX10 171 "RopeTownModel" "code" "I") (wz_at 8 12 rfl)
  have h1w : ∀ w ∈ wsX100, w ∈ wzX10_undo := fun w h => List.mem_cons_of_mem _ (inlX10 w h)
  have h2w := hts (.fieldLink RX10 330 "RopeTownModel" "moves" "I") (wz_at 21 14 rfl)
  have h3w := hts (.fieldLink RX10 333 "RopeTownModel" "cost" "I") (wz_at 21 15 rfl)
  have h4w := hts (.fieldLink RX10 105 "RopeTownModel" "moveCost" "[I") (wz_at 6 23 rfl)
  have h5w := hts (.fieldLink RX10 93 "RopeTownModel" "moveWhich" "[I") (wz_at 6 19 rfl)
  have h6w := hts (.fieldLink RX10 87 "RopeTownModel" "place" "[I") (wz_at 6 17 rfl)
  have h7w := hts (.fieldLink RX10 96 "RopeTownModel" "moveWhat" "[I") (wz_at 6 20 rfl)
  have h8w := hts (.fieldLink RX10 102 "RopeTownModel" "moveWas" "[I") (wz_at 6 22 rfl)
  have h9w := hts (.fieldLink RX10 327 "RopeTownModel" "bucket0" "I") (wz_at 21 13 rfl)
  refine lv_aload_n hx hb dX10_undo_0 rfl (lv_at hl 0 rfl) ?_
  refine lv_iconst (v := Int32.ofInt 0) hx hb dX10_undo_1 (by decide +kernel) ?_
  refine iv_put (ci := 7) (v := .int (Int32.ofInt (0))) (ty := .int) (C := RX10) (T := TX10) (N := 71) (ref := RX10) hx hb hts h1w tyX10 tyX10_ok nmX10 hown hX.1 hP hD hS 0 rfl rfl 2 (by decide) h0w (fun _ h9 => h9) rfl (by decide +kernel) rfl rfl (Nat.le_of_ble_eq_true rfl) (wM_F2 _ _ _ _ _) dX10_undo_2 (fun H locs hP hD hS => ?_)
  refine lv_aload_n hx hb dX10_undo_5 rfl (lv_at hl 0 rfl) ?_
  refine va_get (D := G) (ci := 7) (v := .int (Int32.ofInt (fi 29))) (C := RX10) (T := TX10) (N := 71) (ref := RX10) hx hb hts h1w hown hX.1 hP 0 rfl rfl 29 (by decide) h2w (fun _ h9 => h9) rfl dX10_undo_6 ?_
  have rf29 := hR 29
  refine iv_if_ne (tgt := 14) hx hb (by omega) dX10_undo_9 (by decide) (fun q1 => ?_) (fun q1 => ?_)
  · refine lv_aload_n hx hb dX10_undo_14 rfl (lv_at hl 0 rfl) ?_
    refine lv_dup hx hb dX10_undo_15 rfl ?_
    refine va_get (D := G) (ci := 7) (v := .int (Int32.ofInt (fi 29))) (C := RX10) (T := TX10) (N := 71) (ref := RX10) hx hb hts h1w hown hX.1 hP 0 rfl rfl 29 (by decide) h2w (fun _ h9 => h9) rfl dX10_undo_16 ?_
    have rf29 := hR 29
    refine lv_iconst (v := Int32.ofInt 1) hx hb dX10_undo_19 (by decide +kernel) ?_
    refine iv_sub (x := fi 29) (y := 1) hx hb dX10_undo_20 ?_
    refine iv_put (ci := 7) (v := .int (Int32.ofInt ((fi 29 - 1)))) (ty := .int) (C := RX10) (T := TX10) (N := 71) (ref := RX10) hx hb hts h1w tyX10 tyX10_ok nmX10 hown hX.1 hP hD hS 0 rfl rfl 29 (by decide) h2w (fun _ h9 => h9) rfl (by decide +kernel) rfl rfl (Nat.le_of_ble_eq_true rfl) (wM_F29 _ _ _ _ _) dX10_undo_21 (fun H locs hP hD hS => ?_)
    refine lv_aload_n hx hb dX10_undo_24 rfl (lv_at hl 0 rfl) ?_
    refine lv_dup hx hb dX10_undo_25 rfl ?_
    refine va_get (D := G) (ci := 7) (v := .int (Int32.ofInt (fi 30))) (C := RX10) (T := TX10) (N := 71) (ref := RX10) hx hb hts h1w hown hX.1 hP 0 rfl rfl 30 (by decide) h3w (fun _ h9 => h9) rfl dX10_undo_26 ?_
    have rf30 := hR 30
    refine lv_aload_n hx hb dX10_undo_29 rfl (lv_at hl 0 rfl) ?_
    refine va_get (D := G) (ci := 7) (v := .ref (ar 38)) (C := RX10) (T := TX10) (N := 71) (ref := RX10) hx hb hts h1w hown hX.1 hP 0 rfl rfl 38 (by decide) h4w (fun _ h9 => h9) rfl dX10_undo_30 ?_
    refine lv_aload_n hx hb dX10_undo_33 rfl (lv_at hl 0 rfl) ?_
    refine va_get (D := G) (ci := 7) (v := .int (Int32.ofInt ((fi 29 - 1)))) (C := RX10) (T := TX10) (N := 71) (ref := RX10) hx hb hts h1w hown hX.1 hP 0 rfl rfl 29 (by decide) h2w (fun _ h9 => h9) rfl dX10_undo_34 ?_
    refine iv_iald hx hb hX.1 hP 17 0 rfl rfl (by omega) (by omega) (by decide) dX10_undo_37 ?_
    refine iv_top (fun z2 ez2 => ?_)
    have rz2 : inR z2 := ez2 ▸ (hRa 38) _
    have ez2 : z2 = (fa 38) (fi 29 - 1) := ez2
    refine iv_sub (x := fi 30) (y := z2) hx hb dX10_undo_38 ?_
    refine iv_wr ?_
    refine iv_top (fun z3 ez3 => ?_)
    have rz3 : inR z3 := ez3 ▸ bWr_r _
    refine iv_put (ci := 7) (v := .int (Int32.ofInt (z3))) (ty := .int) (C := RX10) (T := TX10) (N := 71) (ref := RX10) hx hb hts h1w tyX10 tyX10_ok nmX10 hown hX.1 hP hD hS 0 rfl rfl 30 (by decide) h3w (fun _ h9 => h9) rfl (by decide +kernel) rfl rfl (Nat.le_of_ble_eq_true rfl) (wM_F30 _ _ _ _ _) dX10_undo_39 (fun H locs hP hD hS => ?_)
    refine lv_aload_n hx hb dX10_undo_42 rfl (lv_at hl 0 rfl) ?_
    refine va_get (D := G) (ci := 7) (v := .ref (ar 34)) (C := RX10) (T := TX10) (N := 71) (ref := RX10) hx hb hts h1w hown hX.1 hP 0 rfl rfl 34 (by decide) h5w (fun _ h9 => h9) rfl dX10_undo_43 ?_
    refine lv_aload_n hx hb dX10_undo_46 rfl (lv_at hl 0 rfl) ?_
    refine va_get (D := G) (ci := 7) (v := .int (Int32.ofInt ((fi 29 - 1)))) (C := RX10) (T := TX10) (N := 71) (ref := RX10) hx hb hts h1w hown hX.1 hP 0 rfl rfl 29 (by decide) h2w (fun _ h9 => h9) rfl dX10_undo_47 ?_
    refine iv_iald hx hb hX.1 hP 13 0 rfl rfl (by omega) (by omega) (by decide) dX10_undo_50 ?_
    refine iv_top (fun z4 ez4 => ?_)
    have rz4 : inR z4 := ez4 ▸ (hRa 34) _
    have ez4 : z4 = (fa 34) (fi 29 - 1) := ez4
    have ha9 := ez4
    refine lv_iconst (v := Int32.ofInt 2) hx hb dX10_undo_51 (by decide +kernel) ?_
    refine iv_icmp_ne (tgt := 71) hx hb (by omega) (by omega) dX10_undo_52 (by decide) (fun q5 => ?_) (fun q5 => ?_)
    · refine lv_aload_n hx hb dX10_undo_71 rfl (lv_at hl 0 rfl) ?_
      refine va_get (D := G) (ci := 7) (v := .ref (ar 32)) (C := RX10) (T := TX10) (N := 71) (ref := RX10) hx hb hts h1w hown hX.1 hP 0 rfl rfl 32 (by decide) h6w (fun _ h9 => h9) rfl dX10_undo_72 ?_
      refine lv_aload_n hx hb dX10_undo_75 rfl (lv_at hl 0 rfl) ?_
      refine va_get (D := G) (ci := 7) (v := .ref (ar 35)) (C := RX10) (T := TX10) (N := 71) (ref := RX10) hx hb hts h1w hown hX.1 hP 0 rfl rfl 35 (by decide) h7w (fun _ h9 => h9) rfl dX10_undo_76 ?_
      refine lv_aload_n hx hb dX10_undo_79 rfl (lv_at hl 0 rfl) ?_
      refine va_get (D := G) (ci := 7) (v := .int (Int32.ofInt ((fi 29 - 1)))) (C := RX10) (T := TX10) (N := 71) (ref := RX10) hx hb hts h1w hown hX.1 hP 0 rfl rfl 29 (by decide) h2w (fun _ h9 => h9) rfl dX10_undo_80 ?_
      refine iv_iald hx hb hX.1 hP 14 0 rfl rfl (by omega) (by omega) (by decide) dX10_undo_83 ?_
      refine iv_top (fun z6 ez6 => ?_)
      have rz6 : inR z6 := ez6 ▸ (hRa 35) _
      have ez6 : z6 = (fa 35) (fi 29 - 1) := ez6
      have hx8 := ez6
      refine lv_aload_n hx hb dX10_undo_84 rfl (lv_at hl 0 rfl) ?_
      refine va_get (D := G) (ci := 7) (v := .ref (ar 37)) (C := RX10) (T := TX10) (N := 71) (ref := RX10) hx hb hts h1w hown hX.1 hP 0 rfl rfl 37 (by decide) h8w (fun _ h9 => h9) rfl dX10_undo_85 ?_
      refine lv_aload_n hx hb dX10_undo_88 rfl (lv_at hl 0 rfl) ?_
      refine va_get (D := G) (ci := 7) (v := .int (Int32.ofInt ((fi 29 - 1)))) (C := RX10) (T := TX10) (N := 71) (ref := RX10) hx hb hts h1w hown hX.1 hP 0 rfl rfl 29 (by decide) h2w (fun _ h9 => h9) rfl dX10_undo_89 ?_
      refine iv_iald hx hb hX.1 hP 16 0 rfl rfl (by omega) (by omega) (by decide) dX10_undo_92 ?_
      refine iv_top (fun z7 ez7 => ?_)
      have rz7 : inR z7 := ez7 ▸ (hRa 37) _
      have ez7 : z7 = (fa 37) (fi 29 - 1) := ez7
      have hx9 := hPM (fi 29 - 1) (by omega) (by omega) (by omega)
      have hb9 := ez7
      refine iv_iast hx hb hX.1 hP hD hS 11 0 rfl rfl (wM_A32 _ _ _ _ _) (by omega) (by omega) (by decide) dX10_undo_93 (fun H locs hP hD hS => ?_)
      obtain ⟨g8, eg8, rg8⟩ : ∃ z, z = uA (fa 32) (z6) (z7) ∧ ∀ t, inR (z t) := ⟨_, rfl, iU (hRa 32) (by omega)⟩
      rw [← eg8] at hP hD
      refine lv_aload_n hx hb dX10_undo_94 rfl (lv_at hl 0 rfl) ?_
      refine va_get (D := G) (ci := 7) (v := .int (Int32.ofInt ((fi 29 - 1)))) (C := RX10) (T := TX10) (N := 71) (ref := RX10) hx hb hts h1w hown hX.1 hP 0 rfl rfl 29 (by decide) h2w (fun _ h9 => h9) rfl dX10_undo_95 ?_
      exact W.iret (v := Int32.ofInt ((fi 29 - 1))) hx hb hr (fun t ht hW => ⟨⟨Int32.ofInt ((fi 29 - 1)), ((fi 29 - 1), g8, 0, fi 28, (fi 29 - 1), z3), rfl, ⟨rfl, (show (inR (fi 29 - 1)) ∧ (∀ t, inR (g8 t)) ∧ (inR 0) ∧ (inR (fi 28)) ∧ (inR (fi 29 - 1)) ∧ (inR z3) ∧ (((0 ≤ (fi 29 - 1) ∧ (fi 29 - 1) ≤ 60) ∧ (∀ i, 0 ≤ i → i < (fi 29 - 1) → ¬ fa 34 i = 2 → 0 ≤ fa 35 i ∧ fa 35 i < 7)) ∧ UnM (fi 29) (fi 29 - 1) (fi 29 - 1) (fi 28) (fi 28) (fa 34) (fa 35) (fa 37) (fa 32) g8) from ⟨(by omega), rg8, (by omega), (hR 28), (by omega), (by omega), (by first | exact ⟨⟨by omega, fun i h1 h2 => hPM i h1 (by omega)⟩, un_0 (by omega) (by omega) rfl⟩ | exact ⟨⟨by omega, fun i h1 h2 => hPM i h1 (by omega)⟩, un_r (by omega) (by omega) ha9 (by omega) (by omega) hb9 (by omega) rfl rfl⟩ | exact ⟨⟨by omega, fun i h1 h2 => hPM i h1 (by omega)⟩, un_p (by omega) (by omega) ha9 (by omega) (by omega) hb9 (by omega) hx8 (by omega) rfl eg8⟩)⟩)⟩, by rw [ht]; exact hP, hD⟩, hS.F ht⟩) hS.2.2 dX10_undo_98
    · refine lv_aload_n hx hb dX10_undo_55 rfl (lv_at hl 0 rfl) ?_
      refine lv_aload_n hx hb dX10_undo_56 rfl (lv_at hl 0 rfl) ?_
      refine va_get (D := G) (ci := 7) (v := .ref (ar 37)) (C := RX10) (T := TX10) (N := 71) (ref := RX10) hx hb hts h1w hown hX.1 hP 0 rfl rfl 37 (by decide) h8w (fun _ h9 => h9) rfl dX10_undo_57 ?_
      refine lv_aload_n hx hb dX10_undo_60 rfl (lv_at hl 0 rfl) ?_
      refine va_get (D := G) (ci := 7) (v := .int (Int32.ofInt ((fi 29 - 1)))) (C := RX10) (T := TX10) (N := 71) (ref := RX10) hx hb hts h1w hown hX.1 hP 0 rfl rfl 29 (by decide) h2w (fun _ h9 => h9) rfl dX10_undo_61 ?_
      refine iv_iald hx hb hX.1 hP 16 0 rfl rfl (by omega) (by omega) (by decide) dX10_undo_64 ?_
      refine iv_top (fun z9 ez9 => ?_)
      have rz9 : inR z9 := ez9 ▸ (hRa 37) _
      have ez9 : z9 = (fa 37) (fi 29 - 1) := ez9
      have hb9 := ez9
      refine iv_put (ci := 7) (v := .int (Int32.ofInt (z9))) (ty := .int) (C := RX10) (T := TX10) (N := 71) (ref := RX10) hx hb hts h1w tyX10 tyX10_ok nmX10 hown hX.1 hP hD hS 0 rfl rfl 28 (by decide) h9w (fun _ h9 => h9) rfl (by decide +kernel) rfl rfl (Nat.le_of_ble_eq_true rfl) (wM_F28 _ _ _ _ _) dX10_undo_65 (fun H locs hP hD hS => ?_)
      obtain ⟨hP, hD⟩ : va_P G vwCl (wM k ar (uF (uF (uF (uF fi 2 (0)) 28 (z9)) 29 ((fi 29 - 1))) 30 (z3)) fa fl) H ∧ va_D A (wM k ar (uF (uF (uF (uF fi 2 (0)) 28 (z9)) 29 ((fi 29 - 1))) 30 (z3)) fa fl) := ⟨hP, hD⟩
      refine lv_goto (tgt := 94) hx hb dX10_undo_68 (by decide) ?_
      refine lv_aload_n hx hb dX10_undo_94 rfl (lv_at hl 0 rfl) ?_
      refine va_get (D := G) (ci := 7) (v := .int (Int32.ofInt ((fi 29 - 1)))) (C := RX10) (T := TX10) (N := 71) (ref := RX10) hx hb hts h1w hown hX.1 hP 0 rfl rfl 29 (by decide) h2w (fun _ h9 => h9) rfl dX10_undo_95 ?_
      exact W.iret (v := Int32.ofInt ((fi 29 - 1))) hx hb hr (fun t ht hW => ⟨⟨Int32.ofInt ((fi 29 - 1)), ((fi 29 - 1), fa 32, 0, z9, (fi 29 - 1), z3), rfl, ⟨rfl, (show (inR (fi 29 - 1)) ∧ (∀ t, inR ((fa 32) t)) ∧ (inR 0) ∧ (inR z9) ∧ (inR (fi 29 - 1)) ∧ (inR z3) ∧ (((0 ≤ (fi 29 - 1) ∧ (fi 29 - 1) ≤ 60) ∧ (∀ i, 0 ≤ i → i < (fi 29 - 1) → ¬ fa 34 i = 2 → 0 ≤ fa 35 i ∧ fa 35 i < 7)) ∧ UnM (fi 29) (fi 29 - 1) (fi 29 - 1) (fi 28) z9 (fa 34) (fa 35) (fa 37) (fa 32) (fa 32)) from ⟨(by omega), (hRa 32), (by omega), (by omega), (by omega), (by omega), (by first | exact ⟨⟨by omega, fun i h1 h2 => hPM i h1 (by omega)⟩, un_0 (by omega) (by omega) rfl⟩ | exact ⟨⟨by omega, fun i h1 h2 => hPM i h1 (by omega)⟩, un_r (by omega) (by omega) ha9 (by omega) (by omega) hb9 (by omega) rfl rfl⟩ | exact ⟨⟨by omega, fun i h1 h2 => hPM i h1 (by omega)⟩, un_p (by omega) (by omega) ha9 (by omega) (by omega) hb9 (by omega) hx8 (by omega) rfl efa 32⟩)⟩)⟩, by rw [ht]; exact hP, hD⟩, hS.F ht⟩) hS.2.2 dX10_undo_98
  · refine lv_iconst (v := Int32.ofInt (-1)) hx hb dX10_undo_12 (by decide +kernel) ?_
    exact W.iret (v := Int32.ofInt ((-1))) hx hb hr (fun t ht hW => ⟨⟨Int32.ofInt ((-1)), ((-1), fa 32, 0, fi 28, fi 29, fi 30), rfl, ⟨rfl, (show (inR (-1)) ∧ (∀ t, inR ((fa 32) t)) ∧ (inR 0) ∧ (inR (fi 28)) ∧ (inR (fi 29)) ∧ (inR (fi 30)) ∧ (((0 ≤ (fi 29) ∧ (fi 29) ≤ 60) ∧ (∀ i, 0 ≤ i → i < (fi 29) → ¬ fa 34 i = 2 → 0 ≤ fa 35 i ∧ fa 35 i < 7)) ∧ UnM (fi 29) (fi 29) (-1) (fi 28) (fi 28) (fa 34) (fa 35) (fa 37) (fa 32) (fa 32)) from ⟨(by omega), (hRa 32), (by omega), (hR 28), (hR 29), (hR 30), (by first | exact ⟨⟨by omega, fun i h1 h2 => hPM i h1 (by omega)⟩, un_0 (by omega) (by omega) rfl⟩ | exact ⟨⟨by omega, fun i h1 h2 => hPM i h1 (by omega)⟩, un_r (by omega) (by omega) ha9 (by omega) (by omega) hb9 (by omega) rfl rfl⟩ | exact ⟨⟨by omega, fun i h1 h2 => hPM i h1 (by omega)⟩, un_p (by omega) (by omega) ha9 (by omega) (by omega) hb9 (by omega) hx8 (by omega) rfl efa 32⟩)⟩)⟩, by rw [ht]; exact hP, hD⟩, hS.F ht⟩) hS.2.2 dX10_undo_13

set_option maxHeartbeats 4000000 in
set_option maxRecDepth 100000 in
theorem mX10_moved (l : Launch) (G : va_G) (k : Nat → ClassId) (ar : Nat → Nat) (fi : Nat → Int) (fa : Nat → Int → Int) (fl : Nat → Int64) (i0 : Int) (w0 : Int) (sz : Nat) (hR : ∀ j, inR (fi j)) (hRa : ∀ j t, inR (fa j t)) (hr_i0 : inR i0) (hr_w0 : inR w0) (hmv : 0 ≤ fi 29 ∧ fi 29 ≤ 60) : CNi l G k (EZ k) yX10_moved wzX10_moved ({ frames := 1, cells := 0, slots := 0, locals := 22 }) [.ref (ar 71), .int (Int32.ofInt (i0)), .int (Int32.ofInt (w0))] sz (wM k ar fi fa fl) (fun (r0 : Int32) (u : Int × Int) => r0 = Int32.ofInt (u.1) ∧ (inR u.1) ∧ (inR u.2) ∧ (Thr u.2 u.1 (¬ (0 ≤ i0 ∧ i0 < fi 29 ∧ 0 ≤ w0 ∧ w0 ≤ 2)) (if w0 = 0 then fa 34 i0 else if w0 = 1 then fa 35 i0 else fa 36 i0))) (fun (u : Int × Int) => (wM k ar (uF fi 2 (u.2)) fa fl)) := by
  refine Met.ofW (cc := cX10_moved) (maxL := 3) (ret := (some .int)) (by decide) rfl ?_
  intro p e s m args below meth c s₁ B hml hv
  obtain ⟨rfl, hsz, hP, hX, hD0, hZ0⟩ := hv
  have hx := B.exec
  have hb := B.bytes
  have hr := B.returns
  have hts := atoms_spec (ws := wzX10_moved) B.pre
  have hown : s.vm.findClass RX10 = some m.cls := findClass_of_methodNamed B.named
  subst hsz
  have hD := hD0.self (sz := s.heap.size)
  have hZ := hZ0
  generalize hAe : va_A (wM k ar fi fa fl) s.heap.size = A at hD hZ ⊢
  have hA : ∀ q : Nat, s.heap.size ≤ q → A q := fun q h => by rw [← hAe]; exact Or.inr h
  have hS : va_S A s.heap s.heap [] := va_S.rf
  have hl := lv_entry ([.ref (ar 71), .int (Int32.ofInt (i0)), .int (Int32.ofInt (w0))]) (n := 3) (Nat.le_of_ble_eq_true rfl)
  rw [lg_entry_eq]
  generalize (lg_sl ([.ref (ar 71), .int (Int32.ofInt (i0)), .int (Int32.ofInt (w0))]) ++ List.replicate (3 - (lg_sl ([.ref (ar 71), .int (Int32.ofInt (i0)), .int (Int32.ofInt (w0))])).length) Slot.unset).toArray = ls at hl ⊢
  have hl : lv_has ls 3 [(0, .ref (ar 71)), (1, .int (Int32.ofInt (i0))), (2, .int (Int32.ofInt (w0)))] := hl
  obtain ⟨H, eH⟩ : ∃ H, H = s.heap := ⟨_, rfl⟩
  rw [← eH] at hP
  have hS : va_S A s.heap H [] := by rw [eH]; exact hS
  have gW : s.heap = H := eH.symm
  refine iv_heap gW ?_
  have h0w := hts (.fieldLink RX10 171 "RopeTownModel" "code" "I") (wz_at 8 12 rfl)
  have h1w : ∀ w ∈ wsX100, w ∈ wzX10_moved := fun w h => List.mem_cons_of_mem _ (inlX10 w h)
  have h2w := hts (.fieldLink RX10 330 "RopeTownModel" "moves" "I") (wz_at 21 14 rfl)
  have h3w := hts (.fieldLink RX10 99 "RopeTownModel" "moveTo" "[I") (wz_at 6 21 rfl)
  have h4w := hts (.fieldLink RX10 96 "RopeTownModel" "moveWhat" "[I") (wz_at 6 20 rfl)
  have h5w := hts (.fieldLink RX10 93 "RopeTownModel" "moveWhich" "[I") (wz_at 6 19 rfl)
  refine lv_aload_n hx hb dX10_moved_0 rfl (lv_at hl 0 rfl) ?_
  refine lv_iconst (v := Int32.ofInt 0) hx hb dX10_moved_1 (by decide +kernel) ?_
  refine iv_put (ci := 7) (v := .int (Int32.ofInt (0))) (ty := .int) (C := RX10) (T := TX10) (N := 71) (ref := RX10) hx hb hts h1w tyX10 tyX10_ok nmX10 hown hX.1 hP hD hS 0 rfl rfl 2 (by decide) h0w (fun _ h9 => h9) rfl (by decide +kernel) rfl rfl (Nat.le_of_ble_eq_true rfl) (wM_F2 _ _ _ _ _) dX10_moved_2 (fun H locs hP hD hS => ?_)
  refine lv_iload_n hx hb dX10_moved_5 rfl (lv_at hl 1 rfl) ?_
  refine lv_iconst (v := Int32.ofInt 0) hx hb dX10_moved_6 (by decide +kernel) ?_
  refine lv_aload_n hx hb dX10_moved_7 rfl (lv_at hl 0 rfl) ?_
  refine va_get (D := G) (ci := 7) (v := .int (Int32.ofInt (fi 29))) (C := RX10) (T := TX10) (N := 71) (ref := RX10) hx hb hts h1w hown hX.1 hP 0 rfl rfl 29 (by decide) h2w (fun _ h9 => h9) rfl dX10_moved_8 ?_
  have rf29 := hR 29
  refine lv_iconst (v := Int32.ofInt 1) hx hb dX10_moved_11 (by decide +kernel) ?_
  refine iv_sub (x := fi 29) (y := 1) hx hb dX10_moved_12 ?_
  refine c0_i (va_runS (As := [.int (Int32.ofInt (i0)), .int (Int32.ofInt (0)), .int (Int32.ofInt ((fi 29 - 1)))]) (rest := []) ⟨hx, hb, hml, hown, hts⟩ (mX10_isIn l G k i0 0 (fi 29 - 1) H.size (by omega) (by omega) (by omega)) (cwS 3 hts (gz [.methodLink RX10 177 yX10_isIn, .static yX10_isIn, .initialized RX10] (.code yX10_isIn cX10_isIn 3 (some .boolean)) [(18, 16), (18, 17), (0, 5), (18, 18)] rfl) rfl rfl rfl (by decide +kernel) ⟨Nat.le_of_ble_eq_true rfl, Nat.le_of_ble_eq_true rfl⟩) (cr_pre0 (EZ_ok k) hZ hS hX hP hD hA) rfl rfl hl.1 rfl (lv_room (Nat.le_of_ble_eq_true rfl)) dX10_moved_13 ⟨Nat.le_of_ble_eq_true rfl, Nat.le_of_ble_eq_true rfl⟩) hP hD hS hA (fun r u H locs hp hP hD hS => ?_)
  obtain ⟨c1, rfl⟩ : ∃ z, z = u := ⟨_, rfl⟩
  obtain ⟨h9, rc1, hp1⟩ : r = Int32.ofInt c1 ∧ (inR c1) ∧ ((c1 = 1 ∧ 0 ≤ i0 ∧ i0 ≤ (fi 29 - 1)) ∨ (c1 = 0 ∧ (i0 < 0 ∨ (fi 29 - 1) < i0))) := hp
  subst h9
  refine iv_if_ne (tgt := 25) hx hb (by omega) dX10_moved_16 (by decide) (fun q2 => ?_) (fun q2 => ?_)
  · refine lv_iload_n hx hb dX10_moved_25 rfl (lv_at hl 2 rfl) ?_
    refine iv_if_ne (tgt := 38) hx hb (by omega) dX10_moved_26 (by decide) (fun q3 => ?_) (fun q3 => ?_)
    · refine lv_iload_n hx hb dX10_moved_38 rfl (lv_at hl 2 rfl) ?_
      refine lv_iconst (v := Int32.ofInt 1) hx hb dX10_moved_39 (by decide +kernel) ?_
      refine iv_icmp_ne (tgt := 52) hx hb (by omega) (by omega) dX10_moved_40 (by decide) (fun q4 => ?_) (fun q4 => ?_)
      · refine lv_iload_n hx hb dX10_moved_52 rfl (lv_at hl 2 rfl) ?_
        refine lv_iconst (v := Int32.ofInt 2) hx hb dX10_moved_53 (by decide +kernel) ?_
        refine iv_icmp_ne (tgt := 66) hx hb (by omega) (by omega) dX10_moved_54 (by decide) (fun q5 => ?_) (fun q5 => ?_)
        · refine lv_aload_n hx hb dX10_moved_66 rfl (lv_at hl 0 rfl) ?_
          refine lv_iconst (v := Int32.ofInt 1) hx hb dX10_moved_67 (by decide +kernel) ?_
          refine cr_i (va_runV (As := [.int (Int32.ofInt (1))]) (rest := []) ⟨hx, hb, hml, hown, hts⟩ (mX10_fail l G k ar (uF fi 2 (0)) fa fl 1 H.size (iF hR (by omega)) hRa (by omega)) (cwV 1 hts (gz [.methodLink RX10 315 yX10_fail, .instanceMethod yX10_fail, .selects RX10 yX10_fail yX10_fail, .initialized RX10] (.code yX10_fail cX10_fail 2 (some .int)) [(16, 17), (16, 18), (16, 19), (0, 5), (16, 20)] rfl) rfl rfl rfl (by decide +kernel) ⟨Nat.le_of_ble_eq_true rfl, Nat.le_of_ble_eq_true rfl⟩) (cr_preV (EZ_ok k) hZ hS hX hP hD hA (ci := 7) (q0 := 0) rfl rfl) rfl rfl hl.1 rfl (lv_room (Nat.le_of_ble_eq_true rfl)) dX10_moved_68 ⟨Nat.le_of_ble_eq_true rfl, Nat.le_of_ble_eq_true rfl⟩) hD hS hA (fun r u H locs hp hP hD hS => ?_)
          obtain ⟨c6, c7⟩ := u
          obtain ⟨hP, hD⟩ : va_P G vwCl (wM k ar (uF fi 2 (c7)) fa fl) H ∧ va_D A (wM k ar (uF fi 2 (c7)) fa fl) := ⟨hP, hD⟩
          obtain ⟨h9, rc6, rc7, hp7⟩ : r = Int32.ofInt c6 ∧ (inR c6) ∧ (inR c7) ∧ (c6 = 0 ∧ c7 = 1) := hp
          subst h9
          exact W.iret (v := Int32.ofInt (c6)) hx hb hr (fun t ht hW => ⟨⟨Int32.ofInt (c6), (c6, c7), rfl, ⟨rfl, (show (inR c6) ∧ (inR c7) ∧ (Thr c7 c6 (¬ (0 ≤ i0 ∧ i0 < fi 29 ∧ 0 ≤ w0 ∧ w0 ≤ 2)) (if w0 = 0 then fa 34 i0 else if w0 = 1 then fa 35 i0 else fa 36 i0)) from ⟨(by omega), (by omega), (by first | exact thr_x (by omega) (by omega) | exact thr_k (by omega) (by omega) (by omega))⟩)⟩, by rw [ht]; exact hP, hD⟩, hS.F ht⟩) hS.2.2 dX10_moved_71
        · refine lv_aload_n hx hb dX10_moved_57 rfl (lv_at hl 0 rfl) ?_
          refine va_get (D := G) (ci := 7) (v := .ref (ar 36)) (C := RX10) (T := TX10) (N := 71) (ref := RX10) hx hb hts h1w hown hX.1 hP 0 rfl rfl 36 (by decide) h3w (fun _ h9 => h9) rfl dX10_moved_58 ?_
          refine lv_iload_n hx hb dX10_moved_61 rfl (lv_at hl 1 rfl) ?_
          refine iv_iald hx hb hX.1 hP 15 0 rfl rfl (by omega) (by omega) (by decide) dX10_moved_62 ?_
          refine iv_top (fun z8 ez8 => ?_)
          have rz8 : inR z8 := ez8 ▸ (hRa 36) _
          have ez8 : z8 = (fa 36) i0 := ez8
          refine lv_goto (tgt := 71) hx hb dX10_moved_63 (by decide) ?_
          exact W.iret (v := Int32.ofInt (z8)) hx hb hr (fun t ht hW => ⟨⟨Int32.ofInt (z8), (z8, 0), rfl, ⟨rfl, (show (inR z8) ∧ (inR 0) ∧ (Thr 0 z8 (¬ (0 ≤ i0 ∧ i0 < fi 29 ∧ 0 ≤ w0 ∧ w0 ≤ 2)) (if w0 = 0 then fa 34 i0 else if w0 = 1 then fa 35 i0 else fa 36 i0)) from ⟨(by omega), (by omega), (by first | exact thr_x (by omega) (by omega) | exact thr_k (by omega) (by omega) (by omega))⟩)⟩, by rw [ht]; exact hP, hD⟩, hS.F ht⟩) hS.2.2 dX10_moved_71
      · refine lv_aload_n hx hb dX10_moved_43 rfl (lv_at hl 0 rfl) ?_
        refine va_get (D := G) (ci := 7) (v := .ref (ar 35)) (C := RX10) (T := TX10) (N := 71) (ref := RX10) hx hb hts h1w hown hX.1 hP 0 rfl rfl 35 (by decide) h4w (fun _ h9 => h9) rfl dX10_moved_44 ?_
        refine lv_iload_n hx hb dX10_moved_47 rfl (lv_at hl 1 rfl) ?_
        refine iv_iald hx hb hX.1 hP 14 0 rfl rfl (by omega) (by omega) (by decide) dX10_moved_48 ?_
        refine iv_top (fun z9 ez9 => ?_)
        have rz9 : inR z9 := ez9 ▸ (hRa 35) _
        have ez9 : z9 = (fa 35) i0 := ez9
        refine lv_goto (tgt := 71) hx hb dX10_moved_49 (by decide) ?_
        exact W.iret (v := Int32.ofInt (z9)) hx hb hr (fun t ht hW => ⟨⟨Int32.ofInt (z9), (z9, 0), rfl, ⟨rfl, (show (inR z9) ∧ (inR 0) ∧ (Thr 0 z9 (¬ (0 ≤ i0 ∧ i0 < fi 29 ∧ 0 ≤ w0 ∧ w0 ≤ 2)) (if w0 = 0 then fa 34 i0 else if w0 = 1 then fa 35 i0 else fa 36 i0)) from ⟨(by omega), (by omega), (by first | exact thr_x (by omega) (by omega) | exact thr_k (by omega) (by omega) (by omega))⟩)⟩, by rw [ht]; exact hP, hD⟩, hS.F ht⟩) hS.2.2 dX10_moved_71
    · refine lv_aload_n hx hb dX10_moved_29 rfl (lv_at hl 0 rfl) ?_
      refine va_get (D := G) (ci := 7) (v := .ref (ar 34)) (C := RX10) (T := TX10) (N := 71) (ref := RX10) hx hb hts h1w hown hX.1 hP 0 rfl rfl 34 (by decide) h5w (fun _ h9 => h9) rfl dX10_moved_30 ?_
      refine lv_iload_n hx hb dX10_moved_33 rfl (lv_at hl 1 rfl) ?_
      refine iv_iald hx hb hX.1 hP 13 0 rfl rfl (by omega) (by omega) (by decide) dX10_moved_34 ?_
      refine iv_top (fun z10 ez10 => ?_)
      have rz10 : inR z10 := ez10 ▸ (hRa 34) _
      have ez10 : z10 = (fa 34) i0 := ez10
      refine lv_goto (tgt := 71) hx hb dX10_moved_35 (by decide) ?_
      exact W.iret (v := Int32.ofInt (z10)) hx hb hr (fun t ht hW => ⟨⟨Int32.ofInt (z10), (z10, 0), rfl, ⟨rfl, (show (inR z10) ∧ (inR 0) ∧ (Thr 0 z10 (¬ (0 ≤ i0 ∧ i0 < fi 29 ∧ 0 ≤ w0 ∧ w0 ≤ 2)) (if w0 = 0 then fa 34 i0 else if w0 = 1 then fa 35 i0 else fa 36 i0)) from ⟨(by omega), (by omega), (by first | exact thr_x (by omega) (by omega) | exact thr_k (by omega) (by omega) (by omega))⟩)⟩, by rw [ht]; exact hP, hD⟩, hS.F ht⟩) hS.2.2 dX10_moved_71
  · refine lv_aload_n hx hb dX10_moved_19 rfl (lv_at hl 0 rfl) ?_
    refine lv_iconst (v := Int32.ofInt 1) hx hb dX10_moved_20 (by decide +kernel) ?_
    refine cr_i (va_runV (As := [.int (Int32.ofInt (1))]) (rest := []) ⟨hx, hb, hml, hown, hts⟩ (mX10_fail l G k ar (uF fi 2 (0)) fa fl 1 H.size (iF hR (by omega)) hRa (by omega)) (cwV 1 hts (gz [.methodLink RX10 315 yX10_fail, .instanceMethod yX10_fail, .selects RX10 yX10_fail yX10_fail, .initialized RX10] (.code yX10_fail cX10_fail 2 (some .int)) [(16, 17), (16, 18), (16, 19), (0, 5), (16, 20)] rfl) rfl rfl rfl (by decide +kernel) ⟨Nat.le_of_ble_eq_true rfl, Nat.le_of_ble_eq_true rfl⟩) (cr_preV (EZ_ok k) hZ hS hX hP hD hA (ci := 7) (q0 := 0) rfl rfl) rfl rfl hl.1 rfl (lv_room (Nat.le_of_ble_eq_true rfl)) dX10_moved_21 ⟨Nat.le_of_ble_eq_true rfl, Nat.le_of_ble_eq_true rfl⟩) hD hS hA (fun r u H locs hp hP hD hS => ?_)
    obtain ⟨c11, c12⟩ := u
    obtain ⟨hP, hD⟩ : va_P G vwCl (wM k ar (uF fi 2 (c12)) fa fl) H ∧ va_D A (wM k ar (uF fi 2 (c12)) fa fl) := ⟨hP, hD⟩
    obtain ⟨h9, rc11, rc12, hp12⟩ : r = Int32.ofInt c11 ∧ (inR c11) ∧ (inR c12) ∧ (c11 = 0 ∧ c12 = 1) := hp
    subst h9
    exact W.iret (v := Int32.ofInt (c11)) hx hb hr (fun t ht hW => ⟨⟨Int32.ofInt (c11), (c11, c12), rfl, ⟨rfl, (show (inR c11) ∧ (inR c12) ∧ (Thr c12 c11 (¬ (0 ≤ i0 ∧ i0 < fi 29 ∧ 0 ≤ w0 ∧ w0 ≤ 2)) (if w0 = 0 then fa 34 i0 else if w0 = 1 then fa 35 i0 else fa 36 i0)) from ⟨(by omega), (by omega), (by first | exact thr_x (by omega) (by omega) | exact thr_k (by omega) (by omega) (by omega))⟩)⟩, by rw [ht]; exact hP, hD⟩, hS.F ht⟩) hS.2.2 dX10_moved_24

