set_option maxHeartbeats 4000000 in
set_option maxRecDepth 100000 in
theorem mX10_brokenBy_32 (l : Launch) (G : va_G) (k : Nat → ClassId) (ar : Nat → Nat) (fi : Nat → Int) (fa : Nat → Int → Int) (fl : Nat → Int64) (b0 : Int) (a0 : Int) (sz : Nat) (hR : ∀ j, inR (fi j)) (hRa : ∀ j t, inR (fa j t)) (hr_b0 : inR b0) (hr_a0 : inR a0) (hth : 0 ≤ fi 12 ∧ fi 12 ≤ 7) (hru : 0 ≤ fi 13 ∧ fi 13 ≤ 4) (hRW : ∀ q9, 0 ≤ q9 → q9 < fi 13 → RWf (fa 10) (fa 8 q9) (fa 9 q9)) (hb : b0 = 0 ∨ b0 = 1) : CNi l G k (EZ k) yX10_brokenBy wzX10_brokenBy ({ frames := 2, cells := 0, slots := 0, locals := 46 }) [.ref (ar 71), .ref (ar 32), .int (Int32.ofInt (b0)), .int (Int32.ofInt (a0))] sz (wM k ar fi fa fl) (fun (r0 : Int32) (u : Int × (Int → Int) × (Int → Int)) => r0 = Int32.ofInt (u.1) ∧ (inR u.1) ∧ (∀ t, inR (u.2.1 t)) ∧ (∀ t, inR (u.2.2 t)) ∧ (brkP u.1 (fun q => evR (fa 10) (vls (fa 32) (fa 4) (fa 5) b0 (fi 12) (fa 3 0) a0) (fa 8 q) (fa 9 q)) (fi 13))) (fun (u : Int × (Int → Int) × (Int → Int)) => (wM k ar fi (uF (uF fa 39 (u.2.1)) 40 (u.2.2)) fl)) := by
  refine Met.ofW (cc := cX10_brokenBy) (maxL := 5) (ret := (some .int)) (by decide) rfl ?_
  intro p e s m args below meth c s₁ B hml hv
  obtain ⟨rfl, hsz, hP, hX, hD0, hZ0⟩ := hv
  have hx := B.exec
  have hb := B.bytes
  have hr := B.returns
  have hts := atoms_spec (ws := wzX10_brokenBy) B.pre
  have hown : s.vm.findClass RX10 = some m.cls := findClass_of_methodNamed B.named
  subst hsz
  have hD := hD0.self (sz := s.heap.size)
  have hZ := hZ0
  generalize hAe : va_A (wM k ar fi fa fl) s.heap.size = A at hD hZ ⊢
  have hA : ∀ q : Nat, s.heap.size ≤ q → A q := fun q h => by rw [← hAe]; exact Or.inr h
  have hS : va_S A s.heap s.heap [] := va_S.rf
  have hl := lv_entry ([.ref (ar 71), .ref (ar 32), .int (Int32.ofInt (b0)), .int (Int32.ofInt (a0))]) (n := 5) (Nat.le_of_ble_eq_true rfl)
  rw [lg_entry_eq]
  generalize (lg_sl ([.ref (ar 71), .ref (ar 32), .int (Int32.ofInt (b0)), .int (Int32.ofInt (a0))]) ++ List.replicate (5 - (lg_sl ([.ref (ar 71), .ref (ar 32), .int (Int32.ofInt (b0)), .int (Int32.ofInt (a0))])).length) Slot.unset).toArray = ls at hl ⊢
  have hl : lv_has ls 5 [(0, .ref (ar 71)), (1, .ref (ar 32)), (2, .int (Int32.ofInt (b0))), (3, .int (Int32.ofInt (a0)))] := hl
  obtain ⟨H, eH⟩ : ∃ H, H = s.heap := ⟨_, rfl⟩
  rw [← eH] at hP
  have hS : va_S A s.heap H [] := by rw [eH]; exact hS
  have gW : s.heap = H := eH.symm
  refine iv_heap gW ?_
  have h0w := hts (.fieldLink RX10 108 "RopeTownModel" "asked" "[I") (wz_at 7 0 rfl)
  have h1w : ∀ w ∈ wsX100, w ∈ wzX10_brokenBy := fun w h => List.mem_cons_of_mem _ (inlX10 w h)
  have h2w := hts (.fieldLink RX10 324 "RopeTownModel" "rules" "I") (wz_at 21 12 rfl)
  refine lv_aload_n hx hb dX10_brokenBy_0 rfl (lv_at hl 0 rfl) ?_
  refine va_get (D := G) (ci := 7) (v := .ref (ar 39)) (C := RX10) (T := TX10) (N := 71) (ref := RX10) hx hb hts h1w hown hX.1 hP 0 rfl rfl 39 (by decide) h0w (fun _ h9 => h9) rfl dX10_brokenBy_1 ?_
  refine lv_iconst (v := Int32.ofInt 0) hx hb dX10_brokenBy_4 (by decide +kernel) ?_
  refine lv_aload_n hx hb dX10_brokenBy_5 rfl (lv_at hl 0 rfl) ?_
  refine lv_aload_n hx hb dX10_brokenBy_6 rfl (lv_at hl 1 rfl) ?_
  refine lv_iload_n hx hb dX10_brokenBy_7 rfl (lv_at hl 2 rfl) ?_
  refine lv_iconst (v := Int32.ofInt 0) hx hb dX10_brokenBy_8 (by decide +kernel) ?_
  refine cr_i (va_runV (As := [.ref (ar 32), .int (Int32.ofInt (b0)), .int (Int32.ofInt (0))]) (rest := [.int (Int32.ofInt (0)), .ref (ar 39)]) ⟨hx, hb, hml, hown, hts⟩ (mX10_manyOf_32 l G k ar fi fa fl b0 0 H.size hR hRa (by omega) (by omega) (show 0 ≤ (fi 12) ∧ (fi 12) ≤ 7 from by omega) (show b0 = 0 ∨ b0 = 1 from by omega)) (cwV 3 hts (gz [.methodLink RX10 370 yX10_manyOf, .instanceMethod yX10_manyOf, .selects RX10 yX10_manyOf yX10_manyOf, .initialized RX10] (.code yX10_manyOf cX10_manyOf 6 (some .int)) [(26, 12), (26, 13), (26, 14), (0, 5), (26, 15)] rfl) rfl rfl rfl (by decide +kernel) ⟨Nat.le_of_ble_eq_true rfl, Nat.le_of_ble_eq_true rfl⟩) (cr_preV (EZ_ok k) hZ hS hX hP hD hA (ci := 7) (q0 := 0) rfl rfl) rfl rfl hl.1 rfl (lv_room (Nat.le_of_ble_eq_true rfl)) dX10_brokenBy_9 ⟨Nat.le_of_ble_eq_true rfl, Nat.le_of_ble_eq_true rfl⟩) hD hS hA (fun r u H locs hp hP hD hS => ?_)
  obtain ⟨c1, rfl⟩ : ∃ z, z = u := ⟨_, rfl⟩
  obtain ⟨h9, rc1, hp1⟩ : r = Int32.ofInt c1 ∧ (inR c1) ∧ (c1 = gs (mc ((fa 32)) ((fa 4)) b0 0) ((fi 12))) := hp
  subst h9
  have hMn9 := hp1
  refine iv_iast hx hb hX.1 hP hD hS 18 0 rfl rfl (wM_A39 _ _ _ _ _) (by omega) (by omega) (by decide) dX10_brokenBy_12 (fun H locs hP hD hS => ?_)
  obtain ⟨g2, eg2, rg2⟩ : ∃ z, z = uA (fa 39) (0) (c1) ∧ ∀ t, inR (z t) := ⟨_, rfl, iU (hRa 39) (by omega)⟩
  rw [← eg2] at hP hD
  have u0 := eg2
  refine lv_aload_n hx hb dX10_brokenBy_13 rfl (lv_at hl 0 rfl) ?_
  refine va_get (D := G) (ci := 7) (v := .ref (ar 39)) (C := RX10) (T := TX10) (N := 71) (ref := RX10) hx hb hts h1w hown hX.1 hP 0 rfl rfl 39 (by decide) h0w (fun _ h9 => h9) rfl dX10_brokenBy_14 ?_
  refine lv_iconst (v := Int32.ofInt 1) hx hb dX10_brokenBy_17 (by decide +kernel) ?_
  refine lv_aload_n hx hb dX10_brokenBy_18 rfl (lv_at hl 0 rfl) ?_
  refine lv_aload_n hx hb dX10_brokenBy_19 rfl (lv_at hl 1 rfl) ?_
  refine lv_iload_n hx hb dX10_brokenBy_20 rfl (lv_at hl 2 rfl) ?_
  refine lv_iconst (v := Int32.ofInt 1) hx hb dX10_brokenBy_21 (by decide +kernel) ?_
  refine cr_i (va_runV (As := [.ref (ar 32), .int (Int32.ofInt (b0)), .int (Int32.ofInt (1))]) (rest := [.int (Int32.ofInt (1)), .ref (ar 39)]) ⟨hx, hb, hml, hown, hts⟩ (mX10_manyOf_32 l G k ar fi (uF fa 39 (g2)) fl b0 1 H.size hR (iG hRa rg2) (by omega) (by omega) (show 0 ≤ (fi 12) ∧ (fi 12) ≤ 7 from by omega) (show b0 = 0 ∨ b0 = 1 from by omega)) (cwV 3 hts (gz [.methodLink RX10 370 yX10_manyOf, .instanceMethod yX10_manyOf, .selects RX10 yX10_manyOf yX10_manyOf, .initialized RX10] (.code yX10_manyOf cX10_manyOf 6 (some .int)) [(26, 12), (26, 13), (26, 14), (0, 5), (26, 15)] rfl) rfl rfl rfl (by decide +kernel) ⟨Nat.le_of_ble_eq_true rfl, Nat.le_of_ble_eq_true rfl⟩) (cr_preV (EZ_ok k) hZ hS hX hP hD hA (ci := 7) (q0 := 0) rfl rfl) rfl rfl hl.1 rfl (lv_room (Nat.le_of_ble_eq_true rfl)) dX10_brokenBy_22 ⟨Nat.le_of_ble_eq_true rfl, Nat.le_of_ble_eq_true rfl⟩) hD hS hA (fun r u H locs hp hP hD hS => ?_)
  obtain ⟨c3, rfl⟩ : ∃ z, z = u := ⟨_, rfl⟩
  obtain ⟨h9, rc3, hp3⟩ : r = Int32.ofInt c3 ∧ (inR c3) ∧ (c3 = gs (mc ((fa 32)) ((fa 4)) b0 1) ((fi 12))) := hp
  subst h9
  have hMn22 := hp3
  refine iv_iast hx hb hX.1 hP hD hS 18 0 rfl rfl (wM_A39 _ _ _ _ _) (by omega) (by omega) (by decide) dX10_brokenBy_25 (fun H locs hP hD hS => ?_)
  obtain ⟨hP, hD⟩ : va_P G vwCl (wM k ar fi (uF fa 39 (uA (g2) (1) (c3))) fl) H ∧ va_D A (wM k ar fi (uF fa 39 (uA (g2) (1) (c3))) fl) := ⟨hP, hD⟩
  obtain ⟨g4, eg4, rg4⟩ : ∃ z, z = uA (g2) (1) (c3) ∧ ∀ t, inR (z t) := ⟨_, rfl, iU rg2 (by omega)⟩
  rw [← eg4] at hP hD
  have u1 := eg4
  refine lv_aload_n hx hb dX10_brokenBy_26 rfl (lv_at hl 0 rfl) ?_
  refine va_get (D := G) (ci := 7) (v := .ref (ar 39)) (C := RX10) (T := TX10) (N := 71) (ref := RX10) hx hb hts h1w hown hX.1 hP 0 rfl rfl 39 (by decide) h0w (fun _ h9 => h9) rfl dX10_brokenBy_27 ?_
  refine lv_iconst (v := Int32.ofInt 2) hx hb dX10_brokenBy_30 (by decide +kernel) ?_
  refine lv_aload_n hx hb dX10_brokenBy_31 rfl (lv_at hl 0 rfl) ?_
  refine lv_aload_n hx hb dX10_brokenBy_32 rfl (lv_at hl 1 rfl) ?_
  refine lv_iload_n hx hb dX10_brokenBy_33 rfl (lv_at hl 2 rfl) ?_
  refine lv_iconst (v := Int32.ofInt 2) hx hb dX10_brokenBy_34 (by decide +kernel) ?_
  refine cr_i (va_runV (As := [.ref (ar 32), .int (Int32.ofInt (b0)), .int (Int32.ofInt (2))]) (rest := [.int (Int32.ofInt (2)), .ref (ar 39)]) ⟨hx, hb, hml, hown, hts⟩ (mX10_manyOf_32 l G k ar fi (uF fa 39 (g4)) fl b0 2 H.size hR (iG hRa rg4) (by omega) (by omega) (show 0 ≤ (fi 12) ∧ (fi 12) ≤ 7 from by omega) (show b0 = 0 ∨ b0 = 1 from by omega)) (cwV 3 hts (gz [.methodLink RX10 370 yX10_manyOf, .instanceMethod yX10_manyOf, .selects RX10 yX10_manyOf yX10_manyOf, .initialized RX10] (.code yX10_manyOf cX10_manyOf 6 (some .int)) [(26, 12), (26, 13), (26, 14), (0, 5), (26, 15)] rfl) rfl rfl rfl (by decide +kernel) ⟨Nat.le_of_ble_eq_true rfl, Nat.le_of_ble_eq_true rfl⟩) (cr_preV (EZ_ok k) hZ hS hX hP hD hA (ci := 7) (q0 := 0) rfl rfl) rfl rfl hl.1 rfl (lv_room (Nat.le_of_ble_eq_true rfl)) dX10_brokenBy_35 ⟨Nat.le_of_ble_eq_true rfl, Nat.le_of_ble_eq_true rfl⟩) hD hS hA (fun r u H locs hp hP hD hS => ?_)
  obtain ⟨c5, rfl⟩ : ∃ z, z = u := ⟨_, rfl⟩
  obtain ⟨h9, rc5, hp5⟩ : r = Int32.ofInt c5 ∧ (inR c5) ∧ (c5 = gs (mc ((fa 32)) ((fa 4)) b0 2) ((fi 12))) := hp
  subst h9
  have hMn35 := hp5
  refine iv_iast hx hb hX.1 hP hD hS 18 0 rfl rfl (wM_A39 _ _ _ _ _) (by omega) (by omega) (by decide) dX10_brokenBy_38 (fun H locs hP hD hS => ?_)
  obtain ⟨hP, hD⟩ : va_P G vwCl (wM k ar fi (uF fa 39 (uA (g4) (2) (c5))) fl) H ∧ va_D A (wM k ar fi (uF fa 39 (uA (g4) (2) (c5))) fl) := ⟨hP, hD⟩
  obtain ⟨g6, eg6, rg6⟩ : ∃ z, z = uA (g4) (2) (c5) ∧ ∀ t, inR (z t) := ⟨_, rfl, iU rg4 (by omega)⟩
  rw [← eg6] at hP hD
  have u2 := eg6
  refine lv_aload_n hx hb dX10_brokenBy_39 rfl (lv_at hl 0 rfl) ?_
  refine va_get (D := G) (ci := 7) (v := .ref (ar 39)) (C := RX10) (T := TX10) (N := 71) (ref := RX10) hx hb hts h1w hown hX.1 hP 0 rfl rfl 39 (by decide) h0w (fun _ h9 => h9) rfl dX10_brokenBy_40 ?_
  refine lv_iconst (v := Int32.ofInt 3) hx hb dX10_brokenBy_43 (by decide +kernel) ?_
  refine lv_aload_n hx hb dX10_brokenBy_44 rfl (lv_at hl 0 rfl) ?_
  refine lv_aload_n hx hb dX10_brokenBy_45 rfl (lv_at hl 1 rfl) ?_
  refine lv_iload_n hx hb dX10_brokenBy_46 rfl (lv_at hl 2 rfl) ?_
  refine lv_iconst (v := Int32.ofInt 3) hx hb dX10_brokenBy_47 (by decide +kernel) ?_
  refine cr_i (va_runV (As := [.ref (ar 32), .int (Int32.ofInt (b0)), .int (Int32.ofInt (3))]) (rest := [.int (Int32.ofInt (3)), .ref (ar 39)]) ⟨hx, hb, hml, hown, hts⟩ (mX10_manyOf_32 l G k ar fi (uF fa 39 (g6)) fl b0 3 H.size hR (iG hRa rg6) (by omega) (by omega) (show 0 ≤ (fi 12) ∧ (fi 12) ≤ 7 from by omega) (show b0 = 0 ∨ b0 = 1 from by omega)) (cwV 3 hts (gz [.methodLink RX10 370 yX10_manyOf, .instanceMethod yX10_manyOf, .selects RX10 yX10_manyOf yX10_manyOf, .initialized RX10] (.code yX10_manyOf cX10_manyOf 6 (some .int)) [(26, 12), (26, 13), (26, 14), (0, 5), (26, 15)] rfl) rfl rfl rfl (by decide +kernel) ⟨Nat.le_of_ble_eq_true rfl, Nat.le_of_ble_eq_true rfl⟩) (cr_preV (EZ_ok k) hZ hS hX hP hD hA (ci := 7) (q0 := 0) rfl rfl) rfl rfl hl.1 rfl (lv_room (Nat.le_of_ble_eq_true rfl)) dX10_brokenBy_48 ⟨Nat.le_of_ble_eq_true rfl, Nat.le_of_ble_eq_true rfl⟩) hD hS hA (fun r u H locs hp hP hD hS => ?_)
  obtain ⟨c7, rfl⟩ : ∃ z, z = u := ⟨_, rfl⟩
  obtain ⟨h9, rc7, hp7⟩ : r = Int32.ofInt c7 ∧ (inR c7) ∧ (c7 = gs (mc ((fa 32)) ((fa 4)) b0 3) ((fi 12))) := hp
  subst h9
  have hMn48 := hp7
  refine iv_iast hx hb hX.1 hP hD hS 18 0 rfl rfl (wM_A39 _ _ _ _ _) (by omega) (by omega) (by decide) dX10_brokenBy_51 (fun H locs hP hD hS => ?_)
  obtain ⟨hP, hD⟩ : va_P G vwCl (wM k ar fi (uF fa 39 (uA (g6) (3) (c7))) fl) H ∧ va_D A (wM k ar fi (uF fa 39 (uA (g6) (3) (c7))) fl) := ⟨hP, hD⟩
  obtain ⟨g8, eg8, rg8⟩ : ∃ z, z = uA (g6) (3) (c7) ∧ ∀ t, inR (z t) := ⟨_, rfl, iU rg6 (by omega)⟩
  rw [← eg8] at hP hD
  have u3 := eg8
  refine lv_aload_n hx hb dX10_brokenBy_52 rfl (lv_at hl 0 rfl) ?_
  refine va_get (D := G) (ci := 7) (v := .ref (ar 39)) (C := RX10) (T := TX10) (N := 71) (ref := RX10) hx hb hts h1w hown hX.1 hP 0 rfl rfl 39 (by decide) h0w (fun _ h9 => h9) rfl dX10_brokenBy_53 ?_
  refine lv_iconst (v := Int32.ofInt 4) hx hb dX10_brokenBy_56 (by decide +kernel) ?_
  refine lv_aload_n hx hb dX10_brokenBy_57 rfl (lv_at hl 0 rfl) ?_
  refine lv_aload_n hx hb dX10_brokenBy_58 rfl (lv_at hl 1 rfl) ?_
  refine lv_iload_n hx hb dX10_brokenBy_59 rfl (lv_at hl 2 rfl) ?_
  refine cr_i (va_runV (As := [.ref (ar 32), .int (Int32.ofInt (b0))]) (rest := [.int (Int32.ofInt (4)), .ref (ar 39)]) ⟨hx, hb, hml, hown, hts⟩ (mX10_loadOf_32 l G k ar fi (uF fa 39 (g8)) fl b0 H.size hR (iG hRa rg8) (by omega) (show 0 ≤ (fi 12) ∧ (fi 12) ≤ 7 from by omega) (show b0 = 0 ∨ b0 = 1 from by omega)) (cwV 2 hts (gz [.methodLink RX10 362 yX10_loadOf, .instanceMethod yX10_loadOf, .selects RX10 yX10_loadOf yX10_loadOf, .initialized RX10] (.code yX10_loadOf cX10_loadOf 5 (some .int)) [(26, 0), (26, 1), (26, 2), (0, 5), (26, 3)] rfl) rfl rfl rfl (by decide +kernel) ⟨Nat.le_of_ble_eq_true rfl, Nat.le_of_ble_eq_true rfl⟩) (cr_preV (EZ_ok k) hZ hS hX hP hD hA (ci := 7) (q0 := 0) rfl rfl) rfl rfl hl.1 rfl (lv_room (Nat.le_of_ble_eq_true rfl)) dX10_brokenBy_60 ⟨Nat.le_of_ble_eq_true rfl, Nat.le_of_ble_eq_true rfl⟩) hD hS hA (fun r u H locs hp hP hD hS => ?_)
  obtain ⟨c9, rfl⟩ : ∃ z, z = u := ⟨_, rfl⟩
  obtain ⟨h9, rc9, hp9⟩ : r = Int32.ofInt c9 ∧ (inR c9) ∧ (c9 = (gs (lc ((fa 32)) ((fa 5)) b0) ((fi 12)))) := hp
  subst h9
  have hLd60 := hp9
  refine iv_iast hx hb hX.1 hP hD hS 18 0 rfl rfl (wM_A39 _ _ _ _ _) (by omega) (by omega) (by decide) dX10_brokenBy_63 (fun H locs hP hD hS => ?_)
  obtain ⟨hP, hD⟩ : va_P G vwCl (wM k ar fi (uF fa 39 (uA (g8) (4) (c9))) fl) H ∧ va_D A (wM k ar fi (uF fa 39 (uA (g8) (4) (c9))) fl) := ⟨hP, hD⟩
  obtain ⟨g10, eg10, rg10⟩ : ∃ z, z = uA (g8) (4) (c9) ∧ ∀ t, inR (z t) := ⟨_, rfl, iU rg8 (by omega)⟩
  rw [← eg10] at hP hD
  have u4 := eg10
  refine lv_aload_n hx hb dX10_brokenBy_64 rfl (lv_at hl 0 rfl) ?_
  refine va_get (D := G) (ci := 7) (v := .ref (ar 39)) (C := RX10) (T := TX10) (N := 71) (ref := RX10) hx hb hts h1w hown hX.1 hP 0 rfl rfl 39 (by decide) h0w (fun _ h9 => h9) rfl dX10_brokenBy_65 ?_
  refine lv_iconst (v := Int32.ofInt 5) hx hb dX10_brokenBy_68 (by decide +kernel) ?_
  refine lv_aload_n hx hb dX10_brokenBy_69 rfl (lv_at hl 0 rfl) ?_
  refine lv_iload_n hx hb dX10_brokenBy_70 rfl (lv_at hl 2 rfl) ?_
  refine lv_iload_n hx hb dX10_brokenBy_71 rfl (lv_at hl 3 rfl) ?_
  refine cr_i (va_runV (As := [.int (Int32.ofInt (b0)), .int (Int32.ofInt (a0))]) (rest := [.int (Int32.ofInt (5)), .ref (ar 39)]) ⟨hx, hb, hml, hown, hts⟩ (mX10_depthOf l G k ar fi (uF fa 39 (g10)) fl b0 a0 H.size hR (iG hRa rg10) (by omega) (by omega)) (cwV 2 hts (gz [.methodLink RX10 352 yX10_depthOf, .instanceMethod yX10_depthOf, .selects RX10 yX10_depthOf yX10_depthOf, .initialized RX10] (.code yX10_depthOf cX10_depthOf 3 (some .int)) [(24, 7), (24, 8), (24, 9), (0, 5), (24, 10)] rfl) rfl rfl rfl (by decide +kernel) ⟨Nat.le_of_ble_eq_true rfl, Nat.le_of_ble_eq_true rfl⟩) (cr_preV (EZ_ok k) hZ hS hX hP hD hA (ci := 7) (q0 := 0) rfl rfl) rfl rfl hl.1 rfl (lv_room (Nat.le_of_ble_eq_true rfl)) dX10_brokenBy_72 ⟨Nat.le_of_ble_eq_true rfl, Nat.le_of_ble_eq_true rfl⟩) hD hS hA (fun r u H locs hp hP hD hS => ?_)
  obtain ⟨c11, rfl⟩ : ∃ z, z = u := ⟨_, rfl⟩
  obtain ⟨h9, rc11, hp11⟩ : r = Int32.ofInt c11 ∧ (inR c11) ∧ (c11 = buD b0 a0 ((fa 3) 0)) := hp
  subst h9
  have hBu72 := hp11
  refine iv_iast hx hb hX.1 hP hD hS 18 0 rfl rfl (wM_A39 _ _ _ _ _) (by omega) (by omega) (by decide) dX10_brokenBy_75 (fun H locs hP hD hS => ?_)
  obtain ⟨hP, hD⟩ : va_P G vwCl (wM k ar fi (uF fa 39 (uA (g10) (5) (c11))) fl) H ∧ va_D A (wM k ar fi (uF fa 39 (uA (g10) (5) (c11))) fl) := ⟨hP, hD⟩
  obtain ⟨g12, eg12, rg12⟩ : ∃ z, z = uA (g10) (5) (c11) ∧ ∀ t, inR (z t) := ⟨_, rfl, iU rg10 (by omega)⟩
  rw [← eg12] at hP hD
  have u5 := eg12
  refine lv_aload_n hx hb dX10_brokenBy_76 rfl (lv_at hl 0 rfl) ?_
  refine va_get (D := G) (ci := 7) (v := .ref (ar 39)) (C := RX10) (T := TX10) (N := 71) (ref := RX10) hx hb hts h1w hown hX.1 hP 0 rfl rfl 39 (by decide) h0w (fun _ h9 => h9) rfl dX10_brokenBy_77 ?_
  refine lv_bipush (v := Int32.ofInt 6) hx hb dX10_brokenBy_80 (by decide +kernel) ?_
  refine lv_aload_n hx hb dX10_brokenBy_82 rfl (lv_at hl 0 rfl) ?_
  refine lv_aload_n hx hb dX10_brokenBy_83 rfl (lv_at hl 1 rfl) ?_
  refine lv_iconst (v := Int32.ofInt 1) hx hb dX10_brokenBy_84 (by decide +kernel) ?_
  refine lv_iload_n hx hb dX10_brokenBy_85 rfl (lv_at hl 2 rfl) ?_
  refine iv_sub (x := 1) (y := b0) hx hb dX10_brokenBy_86 ?_
  refine cr_i (va_runV (As := [.ref (ar 32), .int (Int32.ofInt ((1 - b0)))]) (rest := [.int (Int32.ofInt (6)), .ref (ar 39)]) ⟨hx, hb, hml, hown, hts⟩ (mX10_loadOf_32 l G k ar fi (uF fa 39 (g12)) fl (1 - b0) H.size hR (iG hRa rg12) (by omega) (show 0 ≤ (fi 12) ∧ (fi 12) ≤ 7 from by omega) (show (1 - b0) = 0 ∨ (1 - b0) = 1 from by omega)) (cwV 2 hts (gz [.methodLink RX10 362 yX10_loadOf, .instanceMethod yX10_loadOf, .selects RX10 yX10_loadOf yX10_loadOf, .initialized RX10] (.code yX10_loadOf cX10_loadOf 5 (some .int)) [(26, 0), (26, 1), (26, 2), (0, 5), (26, 3)] rfl) rfl rfl rfl (by decide +kernel) ⟨Nat.le_of_ble_eq_true rfl, Nat.le_of_ble_eq_true rfl⟩) (cr_preV (EZ_ok k) hZ hS hX hP hD hA (ci := 7) (q0 := 0) rfl rfl) rfl rfl hl.1 rfl (lv_room (Nat.le_of_ble_eq_true rfl)) dX10_brokenBy_87 ⟨Nat.le_of_ble_eq_true rfl, Nat.le_of_ble_eq_true rfl⟩) hD hS hA (fun r u H locs hp hP hD hS => ?_)
  obtain ⟨c13, rfl⟩ : ∃ z, z = u := ⟨_, rfl⟩
  obtain ⟨h9, rc13, hp13⟩ : r = Int32.ofInt c13 ∧ (inR c13) ∧ (c13 = (gs (lc ((fa 32)) ((fa 5)) (1 - b0)) ((fi 12)))) := hp
  subst h9
  have hLd87 := hp13
  refine iv_iast hx hb hX.1 hP hD hS 18 0 rfl rfl (wM_A39 _ _ _ _ _) (by omega) (by omega) (by decide) dX10_brokenBy_90 (fun H locs hP hD hS => ?_)
  obtain ⟨hP, hD⟩ : va_P G vwCl (wM k ar fi (uF fa 39 (uA (g12) (6) (c13))) fl) H ∧ va_D A (wM k ar fi (uF fa 39 (uA (g12) (6) (c13))) fl) := ⟨hP, hD⟩
  obtain ⟨g14, eg14, rg14⟩ : ∃ z, z = uA (g12) (6) (c13) ∧ ∀ t, inR (z t) := ⟨_, rfl, iU rg12 (by omega)⟩
  rw [← eg14] at hP hD
  have hVV := ask7 u0 u1 u2 u3 u4 u5 eg14 hMn9 hMn22 hMn35 hMn48 hLd60 hBu72 hLd87
  refine lv_iconst (v := Int32.ofInt 0) hx hb dX10_brokenBy_91 (by decide +kernel) ?_
  refine lv_istore (lv' := [(4, .int (Int32.ofInt (0))), (0, .ref (ar 71)), (1, .ref (ar 32)), (2, .int (Int32.ofInt (b0))), (3, .int (Int32.ofInt (a0)))]) hx hb dX10_brokenBy_92 hl (by decide) rfl (fun ls hl => ?_)
  refine iv_loop (α := Int × (Int → Int)) (nL := 5) (fun b9 => (wM k ar fi (uF (uF fa 39 (g14)) 40 (b9.2)) fl)) (fun b9 => [(4, .int (Int32.ofInt (b9.1))), (0, .ref (ar 71)), (1, .ref (ar 32)), (2, .int (Int32.ofInt (b0))), (3, .int (Int32.ofInt (a0)))]) (fun b9 => (fi 13 - b9.1).toNat) (fun b9 => inR b9.1 ∧ (∀ t, inR (b9.2 t)) ∧ (0 ≤ b9.1 ∧ bkI (fun q => evR (fa 10) (vls (fa 32) (fa 4) (fa 5) b0 (fi 12) (fa 3 0) a0) (fa 8 q) (fa 9 q)) b9.1)) ?_ (0, fa 40) (show inR 0 ∧ (∀ t, inR ((fa 40) t)) ∧ (0 ≤ 0 ∧ bkI (fun q => evR (fa 10) (vls (fa 32) (fa 4) (fa 5) b0 (fi 12) (fa 3 0) a0) (fa 8 q) (fa 9 q)) 0) from ⟨(by omega), (hRa 40), (by exact ⟨by omega, bki_0 (by omega)⟩)⟩) hP hD hS hl
  rintro ⟨x4_15, g40_16⟩ ih hi9 H locs ls hP hD hS hl
  obtain ⟨r_x4_15, r_g40_16, hinv⟩ : inR x4_15 ∧ (∀ t, inR (g40_16 t)) ∧ (0 ≤ x4_15 ∧ bkI (fun q => evR (fa 10) (vls (fa 32) (fa 4) (fa 5) b0 (fi 12) (fa 3 0) a0) (fa 8 q) (fa 9 q)) x4_15) := hi9
  obtain ⟨hinv, hBI⟩ := hinv
  obtain ⟨hP, hD⟩ : va_P G vwCl (wM k ar fi (uF (uF fa 39 (g14)) 40 (g40_16)) fl) H ∧ va_D A (wM k ar fi (uF (uF fa 39 (g14)) 40 (g40_16)) fl) := ⟨hP, hD⟩
  have hl : lv_has ls 5 [(4, .int (Int32.ofInt (x4_15))), (0, .ref (ar 71)), (1, .ref (ar 32)), (2, .int (Int32.ofInt (b0))), (3, .int (Int32.ofInt (a0)))] := hl
  refine lv_iload hx hb dX10_brokenBy_94 (lv_at hl 0 rfl) ?_
  refine lv_aload_n hx hb dX10_brokenBy_96 rfl (lv_at hl 1 rfl) ?_
  refine va_get (D := G) (ci := 7) (v := .int (Int32.ofInt (fi 13))) (C := RX10) (T := TX10) (N := 71) (ref := RX10) hx hb hts h1w hown hX.1 hP 0 rfl rfl 13 (by decide) h2w (fun _ h9 => h9) rfl dX10_brokenBy_97 ?_
  have rf13 := hR 13
  refine iv_icmp_ge (tgt := 121) hx hb (by omega) (by omega) dX10_brokenBy_100 (by decide) (fun q17 => ?_) (fun q17 => ?_)
  · refine lv_iconst (v := Int32.ofInt (-1)) hx hb dX10_brokenBy_121 (by decide +kernel) ?_
    exact W.iret (v := Int32.ofInt ((-1))) hx hb hr (fun t ht hW => ⟨⟨Int32.ofInt ((-1)), ((-1), g14, g40_16), rfl, ⟨rfl, (show (inR (-1)) ∧ (∀ t, inR (g14 t)) ∧ (∀ t, inR (g40_16 t)) ∧ (brkP (-1) (fun q => evR (fa 10) (vls (fa 32) (fa 4) (fa 5) b0 (fi 12) (fa 3 0) a0) (fa 8 q) (fa 9 q)) (fi 13)) from ⟨(by omega), rg14, r_g40_16, (by first | exact brk_y2 hBI (by omega) (by omega) (by omega) | exact brk_n hBI (by omega) rfl)⟩)⟩, by rw [ht]; exact hP, hD⟩, hS.F ht⟩) hS.2.2 dX10_brokenBy_122
  · refine lv_aload_n hx hb dX10_brokenBy_103 rfl (lv_at hl 1 rfl) ?_
    refine lv_iload hx hb dX10_brokenBy_104 (lv_at hl 0 rfl) ?_
    refine cr_i (va_runV (As := [.int (Int32.ofInt (x4_15))]) (rest := []) ⟨hx, hb, hml, hown, hts⟩ (mX10_holds l G k ar fi (uF (uF fa 39 (g14)) 40 (g40_16)) fl x4_15 H.size hR (iG (iG hRa rg14) r_g40_16) (by omega) (show 0 ≤ x4_15 ∧ x4_15 < 8 from by omega) (show RWf ((fa 10)) ((fa 8) x4_15) ((fa 9) x4_15) from by exact hRW x4_15 (by omega) (by omega))) (cwV 1 hts (gz [.methodLink RX10 374 yX10_holds, .instanceMethod yX10_holds, .selects RX10 yX10_holds yX10_holds, .initialized RX10] (.code yX10_holds cX10_holds 5 (some .boolean)) [(26, 16), (26, 17), (26, 18), (0, 5), (26, 19)] rfl) rfl rfl rfl (by decide +kernel) ⟨Nat.le_of_ble_eq_true rfl, Nat.le_of_ble_eq_true rfl⟩) (cr_preV (EZ_ok k) hZ hS hX hP hD hA (ci := 7) (q0 := 0) rfl rfl) rfl rfl hl.1 rfl (lv_room (Nat.le_of_ble_eq_true rfl)) dX10_brokenBy_106 ⟨Nat.le_of_ble_eq_true rfl, Nat.le_of_ble_eq_true rfl⟩) hD hS hA (fun r u H locs hp hP hD hS => ?_)
    obtain ⟨c18, c19⟩ := u
    obtain ⟨hP, hD⟩ : va_P G vwCl (wM k ar fi (uF (uF fa 39 (g14)) 40 (c19)) fl) H ∧ va_D A (wM k ar fi (uF (uF fa 39 (g14)) 40 (c19)) fl) := ⟨hP, hD⟩
    obtain ⟨h9, rc18, rc19, hp19⟩ : r = Int32.ofInt c18 ∧ (inR c18) ∧ (∀ t, inR (c19 t)) ∧ ((c18 = 1 ∧ ¬ evR ((fa 10)) (g14) ((fa 8) x4_15) ((fa 9) x4_15) = 0) ∨ (c18 = 0 ∧ evR ((fa 10)) (g14) ((fa 8) x4_15) ((fa 9) x4_15) = 0)) := hp
    subst h9
    have hev := ev_V (hRW x4_15 (by omega) (by omega)) hVV
    refine iv_if_ne (tgt := 115) hx hb (by omega) dX10_brokenBy_109 (by decide) (fun q20 => ?_) (fun q20 => ?_)
    · refine lv_iinc (v := Int32.ofInt (x4_15 + 1)) (lv' := [(4, .int (Int32.ofInt ((x4_15 + 1)))), (0, .ref (ar 71)), (1, .ref (ar 32)), (2, .int (Int32.ofInt (b0))), (3, .int (Int32.ofInt (a0)))]) hx hb dX10_brokenBy_115 hl (k := 0) rfl (Int32.ofInt_add _ _).symm (by decide) rfl (fun ls hl => ?_)
      refine lv_goto (tgt := 94) hx hb dX10_brokenBy_118 (by decide) ?_
      have hl : lv_has ls 5 [(4, .int (Int32.ofInt ((x4_15 + 1)))), (0, .ref (ar 71)), (1, .ref (ar 32)), (2, .int (Int32.ofInt (b0))), (3, .int (Int32.ofInt (a0)))] := lv_sub hl [0, 1, 2, 3, 4] rfl
      exact ih ((x4_15 + 1), c19) (show (fi 13 - (x4_15 + 1)).toNat < (fi 13 - x4_15).toNat from by omega) (show inR (x4_15 + 1) ∧ (∀ t, inR (c19 t)) ∧ (0 ≤ (x4_15 + 1) ∧ bkI (fun q => evR (fa 10) (vls (fa 32) (fa 4) (fa 5) b0 (fi 12) (fa 3 0) a0) (fa 8 q) (fa 9 q)) (x4_15 + 1)) from ⟨(by omega), rc19, (by exact ⟨by omega, bki_s2 hBI (by omega) rfl⟩)⟩) _ _ _ hP hD hS hl
    · refine lv_iload hx hb dX10_brokenBy_112 (lv_at hl 0 rfl) ?_
      exact W.iret (v := Int32.ofInt (x4_15)) hx hb hr (fun t ht hW => ⟨⟨Int32.ofInt (x4_15), (x4_15, g14, c19), rfl, ⟨rfl, (show (inR x4_15) ∧ (∀ t, inR (g14 t)) ∧ (∀ t, inR (c19 t)) ∧ (brkP x4_15 (fun q => evR (fa 10) (vls (fa 32) (fa 4) (fa 5) b0 (fi 12) (fa 3 0) a0) (fa 8 q) (fa 9 q)) (fi 13)) from ⟨(by omega), rg14, rc19, (by first | exact brk_y2 hBI (by omega) (by omega) (by omega) | exact brk_n hBI (by omega) rfl)⟩)⟩, by rw [ht]; exact hP, hD⟩, hS.F ht⟩) hS.2.2 dX10_brokenBy_114

set_option maxHeartbeats 4000000 in
set_option maxRecDepth 100000 in
theorem mX10_brokenBy_44 (l : Launch) (G : va_G) (k : Nat → ClassId) (ar : Nat → Nat) (fi : Nat → Int) (fa : Nat → Int → Int) (fl : Nat → Int64) (b0 : Int) (a0 : Int) (sz : Nat) (hR : ∀ j, inR (fi j)) (hRa : ∀ j t, inR (fa j t)) (hr_b0 : inR b0) (hr_a0 : inR a0) (hth : 0 ≤ fi 12 ∧ fi 12 ≤ 7) (hru : 0 ≤ fi 13 ∧ fi 13 ≤ 4) (hRW : ∀ q9, 0 ≤ q9 → q9 < fi 13 → RWf (fa 10) (fa 8 q9) (fa 9 q9)) (hb : b0 = 0 ∨ b0 = 1) : CNi l G k (EZ k) yX10_brokenBy wzX10_brokenBy ({ frames := 2, cells := 0, slots := 0, locals := 46 }) [.ref (ar 71), .ref (ar 44), .int (Int32.ofInt (b0)), .int (Int32.ofInt (a0))] sz (wM k ar fi fa fl) (fun (r0 : Int32) (u : Int × (Int → Int) × (Int → Int)) => r0 = Int32.ofInt (u.1) ∧ (inR u.1) ∧ (∀ t, inR (u.2.1 t)) ∧ (∀ t, inR (u.2.2 t)) ∧ (brkP u.1 (fun q => evR (fa 10) (vls (fa 44) (fa 4) (fa 5) b0 (fi 12) (fa 3 0) a0) (fa 8 q) (fa 9 q)) (fi 13))) (fun (u : Int × (Int → Int) × (Int → Int)) => (wM k ar fi (uF (uF fa 39 (u.2.1)) 40 (u.2.2)) fl)) := by
  refine Met.ofW (cc := cX10_brokenBy) (maxL := 5) (ret := (some .int)) (by decide) rfl ?_
  intro p e s m args below meth c s₁ B hml hv
  obtain ⟨rfl, hsz, hP, hX, hD0, hZ0⟩ := hv
  have hx := B.exec
  have hb := B.bytes
  have hr := B.returns
  have hts := atoms_spec (ws := wzX10_brokenBy) B.pre
  have hown : s.vm.findClass RX10 = some m.cls := findClass_of_methodNamed B.named
  subst hsz
  have hD := hD0.self (sz := s.heap.size)
  have hZ := hZ0
  generalize hAe : va_A (wM k ar fi fa fl) s.heap.size = A at hD hZ ⊢
  have hA : ∀ q : Nat, s.heap.size ≤ q → A q := fun q h => by rw [← hAe]; exact Or.inr h
  have hS : va_S A s.heap s.heap [] := va_S.rf
  have hl := lv_entry ([.ref (ar 71), .ref (ar 44), .int (Int32.ofInt (b0)), .int (Int32.ofInt (a0))]) (n := 5) (Nat.le_of_ble_eq_true rfl)
  rw [lg_entry_eq]
  generalize (lg_sl ([.ref (ar 71), .ref (ar 44), .int (Int32.ofInt (b0)), .int (Int32.ofInt (a0))]) ++ List.replicate (5 - (lg_sl ([.ref (ar 71), .ref (ar 44), .int (Int32.ofInt (b0)), .int (Int32.ofInt (a0))])).length) Slot.unset).toArray = ls at hl ⊢
  have hl : lv_has ls 5 [(0, .ref (ar 71)), (1, .ref (ar 44)), (2, .int (Int32.ofInt (b0))), (3, .int (Int32.ofInt (a0)))] := hl
  obtain ⟨H, eH⟩ : ∃ H, H = s.heap := ⟨_, rfl⟩
  rw [← eH] at hP
  have hS : va_S A s.heap H [] := by rw [eH]; exact hS
  have gW : s.heap = H := eH.symm
  refine iv_heap gW ?_
  have h0w := hts (.fieldLink RX10 108 "RopeTownModel" "asked" "[I") (wz_at 7 0 rfl)
  have h1w : ∀ w ∈ wsX100, w ∈ wzX10_brokenBy := fun w h => List.mem_cons_of_mem _ (inlX10 w h)
  have h2w := hts (.fieldLink RX10 324 "RopeTownModel" "rules" "I") (wz_at 21 12 rfl)
  refine lv_aload_n hx hb dX10_brokenBy_0 rfl (lv_at hl 0 rfl) ?_
  refine va_get (D := G) (ci := 7) (v := .ref (ar 39)) (C := RX10) (T := TX10) (N := 71) (ref := RX10) hx hb hts h1w hown hX.1 hP 0 rfl rfl 39 (by decide) h0w (fun _ h9 => h9) rfl dX10_brokenBy_1 ?_
  refine lv_iconst (v := Int32.ofInt 0) hx hb dX10_brokenBy_4 (by decide +kernel) ?_
  refine lv_aload_n hx hb dX10_brokenBy_5 rfl (lv_at hl 0 rfl) ?_
  refine lv_aload_n hx hb dX10_brokenBy_6 rfl (lv_at hl 1 rfl) ?_
  refine lv_iload_n hx hb dX10_brokenBy_7 rfl (lv_at hl 2 rfl) ?_
  refine lv_iconst (v := Int32.ofInt 0) hx hb dX10_brokenBy_8 (by decide +kernel) ?_
  refine cr_i (va_runV (As := [.ref (ar 44), .int (Int32.ofInt (b0)), .int (Int32.ofInt (0))]) (rest := [.int (Int32.ofInt (0)), .ref (ar 39)]) ⟨hx, hb, hml, hown, hts⟩ (mX10_manyOf_44 l G k ar fi fa fl b0 0 H.size hR hRa (by omega) (by omega) (show 0 ≤ (fi 12) ∧ (fi 12) ≤ 7 from by omega) (show b0 = 0 ∨ b0 = 1 from by omega)) (cwV 3 hts (gz [.methodLink RX10 370 yX10_manyOf, .instanceMethod yX10_manyOf, .selects RX10 yX10_manyOf yX10_manyOf, .initialized RX10] (.code yX10_manyOf cX10_manyOf 6 (some .int)) [(26, 12), (26, 13), (26, 14), (0, 5), (26, 15)] rfl) rfl rfl rfl (by decide +kernel) ⟨Nat.le_of_ble_eq_true rfl, Nat.le_of_ble_eq_true rfl⟩) (cr_preV (EZ_ok k) hZ hS hX hP hD hA (ci := 7) (q0 := 0) rfl rfl) rfl rfl hl.1 rfl (lv_room (Nat.le_of_ble_eq_true rfl)) dX10_brokenBy_9 ⟨Nat.le_of_ble_eq_true rfl, Nat.le_of_ble_eq_true rfl⟩) hD hS hA (fun r u H locs hp hP hD hS => ?_)
  obtain ⟨c1, rfl⟩ : ∃ z, z = u := ⟨_, rfl⟩
  obtain ⟨h9, rc1, hp1⟩ : r = Int32.ofInt c1 ∧ (inR c1) ∧ (c1 = gs (mc ((fa 44)) ((fa 4)) b0 0) ((fi 12))) := hp
  subst h9
  have hMn9 := hp1
  refine iv_iast hx hb hX.1 hP hD hS 18 0 rfl rfl (wM_A39 _ _ _ _ _) (by omega) (by omega) (by decide) dX10_brokenBy_12 (fun H locs hP hD hS => ?_)
  obtain ⟨g2, eg2, rg2⟩ : ∃ z, z = uA (fa 39) (0) (c1) ∧ ∀ t, inR (z t) := ⟨_, rfl, iU (hRa 39) (by omega)⟩
  rw [← eg2] at hP hD
  have u0 := eg2
  refine lv_aload_n hx hb dX10_brokenBy_13 rfl (lv_at hl 0 rfl) ?_
  refine va_get (D := G) (ci := 7) (v := .ref (ar 39)) (C := RX10) (T := TX10) (N := 71) (ref := RX10) hx hb hts h1w hown hX.1 hP 0 rfl rfl 39 (by decide) h0w (fun _ h9 => h9) rfl dX10_brokenBy_14 ?_
  refine lv_iconst (v := Int32.ofInt 1) hx hb dX10_brokenBy_17 (by decide +kernel) ?_
  refine lv_aload_n hx hb dX10_brokenBy_18 rfl (lv_at hl 0 rfl) ?_
  refine lv_aload_n hx hb dX10_brokenBy_19 rfl (lv_at hl 1 rfl) ?_
  refine lv_iload_n hx hb dX10_brokenBy_20 rfl (lv_at hl 2 rfl) ?_
  refine lv_iconst (v := Int32.ofInt 1) hx hb dX10_brokenBy_21 (by decide +kernel) ?_
  refine cr_i (va_runV (As := [.ref (ar 44), .int (Int32.ofInt (b0)), .int (Int32.ofInt (1))]) (rest := [.int (Int32.ofInt (1)), .ref (ar 39)]) ⟨hx, hb, hml, hown, hts⟩ (mX10_manyOf_44 l G k ar fi (uF fa 39 (g2)) fl b0 1 H.size hR (iG hRa rg2) (by omega) (by omega) (show 0 ≤ (fi 12) ∧ (fi 12) ≤ 7 from by omega) (show b0 = 0 ∨ b0 = 1 from by omega)) (cwV 3 hts (gz [.methodLink RX10 370 yX10_manyOf, .instanceMethod yX10_manyOf, .selects RX10 yX10_manyOf yX10_manyOf, .initialized RX10] (.code yX10_manyOf cX10_manyOf 6 (some .int)) [(26, 12), (26, 13), (26, 14), (0, 5), (26, 15)] rfl) rfl rfl rfl (by decide +kernel) ⟨Nat.le_of_ble_eq_true rfl, Nat.le_of_ble_eq_true rfl⟩) (cr_preV (EZ_ok k) hZ hS hX hP hD hA (ci := 7) (q0 := 0) rfl rfl) rfl rfl hl.1 rfl (lv_room (Nat.le_of_ble_eq_true rfl)) dX10_brokenBy_22 ⟨Nat.le_of_ble_eq_true rfl, Nat.le_of_ble_eq_true rfl⟩) hD hS hA (fun r u H locs hp hP hD hS => ?_)
  obtain ⟨c3, rfl⟩ : ∃ z, z = u := ⟨_, rfl⟩
  obtain ⟨h9, rc3, hp3⟩ : r = Int32.ofInt c3 ∧ (inR c3) ∧ (c3 = gs (mc ((fa 44)) ((fa 4)) b0 1) ((fi 12))) := hp
  subst h9
  have hMn22 := hp3
  refine iv_iast hx hb hX.1 hP hD hS 18 0 rfl rfl (wM_A39 _ _ _ _ _) (by omega) (by omega) (by decide) dX10_brokenBy_25 (fun H locs hP hD hS => ?_)
  obtain ⟨hP, hD⟩ : va_P G vwCl (wM k ar fi (uF fa 39 (uA (g2) (1) (c3))) fl) H ∧ va_D A (wM k ar fi (uF fa 39 (uA (g2) (1) (c3))) fl) := ⟨hP, hD⟩
  obtain ⟨g4, eg4, rg4⟩ : ∃ z, z = uA (g2) (1) (c3) ∧ ∀ t, inR (z t) := ⟨_, rfl, iU rg2 (by omega)⟩
  rw [← eg4] at hP hD
  have u1 := eg4
  refine lv_aload_n hx hb dX10_brokenBy_26 rfl (lv_at hl 0 rfl) ?_
  refine va_get (D := G) (ci := 7) (v := .ref (ar 39)) (C := RX10) (T := TX10) (N := 71) (ref := RX10) hx hb hts h1w hown hX.1 hP 0 rfl rfl 39 (by decide) h0w (fun _ h9 => h9) rfl dX10_brokenBy_27 ?_
  refine lv_iconst (v := Int32.ofInt 2) hx hb dX10_brokenBy_30 (by decide +kernel) ?_
  refine lv_aload_n hx hb dX10_brokenBy_31 rfl (lv_at hl 0 rfl) ?_
  refine lv_aload_n hx hb dX10_brokenBy_32 rfl (lv_at hl 1 rfl) ?_
  refine lv_iload_n hx hb dX10_brokenBy_33 rfl (lv_at hl 2 rfl) ?_
  refine lv_iconst (v := Int32.ofInt 2) hx hb dX10_brokenBy_34 (by decide +kernel) ?_
  refine cr_i (va_runV (As := [.ref (ar 44), .int (Int32.ofInt (b0)), .int (Int32.ofInt (2))]) (rest := [.int (Int32.ofInt (2)), .ref (ar 39)]) ⟨hx, hb, hml, hown, hts⟩ (mX10_manyOf_44 l G k ar fi (uF fa 39 (g4)) fl b0 2 H.size hR (iG hRa rg4) (by omega) (by omega) (show 0 ≤ (fi 12) ∧ (fi 12) ≤ 7 from by omega) (show b0 = 0 ∨ b0 = 1 from by omega)) (cwV 3 hts (gz [.methodLink RX10 370 yX10_manyOf, .instanceMethod yX10_manyOf, .selects RX10 yX10_manyOf yX10_manyOf, .initialized RX10] (.code yX10_manyOf cX10_manyOf 6 (some .int)) [(26, 12), (26, 13), (26, 14), (0, 5), (26, 15)] rfl) rfl rfl rfl (by decide +kernel) ⟨Nat.le_of_ble_eq_true rfl, Nat.le_of_ble_eq_true rfl⟩) (cr_preV (EZ_ok k) hZ hS hX hP hD hA (ci := 7) (q0 := 0) rfl rfl) rfl rfl hl.1 rfl (lv_room (Nat.le_of_ble_eq_true rfl)) dX10_brokenBy_35 ⟨Nat.le_of_ble_eq_true rfl, Nat.le_of_ble_eq_true rfl⟩) hD hS hA (fun r u H locs hp hP hD hS => ?_)
  obtain ⟨c5, rfl⟩ : ∃ z, z = u := ⟨_, rfl⟩
  obtain ⟨h9, rc5, hp5⟩ : r = Int32.ofInt c5 ∧ (inR c5) ∧ (c5 = gs (mc ((fa 44)) ((fa 4)) b0 2) ((fi 12))) := hp
  subst h9
  have hMn35 := hp5
  refine iv_iast hx hb hX.1 hP hD hS 18 0 rfl rfl (wM_A39 _ _ _ _ _) (by omega) (by omega) (by decide) dX10_brokenBy_38 (fun H locs hP hD hS => ?_)
  obtain ⟨hP, hD⟩ : va_P G vwCl (wM k ar fi (uF fa 39 (uA (g4) (2) (c5))) fl) H ∧ va_D A (wM k ar fi (uF fa 39 (uA (g4) (2) (c5))) fl) := ⟨hP, hD⟩
  obtain ⟨g6, eg6, rg6⟩ : ∃ z, z = uA (g4) (2) (c5) ∧ ∀ t, inR (z t) := ⟨_, rfl, iU rg4 (by omega)⟩
  rw [← eg6] at hP hD
  have u2 := eg6
  refine lv_aload_n hx hb dX10_brokenBy_39 rfl (lv_at hl 0 rfl) ?_
  refine va_get (D := G) (ci := 7) (v := .ref (ar 39)) (C := RX10) (T := TX10) (N := 71) (ref := RX10) hx hb hts h1w hown hX.1 hP 0 rfl rfl 39 (by decide) h0w (fun _ h9 => h9) rfl dX10_brokenBy_40 ?_
  refine lv_iconst (v := Int32.ofInt 3) hx hb dX10_brokenBy_43 (by decide +kernel) ?_
  refine lv_aload_n hx hb dX10_brokenBy_44 rfl (lv_at hl 0 rfl) ?_
  refine lv_aload_n hx hb dX10_brokenBy_45 rfl (lv_at hl 1 rfl) ?_
  refine lv_iload_n hx hb dX10_brokenBy_46 rfl (lv_at hl 2 rfl) ?_
  refine lv_iconst (v := Int32.ofInt 3) hx hb dX10_brokenBy_47 (by decide +kernel) ?_
  refine cr_i (va_runV (As := [.ref (ar 44), .int (Int32.ofInt (b0)), .int (Int32.ofInt (3))]) (rest := [.int (Int32.ofInt (3)), .ref (ar 39)]) ⟨hx, hb, hml, hown, hts⟩ (mX10_manyOf_44 l G k ar fi (uF fa 39 (g6)) fl b0 3 H.size hR (iG hRa rg6) (by omega) (by omega) (show 0 ≤ (fi 12) ∧ (fi 12) ≤ 7 from by omega) (show b0 = 0 ∨ b0 = 1 from by omega)) (cwV 3 hts (gz [.methodLink RX10 370 yX10_manyOf, .instanceMethod yX10_manyOf, .selects RX10 yX10_manyOf yX10_manyOf, .initialized RX10] (.code yX10_manyOf cX10_manyOf 6 (some .int)) [(26, 12), (26, 13), (26, 14), (0, 5), (26, 15)] rfl) rfl rfl rfl (by decide +kernel) ⟨Nat.le_of_ble_eq_true rfl, Nat.le_of_ble_eq_true rfl⟩) (cr_preV (EZ_ok k) hZ hS hX hP hD hA (ci := 7) (q0 := 0) rfl rfl) rfl rfl hl.1 rfl (lv_room (Nat.le_of_ble_eq_true rfl)) dX10_brokenBy_48 ⟨Nat.le_of_ble_eq_true rfl, Nat.le_of_ble_eq_true rfl⟩) hD hS hA (fun r u H locs hp hP hD hS => ?_)
  obtain ⟨c7, rfl⟩ : ∃ z, z = u := ⟨_, rfl⟩
  obtain ⟨h9, rc7, hp7⟩ : r = Int32.ofInt c7 ∧ (inR c7) ∧ (c7 = gs (mc ((fa 44)) ((fa 4)) b0 3) ((fi 12))) := hp
  subst h9
  have hMn48 := hp7
  refine iv_iast hx hb hX.1 hP hD hS 18 0 rfl rfl (wM_A39 _ _ _ _ _) (by omega) (by omega) (by decide) dX10_brokenBy_51 (fun H locs hP hD hS => ?_)
  obtain ⟨hP, hD⟩ : va_P G vwCl (wM k ar fi (uF fa 39 (uA (g6) (3) (c7))) fl) H ∧ va_D A (wM k ar fi (uF fa 39 (uA (g6) (3) (c7))) fl) := ⟨hP, hD⟩
  obtain ⟨g8, eg8, rg8⟩ : ∃ z, z = uA (g6) (3) (c7) ∧ ∀ t, inR (z t) := ⟨_, rfl, iU rg6 (by omega)⟩
  rw [← eg8] at hP hD
  have u3 := eg8
  refine lv_aload_n hx hb dX10_brokenBy_52 rfl (lv_at hl 0 rfl) ?_
  refine va_get (D := G) (ci := 7) (v := .ref (ar 39)) (C := RX10) (T := TX10) (N := 71) (ref := RX10) hx hb hts h1w hown hX.1 hP 0 rfl rfl 39 (by decide) h0w (fun _ h9 => h9) rfl dX10_brokenBy_53 ?_
  refine lv_iconst (v := Int32.ofInt 4) hx hb dX10_brokenBy_56 (by decide +kernel) ?_
  refine lv_aload_n hx hb dX10_brokenBy_57 rfl (lv_at hl 0 rfl) ?_
  refine lv_aload_n hx hb dX10_brokenBy_58 rfl (lv_at hl 1 rfl) ?_
  refine lv_iload_n hx hb dX10_brokenBy_59 rfl (lv_at hl 2 rfl) ?_
  refine cr_i (va_runV (As := [.ref (ar 44), .int (Int32.ofInt (b0))]) (rest := [.int (Int32.ofInt (4)), .ref (ar 39)]) ⟨hx, hb, hml, hown, hts⟩ (mX10_loadOf_44 l G k ar fi (uF fa 39 (g8)) fl b0 H.size hR (iG hRa rg8) (by omega) (show 0 ≤ (fi 12) ∧ (fi 12) ≤ 7 from by omega) (show b0 = 0 ∨ b0 = 1 from by omega)) (cwV 2 hts (gz [.methodLink RX10 362 yX10_loadOf, .instanceMethod yX10_loadOf, .selects RX10 yX10_loadOf yX10_loadOf, .initialized RX10] (.code yX10_loadOf cX10_loadOf 5 (some .int)) [(26, 0), (26, 1), (26, 2), (0, 5), (26, 3)] rfl) rfl rfl rfl (by decide +kernel) ⟨Nat.le_of_ble_eq_true rfl, Nat.le_of_ble_eq_true rfl⟩) (cr_preV (EZ_ok k) hZ hS hX hP hD hA (ci := 7) (q0 := 0) rfl rfl) rfl rfl hl.1 rfl (lv_room (Nat.le_of_ble_eq_true rfl)) dX10_brokenBy_60 ⟨Nat.le_of_ble_eq_true rfl, Nat.le_of_ble_eq_true rfl⟩) hD hS hA (fun r u H locs hp hP hD hS => ?_)
  obtain ⟨c9, rfl⟩ : ∃ z, z = u := ⟨_, rfl⟩
  obtain ⟨h9, rc9, hp9⟩ : r = Int32.ofInt c9 ∧ (inR c9) ∧ (c9 = (gs (lc ((fa 44)) ((fa 5)) b0) ((fi 12)))) := hp
  subst h9
  have hLd60 := hp9
  refine iv_iast hx hb hX.1 hP hD hS 18 0 rfl rfl (wM_A39 _ _ _ _ _) (by omega) (by omega) (by decide) dX10_brokenBy_63 (fun H locs hP hD hS => ?_)
  obtain ⟨hP, hD⟩ : va_P G vwCl (wM k ar fi (uF fa 39 (uA (g8) (4) (c9))) fl) H ∧ va_D A (wM k ar fi (uF fa 39 (uA (g8) (4) (c9))) fl) := ⟨hP, hD⟩
  obtain ⟨g10, eg10, rg10⟩ : ∃ z, z = uA (g8) (4) (c9) ∧ ∀ t, inR (z t) := ⟨_, rfl, iU rg8 (by omega)⟩
  rw [← eg10] at hP hD
  have u4 := eg10
  refine lv_aload_n hx hb dX10_brokenBy_64 rfl (lv_at hl 0 rfl) ?_
  refine va_get (D := G) (ci := 7) (v := .ref (ar 39)) (C := RX10) (T := TX10) (N := 71) (ref := RX10) hx hb hts h1w hown hX.1 hP 0 rfl rfl 39 (by decide) h0w (fun _ h9 => h9) rfl dX10_brokenBy_65 ?_
  refine lv_iconst (v := Int32.ofInt 5) hx hb dX10_brokenBy_68 (by decide +kernel) ?_
  refine lv_aload_n hx hb dX10_brokenBy_69 rfl (lv_at hl 0 rfl) ?_
  refine lv_iload_n hx hb dX10_brokenBy_70 rfl (lv_at hl 2 rfl) ?_
  refine lv_iload_n hx hb dX10_brokenBy_71 rfl (lv_at hl 3 rfl) ?_
  refine cr_i (va_runV (As := [.int (Int32.ofInt (b0)), .int (Int32.ofInt (a0))]) (rest := [.int (Int32.ofInt (5)), .ref (ar 39)]) ⟨hx, hb, hml, hown, hts⟩ (mX10_depthOf l G k ar fi (uF fa 39 (g10)) fl b0 a0 H.size hR (iG hRa rg10) (by omega) (by omega)) (cwV 2 hts (gz [.methodLink RX10 352 yX10_depthOf, .instanceMethod yX10_depthOf, .selects RX10 yX10_depthOf yX10_depthOf, .initialized RX10] (.code yX10_depthOf cX10_depthOf 3 (some .int)) [(24, 7), (24, 8), (24, 9), (0, 5), (24, 10)] rfl) rfl rfl rfl (by decide +kernel) ⟨Nat.le_of_ble_eq_true rfl, Nat.le_of_ble_eq_true rfl⟩) (cr_preV (EZ_ok k) hZ hS hX hP hD hA (ci := 7) (q0 := 0) rfl rfl) rfl rfl hl.1 rfl (lv_room (Nat.le_of_ble_eq_true rfl)) dX10_brokenBy_72 ⟨Nat.le_of_ble_eq_true rfl, Nat.le_of_ble_eq_true rfl⟩) hD hS hA (fun r u H locs hp hP hD hS => ?_)
  obtain ⟨c11, rfl⟩ : ∃ z, z = u := ⟨_, rfl⟩
  obtain ⟨h9, rc11, hp11⟩ : r = Int32.ofInt c11 ∧ (inR c11) ∧ (c11 = buD b0 a0 ((fa 3) 0)) := hp
  subst h9
  have hBu72 := hp11
  refine iv_iast hx hb hX.1 hP hD hS 18 0 rfl rfl (wM_A39 _ _ _ _ _) (by omega) (by omega) (by decide) dX10_brokenBy_75 (fun H locs hP hD hS => ?_)
  obtain ⟨hP, hD⟩ : va_P G vwCl (wM k ar fi (uF fa 39 (uA (g10) (5) (c11))) fl) H ∧ va_D A (wM k ar fi (uF fa 39 (uA (g10) (5) (c11))) fl) := ⟨hP, hD⟩
  obtain ⟨g12, eg12, rg12⟩ : ∃ z, z = uA (g10) (5) (c11) ∧ ∀ t, inR (z t) := ⟨_, rfl, iU rg10 (by omega)⟩
  rw [← eg12] at hP hD
  have u5 := eg12
  refine lv_aload_n hx hb dX10_brokenBy_76 rfl (lv_at hl 0 rfl) ?_
  refine va_get (D := G) (ci := 7) (v := .ref (ar 39)) (C := RX10) (T := TX10) (N := 71) (ref := RX10) hx hb hts h1w hown hX.1 hP 0 rfl rfl 39 (by decide) h0w (fun _ h9 => h9) rfl dX10_brokenBy_77 ?_
  refine lv_bipush (v := Int32.ofInt 6) hx hb dX10_brokenBy_80 (by decide +kernel) ?_
  refine lv_aload_n hx hb dX10_brokenBy_82 rfl (lv_at hl 0 rfl) ?_
  refine lv_aload_n hx hb dX10_brokenBy_83 rfl (lv_at hl 1 rfl) ?_
  refine lv_iconst (v := Int32.ofInt 1) hx hb dX10_brokenBy_84 (by decide +kernel) ?_
  refine lv_iload_n hx hb dX10_brokenBy_85 rfl (lv_at hl 2 rfl) ?_
  refine iv_sub (x := 1) (y := b0) hx hb dX10_brokenBy_86 ?_
  refine cr_i (va_runV (As := [.ref (ar 44), .int (Int32.ofInt ((1 - b0)))]) (rest := [.int (Int32.ofInt (6)), .ref (ar 39)]) ⟨hx, hb, hml, hown, hts⟩ (mX10_loadOf_44 l G k ar fi (uF fa 39 (g12)) fl (1 - b0) H.size hR (iG hRa rg12) (by omega) (show 0 ≤ (fi 12) ∧ (fi 12) ≤ 7 from by omega) (show (1 - b0) = 0 ∨ (1 - b0) = 1 from by omega)) (cwV 2 hts (gz [.methodLink RX10 362 yX10_loadOf, .instanceMethod yX10_loadOf, .selects RX10 yX10_loadOf yX10_loadOf, .initialized RX10] (.code yX10_loadOf cX10_loadOf 5 (some .int)) [(26, 0), (26, 1), (26, 2), (0, 5), (26, 3)] rfl) rfl rfl rfl (by decide +kernel) ⟨Nat.le_of_ble_eq_true rfl, Nat.le_of_ble_eq_true rfl⟩) (cr_preV (EZ_ok k) hZ hS hX hP hD hA (ci := 7) (q0 := 0) rfl rfl) rfl rfl hl.1 rfl (lv_room (Nat.le_of_ble_eq_true rfl)) dX10_brokenBy_87 ⟨Nat.le_of_ble_eq_true rfl, Nat.le_of_ble_eq_true rfl⟩) hD hS hA (fun r u H locs hp hP hD hS => ?_)
  obtain ⟨c13, rfl⟩ : ∃ z, z = u := ⟨_, rfl⟩
  obtain ⟨h9, rc13, hp13⟩ : r = Int32.ofInt c13 ∧ (inR c13) ∧ (c13 = (gs (lc ((fa 44)) ((fa 5)) (1 - b0)) ((fi 12)))) := hp
  subst h9
  have hLd87 := hp13
  refine iv_iast hx hb hX.1 hP hD hS 18 0 rfl rfl (wM_A39 _ _ _ _ _) (by omega) (by omega) (by decide) dX10_brokenBy_90 (fun H locs hP hD hS => ?_)
  obtain ⟨hP, hD⟩ : va_P G vwCl (wM k ar fi (uF fa 39 (uA (g12) (6) (c13))) fl) H ∧ va_D A (wM k ar fi (uF fa 39 (uA (g12) (6) (c13))) fl) := ⟨hP, hD⟩
  obtain ⟨g14, eg14, rg14⟩ : ∃ z, z = uA (g12) (6) (c13) ∧ ∀ t, inR (z t) := ⟨_, rfl, iU rg12 (by omega)⟩
  rw [← eg14] at hP hD
  have hVV := ask7 u0 u1 u2 u3 u4 u5 eg14 hMn9 hMn22 hMn35 hMn48 hLd60 hBu72 hLd87
  refine lv_iconst (v := Int32.ofInt 0) hx hb dX10_brokenBy_91 (by decide +kernel) ?_
  refine lv_istore (lv' := [(4, .int (Int32.ofInt (0))), (0, .ref (ar 71)), (1, .ref (ar 44)), (2, .int (Int32.ofInt (b0))), (3, .int (Int32.ofInt (a0)))]) hx hb dX10_brokenBy_92 hl (by decide) rfl (fun ls hl => ?_)
  refine iv_loop (α := Int × (Int → Int)) (nL := 5) (fun b9 => (wM k ar fi (uF (uF fa 39 (g14)) 40 (b9.2)) fl)) (fun b9 => [(4, .int (Int32.ofInt (b9.1))), (0, .ref (ar 71)), (1, .ref (ar 44)), (2, .int (Int32.ofInt (b0))), (3, .int (Int32.ofInt (a0)))]) (fun b9 => (fi 13 - b9.1).toNat) (fun b9 => inR b9.1 ∧ (∀ t, inR (b9.2 t)) ∧ (0 ≤ b9.1 ∧ bkI (fun q => evR (fa 10) (vls (fa 44) (fa 4) (fa 5) b0 (fi 12) (fa 3 0) a0) (fa 8 q) (fa 9 q)) b9.1)) ?_ (0, fa 40) (show inR 0 ∧ (∀ t, inR ((fa 40) t)) ∧ (0 ≤ 0 ∧ bkI (fun q => evR (fa 10) (vls (fa 44) (fa 4) (fa 5) b0 (fi 12) (fa 3 0) a0) (fa 8 q) (fa 9 q)) 0) from ⟨(by omega), (hRa 40), (by exact ⟨by omega, bki_0 (by omega)⟩)⟩) hP hD hS hl
  rintro ⟨x4_15, g40_16⟩ ih hi9 H locs ls hP hD hS hl
  obtain ⟨r_x4_15, r_g40_16, hinv⟩ : inR x4_15 ∧ (∀ t, inR (g40_16 t)) ∧ (0 ≤ x4_15 ∧ bkI (fun q => evR (fa 10) (vls (fa 44) (fa 4) (fa 5) b0 (fi 12) (fa 3 0) a0) (fa 8 q) (fa 9 q)) x4_15) := hi9
  obtain ⟨hinv, hBI⟩ := hinv
  obtain ⟨hP, hD⟩ : va_P G vwCl (wM k ar fi (uF (uF fa 39 (g14)) 40 (g40_16)) fl) H ∧ va_D A (wM k ar fi (uF (uF fa 39 (g14)) 40 (g40_16)) fl) := ⟨hP, hD⟩
  have hl : lv_has ls 5 [(4, .int (Int32.ofInt (x4_15))), (0, .ref (ar 71)), (1, .ref (ar 44)), (2, .int (Int32.ofInt (b0))), (3, .int (Int32.ofInt (a0)))] := hl
  refine lv_iload hx hb dX10_brokenBy_94 (lv_at hl 0 rfl) ?_
  refine lv_aload_n hx hb dX10_brokenBy_96 rfl (lv_at hl 1 rfl) ?_
  refine va_get (D := G) (ci := 7) (v := .int (Int32.ofInt (fi 13))) (C := RX10) (T := TX10) (N := 71) (ref := RX10) hx hb hts h1w hown hX.1 hP 0 rfl rfl 13 (by decide) h2w (fun _ h9 => h9) rfl dX10_brokenBy_97 ?_
  have rf13 := hR 13
  refine iv_icmp_ge (tgt := 121) hx hb (by omega) (by omega) dX10_brokenBy_100 (by decide) (fun q17 => ?_) (fun q17 => ?_)
  · refine lv_iconst (v := Int32.ofInt (-1)) hx hb dX10_brokenBy_121 (by decide +kernel) ?_
    exact W.iret (v := Int32.ofInt ((-1))) hx hb hr (fun t ht hW => ⟨⟨Int32.ofInt ((-1)), ((-1), g14, g40_16), rfl, ⟨rfl, (show (inR (-1)) ∧ (∀ t, inR (g14 t)) ∧ (∀ t, inR (g40_16 t)) ∧ (brkP (-1) (fun q => evR (fa 10) (vls (fa 44) (fa 4) (fa 5) b0 (fi 12) (fa 3 0) a0) (fa 8 q) (fa 9 q)) (fi 13)) from ⟨(by omega), rg14, r_g40_16, (by first | exact brk_y2 hBI (by omega) (by omega) (by omega) | exact brk_n hBI (by omega) rfl)⟩)⟩, by rw [ht]; exact hP, hD⟩, hS.F ht⟩) hS.2.2 dX10_brokenBy_122
  · refine lv_aload_n hx hb dX10_brokenBy_103 rfl (lv_at hl 1 rfl) ?_
    refine lv_iload hx hb dX10_brokenBy_104 (lv_at hl 0 rfl) ?_
    refine cr_i (va_runV (As := [.int (Int32.ofInt (x4_15))]) (rest := []) ⟨hx, hb, hml, hown, hts⟩ (mX10_holds l G k ar fi (uF (uF fa 39 (g14)) 40 (g40_16)) fl x4_15 H.size hR (iG (iG hRa rg14) r_g40_16) (by omega) (show 0 ≤ x4_15 ∧ x4_15 < 8 from by omega) (show RWf ((fa 10)) ((fa 8) x4_15) ((fa 9) x4_15) from by exact hRW x4_15 (by omega) (by omega))) (cwV 1 hts (gz [.methodLink RX10 374 yX10_holds, .instanceMethod yX10_holds, .selects RX10 yX10_holds yX10_holds, .initialized RX10] (.code yX10_holds cX10_holds 5 (some .boolean)) [(26, 16), (26, 17), (26, 18), (0, 5), (26, 19)] rfl) rfl rfl rfl (by decide +kernel) ⟨Nat.le_of_ble_eq_true rfl, Nat.le_of_ble_eq_true rfl⟩) (cr_preV (EZ_ok k) hZ hS hX hP hD hA (ci := 7) (q0 := 0) rfl rfl) rfl rfl hl.1 rfl (lv_room (Nat.le_of_ble_eq_true rfl)) dX10_brokenBy_106 ⟨Nat.le_of_ble_eq_true rfl, Nat.le_of_ble_eq_true rfl⟩) hD hS hA (fun r u H locs hp hP hD hS => ?_)
    obtain ⟨c18, c19⟩ := u
    obtain ⟨hP, hD⟩ : va_P G vwCl (wM k ar fi (uF (uF fa 39 (g14)) 40 (c19)) fl) H ∧ va_D A (wM k ar fi (uF (uF fa 39 (g14)) 40 (c19)) fl) := ⟨hP, hD⟩
    obtain ⟨h9, rc18, rc19, hp19⟩ : r = Int32.ofInt c18 ∧ (inR c18) ∧ (∀ t, inR (c19 t)) ∧ ((c18 = 1 ∧ ¬ evR ((fa 10)) (g14) ((fa 8) x4_15) ((fa 9) x4_15) = 0) ∨ (c18 = 0 ∧ evR ((fa 10)) (g14) ((fa 8) x4_15) ((fa 9) x4_15) = 0)) := hp
    subst h9
    have hev := ev_V (hRW x4_15 (by omega) (by omega)) hVV
    refine iv_if_ne (tgt := 115) hx hb (by omega) dX10_brokenBy_109 (by decide) (fun q20 => ?_) (fun q20 => ?_)
    · refine lv_iinc (v := Int32.ofInt (x4_15 + 1)) (lv' := [(4, .int (Int32.ofInt ((x4_15 + 1)))), (0, .ref (ar 71)), (1, .ref (ar 44)), (2, .int (Int32.ofInt (b0))), (3, .int (Int32.ofInt (a0)))]) hx hb dX10_brokenBy_115 hl (k := 0) rfl (Int32.ofInt_add _ _).symm (by decide) rfl (fun ls hl => ?_)
      refine lv_goto (tgt := 94) hx hb dX10_brokenBy_118 (by decide) ?_
      have hl : lv_has ls 5 [(4, .int (Int32.ofInt ((x4_15 + 1)))), (0, .ref (ar 71)), (1, .ref (ar 44)), (2, .int (Int32.ofInt (b0))), (3, .int (Int32.ofInt (a0)))] := lv_sub hl [0, 1, 2, 3, 4] rfl
      exact ih ((x4_15 + 1), c19) (show (fi 13 - (x4_15 + 1)).toNat < (fi 13 - x4_15).toNat from by omega) (show inR (x4_15 + 1) ∧ (∀ t, inR (c19 t)) ∧ (0 ≤ (x4_15 + 1) ∧ bkI (fun q => evR (fa 10) (vls (fa 44) (fa 4) (fa 5) b0 (fi 12) (fa 3 0) a0) (fa 8 q) (fa 9 q)) (x4_15 + 1)) from ⟨(by omega), rc19, (by exact ⟨by omega, bki_s2 hBI (by omega) rfl⟩)⟩) _ _ _ hP hD hS hl
    · refine lv_iload hx hb dX10_brokenBy_112 (lv_at hl 0 rfl) ?_
      exact W.iret (v := Int32.ofInt (x4_15)) hx hb hr (fun t ht hW => ⟨⟨Int32.ofInt (x4_15), (x4_15, g14, c19), rfl, ⟨rfl, (show (inR x4_15) ∧ (∀ t, inR (g14 t)) ∧ (∀ t, inR (c19 t)) ∧ (brkP x4_15 (fun q => evR (fa 10) (vls (fa 44) (fa 4) (fa 5) b0 (fi 12) (fa 3 0) a0) (fa 8 q) (fa 9 q)) (fi 13)) from ⟨(by omega), rg14, rc19, (by first | exact brk_y2 hBI (by omega) (by omega) (by omega) | exact brk_n hBI (by omega) rfl)⟩)⟩, by rw [ht]; exact hP, hD⟩, hS.F ht⟩) hS.2.2 dX10_brokenBy_114

