set_option maxHeartbeats 4000000 in
set_option maxRecDepth 100000 in
theorem mX10_brokenBy_54 (l : Launch) (G : va_G) (k : Nat → ClassId) (ar : Nat → Nat) (fi : Nat → Int) (fa : Nat → Int → Int) (fl : Nat → Int64) (b0 : Int) (a0 : Int) (sz : Nat) (hR : ∀ j, inR (fi j)) (hRa : ∀ j t, inR (fa j t)) (hr_b0 : inR b0) (hr_a0 : inR a0) (hth : 0 ≤ fi 12 ∧ fi 12 ≤ 7) (hru : 0 ≤ fi 13 ∧ fi 13 ≤ 4) (hRW : ∀ q9, 0 ≤ q9 → q9 < fi 13 → RWf (fa 10) (fa 8 q9) (fa 9 q9)) (hb : b0 = 0 ∨ b0 = 1) : CNi l G k (EZ k) yX10_brokenBy wzX10_brokenBy ({ frames := 2, cells := 0, slots := 0, locals := 46 }) [.ref (ar 71), .ref (ar 54), .int (Int32.ofInt (b0)), .int (Int32.ofInt (a0))] sz (wM k ar fi fa fl) (fun (r0 : Int32) (u : Int × (Int → Int) × (Int → Int)) => r0 = Int32.ofInt (u.1) ∧ (inR u.1) ∧ (∀ t, inR (u.2.1 t)) ∧ (∀ t, inR (u.2.2 t)) ∧ (brkP u.1 (fun q => evR (fa 10) (vls (fa 54) (fa 4) (fa 5) b0 (fi 12) (fa 3 0) a0) (fa 8 q) (fa 9 q)) (fi 13))) (fun (u : Int × (Int → Int) × (Int → Int)) => (wM k ar fi (uF (uF fa 39 (u.2.1)) 40 (u.2.2)) fl)) := by
  refine Met.ofW (cc := cX10_brokenBy) (maxL := 5) (ret := (some .int)) (by decide) rfl ?_
  intro p e s m args below meth c s₁ B hml hv
  obtain ⟨rfl, hsz, hP, hX, hD0, hZ0⟩ := hv
  have hx := B.exec
  have hb := B.bytes
  have hr := B.returns
  have hts := atoms_spec (ws := wzX10_brokenBy) B.pre
  have hown : s.vm.findClass RX10 = some m.cls := findClass_of_methodNamed B.named
  subst hsz
  have hD := hD0.self (sz := s.heap.size)
  have hZ := hZ0
  generalize hAe : va_A (wM k ar fi fa fl) s.heap.size = A at hD hZ ⊢
  have hA : ∀ q : Nat, s.heap.size ≤ q → A q := fun q h => by rw [← hAe]; exact Or.inr h
  have hS : va_S A s.heap s.heap [] := va_S.rf
  have hl := lv_entry ([.ref (ar 71), .ref (ar 54), .int (Int32.ofInt (b0)), .int (Int32.ofInt (a0))]) (n := 5) (Nat.le_of_ble_eq_true rfl)
  rw [lg_entry_eq]
  generalize (lg_sl ([.ref (ar 71), .ref (ar 54), .int (Int32.ofInt (b0)), .int (Int32.ofInt (a0))]) ++ List.replicate (5 - (lg_sl ([.ref (ar 71), .ref (ar 54), .int (Int32.ofInt (b0)), .int (Int32.ofInt (a0))])).length) Slot.unset).toArray = ls at hl ⊢
  have hl : lv_has ls 5 [(0, .ref (ar 71)), (1, .ref (ar 54)), (2, .int (Int32.ofInt (b0))), (3, .int (Int32.ofInt (a0)))] := hl
  obtain ⟨H, eH⟩ : ∃ H, H = s.heap := ⟨_, rfl⟩
  rw [← eH] at hP
  have hS : va_S A s.heap H [] := by rw [eH]; exact hS
  have gW : s.heap = H := eH.symm
  refine iv_heap gW ?_
  have h0w := hts (.fieldLink RX10 108 "RopeTownModel" "asked" "[I") (wz_at 7 0 rfl)
  have h1w : ∀ w ∈ wsX100, w ∈ wzX10_brokenBy := fun w h => List.mem_cons_of_mem _ (inlX10 w h)
  have h2w := hts (.fieldLink RX10 324 "RopeTownModel" "rules" "I") (wz_at 21 12 rfl)
  refine lv_aload_n hx hb dX10_brokenBy_0 rfl (lv_at hl 0 rfl) ?_
  refine va_get (D := G) (ci := 7) (v := .ref (ar 39)) (C := RX10) (T := TX10) (N := 71) (ref := RX10) hx hb hts h1w hown hX.1 hP 0 rfl rfl 39 (by decide) h0w (fun _ h9 => h9) rfl dX10_brokenBy_1 ?_
  refine lv_iconst (v := Int32.ofInt 0) hx hb dX10_brokenBy_4 (by decide +kernel) ?_
  refine lv_aload_n hx hb dX10_brokenBy_5 rfl (lv_at hl 0 rfl) ?_
  refine lv_aload_n hx hb dX10_brokenBy_6 rfl (lv_at hl 1 rfl) ?_
  refine lv_iload_n hx hb dX10_brokenBy_7 rfl (lv_at hl 2 rfl) ?_
  refine lv_iconst (v := Int32.ofInt 0) hx hb dX10_brokenBy_8 (by decide +kernel) ?_
  refine cr_i (va_runV (As := [.ref (ar 54), .int (Int32.ofInt (b0)), .int (Int32.ofInt (0))]) (rest := [.int (Int32.ofInt (0)), .ref (ar 39)]) ⟨hx, hb, hml, hown, hts⟩ (mX10_manyOf_54 l G k ar fi fa fl b0 0 H.size hR hRa (by omega) (by omega) (show 0 ≤ (fi 12) ∧ (fi 12) ≤ 7 from by omega) (show b0 = 0 ∨ b0 = 1 from by omega)) (cwV 3 hts (gz [.methodLink RX10 370 yX10_manyOf, .instanceMethod yX10_manyOf, .selects RX10 yX10_manyOf yX10_manyOf, .initialized RX10] (.code yX10_manyOf cX10_manyOf 6 (some .int)) [(26, 12), (26, 13), (26, 14), (0, 5), (26, 15)] rfl) rfl rfl rfl (by decide +kernel) ⟨Nat.le_of_ble_eq_true rfl, Nat.le_of_ble_eq_true rfl⟩) (cr_preV (EZ_ok k) hZ hS hX hP hD hA (ci := 7) (q0 := 0) rfl rfl) rfl rfl hl.1 rfl (lv_room (Nat.le_of_ble_eq_true rfl)) dX10_brokenBy_9 ⟨Nat.le_of_ble_eq_true rfl, Nat.le_of_ble_eq_true rfl⟩) hD hS hA (fun r u H locs hp hP hD hS => ?_)
  obtain ⟨c1, rfl⟩ : ∃ z, z = u := ⟨_, rfl⟩
  obtain ⟨h9, rc1, hp1⟩ : r = Int32.ofInt c1 ∧ (inR c1) ∧ (c1 = gs (mc ((fa 54)) ((fa 4)) b0 0) ((fi 12))) := hp
  subst h9
  have hMn9 := hp1
  refine iv_iast hx hb hX.1 hP hD hS 18 0 rfl rfl (wM_A39 _ _ _ _ _) (by omega) (by omega) (by decide) dX10_brokenBy_12 (fun H locs hP hD hS => ?_)
  obtain ⟨g2, eg2, rg2⟩ : ∃ z, z = uA (fa 39) (0) (c1) ∧ ∀ t, inR (z t) := ⟨_, rfl, iU (hRa 39) (by omega)⟩
  rw [← eg2] at hP hD
  have u0 := eg2
  refine lv_aload_n hx hb dX10_brokenBy_13 rfl (lv_at hl 0 rfl) ?_
  refine va_get (D := G) (ci := 7) (v := .ref (ar 39)) (C := RX10) (T := TX10) (N := 71) (ref := RX10) hx hb hts h1w hown hX.1 hP 0 rfl rfl 39 (by decide) h0w (fun _ h9 => h9) rfl dX10_brokenBy_14 ?_
  refine lv_iconst (v := Int32.ofInt 1) hx hb dX10_brokenBy_17 (by decide +kernel) ?_
  refine lv_aload_n hx hb dX10_brokenBy_18 rfl (lv_at hl 0 rfl) ?_
  refine lv_aload_n hx hb dX10_brokenBy_19 rfl (lv_at hl 1 rfl) ?_
  refine lv_iload_n hx hb dX10_brokenBy_20 rfl (lv_at hl 2 rfl) ?_
  refine lv_iconst (v := Int32.ofInt 1) hx hb dX10_brokenBy_21 (by decide +kernel) ?_
  refine cr_i (va_runV (As := [.ref (ar 54), .int (Int32.ofInt (b0)), .int (Int32.ofInt (1))]) (rest := [.int (Int32.ofInt (1)), .ref (ar 39)]) ⟨hx, hb, hml, hown, hts⟩ (mX10_manyOf_54 l G k ar fi (uF fa 39 (g2)) fl b0 1 H.size hR (iG hRa rg2) (by omega) (by omega) (show 0 ≤ (fi 12) ∧ (fi 12) ≤ 7 from by omega) (show b0 = 0 ∨ b0 = 1 from by omega)) (cwV 3 hts (gz [.methodLink RX10 370 yX10_manyOf, .instanceMethod yX10_manyOf, .selects RX10 yX10_manyOf yX10_manyOf, .initialized RX10] (.code yX10_manyOf cX10_manyOf 6 (some .int)) [(26, 12), (26, 13), (26, 14), (0, 5), (26, 15)] rfl) rfl rfl rfl (by decide +kernel) ⟨Nat.le_of_ble_eq_true rfl, Nat.le_of_ble_eq_true rfl⟩) (cr_preV (EZ_ok k) hZ hS hX hP hD hA (ci := 7) (q0 := 0) rfl rfl) rfl rfl hl.1 rfl (lv_room (Nat.le_of_ble_eq_true rfl)) dX10_brokenBy_22 ⟨Nat.le_of_ble_eq_true rfl, Nat.le_of_ble_eq_true rfl⟩) hD hS hA (fun r u H locs hp hP hD hS => ?_)
  obtain ⟨c3, rfl⟩ : ∃ z, z = u := ⟨_, rfl⟩
  obtain ⟨h9, rc3, hp3⟩ : r = Int32.ofInt c3 ∧ (inR c3) ∧ (c3 = gs (mc ((fa 54)) ((fa 4)) b0 1) ((fi 12))) := hp
  subst h9
  have hMn22 := hp3
  refine iv_iast hx hb hX.1 hP hD hS 18 0 rfl rfl (wM_A39 _ _ _ _ _) (by omega) (by omega) (by decide) dX10_brokenBy_25 (fun H locs hP hD hS => ?_)
  obtain ⟨hP, hD⟩ : va_P G vwCl (wM k ar fi (uF fa 39 (uA (g2) (1) (c3))) fl) H ∧ va_D A (wM k ar fi (uF fa 39 (uA (g2) (1) (c3))) fl) := ⟨hP, hD⟩
  obtain ⟨g4, eg4, rg4⟩ : ∃ z, z = uA (g2) (1) (c3) ∧ ∀ t, inR (z t) := ⟨_, rfl, iU rg2 (by omega)⟩
  rw [← eg4] at hP hD
  have u1 := eg4
  refine lv_aload_n hx hb dX10_brokenBy_26 rfl (lv_at hl 0 rfl) ?_
  refine va_get (D := G) (ci := 7) (v := .ref (ar 39)) (C := RX10) (T := TX10) (N := 71) (ref := RX10) hx hb hts h1w hown hX.1 hP 0 rfl rfl 39 (by decide) h0w (fun _ h9 => h9) rfl dX10_brokenBy_27 ?_
  refine lv_iconst (v := Int32.ofInt 2) hx hb dX10_brokenBy_30 (by decide +kernel) ?_
  refine lv_aload_n hx hb dX10_brokenBy_31 rfl (lv_at hl 0 rfl) ?_
  refine lv_aload_n hx hb dX10_brokenBy_32 rfl (lv_at hl 1 rfl) ?_
  refine lv_iload_n hx hb dX10_brokenBy_33 rfl (lv_at hl 2 rfl) ?_
  refine lv_iconst (v := Int32.ofInt 2) hx hb dX10_brokenBy_34 (by decide +kernel) ?_
  refine cr_i (va_runV (As := [.ref (ar 54), .int (Int32.ofInt (b0)), .int (Int32.ofInt (2))]) (rest := [.int (Int32.ofInt (2)), .ref (ar 39)]) ⟨hx, hb, hml, hown, hts⟩ (mX10_manyOf_54 l G k ar fi (uF fa 39 (g4)) fl b0 2 H.size hR (iG hRa rg4) (by omega) (by omega) (show 0 ≤ (fi 12) ∧ (fi 12) ≤ 7 from by omega) (show b0 = 0 ∨ b0 = 1 from by omega)) (cwV 3 hts (gz [.methodLink RX10 370 yX10_manyOf, .instanceMethod yX10_manyOf, .selects RX10 yX10_manyOf yX10_manyOf, .initialized RX10] (.code yX10_manyOf cX10_manyOf 6 (some .int)) [(26, 12), (26, 13), (26, 14), (0, 5), (26, 15)] rfl) rfl rfl rfl (by decide +kernel) ⟨Nat.le_of_ble_eq_true rfl, Nat.le_of_ble_eq_true rfl⟩) (cr_preV (EZ_ok k) hZ hS hX hP hD hA (ci := 7) (q0 := 0) rfl rfl) rfl rfl hl.1 rfl (lv_room (Nat.le_of_ble_eq_true rfl)) dX10_brokenBy_35 ⟨Nat.le_of_ble_eq_true rfl, Nat.le_of_ble_eq_true rfl⟩) hD hS hA (fun r u H locs hp hP hD hS => ?_)
  obtain ⟨c5, rfl⟩ : ∃ z, z = u := ⟨_, rfl⟩
  obtain ⟨h9, rc5, hp5⟩ : r = Int32.ofInt c5 ∧ (inR c5) ∧ (c5 = gs (mc ((fa 54)) ((fa 4)) b0 2) ((fi 12))) := hp
  subst h9
  have hMn35 := hp5
  refine iv_iast hx hb hX.1 hP hD hS 18 0 rfl rfl (wM_A39 _ _ _ _ _) (by omega) (by omega) (by decide) dX10_brokenBy_38 (fun H locs hP hD hS => ?_)
  obtain ⟨hP, hD⟩ : va_P G vwCl (wM k ar fi (uF fa 39 (uA (g4) (2) (c5))) fl) H ∧ va_D A (wM k ar fi (uF fa 39 (uA (g4) (2) (c5))) fl) := ⟨hP, hD⟩
  obtain ⟨g6, eg6, rg6⟩ : ∃ z, z = uA (g4) (2) (c5) ∧ ∀ t, inR (z t) := ⟨_, rfl, iU rg4 (by omega)⟩
  rw [← eg6] at hP hD
  have u2 := eg6
  refine lv_aload_n hx hb dX10_brokenBy_39 rfl (lv_at hl 0 rfl) ?_
  refine va_get (D := G) (ci := 7) (v := .ref (ar 39)) (C := RX10) (T := TX10) (N := 71) (ref := RX10) hx hb hts h1w hown hX.1 hP 0 rfl rfl 39 (by decide) h0w (fun _ h9 => h9) rfl dX10_brokenBy_40 ?_
  refine lv_iconst (v := Int32.ofInt 3) hx hb dX10_brokenBy_43 (by decide +kernel) ?_
  refine lv_aload_n hx hb dX10_brokenBy_44 rfl (lv_at hl 0 rfl) ?_
  refine lv_aload_n hx hb dX10_brokenBy_45 rfl (lv_at hl 1 rfl) ?_
  refine lv_iload_n hx hb dX10_brokenBy_46 rfl (lv_at hl 2 rfl) ?_
  refine lv_iconst (v := Int32.ofInt 3) hx hb dX10_brokenBy_47 (by decide +kernel) ?_
  refine cr_i (va_runV (As := [.ref (ar 54), .int (Int32.ofInt (b0)), .int (Int32.ofInt (3))]) (rest := [.int (Int32.ofInt (3)), .ref (ar 39)]) ⟨hx, hb, hml, hown, hts⟩ (mX10_manyOf_54 l G k ar fi (uF fa 39 (g6)) fl b0 3 H.size hR (iG hRa rg6) (by omega) (by omega) (show 0 ≤ (fi 12) ∧ (fi 12) ≤ 7 from by omega) (show b0 = 0 ∨ b0 = 1 from by omega)) (cwV 3 hts (gz [.methodLink RX10 370 yX10_manyOf, .instanceMethod yX10_manyOf, .selects RX10 yX10_manyOf yX10_manyOf, .initialized RX10] (.code yX10_manyOf cX10_manyOf 6 (some .int)) [(26, 12), (26, 13), (26, 14), (0, 5), (26, 15)] rfl) rfl rfl rfl (by decide +kernel) ⟨Nat.le_of_ble_eq_true rfl, Nat.le_of_ble_eq_true rfl⟩) (cr_preV (EZ_ok k) hZ hS hX hP hD hA (ci := 7) (q0 := 0) rfl rfl) rfl rfl hl.1 rfl (lv_room (Nat.le_of_ble_eq_true rfl)) dX10_brokenBy_48 ⟨Nat.le_of_ble_eq_true rfl, Nat.le_of_ble_eq_true rfl⟩) hD hS hA (fun r u H locs hp hP hD hS => ?_)
  obtain ⟨c7, rfl⟩ : ∃ z, z = u := ⟨_, rfl⟩
  obtain ⟨h9, rc7, hp7⟩ : r = Int32.ofInt c7 ∧ (inR c7) ∧ (c7 = gs (mc ((fa 54)) ((fa 4)) b0 3) ((fi 12))) := hp
  subst h9
  have hMn48 := hp7
  refine iv_iast hx hb hX.1 hP hD hS 18 0 rfl rfl (wM_A39 _ _ _ _ _) (by omega) (by omega) (by decide) dX10_brokenBy_51 (fun H locs hP hD hS => ?_)
  obtain ⟨hP, hD⟩ : va_P G vwCl (wM k ar fi (uF fa 39 (uA (g6) (3) (c7))) fl) H ∧ va_D A (wM k ar fi (uF fa 39 (uA (g6) (3) (c7))) fl) := ⟨hP, hD⟩
  obtain ⟨g8, eg8, rg8⟩ : ∃ z, z = uA (g6) (3) (c7) ∧ ∀ t, inR (z t) := ⟨_, rfl, iU rg6 (by omega)⟩
  rw [← eg8] at hP hD
  have u3 := eg8
  refine lv_aload_n hx hb dX10_brokenBy_52 rfl (lv_at hl 0 rfl) ?_
  refine va_get (D := G) (ci := 7) (v := .ref (ar 39)) (C := RX10) (T := TX10) (N := 71) (ref := RX10) hx hb hts h1w hown hX.1 hP 0 rfl rfl 39 (by decide) h0w (fun _ h9 => h9) rfl dX10_brokenBy_53 ?_
  refine lv_iconst (v := Int32.ofInt 4) hx hb dX10_brokenBy_56 (by decide +kernel) ?_
  refine lv_aload_n hx hb dX10_brokenBy_57 rfl (lv_at hl 0 rfl) ?_
  refine lv_aload_n hx hb dX10_brokenBy_58 rfl (lv_at hl 1 rfl) ?_
  refine lv_iload_n hx hb dX10_brokenBy_59 rfl (lv_at hl 2 rfl) ?_
  refine cr_i (va_runV (As := [.ref (ar 54), .int (Int32.ofInt (b0))]) (rest := [.int (Int32.ofInt (4)), .ref (ar 39)]) ⟨hx, hb, hml, hown, hts⟩ (mX10_loadOf_54 l G k ar fi (uF fa 39 (g8)) fl b0 H.size hR (iG hRa rg8) (by omega) (show 0 ≤ (fi 12) ∧ (fi 12) ≤ 7 from by omega) (show b0 = 0 ∨ b0 = 1 from by omega)) (cwV 2 hts (gz [.methodLink RX10 362 yX10_loadOf, .instanceMethod yX10_loadOf, .selects RX10 yX10_loadOf yX10_loadOf, .initialized RX10] (.code yX10_loadOf cX10_loadOf 5 (some .int)) [(26, 0), (26, 1), (26, 2), (0, 5), (26, 3)] rfl) rfl rfl rfl (by decide +kernel) ⟨Nat.le_of_ble_eq_true rfl, Nat.le_of_ble_eq_true rfl⟩) (cr_preV (EZ_ok k) hZ hS hX hP hD hA (ci := 7) (q0 := 0) rfl rfl) rfl rfl hl.1 rfl (lv_room (Nat.le_of_ble_eq_true rfl)) dX10_brokenBy_60 ⟨Nat.le_of_ble_eq_true rfl, Nat.le_of_ble_eq_true rfl⟩) hD hS hA (fun r u H locs hp hP hD hS => ?_)
  obtain ⟨c9, rfl⟩ : ∃ z, z = u := ⟨_, rfl⟩
  obtain ⟨h9, rc9, hp9⟩ : r = Int32.ofInt c9 ∧ (inR c9) ∧ (c9 = (gs (lc ((fa 54)) ((fa 5)) b0) ((fi 12)))) := hp
  subst h9
  have hLd60 := hp9
  refine iv_iast hx hb hX.1 hP hD hS 18 0 rfl rfl (wM_A39 _ _ _ _ _) (by omega) (by omega) (by decide) dX10_brokenBy_63 (fun H locs hP hD hS => ?_)
  obtain ⟨hP, hD⟩ : va_P G vwCl (wM k ar fi (uF fa 39 (uA (g8) (4) (c9))) fl) H ∧ va_D A (wM k ar fi (uF fa 39 (uA (g8) (4) (c9))) fl) := ⟨hP, hD⟩
  obtain ⟨g10, eg10, rg10⟩ : ∃ z, z = uA (g8) (4) (c9) ∧ ∀ t, inR (z t) := ⟨_, rfl, iU rg8 (by omega)⟩
  rw [← eg10] at hP hD
  have u4 := eg10
  refine lv_aload_n hx hb dX10_brokenBy_64 rfl (lv_at hl 0 rfl) ?_
  refine va_get (D := G) (ci := 7) (v := .ref (ar 39)) (C := RX10) (T := TX10) (N := 71) (ref := RX10) hx hb hts h1w hown hX.1 hP 0 rfl rfl 39 (by decide) h0w (fun _ h9 => h9) rfl dX10_brokenBy_65 ?_
  refine lv_iconst (v := Int32.ofInt 5) hx hb dX10_brokenBy_68 (by decide +kernel) ?_
  refine lv_aload_n hx hb dX10_brokenBy_69 rfl (lv_at hl 0 rfl) ?_
  refine lv_iload_n hx hb dX10_brokenBy_70 rfl (lv_at hl 2 rfl) ?_
  refine lv_iload_n hx hb dX10_brokenBy_71 rfl (lv_at hl 3 rfl) ?_
  refine cr_i (va_runV (As := [.int (Int32.ofInt (b0)), .int (Int32.ofInt (a0))]) (rest := [.int (Int32.ofInt (5)), .ref (ar 39)]) ⟨hx, hb, hml, hown, hts⟩ (mX10_depthOf l G k ar fi (uF fa 39 (g10)) fl b0 a0 H.size hR (iG hRa rg10) (by omega) (by omega)) (cwV 2 hts (gz [.methodLink RX10 352 yX10_depthOf, .instanceMethod yX10_depthOf, .selects RX10 yX10_depthOf yX10_depthOf, .initialized RX10] (.code yX10_depthOf cX10_depthOf 3 (some .int)) [(24, 7), (24, 8), (24, 9), (0, 5), (24, 10)] rfl) rfl rfl rfl (by decide +kernel) ⟨Nat.le_of_ble_eq_true rfl, Nat.le_of_ble_eq_true rfl⟩) (cr_preV (EZ_ok k) hZ hS hX hP hD hA (ci := 7) (q0 := 0) rfl rfl) rfl rfl hl.1 rfl (lv_room (Nat.le_of_ble_eq_true rfl)) dX10_brokenBy_72 ⟨Nat.le_of_ble_eq_true rfl, Nat.le_of_ble_eq_true rfl⟩) hD hS hA (fun r u H locs hp hP hD hS => ?_)
  obtain ⟨c11, rfl⟩ : ∃ z, z = u := ⟨_, rfl⟩
  obtain ⟨h9, rc11, hp11⟩ : r = Int32.ofInt c11 ∧ (inR c11) ∧ (c11 = buD b0 a0 ((fa 3) 0)) := hp
  subst h9
  have hBu72 := hp11
  refine iv_iast hx hb hX.1 hP hD hS 18 0 rfl rfl (wM_A39 _ _ _ _ _) (by omega) (by omega) (by decide) dX10_brokenBy_75 (fun H locs hP hD hS => ?_)
  obtain ⟨hP, hD⟩ : va_P G vwCl (wM k ar fi (uF fa 39 (uA (g10) (5) (c11))) fl) H ∧ va_D A (wM k ar fi (uF fa 39 (uA (g10) (5) (c11))) fl) := ⟨hP, hD⟩
  obtain ⟨g12, eg12, rg12⟩ : ∃ z, z = uA (g10) (5) (c11) ∧ ∀ t, inR (z t) := ⟨_, rfl, iU rg10 (by omega)⟩
  rw [← eg12] at hP hD
  have u5 := eg12
  refine lv_aload_n hx hb dX10_brokenBy_76 rfl (lv_at hl 0 rfl) ?_
  refine va_get (D := G) (ci := 7) (v := .ref (ar 39)) (C := RX10) (T := TX10) (N := 71) (ref := RX10) hx hb hts h1w hown hX.1 hP 0 rfl rfl 39 (by decide) h0w (fun _ h9 => h9) rfl dX10_brokenBy_77 ?_
  refine lv_bipush (v := Int32.ofInt 6) hx hb dX10_brokenBy_80 (by decide +kernel) ?_
  refine lv_aload_n hx hb dX10_brokenBy_82 rfl (lv_at hl 0 rfl) ?_
  refine lv_aload_n hx hb dX10_brokenBy_83 rfl (lv_at hl 1 rfl) ?_
  refine lv_iconst (v := Int32.ofInt 1) hx hb dX10_brokenBy_84 (by decide +kernel) ?_
  refine lv_iload_n hx hb dX10_brokenBy_85 rfl (lv_at hl 2 rfl) ?_
  refine iv_sub (x := 1) (y := b0) hx hb dX10_brokenBy_86 ?_
  refine cr_i (va_runV (As := [.ref (ar 54), .int (Int32.ofInt ((1 - b0)))]) (rest := [.int (Int32.ofInt (6)), .ref (ar 39)]) ⟨hx, hb, hml, hown, hts⟩ (mX10_loadOf_54 l G k ar fi (uF fa 39 (g12)) fl (1 - b0) H.size hR (iG hRa rg12) (by omega) (show 0 ≤ (fi 12) ∧ (fi 12) ≤ 7 from by omega) (show (1 - b0) = 0 ∨ (1 - b0) = 1 from by omega)) (cwV 2 hts (gz [.methodLink RX10 362 yX10_loadOf, .instanceMethod yX10_loadOf, .selects RX10 yX10_loadOf yX10_loadOf, .initialized RX10] (.code yX10_loadOf cX10_loadOf 5 (some .int)) [(26, 0), (26, 1), (26, 2), (0, 5), (26, 3)] rfl) rfl rfl rfl (by decide +kernel) ⟨Nat.le_of_ble_eq_true rfl, Nat.le_of_ble_eq_true rfl⟩) (cr_preV (EZ_ok k) hZ hS hX hP hD hA (ci := 7) (q0 := 0) rfl rfl) rfl rfl hl.1 rfl (lv_room (Nat.le_of_ble_eq_true rfl)) dX10_brokenBy_87 ⟨Nat.le_of_ble_eq_true rfl, Nat.le_of_ble_eq_true rfl⟩) hD hS hA (fun r u H locs hp hP hD hS => ?_)
  obtain ⟨c13, rfl⟩ : ∃ z, z = u := ⟨_, rfl⟩
  obtain ⟨h9, rc13, hp13⟩ : r = Int32.ofInt c13 ∧ (inR c13) ∧ (c13 = (gs (lc ((fa 54)) ((fa 5)) (1 - b0)) ((fi 12)))) := hp
  subst h9
  have hLd87 := hp13
  refine iv_iast hx hb hX.1 hP hD hS 18 0 rfl rfl (wM_A39 _ _ _ _ _) (by omega) (by omega) (by decide) dX10_brokenBy_90 (fun H locs hP hD hS => ?_)
  obtain ⟨hP, hD⟩ : va_P G vwCl (wM k ar fi (uF fa 39 (uA (g12) (6) (c13))) fl) H ∧ va_D A (wM k ar fi (uF fa 39 (uA (g12) (6) (c13))) fl) := ⟨hP, hD⟩
  obtain ⟨g14, eg14, rg14⟩ : ∃ z, z = uA (g12) (6) (c13) ∧ ∀ t, inR (z t) := ⟨_, rfl, iU rg12 (by omega)⟩
  rw [← eg14] at hP hD
  have hVV := ask7 u0 u1 u2 u3 u4 u5 eg14 hMn9 hMn22 hMn35 hMn48 hLd60 hBu72 hLd87
  refine lv_iconst (v := Int32.ofInt 0) hx hb dX10_brokenBy_91 (by decide +kernel) ?_
  refine lv_istore (lv' := [(4, .int (Int32.ofInt (0))), (0, .ref (ar 71)), (1, .ref (ar 54)), (2, .int (Int32.ofInt (b0))), (3, .int (Int32.ofInt (a0)))]) hx hb dX10_brokenBy_92 hl (by decide) rfl (fun ls hl => ?_)
  refine iv_loop (α := Int × (Int → Int)) (nL := 5) (fun b9 => (wM k ar fi (uF (uF fa 39 (g14)) 40 (b9.2)) fl)) (fun b9 => [(4, .int (Int32.ofInt (b9.1))), (0, .ref (ar 71)), (1, .ref (ar 54)), (2, .int (Int32.ofInt (b0))), (3, .int (Int32.ofInt (a0)))]) (fun b9 => (fi 13 - b9.1).toNat) (fun b9 => inR b9.1 ∧ (∀ t, inR (b9.2 t)) ∧ (0 ≤ b9.1 ∧ bkI (fun q => evR (fa 10) (vls (fa 54) (fa 4) (fa 5) b0 (fi 12) (fa 3 0) a0) (fa 8 q) (fa 9 q)) b9.1)) ?_ (0, fa 40) (show inR 0 ∧ (∀ t, inR ((fa 40) t)) ∧ (0 ≤ 0 ∧ bkI (fun q => evR (fa 10) (vls (fa 54) (fa 4) (fa 5) b0 (fi 12) (fa 3 0) a0) (fa 8 q) (fa 9 q)) 0) from ⟨(by omega), (hRa 40), (by exact ⟨by omega, bki_0 (by omega)⟩)⟩) hP hD hS hl
  rintro ⟨x4_15, g40_16⟩ ih hi9 H locs ls hP hD hS hl
  obtain ⟨r_x4_15, r_g40_16, hinv⟩ : inR x4_15 ∧ (∀ t, inR (g40_16 t)) ∧ (0 ≤ x4_15 ∧ bkI (fun q => evR (fa 10) (vls (fa 54) (fa 4) (fa 5) b0 (fi 12) (fa 3 0) a0) (fa 8 q) (fa 9 q)) x4_15) := hi9
  obtain ⟨hinv, hBI⟩ := hinv
  obtain ⟨hP, hD⟩ : va_P G vwCl (wM k ar fi (uF (uF fa 39 (g14)) 40 (g40_16)) fl) H ∧ va_D A (wM k ar fi (uF (uF fa 39 (g14)) 40 (g40_16)) fl) := ⟨hP, hD⟩
  have hl : lv_has ls 5 [(4, .int (Int32.ofInt (x4_15))), (0, .ref (ar 71)), (1, .ref (ar 54)), (2, .int (Int32.ofInt (b0))), (3, .int (Int32.ofInt (a0)))] := hl
  refine lv_iload hx hb dX10_brokenBy_94 (lv_at hl 0 rfl) ?_
  refine lv_aload_n hx hb dX10_brokenBy_96 rfl (lv_at hl 1 rfl) ?_
  refine va_get (D := G) (ci := 7) (v := .int (Int32.ofInt (fi 13))) (C := RX10) (T := TX10) (N := 71) (ref := RX10) hx hb hts h1w hown hX.1 hP 0 rfl rfl 13 (by decide) h2w (fun _ h9 => h9) rfl dX10_brokenBy_97 ?_
  have rf13 := hR 13
  refine iv_icmp_ge (tgt := 121) hx hb (by omega) (by omega) dX10_brokenBy_100 (by decide) (fun q17 => ?_) (fun q17 => ?_)
  · refine lv_iconst (v := Int32.ofInt (-1)) hx hb dX10_brokenBy_121 (by decide +kernel) ?_
    exact W.iret (v := Int32.ofInt ((-1))) hx hb hr (fun t ht hW => ⟨⟨Int32.ofInt ((-1)), ((-1), g14, g40_16), rfl, ⟨rfl, (show (inR (-1)) ∧ (∀ t, inR (g14 t)) ∧ (∀ t, inR (g40_16 t)) ∧ (brkP (-1) (fun q => evR (fa 10) (vls (fa 54) (fa 4) (fa 5) b0 (fi 12) (fa 3 0) a0) (fa 8 q) (fa 9 q)) (fi 13)) from ⟨(by omega), rg14, r_g40_16, (by first | exact brk_y2 hBI (by omega) (by omega) (by omega) | exact brk_n hBI (by omega) rfl)⟩)⟩, by rw [ht]; exact hP, hD⟩, hS.F ht⟩) hS.2.2 dX10_brokenBy_122
  · refine lv_aload_n hx hb dX10_brokenBy_103 rfl (lv_at hl 1 rfl) ?_
    refine lv_iload hx hb dX10_brokenBy_104 (lv_at hl 0 rfl) ?_
    refine cr_i (va_runV (As := [.int (Int32.ofInt (x4_15))]) (rest := []) ⟨hx, hb, hml, hown, hts⟩ (mX10_holds l G k ar fi (uF (uF fa 39 (g14)) 40 (g40_16)) fl x4_15 H.size hR (iG (iG hRa rg14) r_g40_16) (by omega) (show 0 ≤ x4_15 ∧ x4_15 < 8 from by omega) (show RWf ((fa 10)) ((fa 8) x4_15) ((fa 9) x4_15) from by exact hRW x4_15 (by omega) (by omega))) (cwV 1 hts (gz [.methodLink RX10 374 yX10_holds, .instanceMethod yX10_holds, .selects RX10 yX10_holds yX10_holds, .initialized RX10] (.code yX10_holds cX10_holds 5 (some .boolean)) [(26, 16), (26, 17), (26, 18), (0, 5), (26, 19)] rfl) rfl rfl rfl (by decide +kernel) ⟨Nat.le_of_ble_eq_true rfl, Nat.le_of_ble_eq_true rfl⟩) (cr_preV (EZ_ok k) hZ hS hX hP hD hA (ci := 7) (q0 := 0) rfl rfl) rfl rfl hl.1 rfl (lv_room (Nat.le_of_ble_eq_true rfl)) dX10_brokenBy_106 ⟨Nat.le_of_ble_eq_true rfl, Nat.le_of_ble_eq_true rfl⟩) hD hS hA (fun r u H locs hp hP hD hS => ?_)
    obtain ⟨c18, c19⟩ := u
    obtain ⟨hP, hD⟩ : va_P G vwCl (wM k ar fi (uF (uF fa 39 (g14)) 40 (c19)) fl) H ∧ va_D A (wM k ar fi (uF (uF fa 39 (g14)) 40 (c19)) fl) := ⟨hP, hD⟩
    obtain ⟨h9, rc18, rc19, hp19⟩ : r = Int32.ofInt c18 ∧ (inR c18) ∧ (∀ t, inR (c19 t)) ∧ ((c18 = 1 ∧ ¬ evR ((fa 10)) (g14) ((fa 8) x4_15) ((fa 9) x4_15) = 0) ∨ (c18 = 0 ∧ evR ((fa 10)) (g14) ((fa 8) x4_15) ((fa 9) x4_15) = 0)) := hp
    subst h9
    have hev := ev_V (hRW x4_15 (by omega) (by omega)) hVV
    refine iv_if_ne (tgt := 115) hx hb (by omega) dX10_brokenBy_109 (by decide) (fun q20 => ?_) (fun q20 => ?_)
    · refine lv_iinc (v := Int32.ofInt (x4_15 + 1)) (lv' := [(4, .int (Int32.ofInt ((x4_15 + 1)))), (0, .ref (ar 71)), (1, .ref (ar 54)), (2, .int (Int32.ofInt (b0))), (3, .int (Int32.ofInt (a0)))]) hx hb dX10_brokenBy_115 hl (k := 0) rfl (Int32.ofInt_add _ _).symm (by decide) rfl (fun ls hl => ?_)
      refine lv_goto (tgt := 94) hx hb dX10_brokenBy_118 (by decide) ?_
      have hl : lv_has ls 5 [(4, .int (Int32.ofInt ((x4_15 + 1)))), (0, .ref (ar 71)), (1, .ref (ar 54)), (2, .int (Int32.ofInt (b0))), (3, .int (Int32.ofInt (a0)))] := lv_sub hl [0, 1, 2, 3, 4] rfl
      exact ih ((x4_15 + 1), c19) (show (fi 13 - (x4_15 + 1)).toNat < (fi 13 - x4_15).toNat from by omega) (show inR (x4_15 + 1) ∧ (∀ t, inR (c19 t)) ∧ (0 ≤ (x4_15 + 1) ∧ bkI (fun q => evR (fa 10) (vls (fa 54) (fa 4) (fa 5) b0 (fi 12) (fa 3 0) a0) (fa 8 q) (fa 9 q)) (x4_15 + 1)) from ⟨(by omega), rc19, (by exact ⟨by omega, bki_s2 hBI (by omega) rfl⟩)⟩) _ _ _ hP hD hS hl
    · refine lv_iload hx hb dX10_brokenBy_112 (lv_at hl 0 rfl) ?_
      exact W.iret (v := Int32.ofInt (x4_15)) hx hb hr (fun t ht hW => ⟨⟨Int32.ofInt (x4_15), (x4_15, g14, c19), rfl, ⟨rfl, (show (inR x4_15) ∧ (∀ t, inR (g14 t)) ∧ (∀ t, inR (c19 t)) ∧ (brkP x4_15 (fun q => evR (fa 10) (vls (fa 54) (fa 4) (fa 5) b0 (fi 12) (fa 3 0) a0) (fa 8 q) (fa 9 q)) (fi 13)) from ⟨(by omega), rg14, rc19, (by first | exact brk_y2 hBI (by omega) (by omega) (by omega) | exact brk_n hBI (by omega) rfl)⟩)⟩, by rw [ht]; exact hP, hD⟩, hS.F ht⟩) hS.2.2 dX10_brokenBy_114

set_option maxHeartbeats 4000000 in
set_option maxRecDepth 100000 in
theorem mX10_bucket (l : Launch) (G : va_G) (k : Nat → ClassId) (ar : Nat → Nat) (fi : Nat → Int) (fa : Nat → Int → Int) (fl : Nat → Int64) (b0 : Int) (w0 : Int) (sz : Nat) (hR : ∀ j, inR (fi j)) (hRa : ∀ j t, inR (fa j t)) (hr_b0 : inR b0) (hr_w0 : inR w0) (hth : 0 ≤ fi 12 ∧ fi 12 ≤ 7) (hru : 0 ≤ fi 13 ∧ fi 13 ≤ 4) (hRW : ∀ q9, 0 ≤ q9 → q9 < fi 13 → RWf (fa 10) (fa 8 q9) (fa 9 q9)) : CNi l G k (EZ k) yX10_bucket wzX10_bucket ({ frames := 3, cells := 0, slots := 0, locals := 70 }) [.ref (ar 71), .int (Int32.ofInt (b0)), .int (Int32.ofInt (w0))] sz (wM k ar fi fa fl) (fun (r0 : Int32) (u : Int × (Int → Int) × (Int → Int) × Int) => r0 = Int32.ofInt (u.1) ∧ (inR u.1) ∧ (∀ t, inR (u.2.1 t)) ∧ (∀ t, inR (u.2.2.1 t)) ∧ (inR u.2.2.2) ∧ (ThB u.2.2.2 (¬ (0 ≤ b0 ∧ b0 ≤ 1 ∧ 0 ≤ w0 ∧ w0 ≤ 4)) (BuP w0 u.1 (gs (lc (fa 32) (fa 5) b0) (fi 12)) (sdV (gs (lc (fa 32) (fa 5) b0) (fi 12)) (fa 3 3) (buD b0 (fi 28) (fa 3 0))) (buD b0 (fi 28) (fa 3 0)) (og (bs (fa 32) b0) (fi 12)) (fun q => evR (fa 10) (vls (fa 32) (fa 4) (fa 5) b0 (fi 12) (fa 3 0) (fi 28)) (fa 8 q) (fa 9 q)) (fi 13)))) (fun (u : Int × (Int → Int) × (Int → Int) × Int) => (wM k ar (uF fi 2 (u.2.2.2)) (uF (uF fa 39 (u.2.1)) 40 (u.2.2.1)) fl)) := by
  refine Met.ofW (cc := cX10_bucket) (maxL := 5) (ret := (some .int)) (by decide) rfl ?_
  intro p e s m args below meth c s₁ B hml hv
  obtain ⟨rfl, hsz, hP, hX, hD0, hZ0⟩ := hv
  have hx := B.exec
  have hb := B.bytes
  have hr := B.returns
  have hts := atoms_spec (ws := wzX10_bucket) B.pre
  have hown : s.vm.findClass RX10 = some m.cls := findClass_of_methodNamed B.named
  subst hsz
  have hD := hD0.self (sz := s.heap.size)
  have hZ := hZ0
  generalize hAe : va_A (wM k ar fi fa fl) s.heap.size = A at hD hZ ⊢
  have hA : ∀ q : Nat, s.heap.size ≤ q → A q := fun q h => by rw [← hAe]; exact Or.inr h
  have hS : va_S A s.heap s.heap [] := va_S.rf
  have hl := lv_entry ([.ref (ar 71), .int (Int32.ofInt (b0)), .int (Int32.ofInt (w0))]) (n := 5) (Nat.le_of_ble_eq_true rfl)
  rw [lg_entry_eq]
  generalize (lg_sl ([.ref (ar 71), .int (Int32.ofInt (b0)), .int (Int32.ofInt (w0))]) ++ List.replicate (5 - (lg_sl ([.ref (ar 71), .int (Int32.ofInt (b0)), .int (Int32.ofInt (w0))])).length) Slot.unset).toArray = ls at hl ⊢
  have hl : lv_has ls 5 [(0, .ref (ar 71)), (1, .int (Int32.ofInt (b0))), (2, .int (Int32.ofInt (w0)))] := hl
  obtain ⟨H, eH⟩ : ∃ H, H = s.heap := ⟨_, rfl⟩
  rw [← eH] at hP
  have hS : va_S A s.heap H [] := by rw [eH]; exact hS
  have gW : s.heap = H := eH.symm
  refine iv_heap gW ?_
  have h0w := hts (.fieldLink RX10 171 "RopeTownModel" "code" "I") (wz_at 8 12 rfl)
  have h1w : ∀ w ∈ wsX100, w ∈ wzX10_bucket := fun w h => List.mem_cons_of_mem _ (inlX10 w h)
  have h2w := hts (.fieldLink RX10 174 "RopeTownModel" "things" "I") (wz_at 21 11 rfl)
  have h3w := hts (.fieldLink RX10 87 "RopeTownModel" "place" "[I") (wz_at 6 17 rfl)
  have h4w := hts (.fieldLink RX10 327 "RopeTownModel" "bucket0" "I") (wz_at 21 13 rfl)
  refine lv_aload_n hx hb dX10_bucket_0 rfl (lv_at hl 0 rfl) ?_
  refine lv_iconst (v := Int32.ofInt 0) hx hb dX10_bucket_1 (by decide +kernel) ?_
  refine iv_put (ci := 7) (v := .int (Int32.ofInt (0))) (ty := .int) (C := RX10) (T := TX10) (N := 71) (ref := RX10) hx hb hts h1w tyX10 tyX10_ok nmX10 hown hX.1 hP hD hS 0 rfl rfl 2 (by decide) h0w (fun _ h9 => h9) rfl (by decide +kernel) rfl rfl (Nat.le_of_ble_eq_true rfl) (wM_F2 _ _ _ _ _) dX10_bucket_2 (fun H locs hP hD hS => ?_)
  refine lv_iload_n hx hb dX10_bucket_5 rfl (lv_at hl 1 rfl) ?_
  refine lv_iconst (v := Int32.ofInt 0) hx hb dX10_bucket_6 (by decide +kernel) ?_
  refine lv_iconst (v := Int32.ofInt 1) hx hb dX10_bucket_7 (by decide +kernel) ?_
  refine c0_i (va_runS (As := [.int (Int32.ofInt (b0)), .int (Int32.ofInt (0)), .int (Int32.ofInt (1))]) (rest := []) ⟨hx, hb, hml, hown, hts⟩ (mX10_isIn l G k b0 0 1 H.size (by omega) (by omega) (by omega)) (cwS 3 hts (gz [.methodLink RX10 177 yX10_isIn, .static yX10_isIn, .initialized RX10] (.code yX10_isIn cX10_isIn 3 (some .boolean)) [(18, 16), (18, 17), (0, 5), (18, 18)] rfl) rfl rfl rfl (by decide +kernel) ⟨Nat.le_of_ble_eq_true rfl, Nat.le_of_ble_eq_true rfl⟩) (cr_pre0 (EZ_ok k) hZ hS hX hP hD hA) rfl rfl hl.1 rfl (lv_room (Nat.le_of_ble_eq_true rfl)) dX10_bucket_8 ⟨Nat.le_of_ble_eq_true rfl, Nat.le_of_ble_eq_true rfl⟩) hP hD hS hA (fun r u H locs hp hP hD hS => ?_)
  obtain ⟨c1, rfl⟩ : ∃ z, z = u := ⟨_, rfl⟩
  obtain ⟨h9, rc1, hp1⟩ : r = Int32.ofInt c1 ∧ (inR c1) ∧ ((c1 = 1 ∧ 0 ≤ b0 ∧ b0 ≤ 1) ∨ (c1 = 0 ∧ (b0 < 0 ∨ 1 < b0))) := hp
  subst h9
  refine iv_if_ne (tgt := 20) hx hb (by omega) dX10_bucket_11 (by decide) (fun q2 => ?_) (fun q2 => ?_)
  · refine lv_iconst (v := Int32.ofInt 0) hx hb dX10_bucket_20 (by decide +kernel) ?_
    refine lv_istore_n (lv' := [(3, .int (Int32.ofInt (0))), (0, .ref (ar 71)), (1, .int (Int32.ofInt (b0))), (2, .int (Int32.ofInt (w0)))]) hx hb dX10_bucket_21 rfl hl (by decide) rfl (fun ls hl => ?_)
    refine lv_iconst (v := Int32.ofInt 0) hx hb dX10_bucket_22 (by decide +kernel) ?_
    refine lv_istore (lv' := [(4, .int (Int32.ofInt (0))), (3, .int (Int32.ofInt (0))), (0, .ref (ar 71)), (1, .int (Int32.ofInt (b0))), (2, .int (Int32.ofInt (w0)))]) hx hb dX10_bucket_23 hl (by decide) rfl (fun ls hl => ?_)
    refine iv_loop (α := Int × Int) (nL := 5) (fun b9 => (wM k ar (uF fi 2 (0)) fa fl)) (fun b9 => [(4, .int (Int32.ofInt (b9.1))), (3, .int (Int32.ofInt (b9.2))), (0, .ref (ar 71)), (1, .int (Int32.ofInt (b0))), (2, .int (Int32.ofInt (w0)))]) (fun b9 => (fi 12 - b9.1).toNat) (fun b9 => inR b9.1 ∧ inR b9.2 ∧ ((0 ≤ b9.1 ∧ b9.1 ≤ fi 12) ∧ b9.2 = og (bs (fa 32) b0) b9.1)) ?_ (0, 0) (show inR 0 ∧ inR 0 ∧ ((0 ≤ 0 ∧ 0 ≤ fi 12) ∧ 0 = og (bs (fa 32) b0) 0) from ⟨(by omega), (by omega), (by exact ⟨by omega, og_0 rfl (by omega)⟩)⟩) hP hD hS hl
    rintro ⟨x4_3, x3_4⟩ ih hi9 H locs ls hP hD hS hl
    obtain ⟨r_x4_3, r_x3_4, hinv⟩ : inR x4_3 ∧ inR x3_4 ∧ ((0 ≤ x4_3 ∧ x4_3 ≤ fi 12) ∧ x3_4 = og (bs (fa 32) b0) x4_3) := hi9
    obtain ⟨hJ1, hJ2⟩ := hinv
    obtain ⟨hP, hD⟩ : va_P G vwCl (wM k ar (uF fi 2 (0)) fa fl) H ∧ va_D A (wM k ar (uF fi 2 (0)) fa fl) := ⟨hP, hD⟩
    have hl : lv_has ls 5 [(4, .int (Int32.ofInt (x4_3))), (3, .int (Int32.ofInt (x3_4))), (0, .ref (ar 71)), (1, .int (Int32.ofInt (b0))), (2, .int (Int32.ofInt (w0)))] := hl
    refine lv_iload hx hb dX10_bucket_25 (lv_at hl 0 rfl) ?_
    refine lv_aload_n hx hb dX10_bucket_27 rfl (lv_at hl 2 rfl) ?_
    refine va_get (D := G) (ci := 7) (v := .int (Int32.ofInt (fi 12))) (C := RX10) (T := TX10) (N := 71) (ref := RX10) hx hb hts h1w hown hX.1 hP 0 rfl rfl 12 (by decide) h2w (fun _ h9 => h9) rfl dX10_bucket_28 ?_
    have rf12 := hR 12
    refine iv_icmp_ge (tgt := 65) hx hb (by omega) (by omega) dX10_bucket_31 (by decide) (fun q5 => ?_) (fun q5 => ?_)
    · have hOg : x3_4 = og (bs (fa 32) b0) (fi 12) := by rw [show fi 12 = x4_3 by omega]; exact hJ2
      refine lv_iload_n hx hb dX10_bucket_65 rfl (lv_at hl 4 rfl) ?_
      obtain q6 | q6 | q6 | q6 | q6 | q6 : (w0 < 0 ∨ 4 < w0) ∨ w0 = 0 ∨ w0 = 1 ∨ w0 = 2 ∨ w0 = 3 ∨ w0 = 4 := by omega
      · refine lv_tableOut (tgt := 150) hx hb dX10_bucket_66 (by rw [iz_toInt (by omega)]; exact q6) (by decide) ?_
        refine lv_aload_n hx hb dX10_bucket_150 rfl (lv_at hl 2 rfl) ?_
        refine lv_iconst (v := Int32.ofInt 1) hx hb dX10_bucket_151 (by decide +kernel) ?_
        refine cr_i (va_runV (As := [.int (Int32.ofInt (1))]) (rest := []) ⟨hx, hb, hml, hown, hts⟩ (mX10_fail l G k ar (uF fi 2 (0)) fa fl 1 H.size (iF hR (by omega)) hRa (by omega)) (cwV 1 hts (gz [.methodLink RX10 315 yX10_fail, .instanceMethod yX10_fail, .selects RX10 yX10_fail yX10_fail, .initialized RX10] (.code yX10_fail cX10_fail 2 (some .int)) [(16, 17), (16, 18), (16, 19), (0, 5), (16, 20)] rfl) rfl rfl rfl (by decide +kernel) ⟨Nat.le_of_ble_eq_true rfl, Nat.le_of_ble_eq_true rfl⟩) (cr_preV (EZ_ok k) hZ hS hX hP hD hA (ci := 7) (q0 := 0) rfl rfl) rfl rfl hl.1 rfl (lv_room (Nat.le_of_ble_eq_true rfl)) dX10_bucket_152 ⟨Nat.le_of_ble_eq_true rfl, Nat.le_of_ble_eq_true rfl⟩) hD hS hA (fun r u H locs hp hP hD hS => ?_)
        obtain ⟨c7, c8⟩ := u
        obtain ⟨hP, hD⟩ : va_P G vwCl (wM k ar (uF fi 2 (c8)) fa fl) H ∧ va_D A (wM k ar (uF fi 2 (c8)) fa fl) := ⟨hP, hD⟩
        obtain ⟨h9, rc7, rc8, hp8⟩ : r = Int32.ofInt c7 ∧ (inR c7) ∧ (inR c8) ∧ (c7 = 0 ∧ c8 = 1) := hp
        subst h9
        exact W.iret (v := Int32.ofInt (c7)) hx hb hr (fun t ht hW => ⟨⟨Int32.ofInt (c7), (c7, fa 39, fa 40, c8), rfl, ⟨rfl, (show (inR c7) ∧ (∀ t, inR ((fa 39) t)) ∧ (∀ t, inR ((fa 40) t)) ∧ (inR c8) ∧ (ThB c8 (¬ (0 ≤ b0 ∧ b0 ≤ 1 ∧ 0 ≤ w0 ∧ w0 ≤ 4)) (BuP w0 c7 (gs (lc (fa 32) (fa 5) b0) (fi 12)) (sdV (gs (lc (fa 32) (fa 5) b0) (fi 12)) (fa 3 3) (buD b0 (fi 28) (fa 3 0))) (buD b0 (fi 28) (fa 3 0)) (og (bs (fa 32) b0) (fi 12)) (fun q => evR (fa 10) (vls (fa 32) (fa 4) (fa 5) b0 (fi 12) (fa 3 0) (fi 28)) (fa 8 q) (fa 9 q)) (fi 13))) from ⟨(by omega), (hRa 39), (hRa 40), (by omega), (by first | exact thb_x (by omega) (by omega) | exact thb_k (by omega) (by omega) (by first | exact bu_0 (by omega) hLd106 | exact bu_1 (by omega) hSd120 | exact bu_2 (by omega) hBu130 | exact bu_3 (by omega) hOg | exact bu_4 (by omega) hBk146))⟩)⟩, by rw [ht]; exact hP, hD⟩, hS.F ht⟩) hS.2.2 dX10_bucket_155
      · refine lv_tableIn (tgt := 100) hx hb dX10_bucket_66 (by rw [iz_toInt (by omega)]; omega) (by rw [iz_toInt (by omega)]; omega) (off := 34) (by rw [iz_toInt (by omega), q6]; decide +kernel) (by decide) ?_
        refine lv_aload_n hx hb dX10_bucket_100 rfl (lv_at hl 2 rfl) ?_
        refine lv_aload_n hx hb dX10_bucket_101 rfl (lv_at hl 2 rfl) ?_
        refine va_get (D := G) (ci := 7) (v := .ref (ar 32)) (C := RX10) (T := TX10) (N := 71) (ref := RX10) hx hb hts h1w hown hX.1 hP 0 rfl rfl 32 (by decide) h3w (fun _ h9 => h9) rfl dX10_bucket_102 ?_
        refine lv_iload_n hx hb dX10_bucket_105 rfl (lv_at hl 3 rfl) ?_
        refine cr_i (va_runV (As := [.ref (ar 32), .int (Int32.ofInt (b0))]) (rest := []) ⟨hx, hb, hml, hown, hts⟩ (mX10_loadOf_32 l G k ar (uF fi 2 (0)) fa fl b0 H.size (iF hR (by omega)) hRa (by omega) (show 0 ≤ (fi 12) ∧ (fi 12) ≤ 7 from by omega) (show b0 = 0 ∨ b0 = 1 from by omega)) (cwV 2 hts (gz [.methodLink RX10 362 yX10_loadOf, .instanceMethod yX10_loadOf, .selects RX10 yX10_loadOf yX10_loadOf, .initialized RX10] (.code yX10_loadOf cX10_loadOf 5 (some .int)) [(26, 0), (26, 1), (26, 2), (0, 5), (26, 3)] rfl) rfl rfl rfl (by decide +kernel) ⟨Nat.le_of_ble_eq_true rfl, Nat.le_of_ble_eq_true rfl⟩) (cr_preV (EZ_ok k) hZ hS hX hP hD hA (ci := 7) (q0 := 0) rfl rfl) rfl rfl hl.1 rfl (lv_room (Nat.le_of_ble_eq_true rfl)) dX10_bucket_106 ⟨Nat.le_of_ble_eq_true rfl, Nat.le_of_ble_eq_true rfl⟩) hD hS hA (fun r u H locs hp hP hD hS => ?_)
        obtain ⟨c9, rfl⟩ : ∃ z, z = u := ⟨_, rfl⟩
        obtain ⟨h9, rc9, hp9⟩ : r = Int32.ofInt c9 ∧ (inR c9) ∧ (c9 = (gs (lc ((fa 32)) ((fa 5)) b0) ((fi 12)))) := hp
        subst h9
        have hLd106 := hp9
        exact W.iret (v := Int32.ofInt (c9)) hx hb hr (fun t ht hW => ⟨⟨Int32.ofInt (c9), (c9, fa 39, fa 40, 0), rfl, ⟨rfl, (show (inR c9) ∧ (∀ t, inR ((fa 39) t)) ∧ (∀ t, inR ((fa 40) t)) ∧ (inR 0) ∧ (ThB 0 (¬ (0 ≤ b0 ∧ b0 ≤ 1 ∧ 0 ≤ w0 ∧ w0 ≤ 4)) (BuP w0 c9 (gs (lc (fa 32) (fa 5) b0) (fi 12)) (sdV (gs (lc (fa 32) (fa 5) b0) (fi 12)) (fa 3 3) (buD b0 (fi 28) (fa 3 0))) (buD b0 (fi 28) (fa 3 0)) (og (bs (fa 32) b0) (fi 12)) (fun q => evR (fa 10) (vls (fa 32) (fa 4) (fa 5) b0 (fi 12) (fa 3 0) (fi 28)) (fa 8 q) (fa 9 q)) (fi 13))) from ⟨(by omega), (hRa 39), (hRa 40), (by omega), (by first | exact thb_x (by omega) (by omega) | exact thb_k (by omega) (by omega) (by first | exact bu_0 (by omega) hLd106 | exact bu_1 (by omega) hSd120 | exact bu_2 (by omega) hBu130 | exact bu_3 (by omega) hOg | exact bu_4 (by omega) hBk146))⟩)⟩, by rw [ht]; exact hP, hD⟩, hS.F ht⟩) hS.2.2 dX10_bucket_109
      · refine lv_tableIn (tgt := 110) hx hb dX10_bucket_66 (by rw [iz_toInt (by omega)]; omega) (by rw [iz_toInt (by omega)]; omega) (off := 44) (by rw [iz_toInt (by omega), q6]; decide +kernel) (by decide) ?_
        refine lv_aload_n hx hb dX10_bucket_110 rfl (lv_at hl 2 rfl) ?_
        refine lv_aload_n hx hb dX10_bucket_111 rfl (lv_at hl 2 rfl) ?_
        refine va_get (D := G) (ci := 7) (v := .ref (ar 32)) (C := RX10) (T := TX10) (N := 71) (ref := RX10) hx hb hts h1w hown hX.1 hP 0 rfl rfl 32 (by decide) h3w (fun _ h9 => h9) rfl dX10_bucket_112 ?_
        refine lv_iload_n hx hb dX10_bucket_115 rfl (lv_at hl 3 rfl) ?_
        refine lv_aload_n hx hb dX10_bucket_116 rfl (lv_at hl 2 rfl) ?_
        refine va_get (D := G) (ci := 7) (v := .int (Int32.ofInt (fi 28))) (C := RX10) (T := TX10) (N := 71) (ref := RX10) hx hb hts h1w hown hX.1 hP 0 rfl rfl 28 (by decide) h4w (fun _ h9 => h9) rfl dX10_bucket_117 ?_
        have rf28 := hR 28
        refine cr_i (va_runV (As := [.ref (ar 32), .int (Int32.ofInt (b0)), .int (Int32.ofInt (fi 28))]) (rest := []) ⟨hx, hb, hml, hown, hts⟩ (mX10_sideOf_32 l G k ar (uF fi 2 (0)) fa fl b0 (fi 28) H.size (iF hR (by omega)) hRa (by omega) (hR 28) (show 0 ≤ (fi 12) ∧ (fi 12) ≤ 7 from by omega) (show b0 = 0 ∨ b0 = 1 from by omega)) (cwV 3 hts (gz [.methodLink RX10 377 yX10_sideOf, .instanceMethod yX10_sideOf, .selects RX10 yX10_sideOf yX10_sideOf, .initialized RX10] (.code yX10_sideOf cX10_sideOf 4 (some .int)) [(26, 4), (26, 5), (26, 6), (0, 5), (26, 7)] rfl) rfl rfl rfl (by decide +kernel) ⟨Nat.le_of_ble_eq_true rfl, Nat.le_of_ble_eq_true rfl⟩) (cr_preV (EZ_ok k) hZ hS hX hP hD hA (ci := 7) (q0 := 0) rfl rfl) rfl rfl hl.1 rfl (lv_room (Nat.le_of_ble_eq_true rfl)) dX10_bucket_120 ⟨Nat.le_of_ble_eq_true rfl, Nat.le_of_ble_eq_true rfl⟩) hD hS hA (fun r u H locs hp hP hD hS => ?_)
        obtain ⟨c10, rfl⟩ : ∃ z, z = u := ⟨_, rfl⟩
        obtain ⟨h9, rc10, hp10⟩ : r = Int32.ofInt c10 ∧ (inR c10) ∧ (c10 = sdV (gs (lc ((fa 32)) ((fa 5)) b0) ((fi 12))) ((fa 3) 3) (buD b0 (fi 28) ((fa 3) 0))) := hp
        subst h9
        have hSd120 := hp10
        exact W.iret (v := Int32.ofInt (c10)) hx hb hr (fun t ht hW => ⟨⟨Int32.ofInt (c10), (c10, fa 39, fa 40, 0), rfl, ⟨rfl, (show (inR c10) ∧ (∀ t, inR ((fa 39) t)) ∧ (∀ t, inR ((fa 40) t)) ∧ (inR 0) ∧ (ThB 0 (¬ (0 ≤ b0 ∧ b0 ≤ 1 ∧ 0 ≤ w0 ∧ w0 ≤ 4)) (BuP w0 c10 (gs (lc (fa 32) (fa 5) b0) (fi 12)) (sdV (gs (lc (fa 32) (fa 5) b0) (fi 12)) (fa 3 3) (buD b0 (fi 28) (fa 3 0))) (buD b0 (fi 28) (fa 3 0)) (og (bs (fa 32) b0) (fi 12)) (fun q => evR (fa 10) (vls (fa 32) (fa 4) (fa 5) b0 (fi 12) (fa 3 0) (fi 28)) (fa 8 q) (fa 9 q)) (fi 13))) from ⟨(by omega), (hRa 39), (hRa 40), (by omega), (by first | exact thb_x (by omega) (by omega) | exact thb_k (by omega) (by omega) (by first | exact bu_0 (by omega) hLd106 | exact bu_1 (by omega) hSd120 | exact bu_2 (by omega) hBu130 | exact bu_3 (by omega) hOg | exact bu_4 (by omega) hBk146))⟩)⟩, by rw [ht]; exact hP, hD⟩, hS.F ht⟩) hS.2.2 dX10_bucket_123
      · refine lv_tableIn (tgt := 124) hx hb dX10_bucket_66 (by rw [iz_toInt (by omega)]; omega) (by rw [iz_toInt (by omega)]; omega) (off := 58) (by rw [iz_toInt (by omega), q6]; decide +kernel) (by decide) ?_
        refine lv_aload_n hx hb dX10_bucket_124 rfl (lv_at hl 2 rfl) ?_
        refine lv_iload_n hx hb dX10_bucket_125 rfl (lv_at hl 3 rfl) ?_
        refine lv_aload_n hx hb dX10_bucket_126 rfl (lv_at hl 2 rfl) ?_
        refine va_get (D := G) (ci := 7) (v := .int (Int32.ofInt (fi 28))) (C := RX10) (T := TX10) (N := 71) (ref := RX10) hx hb hts h1w hown hX.1 hP 0 rfl rfl 28 (by decide) h4w (fun _ h9 => h9) rfl dX10_bucket_127 ?_
        have rf28 := hR 28
        refine cr_i (va_runV (As := [.int (Int32.ofInt (b0)), .int (Int32.ofInt (fi 28))]) (rest := []) ⟨hx, hb, hml, hown, hts⟩ (mX10_depthOf l G k ar (uF fi 2 (0)) fa fl b0 (fi 28) H.size (iF hR (by omega)) hRa (by omega) (hR 28)) (cwV 2 hts (gz [.methodLink RX10 352 yX10_depthOf, .instanceMethod yX10_depthOf, .selects RX10 yX10_depthOf yX10_depthOf, .initialized RX10] (.code yX10_depthOf cX10_depthOf 3 (some .int)) [(24, 7), (24, 8), (24, 9), (0, 5), (24, 10)] rfl) rfl rfl rfl (by decide +kernel) ⟨Nat.le_of_ble_eq_true rfl, Nat.le_of_ble_eq_true rfl⟩) (cr_preV (EZ_ok k) hZ hS hX hP hD hA (ci := 7) (q0 := 0) rfl rfl) rfl rfl hl.1 rfl (lv_room (Nat.le_of_ble_eq_true rfl)) dX10_bucket_130 ⟨Nat.le_of_ble_eq_true rfl, Nat.le_of_ble_eq_true rfl⟩) hD hS hA (fun r u H locs hp hP hD hS => ?_)
        obtain ⟨c11, rfl⟩ : ∃ z, z = u := ⟨_, rfl⟩
        obtain ⟨h9, rc11, hp11⟩ : r = Int32.ofInt c11 ∧ (inR c11) ∧ (c11 = buD b0 (fi 28) ((fa 3) 0)) := hp
        subst h9
        have hBu130 := hp11
        exact W.iret (v := Int32.ofInt (c11)) hx hb hr (fun t ht hW => ⟨⟨Int32.ofInt (c11), (c11, fa 39, fa 40, 0), rfl, ⟨rfl, (show (inR c11) ∧ (∀ t, inR ((fa 39) t)) ∧ (∀ t, inR ((fa 40) t)) ∧ (inR 0) ∧ (ThB 0 (¬ (0 ≤ b0 ∧ b0 ≤ 1 ∧ 0 ≤ w0 ∧ w0 ≤ 4)) (BuP w0 c11 (gs (lc (fa 32) (fa 5) b0) (fi 12)) (sdV (gs (lc (fa 32) (fa 5) b0) (fi 12)) (fa 3 3) (buD b0 (fi 28) (fa 3 0))) (buD b0 (fi 28) (fa 3 0)) (og (bs (fa 32) b0) (fi 12)) (fun q => evR (fa 10) (vls (fa 32) (fa 4) (fa 5) b0 (fi 12) (fa 3 0) (fi 28)) (fa 8 q) (fa 9 q)) (fi 13))) from ⟨(by omega), (hRa 39), (hRa 40), (by omega), (by first | exact thb_x (by omega) (by omega) | exact thb_k (by omega) (by omega) (by first | exact bu_0 (by omega) hLd106 | exact bu_1 (by omega) hSd120 | exact bu_2 (by omega) hBu130 | exact bu_3 (by omega) hOg | exact bu_4 (by omega) hBk146))⟩)⟩, by rw [ht]; exact hP, hD⟩, hS.F ht⟩) hS.2.2 dX10_bucket_133
      · refine lv_tableIn (tgt := 134) hx hb dX10_bucket_66 (by rw [iz_toInt (by omega)]; omega) (by rw [iz_toInt (by omega)]; omega) (off := 68) (by rw [iz_toInt (by omega), q6]; decide +kernel) (by decide) ?_
        refine lv_iload_n hx hb dX10_bucket_134 rfl (lv_at hl 1 rfl) ?_
        exact W.iret (v := Int32.ofInt (x3_4)) hx hb hr (fun t ht hW => ⟨⟨Int32.ofInt (x3_4), (x3_4, fa 39, fa 40, 0), rfl, ⟨rfl, (show (inR x3_4) ∧ (∀ t, inR ((fa 39) t)) ∧ (∀ t, inR ((fa 40) t)) ∧ (inR 0) ∧ (ThB 0 (¬ (0 ≤ b0 ∧ b0 ≤ 1 ∧ 0 ≤ w0 ∧ w0 ≤ 4)) (BuP w0 x3_4 (gs (lc (fa 32) (fa 5) b0) (fi 12)) (sdV (gs (lc (fa 32) (fa 5) b0) (fi 12)) (fa 3 3) (buD b0 (fi 28) (fa 3 0))) (buD b0 (fi 28) (fa 3 0)) (og (bs (fa 32) b0) (fi 12)) (fun q => evR (fa 10) (vls (fa 32) (fa 4) (fa 5) b0 (fi 12) (fa 3 0) (fi 28)) (fa 8 q) (fa 9 q)) (fi 13))) from ⟨(by omega), (hRa 39), (hRa 40), (by omega), (by first | exact thb_x (by omega) (by omega) | exact thb_k (by omega) (by omega) (by first | exact bu_0 (by omega) hLd106 | exact bu_1 (by omega) hSd120 | exact bu_2 (by omega) hBu130 | exact bu_3 (by omega) hOg | exact bu_4 (by omega) hBk146))⟩)⟩, by rw [ht]; exact hP, hD⟩, hS.F ht⟩) hS.2.2 dX10_bucket_135
      · refine lv_tableIn (tgt := 136) hx hb dX10_bucket_66 (by rw [iz_toInt (by omega)]; omega) (by rw [iz_toInt (by omega)]; omega) (off := 70) (by rw [iz_toInt (by omega), q6]; decide +kernel) (by decide) ?_
        refine lv_aload_n hx hb dX10_bucket_136 rfl (lv_at hl 2 rfl) ?_
        refine lv_aload_n hx hb dX10_bucket_137 rfl (lv_at hl 2 rfl) ?_
        refine va_get (D := G) (ci := 7) (v := .ref (ar 32)) (C := RX10) (T := TX10) (N := 71) (ref := RX10) hx hb hts h1w hown hX.1 hP 0 rfl rfl 32 (by decide) h3w (fun _ h9 => h9) rfl dX10_bucket_138 ?_
        refine lv_iload_n hx hb dX10_bucket_141 rfl (lv_at hl 3 rfl) ?_
        refine lv_aload_n hx hb dX10_bucket_142 rfl (lv_at hl 2 rfl) ?_
        refine va_get (D := G) (ci := 7) (v := .int (Int32.ofInt (fi 28))) (C := RX10) (T := TX10) (N := 71) (ref := RX10) hx hb hts h1w hown hX.1 hP 0 rfl rfl 28 (by decide) h4w (fun _ h9 => h9) rfl dX10_bucket_143 ?_
        have rf28 := hR 28
        refine cr_i (va_runV (As := [.ref (ar 32), .int (Int32.ofInt (b0)), .int (Int32.ofInt (fi 28))]) (rest := []) ⟨hx, hb, hml, hown, hts⟩ (mX10_brokenBy_32 l G k ar (uF fi 2 (0)) fa fl b0 (fi 28) H.size (iF hR (by omega)) hRa (by omega) (hR 28) (show 0 ≤ (fi 12) ∧ (fi 12) ≤ 7 from by omega) (show 0 ≤ (fi 13) ∧ (fi 13) ≤ 4 from by omega) (show ∀ q9, 0 ≤ q9 → q9 < (fi 13) → RWf ((fa 10)) ((fa 8) q9) ((fa 9) q9) from by first | exact hRW | omega) (show b0 = 0 ∨ b0 = 1 from by omega)) (cwV 3 hts (gz [.methodLink RX10 380 yX10_brokenBy, .instanceMethod yX10_brokenBy, .selects RX10 yX10_brokenBy yX10_brokenBy, .initialized RX10] (.code yX10_brokenBy cX10_brokenBy 5 (some .int)) [(26, 8), (26, 9), (26, 10), (0, 5), (26, 11)] rfl) rfl rfl rfl (by decide +kernel) ⟨Nat.le_of_ble_eq_true rfl, Nat.le_of_ble_eq_true rfl⟩) (cr_preV (EZ_ok k) hZ hS hX hP hD hA (ci := 7) (q0 := 0) rfl rfl) rfl rfl hl.1 rfl (lv_room (Nat.le_of_ble_eq_true rfl)) dX10_bucket_146 ⟨Nat.le_of_ble_eq_true rfl, Nat.le_of_ble_eq_true rfl⟩) hD hS hA (fun r u H locs hp hP hD hS => ?_)
        obtain ⟨c12, c13, c14⟩ := u
        obtain ⟨hP, hD⟩ : va_P G vwCl (wM k ar (uF fi 2 (0)) (uF (uF fa 39 (c13)) 40 (c14)) fl) H ∧ va_D A (wM k ar (uF fi 2 (0)) (uF (uF fa 39 (c13)) 40 (c14)) fl) := ⟨hP, hD⟩
        obtain ⟨h9, rc12, rc13, rc14, hp14⟩ : r = Int32.ofInt c12 ∧ (inR c12) ∧ (∀ t, inR (c13 t)) ∧ (∀ t, inR (c14 t)) ∧ (brkP c12 (fun q => evR ((fa 10)) (vls ((fa 32)) ((fa 4)) ((fa 5)) b0 ((fi 12)) ((fa 3) 0) (fi 28)) ((fa 8) q) ((fa 9) q)) ((fi 13))) := hp
        subst h9
        have hBk146 := hp14
        exact W.iret (v := Int32.ofInt (c12)) hx hb hr (fun t ht hW => ⟨⟨Int32.ofInt (c12), (c12, c13, c14, 0), rfl, ⟨rfl, (show (inR c12) ∧ (∀ t, inR (c13 t)) ∧ (∀ t, inR (c14 t)) ∧ (inR 0) ∧ (ThB 0 (¬ (0 ≤ b0 ∧ b0 ≤ 1 ∧ 0 ≤ w0 ∧ w0 ≤ 4)) (BuP w0 c12 (gs (lc (fa 32) (fa 5) b0) (fi 12)) (sdV (gs (lc (fa 32) (fa 5) b0) (fi 12)) (fa 3 3) (buD b0 (fi 28) (fa 3 0))) (buD b0 (fi 28) (fa 3 0)) (og (bs (fa 32) b0) (fi 12)) (fun q => evR (fa 10) (vls (fa 32) (fa 4) (fa 5) b0 (fi 12) (fa 3 0) (fi 28)) (fa 8 q) (fa 9 q)) (fi 13))) from ⟨(by omega), rc13, rc14, (by omega), (by first | exact thb_x (by omega) (by omega) | exact thb_k (by omega) (by omega) (by first | exact bu_0 (by omega) hLd106 | exact bu_1 (by omega) hSd120 | exact bu_2 (by omega) hBu130 | exact bu_3 (by omega) hOg | exact bu_4 (by omega) hBk146))⟩)⟩, by rw [ht]; exact hP, hD⟩, hS.F ht⟩) hS.2.2 dX10_bucket_149
    · refine lv_iload_n hx hb dX10_bucket_34 rfl (lv_at hl 1 rfl) ?_
      refine lv_aload_n hx hb dX10_bucket_35 rfl (lv_at hl 2 rfl) ?_
      refine va_get (D := G) (ci := 7) (v := .ref (ar 32)) (C := RX10) (T := TX10) (N := 71) (ref := RX10) hx hb hts h1w hown hX.1 hP 0 rfl rfl 32 (by decide) h3w (fun _ h9 => h9) rfl dX10_bucket_36 ?_
      refine lv_iload hx hb dX10_bucket_39 (lv_at hl 0 rfl) ?_
      refine iv_iald hx hb hX.1 hP 11 0 rfl rfl (by omega) (by omega) (by decide) dX10_bucket_41 ?_
      refine iv_top (fun z15 ez15 => ?_)
      have rz15 : inR z15 := ez15 ▸ (hRa 32) _
      have ez15 : z15 = (fa 32) x4_3 := ez15
      refine lv_iload_n hx hb dX10_bucket_42 rfl (lv_at hl 3 rfl) ?_
      refine c0_i (va_runS (As := [.int (Int32.ofInt (z15)), .int (Int32.ofInt (b0))]) (rest := [.int (Int32.ofInt (x3_4))]) ⟨hx, hb, hml, hown, hts⟩ (mX10_isInBucket l G k z15 b0 H.size (by omega) (by omega) (show b0 = 0 ∨ b0 = 1 from by omega)) (cwS 2 hts (gz [.methodLink RX10 359 yX10_isInBucket, .static yX10_isInBucket, .initialized RX10] (.code yX10_isInBucket cX10_isInBucket 2 (some .boolean)) [(25, 21), (25, 22), (0, 5), (25, 23)] rfl) rfl rfl rfl (by decide +kernel) ⟨Nat.le_of_ble_eq_true rfl, Nat.le_of_ble_eq_true rfl⟩) (cr_pre0 (EZ_ok k) hZ hS hX hP hD hA) rfl rfl hl.1 rfl (lv_room (Nat.le_of_ble_eq_true rfl)) dX10_bucket_43 ⟨Nat.le_of_ble_eq_true rfl, Nat.le_of_ble_eq_true rfl⟩) hP hD hS hA (fun r u H locs hp hP hD hS => ?_)
      obtain ⟨c16, rfl⟩ : ∃ z, z = u := ⟨_, rfl⟩
      obtain ⟨h9, rc16, hp16⟩ : r = Int32.ofInt c16 ∧ (inR c16) ∧ ((c16 = 1 ∧ z15 = 12 + b0) ∨ (c16 = 0 ∧ ¬ z15 = 12 + b0)) := hp
      subst h9
      refine iv_if_eq (tgt := 56) hx hb (by omega) dX10_bucket_46 (by decide) (fun q17 => ?_) (fun q17 => ?_)
      · refine lv_iconst (v := Int32.ofInt 0) hx hb dX10_bucket_56 (by decide +kernel) ?_
        refine iv_or hx hb dX10_bucket_57 ?_
        refine iv_top (fun z18 ez18 => ?_)
        have rz18 : inR z18 := ez18 ▸ bOr_r _ _
        have hO9 := ez18
        refine lv_istore_n (lv' := [(3, .int (Int32.ofInt (z18))), (4, .int (Int32.ofInt (x4_3))), (0, .ref (ar 71)), (1, .int (Int32.ofInt (b0))), (2, .int (Int32.ofInt (w0)))]) hx hb dX10_bucket_58 rfl hl (by decide) rfl (fun ls hl => ?_)
        refine lv_iinc (v := Int32.ofInt (x4_3 + 1)) (lv' := [(4, .int (Int32.ofInt ((x4_3 + 1)))), (3, .int (Int32.ofInt (z18))), (0, .ref (ar 71)), (1, .int (Int32.ofInt (b0))), (2, .int (Int32.ofInt (w0)))]) hx hb dX10_bucket_59 hl (k := 1) rfl (Int32.ofInt_add _ _).symm (by decide) rfl (fun ls hl => ?_)
        refine lv_goto (tgt := 25) hx hb dX10_bucket_62 (by decide) ?_
        have hl : lv_has ls 5 [(4, .int (Int32.ofInt ((x4_3 + 1)))), (3, .int (Int32.ofInt (z18))), (0, .ref (ar 71)), (1, .int (Int32.ofInt (b0))), (2, .int (Int32.ofInt (w0)))] := lv_sub hl [0, 1, 2, 3, 4] rfl
        exact ih ((x4_3 + 1), z18) (show (fi 12 - (x4_3 + 1)).toNat < (fi 12 - x4_3).toNat from by omega) (show inR (x4_3 + 1) ∧ inR z18 ∧ ((0 ≤ (x4_3 + 1) ∧ (x4_3 + 1) ≤ fi 12) ∧ z18 = og (bs (fa 32) b0) (x4_3 + 1)) from ⟨(by omega), (by omega), (by first | exact ⟨by omega, og_s hJ2 (by omega) (bs_y (p := fa 32) (b := b0) (by omega) hsh9) hO9 rfl⟩ | exact ⟨by omega, og_s hJ2 (by omega) (bs_n (p := fa 32) (b := b0) (by omega) rfl) hO9 rfl⟩)⟩) _ _ _ hP hD hS hl
      · refine lv_iconst (v := Int32.ofInt 1) hx hb dX10_bucket_49 (by decide +kernel) ?_
        refine lv_iload hx hb dX10_bucket_50 (lv_at hl 0 rfl) ?_
        refine iv_shl hx hb dX10_bucket_52 ?_
        refine iv_top (fun z19 ez19 => ?_)
        have rz19 : inR z19 := ez19 ▸ bShl_r _ _
        have hsh9 := ez19
        refine lv_goto (tgt := 57) hx hb dX10_bucket_53 (by decide) ?_
        refine iv_or hx hb dX10_bucket_57 ?_
        refine iv_top (fun z20 ez20 => ?_)
        have rz20 : inR z20 := ez20 ▸ bOr_r _ _
        have hO9 := ez20
        refine lv_istore_n (lv' := [(3, .int (Int32.ofInt (z20))), (4, .int (Int32.ofInt (x4_3))), (0, .ref (ar 71)), (1, .int (Int32.ofInt (b0))), (2, .int (Int32.ofInt (w0)))]) hx hb dX10_bucket_58 rfl hl (by decide) rfl (fun ls hl => ?_)
        refine lv_iinc (v := Int32.ofInt (x4_3 + 1)) (lv' := [(4, .int (Int32.ofInt ((x4_3 + 1)))), (3, .int (Int32.ofInt (z20))), (0, .ref (ar 71)), (1, .int (Int32.ofInt (b0))), (2, .int (Int32.ofInt (w0)))]) hx hb dX10_bucket_59 hl (k := 1) rfl (Int32.ofInt_add _ _).symm (by decide) rfl (fun ls hl => ?_)
        refine lv_goto (tgt := 25) hx hb dX10_bucket_62 (by decide) ?_
        have hl : lv_has ls 5 [(4, .int (Int32.ofInt ((x4_3 + 1)))), (3, .int (Int32.ofInt (z20))), (0, .ref (ar 71)), (1, .int (Int32.ofInt (b0))), (2, .int (Int32.ofInt (w0)))] := lv_sub hl [0, 1, 2, 3, 4] rfl
        exact ih ((x4_3 + 1), z20) (show (fi 12 - (x4_3 + 1)).toNat < (fi 12 - x4_3).toNat from by omega) (show inR (x4_3 + 1) ∧ inR z20 ∧ ((0 ≤ (x4_3 + 1) ∧ (x4_3 + 1) ≤ fi 12) ∧ z20 = og (bs (fa 32) b0) (x4_3 + 1)) from ⟨(by omega), (by omega), (by first | exact ⟨by omega, og_s hJ2 (by omega) (bs_y (p := fa 32) (b := b0) (by omega) hsh9) hO9 rfl⟩ | exact ⟨by omega, og_s hJ2 (by omega) (bs_n (p := fa 32) (b := b0) (by omega) rfl) hO9 rfl⟩)⟩) _ _ _ hP hD hS hl
  · refine lv_aload_n hx hb dX10_bucket_14 rfl (lv_at hl 0 rfl) ?_
    refine lv_iconst (v := Int32.ofInt 1) hx hb dX10_bucket_15 (by decide +kernel) ?_
    refine cr_i (va_runV (As := [.int (Int32.ofInt (1))]) (rest := []) ⟨hx, hb, hml, hown, hts⟩ (mX10_fail l G k ar (uF fi 2 (0)) fa fl 1 H.size (iF hR (by omega)) hRa (by omega)) (cwV 1 hts (gz [.methodLink RX10 315 yX10_fail, .instanceMethod yX10_fail, .selects RX10 yX10_fail yX10_fail, .initialized RX10] (.code yX10_fail cX10_fail 2 (some .int)) [(16, 17), (16, 18), (16, 19), (0, 5), (16, 20)] rfl) rfl rfl rfl (by decide +kernel) ⟨Nat.le_of_ble_eq_true rfl, Nat.le_of_ble_eq_true rfl⟩) (cr_preV (EZ_ok k) hZ hS hX hP hD hA (ci := 7) (q0 := 0) rfl rfl) rfl rfl hl.1 rfl (lv_room (Nat.le_of_ble_eq_true rfl)) dX10_bucket_16 ⟨Nat.le_of_ble_eq_true rfl, Nat.le_of_ble_eq_true rfl⟩) hD hS hA (fun r u H locs hp hP hD hS => ?_)
    obtain ⟨c21, c22⟩ := u
    obtain ⟨hP, hD⟩ : va_P G vwCl (wM k ar (uF fi 2 (c22)) fa fl) H ∧ va_D A (wM k ar (uF fi 2 (c22)) fa fl) := ⟨hP, hD⟩
    obtain ⟨h9, rc21, rc22, hp22⟩ : r = Int32.ofInt c21 ∧ (inR c21) ∧ (inR c22) ∧ (c21 = 0 ∧ c22 = 1) := hp
    subst h9
    exact W.iret (v := Int32.ofInt (c21)) hx hb hr (fun t ht hW => ⟨⟨Int32.ofInt (c21), (c21, fa 39, fa 40, c22), rfl, ⟨rfl, (show (inR c21) ∧ (∀ t, inR ((fa 39) t)) ∧ (∀ t, inR ((fa 40) t)) ∧ (inR c22) ∧ (ThB c22 (¬ (0 ≤ b0 ∧ b0 ≤ 1 ∧ 0 ≤ w0 ∧ w0 ≤ 4)) (BuP w0 c21 (gs (lc (fa 32) (fa 5) b0) (fi 12)) (sdV (gs (lc (fa 32) (fa 5) b0) (fi 12)) (fa 3 3) (buD b0 (fi 28) (fa 3 0))) (buD b0 (fi 28) (fa 3 0)) (og (bs (fa 32) b0) (fi 12)) (fun q => evR (fa 10) (vls (fa 32) (fa 4) (fa 5) b0 (fi 12) (fa 3 0) (fi 28)) (fa 8 q) (fa 9 q)) (fi 13))) from ⟨(by omega), (hRa 39), (hRa 40), (by omega), (by first | exact thb_x (by omega) (by omega) | exact thb_k (by omega) (by omega) (by first | exact bu_0 (by omega) hLd106 | exact bu_1 (by omega) hSd120 | exact bu_2 (by omega) hBu130 | exact bu_3 (by omega) hOg | exact bu_4 (by omega) hBk146))⟩)⟩, by rw [ht]; exact hP, hD⟩, hS.F ht⟩) hS.2.2 dX10_bucket_19

