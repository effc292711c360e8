set_option maxHeartbeats 4000000 in
set_option maxRecDepth 100000 in
theorem mX1_copy (l : Launch) (G : va_G) (k : Nat → ClassId) (arB : Nat → Nat) (fiB : Nat → Int) (faB : Nat → Int → Int) (arK : Nat → Nat) (fiK : Nat → Int) (faK : Nat → Int → Int) (sz : Nat) (hRB : ∀ j, inR (fiB j)) (hRaB : ∀ j t, inR (faB j t)) (hRK : ∀ j, inR (fiK j)) (hRaK : ∀ j t, inR (faK j t)) : CNv l G k (EZ k) yX1_copy wzX1_copy ({ frames := 1, cells := 0, slots := 0, locals := 64 }) [.ref (arB 99), .ref (arK 99)] sz ((wB k arB fiB faB) ++ (wB k arK fiK faK)) (fun (u : (Int → Int) × (Int → Int) × (Int → Int) × (Int → Int) × (Int → Int) × (Int → Int) × (Int → Int) × Int × Int × Int × Int × Int) => (∀ t, inR (u.1 t)) ∧ (∀ t, inR (u.2.1 t)) ∧ (∀ t, inR (u.2.2.1 t)) ∧ (∀ t, inR (u.2.2.2.1 t)) ∧ (∀ t, inR (u.2.2.2.2.1 t)) ∧ (∀ t, inR (u.2.2.2.2.2.1 t)) ∧ (∀ t, inR (u.2.2.2.2.2.2.1 t)) ∧ (inR u.2.2.2.2.2.2.2.1) ∧ (inR u.2.2.2.2.2.2.2.2.1) ∧ (inR u.2.2.2.2.2.2.2.2.2.1) ∧ (inR u.2.2.2.2.2.2.2.2.2.2.1) ∧ (inR u.2.2.2.2.2.2.2.2.2.2.2) ∧ ((u.2.2.2.2.2.2.2.1 = fiK 0 ∧ u.2.2.2.2.2.2.2.2.1 = fiK 1 ∧ u.2.2.2.2.2.2.2.2.2.2.2 = fiK 4) ∧ u.1 = cpZ (faK 5) (faB 5) 60 ∧ u.2.1 = cpZ (faK 6) (faB 6) 60 ∧ u.2.2.1 = cpZ (faK 7) (faB 7) 60 ∧ u.2.2.2.1 = cpZ (faK 8) (faB 8) 60 ∧ u.2.2.2.2.2.1 = cpZ (faK 10) (faB 10) 6)) (fun (u : (Int → Int) × (Int → Int) × (Int → Int) × (Int → Int) × (Int → Int) × (Int → Int) × (Int → Int) × Int × Int × Int × Int × Int) => ((wB k arB (uF (uF (uF (uF (uF fiB 0 (u.2.2.2.2.2.2.2.1)) 1 (u.2.2.2.2.2.2.2.2.1)) 2 (u.2.2.2.2.2.2.2.2.2.1)) 3 (u.2.2.2.2.2.2.2.2.2.2.1)) 4 (u.2.2.2.2.2.2.2.2.2.2.2)) (uF (uF (uF (uF (uF (uF (uF faB 5 (u.1)) 6 (u.2.1)) 7 (u.2.2.1)) 8 (u.2.2.2.1)) 9 (u.2.2.2.2.1)) 10 (u.2.2.2.2.2.1)) 11 (u.2.2.2.2.2.2.1))) ++ (wB k arK fiK faK))) := by
  refine Met.ofW (cc := cX1_copy) (maxL := 2) (ret := none) (by decide) rfl ?_
  intro p e s m args below meth c s₁ B hml hv
  obtain ⟨rfl, hsz, hP, hX, hD0, hZ0⟩ := hv
  have hx := B.exec
  have hb := B.bytes
  have hr := B.returns
  have hts := atoms_spec (ws := wzX1_copy) B.pre
  have hown : s.vm.findClass RX1 = some m.cls := findClass_of_methodNamed B.named
  subst hsz
  have hD := hD0.self (sz := s.heap.size)
  have hZ := hZ0
  generalize hAe : va_A ((wB k arB fiB faB) ++ (wB k arK fiK faK)) s.heap.size = A at hD hZ ⊢
  have hA : ∀ q : Nat, s.heap.size ≤ q → A q := fun q h => by rw [← hAe]; exact Or.inr h
  have hS : va_S A s.heap s.heap [] := va_S.rf
  have hl := lv_entry ([.ref (arB 99), .ref (arK 99)]) (n := 2) (Nat.le_of_ble_eq_true rfl)
  rw [lg_entry_eq]
  generalize (lg_sl ([.ref (arB 99), .ref (arK 99)]) ++ List.replicate (2 - (lg_sl ([.ref (arB 99), .ref (arK 99)])).length) Slot.unset).toArray = ls at hl ⊢
  have hl : lv_has ls 2 [(0, .ref (arB 99)), (1, .ref (arK 99))] := hl
  obtain ⟨H, eH⟩ : ∃ H, H = s.heap := ⟨_, rfl⟩
  rw [← eH] at hP
  have hS : va_S A s.heap H [] := by rw [eH]; exact hS
  have gW : s.heap = H := eH.symm
  refine iv_heap gW ?_
  have h0w := hts (.fieldLink RX1 33 "RopeTown$Book" "state" "I") (wz_at 5 18 rfl)
  have h1w : ∀ w ∈ wsX10, w ∈ wzX1_copy := fun w h => List.mem_cons_of_mem _ (inlX1 w h)
  have h2w := hts (.fieldLink RX1 37 "RopeTown$Book" "moves" "I") (wz_at 5 19 rfl)
  have h3w := hts (.fieldLink RX1 40 "RopeTown$Book" "rides" "I") (wz_at 5 20 rfl)
  have h4w := hts (.fieldLink RX1 43 "RopeTown$Book" "cost" "I") (wz_at 5 21 rfl)
  have h5w := hts (.fieldLink RX1 46 "RopeTown$Book" "days" "I") (wz_at 5 22 rfl)
  have h6w := hts (.fieldLink RX1 9 "RopeTown$Book" "which" "[I") (wz_at 4 4 rfl)
  have h7w := hts (.methodLink RX1 49 arraycopyName) (wz_at 41 17 rfl)
  have h8w := hts (.native arraycopyName) (wz_at 41 18 rfl)
  have h9w := hts (.static arraycopyName) (wz_at 41 19 rfl)
  have h10w := hts (.initialized "java/lang/System") (wz_at 41 20 rfl)
  have h11w := hts (.fieldLink RX1 15 "RopeTown$Book" "target" "[I") (wz_at 4 5 rfl)
  have h12w := hts (.fieldLink RX1 18 "RopeTown$Book" "manner" "[I") (wz_at 4 6 rfl)
  have h13w := hts (.fieldLink RX1 21 "RopeTown$Book" "before" "[I") (wz_at 4 7 rfl)
  have h14w := hts (.fieldLink RX1 24 "RopeTown$Book" "wound" "[I") (wz_at 4 8 rfl)
  have h15w := hts (.fieldLink RX1 27 "RopeTown$Book" "day" "[I") (wz_at 4 9 rfl)
  have h16w := hts (.fieldLink RX1 30 "RopeTown$Book" "status" "[I") (wz_at 4 10 rfl)
  refine lv_aload_n hx hb dX1_copy_0 rfl (lv_at hl 0 rfl) ?_
  refine lv_aload_n hx hb dX1_copy_1 rfl (lv_at hl 1 rfl) ?_
  refine va_get (D := G) (ci := 0) (v := .int (Int32.ofInt (fiK 0))) (C := RX1) (T := TX1) (N := 12) (ref := RX1) hx hb hts h1w hown hX.1 hP 8 rfl rfl 0 (by decide) h0w (fun _ h9 => h9) rfl dX1_copy_2 ?_
  have rf0K := hRK 0
  refine iv_put (ci := 0) (v := .int (Int32.ofInt (fiK 0))) (ty := .int) (C := RX1) (T := TX1) (N := 12) (ref := RX1) hx hb hts h1w tyX1 tyX1_ok nmX1 hown hX.1 hP hD hS 0 rfl rfl 0 (by decide) h0w (fun _ h9 => h9) rfl (by decide +kernel) rfl rfl (Nat.le_of_ble_eq_true rfl) (show _ = ((wB k arB (uF fiB 0 (fiK 0)) faB) ++ (wB k arK fiK faK)) from rfl) dX1_copy_5 (fun H locs hP hD hS => ?_)
  refine lv_aload_n hx hb dX1_copy_8 rfl (lv_at hl 0 rfl) ?_
  refine lv_aload_n hx hb dX1_copy_9 rfl (lv_at hl 1 rfl) ?_
  refine va_get (D := G) (ci := 0) (v := .int (Int32.ofInt (fiK 1))) (C := RX1) (T := TX1) (N := 12) (ref := RX1) hx hb hts h1w hown hX.1 hP 8 rfl rfl 1 (by decide) h2w (fun _ h9 => h9) rfl dX1_copy_10 ?_
  have rf1K := hRK 1
  refine iv_put (ci := 0) (v := .int (Int32.ofInt (fiK 1))) (ty := .int) (C := RX1) (T := TX1) (N := 12) (ref := RX1) hx hb hts h1w tyX1 tyX1_ok nmX1 hown hX.1 hP hD hS 0 rfl rfl 1 (by decide) h2w (fun _ h9 => h9) rfl (by decide +kernel) rfl rfl (Nat.le_of_ble_eq_true rfl) (show _ = ((wB k arB (uF (uF fiB 0 (fiK 0)) 1 (fiK 1)) faB) ++ (wB k arK fiK faK)) from rfl) dX1_copy_13 (fun H locs hP hD hS => ?_)
  refine lv_aload_n hx hb dX1_copy_16 rfl (lv_at hl 0 rfl) ?_
  refine lv_aload_n hx hb dX1_copy_17 rfl (lv_at hl 1 rfl) ?_
  refine va_get (D := G) (ci := 0) (v := .int (Int32.ofInt (fiK 2))) (C := RX1) (T := TX1) (N := 12) (ref := RX1) hx hb hts h1w hown hX.1 hP 8 rfl rfl 2 (by decide) h3w (fun _ h9 => h9) rfl dX1_copy_18 ?_
  have rf2K := hRK 2
  refine iv_put (ci := 0) (v := .int (Int32.ofInt (fiK 2))) (ty := .int) (C := RX1) (T := TX1) (N := 12) (ref := RX1) hx hb hts h1w tyX1 tyX1_ok nmX1 hown hX.1 hP hD hS 0 rfl rfl 2 (by decide) h3w (fun _ h9 => h9) rfl (by decide +kernel) rfl rfl (Nat.le_of_ble_eq_true rfl) (show _ = ((wB k arB (uF (uF (uF fiB 0 (fiK 0)) 1 (fiK 1)) 2 (fiK 2)) faB) ++ (wB k arK fiK faK)) from rfl) dX1_copy_21 (fun H locs hP hD hS => ?_)
  refine lv_aload_n hx hb dX1_copy_24 rfl (lv_at hl 0 rfl) ?_
  refine lv_aload_n hx hb dX1_copy_25 rfl (lv_at hl 1 rfl) ?_
  refine va_get (D := G) (ci := 0) (v := .int (Int32.ofInt (fiK 3))) (C := RX1) (T := TX1) (N := 12) (ref := RX1) hx hb hts h1w hown hX.1 hP 8 rfl rfl 3 (by decide) h4w (fun _ h9 => h9) rfl dX1_copy_26 ?_
  have rf3K := hRK 3
  refine iv_put (ci := 0) (v := .int (Int32.ofInt (fiK 3))) (ty := .int) (C := RX1) (T := TX1) (N := 12) (ref := RX1) hx hb hts h1w tyX1 tyX1_ok nmX1 hown hX.1 hP hD hS 0 rfl rfl 3 (by decide) h4w (fun _ h9 => h9) rfl (by decide +kernel) rfl rfl (Nat.le_of_ble_eq_true rfl) (show _ = ((wB k arB (uF (uF (uF (uF fiB 0 (fiK 0)) 1 (fiK 1)) 2 (fiK 2)) 3 (fiK 3)) faB) ++ (wB k arK fiK faK)) from rfl) dX1_copy_29 (fun H locs hP hD hS => ?_)
  refine lv_aload_n hx hb dX1_copy_32 rfl (lv_at hl 0 rfl) ?_
  refine lv_aload_n hx hb dX1_copy_33 rfl (lv_at hl 1 rfl) ?_
  refine va_get (D := G) (ci := 0) (v := .int (Int32.ofInt (fiK 4))) (C := RX1) (T := TX1) (N := 12) (ref := RX1) hx hb hts h1w hown hX.1 hP 8 rfl rfl 4 (by decide) h5w (fun _ h9 => h9) rfl dX1_copy_34 ?_
  have rf4K := hRK 4
  refine iv_put (ci := 0) (v := .int (Int32.ofInt (fiK 4))) (ty := .int) (C := RX1) (T := TX1) (N := 12) (ref := RX1) hx hb hts h1w tyX1 tyX1_ok nmX1 hown hX.1 hP hD hS 0 rfl rfl 4 (by decide) h5w (fun _ h9 => h9) rfl (by decide +kernel) rfl rfl (Nat.le_of_ble_eq_true rfl) (show _ = ((wB k arB (uF (uF (uF (uF (uF fiB 0 (fiK 0)) 1 (fiK 1)) 2 (fiK 2)) 3 (fiK 3)) 4 (fiK 4)) faB) ++ (wB k arK fiK faK)) from rfl) dX1_copy_37 (fun H locs hP hD hS => ?_)
  refine lv_aload_n hx hb dX1_copy_40 rfl (lv_at hl 1 rfl) ?_
  refine va_get (D := G) (ci := 0) (v := .ref (arK 5)) (C := RX1) (T := TX1) (N := 12) (ref := RX1) hx hb hts h1w hown hX.1 hP 8 rfl rfl 5 (by decide) h6w (fun _ h9 => h9) rfl dX1_copy_41 ?_
  refine lv_iconst (v := Int32.ofInt 0) hx hb dX1_copy_44 (by decide +kernel) ?_
  refine lv_aload_n hx hb dX1_copy_45 rfl (lv_at hl 0 rfl) ?_
  refine va_get (D := G) (ci := 0) (v := .ref (arB 5)) (C := RX1) (T := TX1) (N := 12) (ref := RX1) hx hb hts h1w hown hX.1 hP 0 rfl rfl 5 (by decide) h6w (fun _ h9 => h9) rfl dX1_copy_46 ?_
  refine lv_iconst (v := Int32.ofInt 0) hx hb dX1_copy_49 (by decide +kernel) ?_
  refine lv_bipush (v := Int32.ofInt 60) hx hb dX1_copy_50 (by decide +kernel) ?_
  refine iv_cpy (n := 60) hx hb (hml.trans hl.1.symm) hown h7w h8w h9w h10w hX.1 hP hD hS 9 1 0 0 rfl rfl rfl rfl (fun g' => show _ = ((wB k arB (uF (uF (uF (uF (uF fiB 0 (fiK 0)) 1 (fiK 1)) 2 (fiK 2)) 3 (fiK 3)) 4 (fiK 4)) (uF faB 5 (g'))) ++ (wB k arK fiK faK)) from rfl) (by decide) (Nat.le_of_ble_eq_true rfl) (Nat.le_of_ble_eq_true rfl) dX1_copy_52 (fun H locs hP hD hS => ?_)
  obtain ⟨g1, eg1, rg1⟩ : ∃ z, z = cpZ (faK 5) (faB 5) 60 ∧ ∀ t, inR (z t) := ⟨_, rfl, cpZ_r (hRaK 5) (hRaB 5)⟩
  rw [← eg1] at hP hD
  refine lv_aload_n hx hb dX1_copy_55 rfl (lv_at hl 1 rfl) ?_
  refine va_get (D := G) (ci := 0) (v := .ref (arK 6)) (C := RX1) (T := TX1) (N := 12) (ref := RX1) hx hb hts h1w hown hX.1 hP 8 rfl rfl 6 (by decide) h11w (fun _ h9 => h9) rfl dX1_copy_56 ?_
  refine lv_iconst (v := Int32.ofInt 0) hx hb dX1_copy_59 (by decide +kernel) ?_
  refine lv_aload_n hx hb dX1_copy_60 rfl (lv_at hl 0 rfl) ?_
  refine va_get (D := G) (ci := 0) (v := .ref (arB 6)) (C := RX1) (T := TX1) (N := 12) (ref := RX1) hx hb hts h1w hown hX.1 hP 0 rfl rfl 6 (by decide) h11w (fun _ h9 => h9) rfl dX1_copy_61 ?_
  refine lv_iconst (v := Int32.ofInt 0) hx hb dX1_copy_64 (by decide +kernel) ?_
  refine lv_bipush (v := Int32.ofInt 60) hx hb dX1_copy_65 (by decide +kernel) ?_
  refine iv_cpy (n := 60) hx hb (hml.trans hl.1.symm) hown h7w h8w h9w h10w hX.1 hP hD hS 10 2 0 0 rfl rfl rfl rfl (fun g' => show _ = ((wB k arB (uF (uF (uF (uF (uF fiB 0 (fiK 0)) 1 (fiK 1)) 2 (fiK 2)) 3 (fiK 3)) 4 (fiK 4)) (uF (uF faB 5 (g1)) 6 (g'))) ++ (wB k arK fiK faK)) from rfl) (by decide) (Nat.le_of_ble_eq_true rfl) (Nat.le_of_ble_eq_true rfl) dX1_copy_67 (fun H locs hP hD hS => ?_)
  obtain ⟨hP, hD⟩ : va_P G vwCl ((wB k arB (uF (uF (uF (uF (uF fiB 0 (fiK 0)) 1 (fiK 1)) 2 (fiK 2)) 3 (fiK 3)) 4 (fiK 4)) (uF (uF faB 5 (g1)) 6 (cpZ (faK 6) (faB 6) 60))) ++ (wB k arK fiK faK)) H ∧ va_D A ((wB k arB (uF (uF (uF (uF (uF fiB 0 (fiK 0)) 1 (fiK 1)) 2 (fiK 2)) 3 (fiK 3)) 4 (fiK 4)) (uF (uF faB 5 (g1)) 6 (cpZ (faK 6) (faB 6) 60))) ++ (wB k arK fiK faK)) := ⟨hP, hD⟩
  obtain ⟨g2, eg2, rg2⟩ : ∃ z, z = cpZ (faK 6) (faB 6) 60 ∧ ∀ t, inR (z t) := ⟨_, rfl, cpZ_r (hRaK 6) (hRaB 6)⟩
  rw [← eg2] at hP hD
  refine lv_aload_n hx hb dX1_copy_70 rfl (lv_at hl 1 rfl) ?_
  refine va_get (D := G) (ci := 0) (v := .ref (arK 7)) (C := RX1) (T := TX1) (N := 12) (ref := RX1) hx hb hts h1w hown hX.1 hP 8 rfl rfl 7 (by decide) h12w (fun _ h9 => h9) rfl dX1_copy_71 ?_
  refine lv_iconst (v := Int32.ofInt 0) hx hb dX1_copy_74 (by decide +kernel) ?_
  refine lv_aload_n hx hb dX1_copy_75 rfl (lv_at hl 0 rfl) ?_
  refine va_get (D := G) (ci := 0) (v := .ref (arB 7)) (C := RX1) (T := TX1) (N := 12) (ref := RX1) hx hb hts h1w hown hX.1 hP 0 rfl rfl 7 (by decide) h12w (fun _ h9 => h9) rfl dX1_copy_76 ?_
  refine lv_iconst (v := Int32.ofInt 0) hx hb dX1_copy_79 (by decide +kernel) ?_
  refine lv_bipush (v := Int32.ofInt 60) hx hb dX1_copy_80 (by decide +kernel) ?_
  refine iv_cpy (n := 60) hx hb (hml.trans hl.1.symm) hown h7w h8w h9w h10w hX.1 hP hD hS 11 3 0 0 rfl rfl rfl rfl (fun g' => show _ = ((wB k arB (uF (uF (uF (uF (uF fiB 0 (fiK 0)) 1 (fiK 1)) 2 (fiK 2)) 3 (fiK 3)) 4 (fiK 4)) (uF (uF (uF faB 5 (g1)) 6 (g2)) 7 (g'))) ++ (wB k arK fiK faK)) from rfl) (by decide) (Nat.le_of_ble_eq_true rfl) (Nat.le_of_ble_eq_true rfl) dX1_copy_82 (fun H locs hP hD hS => ?_)
  obtain ⟨hP, hD⟩ : va_P G vwCl ((wB k arB (uF (uF (uF (uF (uF fiB 0 (fiK 0)) 1 (fiK 1)) 2 (fiK 2)) 3 (fiK 3)) 4 (fiK 4)) (uF (uF (uF faB 5 (g1)) 6 (g2)) 7 (cpZ (faK 7) (faB 7) 60))) ++ (wB k arK fiK faK)) H ∧ va_D A ((wB k arB (uF (uF (uF (uF (uF fiB 0 (fiK 0)) 1 (fiK 1)) 2 (fiK 2)) 3 (fiK 3)) 4 (fiK 4)) (uF (uF (uF faB 5 (g1)) 6 (g2)) 7 (cpZ (faK 7) (faB 7) 60))) ++ (wB k arK fiK faK)) := ⟨hP, hD⟩
  obtain ⟨g3, eg3, rg3⟩ : ∃ z, z = cpZ (faK 7) (faB 7) 60 ∧ ∀ t, inR (z t) := ⟨_, rfl, cpZ_r (hRaK 7) (hRaB 7)⟩
  rw [← eg3] at hP hD
  refine lv_aload_n hx hb dX1_copy_85 rfl (lv_at hl 1 rfl) ?_
  refine va_get (D := G) (ci := 0) (v := .ref (arK 8)) (C := RX1) (T := TX1) (N := 12) (ref := RX1) hx hb hts h1w hown hX.1 hP 8 rfl rfl 8 (by decide) h13w (fun _ h9 => h9) rfl dX1_copy_86 ?_
  refine lv_iconst (v := Int32.ofInt 0) hx hb dX1_copy_89 (by decide +kernel) ?_
  refine lv_aload_n hx hb dX1_copy_90 rfl (lv_at hl 0 rfl) ?_
  refine va_get (D := G) (ci := 0) (v := .ref (arB 8)) (C := RX1) (T := TX1) (N := 12) (ref := RX1) hx hb hts h1w hown hX.1 hP 0 rfl rfl 8 (by decide) h13w (fun _ h9 => h9) rfl dX1_copy_91 ?_
  refine lv_iconst (v := Int32.ofInt 0) hx hb dX1_copy_94 (by decide +kernel) ?_
  refine lv_bipush (v := Int32.ofInt 60) hx hb dX1_copy_95 (by decide +kernel) ?_
  refine iv_cpy (n := 60) hx hb (hml.trans hl.1.symm) hown h7w h8w h9w h10w hX.1 hP hD hS 12 4 0 0 rfl rfl rfl rfl (fun g' => show _ = ((wB k arB (uF (uF (uF (uF (uF fiB 0 (fiK 0)) 1 (fiK 1)) 2 (fiK 2)) 3 (fiK 3)) 4 (fiK 4)) (uF (uF (uF (uF faB 5 (g1)) 6 (g2)) 7 (g3)) 8 (g'))) ++ (wB k arK fiK faK)) from rfl) (by decide) (Nat.le_of_ble_eq_true rfl) (Nat.le_of_ble_eq_true rfl) dX1_copy_97 (fun H locs hP hD hS => ?_)
  obtain ⟨hP, hD⟩ : va_P G vwCl ((wB k arB (uF (uF (uF (uF (uF fiB 0 (fiK 0)) 1 (fiK 1)) 2 (fiK 2)) 3 (fiK 3)) 4 (fiK 4)) (uF (uF (uF (uF faB 5 (g1)) 6 (g2)) 7 (g3)) 8 (cpZ (faK 8) (faB 8) 60))) ++ (wB k arK fiK faK)) H ∧ va_D A ((wB k arB (uF (uF (uF (uF (uF fiB 0 (fiK 0)) 1 (fiK 1)) 2 (fiK 2)) 3 (fiK 3)) 4 (fiK 4)) (uF (uF (uF (uF faB 5 (g1)) 6 (g2)) 7 (g3)) 8 (cpZ (faK 8) (faB 8) 60))) ++ (wB k arK fiK faK)) := ⟨hP, hD⟩
  obtain ⟨g4, eg4, rg4⟩ : ∃ z, z = cpZ (faK 8) (faB 8) 60 ∧ ∀ t, inR (z t) := ⟨_, rfl, cpZ_r (hRaK 8) (hRaB 8)⟩
  rw [← eg4] at hP hD
  refine lv_aload_n hx hb dX1_copy_100 rfl (lv_at hl 1 rfl) ?_
  refine va_get (D := G) (ci := 0) (v := .ref (arK 9)) (C := RX1) (T := TX1) (N := 12) (ref := RX1) hx hb hts h1w hown hX.1 hP 8 rfl rfl 9 (by decide) h14w (fun _ h9 => h9) rfl dX1_copy_101 ?_
  refine lv_iconst (v := Int32.ofInt 0) hx hb dX1_copy_104 (by decide +kernel) ?_
  refine lv_aload_n hx hb dX1_copy_105 rfl (lv_at hl 0 rfl) ?_
  refine va_get (D := G) (ci := 0) (v := .ref (arB 9)) (C := RX1) (T := TX1) (N := 12) (ref := RX1) hx hb hts h1w hown hX.1 hP 0 rfl rfl 9 (by decide) h14w (fun _ h9 => h9) rfl dX1_copy_106 ?_
  refine lv_iconst (v := Int32.ofInt 0) hx hb dX1_copy_109 (by decide +kernel) ?_
  refine lv_bipush (v := Int32.ofInt 60) hx hb dX1_copy_110 (by decide +kernel) ?_
  refine iv_cpy (n := 60) hx hb (hml.trans hl.1.symm) hown h7w h8w h9w h10w hX.1 hP hD hS 13 5 0 0 rfl rfl rfl rfl (fun g' => show _ = ((wB k arB (uF (uF (uF (uF (uF fiB 0 (fiK 0)) 1 (fiK 1)) 2 (fiK 2)) 3 (fiK 3)) 4 (fiK 4)) (uF (uF (uF (uF (uF faB 5 (g1)) 6 (g2)) 7 (g3)) 8 (g4)) 9 (g'))) ++ (wB k arK fiK faK)) from rfl) (by decide) (Nat.le_of_ble_eq_true rfl) (Nat.le_of_ble_eq_true rfl) dX1_copy_112 (fun H locs hP hD hS => ?_)
  obtain ⟨hP, hD⟩ : va_P G vwCl ((wB k arB (uF (uF (uF (uF (uF fiB 0 (fiK 0)) 1 (fiK 1)) 2 (fiK 2)) 3 (fiK 3)) 4 (fiK 4)) (uF (uF (uF (uF (uF faB 5 (g1)) 6 (g2)) 7 (g3)) 8 (g4)) 9 (cpZ (faK 9) (faB 9) 60))) ++ (wB k arK fiK faK)) H ∧ va_D A ((wB k arB (uF (uF (uF (uF (uF fiB 0 (fiK 0)) 1 (fiK 1)) 2 (fiK 2)) 3 (fiK 3)) 4 (fiK 4)) (uF (uF (uF (uF (uF faB 5 (g1)) 6 (g2)) 7 (g3)) 8 (g4)) 9 (cpZ (faK 9) (faB 9) 60))) ++ (wB k arK fiK faK)) := ⟨hP, hD⟩
  obtain ⟨g5, eg5, rg5⟩ : ∃ z, z = cpZ (faK 9) (faB 9) 60 ∧ ∀ t, inR (z t) := ⟨_, rfl, cpZ_r (hRaK 9) (hRaB 9)⟩
  rw [← eg5] at hP hD
  refine lv_aload_n hx hb dX1_copy_115 rfl (lv_at hl 1 rfl) ?_
  refine va_get (D := G) (ci := 0) (v := .ref (arK 10)) (C := RX1) (T := TX1) (N := 12) (ref := RX1) hx hb hts h1w hown hX.1 hP 8 rfl rfl 10 (by decide) h15w (fun _ h9 => h9) rfl dX1_copy_116 ?_
  refine lv_iconst (v := Int32.ofInt 0) hx hb dX1_copy_119 (by decide +kernel) ?_
  refine lv_aload_n hx hb dX1_copy_120 rfl (lv_at hl 0 rfl) ?_
  refine va_get (D := G) (ci := 0) (v := .ref (arB 10)) (C := RX1) (T := TX1) (N := 12) (ref := RX1) hx hb hts h1w hown hX.1 hP 0 rfl rfl 10 (by decide) h15w (fun _ h9 => h9) rfl dX1_copy_121 ?_
  refine lv_iconst (v := Int32.ofInt 0) hx hb dX1_copy_124 (by decide +kernel) ?_
  refine lv_bipush (v := Int32.ofInt 6) hx hb dX1_copy_125 (by decide +kernel) ?_
  refine iv_cpy (n := 6) hx hb (hml.trans hl.1.symm) hown h7w h8w h9w h10w hX.1 hP hD hS 14 6 0 0 rfl rfl rfl rfl (fun g' => show _ = ((wB k arB (uF (uF (uF (uF (uF fiB 0 (fiK 0)) 1 (fiK 1)) 2 (fiK 2)) 3 (fiK 3)) 4 (fiK 4)) (uF (uF (uF (uF (uF (uF faB 5 (g1)) 6 (g2)) 7 (g3)) 8 (g4)) 9 (g5)) 10 (g'))) ++ (wB k arK fiK faK)) from rfl) (by decide) (Nat.le_of_ble_eq_true rfl) (Nat.le_of_ble_eq_true rfl) dX1_copy_127 (fun H locs hP hD hS => ?_)
  obtain ⟨hP, hD⟩ : va_P G vwCl ((wB k arB (uF (uF (uF (uF (uF fiB 0 (fiK 0)) 1 (fiK 1)) 2 (fiK 2)) 3 (fiK 3)) 4 (fiK 4)) (uF (uF (uF (uF (uF (uF faB 5 (g1)) 6 (g2)) 7 (g3)) 8 (g4)) 9 (g5)) 10 (cpZ (faK 10) (faB 10) 6))) ++ (wB k arK fiK faK)) H ∧ va_D A ((wB k arB (uF (uF (uF (uF (uF fiB 0 (fiK 0)) 1 (fiK 1)) 2 (fiK 2)) 3 (fiK 3)) 4 (fiK 4)) (uF (uF (uF (uF (uF (uF faB 5 (g1)) 6 (g2)) 7 (g3)) 8 (g4)) 9 (g5)) 10 (cpZ (faK 10) (faB 10) 6))) ++ (wB k arK fiK faK)) := ⟨hP, hD⟩
  obtain ⟨g6, eg6, rg6⟩ : ∃ z, z = cpZ (faK 10) (faB 10) 6 ∧ ∀ t, inR (z t) := ⟨_, rfl, cpZ_r (hRaK 10) (hRaB 10)⟩
  rw [← eg6] at hP hD
  refine lv_aload_n hx hb dX1_copy_130 rfl (lv_at hl 1 rfl) ?_
  refine va_get (D := G) (ci := 0) (v := .ref (arK 11)) (C := RX1) (T := TX1) (N := 12) (ref := RX1) hx hb hts h1w hown hX.1 hP 8 rfl rfl 11 (by decide) h16w (fun _ h9 => h9) rfl dX1_copy_131 ?_
  refine lv_iconst (v := Int32.ofInt 0) hx hb dX1_copy_134 (by decide +kernel) ?_
  refine lv_aload_n hx hb dX1_copy_135 rfl (lv_at hl 0 rfl) ?_
  refine va_get (D := G) (ci := 0) (v := .ref (arB 11)) (C := RX1) (T := TX1) (N := 12) (ref := RX1) hx hb hts h1w hown hX.1 hP 0 rfl rfl 11 (by decide) h16w (fun _ h9 => h9) rfl dX1_copy_136 ?_
  refine lv_iconst (v := Int32.ofInt 0) hx hb dX1_copy_139 (by decide +kernel) ?_
  refine lv_aload_n hx hb dX1_copy_140 rfl (lv_at hl 0 rfl) ?_
  refine va_get (D := G) (ci := 0) (v := .ref (arB 11)) (C := RX1) (T := TX1) (N := 12) (ref := RX1) hx hb hts h1w hown hX.1 hP 0 rfl rfl 11 (by decide) h16w (fun _ h9 => h9) rfl dX1_copy_141 ?_
  refine va_alen (v := Int32.ofInt 3) hx hb hX.1 hP 7 0 rfl rfl (show Int32.ofNat 3 = Int32.ofInt 3 from by decide) dX1_copy_144 ?_
  refine iv_cpy (n := 3) hx hb (hml.trans hl.1.symm) hown h7w h8w h9w h10w hX.1 hP hD hS 15 7 0 0 rfl rfl rfl rfl (fun g' => show _ = ((wB k arB (uF (uF (uF (uF (uF fiB 0 (fiK 0)) 1 (fiK 1)) 2 (fiK 2)) 3 (fiK 3)) 4 (fiK 4)) (uF (uF (uF (uF (uF (uF (uF faB 5 (g1)) 6 (g2)) 7 (g3)) 8 (g4)) 9 (g5)) 10 (g6)) 11 (g'))) ++ (wB k arK fiK faK)) from rfl) (by decide) (Nat.le_of_ble_eq_true rfl) (Nat.le_of_ble_eq_true rfl) dX1_copy_145 (fun H locs hP hD hS => ?_)
  obtain ⟨hP, hD⟩ : va_P G vwCl ((wB k arB (uF (uF (uF (uF (uF fiB 0 (fiK 0)) 1 (fiK 1)) 2 (fiK 2)) 3 (fiK 3)) 4 (fiK 4)) (uF (uF (uF (uF (uF (uF (uF faB 5 (g1)) 6 (g2)) 7 (g3)) 8 (g4)) 9 (g5)) 10 (g6)) 11 (cpZ (faK 11) (faB 11) 3))) ++ (wB k arK fiK faK)) H ∧ va_D A ((wB k arB (uF (uF (uF (uF (uF fiB 0 (fiK 0)) 1 (fiK 1)) 2 (fiK 2)) 3 (fiK 3)) 4 (fiK 4)) (uF (uF (uF (uF (uF (uF (uF faB 5 (g1)) 6 (g2)) 7 (g3)) 8 (g4)) 9 (g5)) 10 (g6)) 11 (cpZ (faK 11) (faB 11) 3))) ++ (wB k arK fiK faK)) := ⟨hP, hD⟩
  obtain ⟨g7, eg7, rg7⟩ : ∃ z, z = cpZ (faK 11) (faB 11) 3 ∧ ∀ t, inR (z t) := ⟨_, rfl, cpZ_r (hRaK 11) (hRaB 11)⟩
  rw [← eg7] at hP hD
  exact W.vret hx hb hr (fun t ht hW => ⟨⟨(g1, g2, g3, g4, g5, g6, g7, fiK 0, fiK 1, fiK 2, fiK 3, fiK 4), rfl, (show (∀ t, inR (g1 t)) ∧ (∀ t, inR (g2 t)) ∧ (∀ t, inR (g3 t)) ∧ (∀ t, inR (g4 t)) ∧ (∀ t, inR (g5 t)) ∧ (∀ t, inR (g6 t)) ∧ (∀ t, inR (g7 t)) ∧ (inR (fiK 0)) ∧ (inR (fiK 1)) ∧ (inR (fiK 2)) ∧ (inR (fiK 3)) ∧ (inR (fiK 4)) ∧ (((fiK 0) = fiK 0 ∧ (fiK 1) = fiK 1 ∧ (fiK 4) = fiK 4) ∧ g1 = cpZ (faK 5) (faB 5) 60 ∧ g2 = cpZ (faK 6) (faB 6) 60 ∧ g3 = cpZ (faK 7) (faB 7) 60 ∧ g4 = cpZ (faK 8) (faB 8) 60 ∧ g6 = cpZ (faK 10) (faB 10) 6) from ⟨rg1, rg2, rg3, rg4, rg5, rg6, rg7, (hRK 0), (hRK 1), (hRK 2), (hRK 3), (hRK 4), (by exact ⟨⟨rfl, rfl, rfl⟩, eg1, eg2, eg3, eg4, eg6⟩)⟩), by rw [ht]; exact hP, hD⟩, hS.F ht⟩) hS.2.2 dX1_copy_148

set_option maxHeartbeats 4000000 in
set_option maxRecDepth 100000 in
theorem mX9_append (l : Launch) (G : va_G) (k : Nat → ClassId) (arT : Nat → Nat) (paT : Nat) (ppT : Nat) (pdT : Nat) (pbT : Nat) (pkT : Nat) (psT : Nat) (fiT : Nat → Int) (faT : Nat → Int → Int) (arY : Nat → Nat) (fiY : Nat → Int) (faY : Nat → Int → Int) (a0 : Int) (sz : Nat) (hRT : ∀ j, inR (fiT j)) (hRaT : ∀ j t, inR (faT j t)) (hRY : ∀ j, inR (fiY j)) (hRaY : ∀ j t, inR (faY j t)) (hB0Y : bnd (faY 0) 600 (-128) 128) (hr_a0 : inR a0) (hfd : 0 ≤ fiT 1 ∧ fiT 1 ≤ 596) : CNv l G k (EZ k) yX9_append wzX9_append ({ frames := 0, cells := 0, slots := 0, locals := 0 }) [.ref (arT 99), .int (Int32.ofInt (a0))] sz ((wT k arT (arY 0) (paT) (ppT) (pdT) (pbT) (pkT) (psT) fiT faT) ++ (wY k arY fiY faY)) (fun (u : Int × (Int → Int)) => (inR u.1) ∧ (∀ t, inR (u.2 t)) ∧ (bnd u.2 600 (-128) 128) ∧ (u.1 = fiT 1 + 4 ∧ u.2 = apV (faY 0) (fiT 1) 4 a0)) (fun (u : Int × (Int → Int)) => ((wT k arT (arY 0) (paT) (ppT) (pdT) (pbT) (pkT) (psT) (uF fiT 1 (u.1)) faT) ++ (wY k arY fiY (uF faY 0 (u.2))))) := by
  refine Met.ofW (cc := cX9_append) (maxL := 3) (ret := none) (by decide) rfl ?_
  intro p e s m args below meth c s₁ B hml hv
  obtain ⟨rfl, hsz, hP, hX, hD0, hZ0⟩ := hv
  have hx := B.exec
  have hb := B.bytes
  have hr := B.returns
  have hts := atoms_spec (ws := wzX9_append) B.pre
  have hown : s.vm.findClass RX9 = some m.cls := findClass_of_methodNamed B.named
  subst hsz
  have hD := hD0.self (sz := s.heap.size)
  have hZ := hZ0
  generalize hAe : va_A ((wT k arT (arY 0) (paT) (ppT) (pdT) (pbT) (pkT) (psT) fiT faT) ++ (wY k arY fiY faY)) s.heap.size = A at hD hZ ⊢
  have hA : ∀ q : Nat, s.heap.size ≤ q → A q := fun q h => by rw [← hAe]; exact Or.inr h
  have hS : va_S A s.heap s.heap [] := va_S.rf
  have hl := lv_entry ([.ref (arT 99), .int (Int32.ofInt (a0))]) (n := 3) (Nat.le_of_ble_eq_true rfl)
  rw [lg_entry_eq]
  generalize (lg_sl ([.ref (arT 99), .int (Int32.ofInt (a0))]) ++ List.replicate (3 - (lg_sl ([.ref (arT 99), .int (Int32.ofInt (a0))])).length) Slot.unset).toArray = ls at hl ⊢
  have hl : lv_has ls 3 [(0, .ref (arT 99)), (1, .int (Int32.ofInt (a0)))] := hl
  obtain ⟨H, eH⟩ : ∃ H, H = s.heap := ⟨_, rfl⟩
  rw [← eH] at hP
  have hS : va_S A s.heap H [] := by rw [eH]; exact hS
  have gW : s.heap = H := eH.symm
  refine iv_heap gW ?_
  have h0w := hts (.fieldLink RX9 13 "RopeTown" "fed" "I") (wz_at 0 15 rfl)
  have h1w : ∀ w ∈ wsX90, w ∈ wzX9_append := fun w h => List.mem_cons_of_mem _ (inlX9 w h)
  have h2w := hts (.fieldLink RX9 9 "RopeTown" "tape" "[B") (wz_at 0 14 rfl)
  refine lv_bipush (v := Int32.ofInt 24) hx hb dX9_append_0 (by decide +kernel) ?_
  refine lv_istore_n (lv' := [(2, .int (Int32.ofInt (24))), (0, .ref (arT 99)), (1, .int (Int32.ofInt (a0)))]) hx hb dX9_append_2 rfl hl (by decide) rfl (fun ls hl => ?_)
  refine iv_loop (α := Int × Int × (Int → Int)) (nL := 3) (fun b9 => ((wT k arT (arY 0) (paT) (ppT) (pdT) (pbT) (pkT) (psT) (uF fiT 1 (b9.2.1)) faT) ++ (wY k arY fiY (uF faY 0 (b9.2.2))))) (fun b9 => [(2, .int (Int32.ofInt (b9.1))), (0, .ref (arT 99)), (1, .int (Int32.ofInt (a0)))]) (fun b9 => (b9.1 + 8).toNat) (fun b9 => inR b9.1 ∧ inR b9.2.1 ∧ (∀ t, inR (b9.2.2 t)) ∧ (bnd b9.2.2 600 (-128) 128) ∧ ((-8 ≤ b9.1 ∧ b9.1 ≤ 24 ∧ 8 * (b9.2.1 - fiT 1) = 24 - b9.1) ∧ b9.2.2 = apV (faY 0) (fiT 1) (b9.2.1 - fiT 1) a0)) ?_ (24, fiT 1, faY 0) (show inR 24 ∧ inR (fiT 1) ∧ (∀ t, inR ((faY 0) t)) ∧ (bnd (faY 0) 600 (-128) 128) ∧ ((-8 ≤ 24 ∧ 24 ≤ 24 ∧ 8 * ((fiT 1) - fiT 1) = 24 - 24) ∧ (faY 0) = apV (faY 0) (fiT 1) ((fiT 1) - fiT 1) a0) from ⟨(by omega), (hRT 1), (hRaY 0), hB0Y, (by exact ⟨by omega, apV_0 (by omega)⟩)⟩) hP hD hS hl
  rintro ⟨x2_1, n1T_2, g0Y_3⟩ ih hi9 H locs ls hP hD hS hl
  obtain ⟨r_x2_1, r_n1T_2, r_g0Y_3, b_g0Y_3, hinv⟩ : inR x2_1 ∧ inR n1T_2 ∧ (∀ t, inR (g0Y_3 t)) ∧ (bnd g0Y_3 600 (-128) 128) ∧ ((-8 ≤ x2_1 ∧ x2_1 ≤ 24 ∧ 8 * (n1T_2 - fiT 1) = 24 - x2_1) ∧ g0Y_3 = apV (faY 0) (fiT 1) (n1T_2 - fiT 1) a0) := hi9
  obtain ⟨hinv, hA9⟩ := hinv
  obtain ⟨hP, hD⟩ : va_P G vwCl ((wT k arT (arY 0) (paT) (ppT) (pdT) (pbT) (pkT) (psT) (uF fiT 1 (n1T_2)) faT) ++ (wY k arY fiY (uF faY 0 (g0Y_3)))) H ∧ va_D A ((wT k arT (arY 0) (paT) (ppT) (pdT) (pbT) (pkT) (psT) (uF fiT 1 (n1T_2)) faT) ++ (wY k arY fiY (uF faY 0 (g0Y_3)))) := ⟨hP, hD⟩
  have hl : lv_has ls 3 [(2, .int (Int32.ofInt (x2_1))), (0, .ref (arT 99)), (1, .int (Int32.ofInt (a0)))] := hl
  refine lv_iload_n hx hb dX9_append_3 rfl (lv_at hl 0 rfl) ?_
  refine iv_if_lt (tgt := 46) hx hb (by omega) dX9_append_4 (by decide) (fun q4 => ?_) (fun q4 => ?_)
  · exact W.vret hx hb hr (fun t ht hW => ⟨⟨(n1T_2, g0Y_3), rfl, (show (inR n1T_2) ∧ (∀ t, inR (g0Y_3 t)) ∧ (bnd g0Y_3 600 (-128) 128) ∧ (n1T_2 = fiT 1 + 4 ∧ g0Y_3 = apV (faY 0) (fiT 1) 4 a0) from ⟨(by omega), r_g0Y_3, b_g0Y_3, (by first | exact ⟨by omega, by rw [hA9, show n1T_2 - fiT 1 = 4 by omega]⟩ | (exfalso; omega))⟩), by rw [ht]; exact hP, hD⟩, hS.F ht⟩) hS.2.2 dX9_append_46
  · refine lv_aload_n hx hb dX9_append_7 rfl (lv_at hl 1 rfl) ?_
    refine va_get (D := G) (ci := 6) (v := .int (Int32.ofInt (n1T_2))) (C := RX9) (T := TX9) (N := 11) (ref := RX9) hx hb hts h1w hown hX.1 hP 0 rfl rfl 1 (by decide) h0w (fun _ h9 => h9) rfl dX9_append_8 ?_
    refine lv_sipush (v := Int32.ofInt 600) hx hb dX9_append_11 (by decide +kernel) ?_
    refine iv_icmp_ge (tgt := 46) hx hb (by omega) (by omega) dX9_append_14 (by decide) (fun q5 => ?_) (fun q5 => ?_)
    · exact W.vret hx hb hr (fun t ht hW => ⟨⟨(n1T_2, g0Y_3), rfl, (show (inR n1T_2) ∧ (∀ t, inR (g0Y_3 t)) ∧ (bnd g0Y_3 600 (-128) 128) ∧ (n1T_2 = fiT 1 + 4 ∧ g0Y_3 = apV (faY 0) (fiT 1) 4 a0) from ⟨(by omega), r_g0Y_3, b_g0Y_3, (by first | exact ⟨by omega, by rw [hA9, show n1T_2 - fiT 1 = 4 by omega]⟩ | (exfalso; omega))⟩), by rw [ht]; exact hP, hD⟩, hS.F ht⟩) hS.2.2 dX9_append_46
    · refine lv_aload_n hx hb dX9_append_17 rfl (lv_at hl 1 rfl) ?_
      refine va_get (D := G) (ci := 6) (v := .ref (arY 0)) (C := RX9) (T := TX9) (N := 11) (ref := RX9) hx hb hts h1w hown hX.1 hP 0 rfl rfl 0 (by decide) h2w (fun _ h9 => h9) rfl dX9_append_18 ?_
      refine lv_aload_n hx hb dX9_append_21 rfl (lv_at hl 1 rfl) ?_
      refine va_get (D := G) (ci := 6) (v := .int (Int32.ofInt (n1T_2))) (C := RX9) (T := TX9) (N := 11) (ref := RX9) hx hb hts h1w hown hX.1 hP 0 rfl rfl 1 (by decide) h0w (fun _ h9 => h9) rfl dX9_append_22 ?_
      refine lv_iload_n hx hb dX9_append_25 rfl (lv_at hl 2 rfl) ?_
      refine lv_iload_n hx hb dX9_append_26 rfl (lv_at hl 0 rfl) ?_
      refine iv_shr hx hb dX9_append_27 ?_
      refine iv_top (fun z6 ez6 => ?_)
      have rz6 : inR z6 := ez6 ▸ bShr_r _ _
      have hv1 := ez6
      refine iv_i2b hx hb dX9_append_28 ?_
      refine iv_top (fun z7 ez7 => ?_)
      have rz7 : inR z7 := ez7 ▸ bByte_r _
      have bz7 : -128 ≤ z7 ∧ z7 < 128 := ez7 ▸ bByte_b _
      have hv2 := ez7
      refine iv_bast hx hb hX.1 hP hD hS 2 1 rfl rfl (fun g' => show _ = ((wT k arT (arY 0) (paT) (ppT) (pdT) (pbT) (pkT) (psT) (uF fiT 1 (n1T_2)) faT) ++ (wY k arY fiY (uF faY 0 (g')))) from rfl) (by omega) (by omega) (by omega) (by decide) dX9_append_29 (fun H locs hP hD hS => ?_)
      obtain ⟨hP, hD⟩ : va_P G vwCl ((wT k arT (arY 0) (paT) (ppT) (pdT) (pbT) (pkT) (psT) (uF fiT 1 (n1T_2)) faT) ++ (wY k arY fiY (uF faY 0 (uA (g0Y_3) (n1T_2) (z7))))) H ∧ va_D A ((wT k arT (arY 0) (paT) (ppT) (pdT) (pbT) (pkT) (psT) (uF fiT 1 (n1T_2)) faT) ++ (wY k arY fiY (uF faY 0 (uA (g0Y_3) (n1T_2) (z7))))) := ⟨hP, hD⟩
      obtain ⟨g8, eg8, rg8⟩ : ∃ z, z = uA (g0Y_3) (n1T_2) (z7) ∧ ∀ t, inR (z t) := ⟨_, rfl, iU r_g0Y_3 (by omega)⟩
      rw [← eg8] at hP hD
      have bg8 : bnd g8 600 (-128) 128 := bnd_up b_g0Y_3 (by omega) (by omega) eg8
      refine lv_aload_n hx hb dX9_append_30 rfl (lv_at hl 1 rfl) ?_
      refine lv_dup hx hb dX9_append_31 rfl ?_
      refine va_get (D := G) (ci := 6) (v := .int (Int32.ofInt (n1T_2))) (C := RX9) (T := TX9) (N := 11) (ref := RX9) hx hb hts h1w hown hX.1 hP 0 rfl rfl 1 (by decide) h0w (fun _ h9 => h9) rfl dX9_append_32 ?_
      refine lv_iconst (v := Int32.ofInt 1) hx hb dX9_append_35 (by decide +kernel) ?_
      refine iv_add (x := n1T_2) (y := 1) hx hb dX9_append_36 ?_
      refine iv_put (ci := 6) (v := .int (Int32.ofInt ((n1T_2 + 1)))) (ty := .int) (C := RX9) (T := TX9) (N := 11) (ref := RX9) hx hb hts h1w tyX9 tyX9_ok nmX9 hown hX.1 hP hD hS 0 rfl rfl 1 (by decide) h0w (fun _ h9 => h9) rfl (by decide +kernel) rfl rfl (Nat.le_of_ble_eq_true rfl) (show _ = ((wT k arT (arY 0) (paT) (ppT) (pdT) (pbT) (pkT) (psT) (uF fiT 1 ((n1T_2 + 1))) faT) ++ (wY k arY fiY (uF faY 0 (g8)))) from rfl) dX9_append_37 (fun H locs hP hD hS => ?_)
      refine lv_iinc (v := Int32.ofInt (x2_1 + (-8))) (lv' := [(2, .int (Int32.ofInt ((x2_1 + (-8))))), (0, .ref (arT 99)), (1, .int (Int32.ofInt (a0)))]) hx hb dX9_append_40 hl (k := 0) rfl (Int32.ofInt_add _ _).symm (by decide) rfl (fun ls hl => ?_)
      refine lv_goto (tgt := 3) hx hb dX9_append_43 (by decide) ?_
      have hl : lv_has ls 3 [(2, .int (Int32.ofInt ((x2_1 + (-8))))), (0, .ref (arT 99)), (1, .int (Int32.ofInt (a0)))] := lv_sub hl [0, 1, 2] rfl
      exact ih ((x2_1 + (-8)), (n1T_2 + 1), g8) (show ((x2_1 + (-8)) + 8).toNat < (x2_1 + 8).toNat from by omega) (show inR (x2_1 + (-8)) ∧ inR (n1T_2 + 1) ∧ (∀ t, inR (g8 t)) ∧ (bnd g8 600 (-128) 128) ∧ ((-8 ≤ (x2_1 + (-8)) ∧ (x2_1 + (-8)) ≤ 24 ∧ 8 * ((n1T_2 + 1) - fiT 1) = 24 - (x2_1 + (-8))) ∧ g8 = apV (faY 0) (fiT 1) ((n1T_2 + 1) - fiT 1) a0) from ⟨(by omega), (by omega), rg8, bg8, (by exact ⟨by omega, apV_s hA9 (by omega) hv1 (by omega) hv2 (by omega) eg8 (by omega)⟩)⟩) _ _ _ hP hD hS hl

set_option maxHeartbeats 4000000 in
set_option maxRecDepth 100000 in
theorem mX9_feed (l : Launch) (G : va_G) (k : Nat → ClassId) (arT : Nat → Nat) (paT : Nat) (ppT : Nat) (pdT : Nat) (pbT : Nat) (pkT : Nat) (psT : Nat) (fiT : Nat → Int) (faT : Nat → Int → Int) (arY : Nat → Nat) (fiY : Nat → Int) (faY : Nat → Int → Int) (a0 : Int) (b0 : Int) (c0 : Int) (d0 : Int) (e0 : Int) (sz : Nat) (hRT : ∀ j, inR (fiT j)) (hRaT : ∀ j t, inR (faT j t)) (hRY : ∀ j, inR (fiY j)) (hRaY : ∀ j t, inR (faY j t)) (hB0Y : bnd (faY 0) 600 (-128) 128) (hr_a0 : inR a0) (hr_b0 : inR b0) (hr_c0 : inR c0) (hr_d0 : inR d0) (hr_e0 : inR e0) (hfd : 0 ≤ fiT 1 ∧ fiT 1 ≤ 600) : CNi l G k (EZ k) yX9_feed wzX9_feed ({ frames := 1, cells := 0, slots := 0, locals := 22 }) [.ref (arT 99), .int (Int32.ofInt (a0)), .int (Int32.ofInt (b0)), .int (Int32.ofInt (c0)), .int (Int32.ofInt (d0)), .int (Int32.ofInt (e0))] sz ((wT k arT (arY 0) (paT) (ppT) (pdT) (pbT) (pkT) (psT) fiT faT) ++ (wY k arY fiY faY)) (fun (r0 : Int32) (u : Int × Int × (Int → Int)) => r0 = Int32.ofInt (u.1) ∧ (inR u.1) ∧ (inR u.2.1) ∧ (∀ t, inR (u.2.2 t)) ∧ (bnd u.2.2 600 (-128) 128) ∧ (((fiT 1 ≤ 580 → u.2.1 = fiT 1 + 20 ∧ u.1 = u.2.1) ∧ (580 < fiT 1 → u.2.1 = fiT 1 ∧ u.1 = -1)) ∧ uT u.2.2 = (if fiT 1 ≤ 580 then fdW (uT (faY 0)) (fiT 1) a0 b0 c0 d0 e0 else uT (faY 0)))) (fun (u : Int × Int × (Int → Int)) => ((wT k arT (arY 0) (paT) (ppT) (pdT) (pbT) (pkT) (psT) (uF fiT 1 (u.2.1)) faT) ++ (wY k arY fiY (uF faY 0 (u.2.2))))) := by
  refine Met.ofW (cc := cX9_feed) (maxL := 6) (ret := (some .int)) (by decide) rfl ?_
  intro p e s m args below meth c s₁ B hml hv
  obtain ⟨rfl, hsz, hP, hX, hD0, hZ0⟩ := hv
  have hx := B.exec
  have hb := B.bytes
  have hr := B.returns
  have hts := atoms_spec (ws := wzX9_feed) B.pre
  have hown : s.vm.findClass RX9 = some m.cls := findClass_of_methodNamed B.named
  subst hsz
  have hD := hD0.self (sz := s.heap.size)
  have hZ := hZ0
  generalize hAe : va_A ((wT k arT (arY 0) (paT) (ppT) (pdT) (pbT) (pkT) (psT) fiT faT) ++ (wY k arY fiY faY)) s.heap.size = A at hD hZ ⊢
  have hA : ∀ q : Nat, s.heap.size ≤ q → A q := fun q h => by rw [← hAe]; exact Or.inr h
  have hS : va_S A s.heap s.heap [] := va_S.rf
  have hl := lv_entry ([.ref (arT 99), .int (Int32.ofInt (a0)), .int (Int32.ofInt (b0)), .int (Int32.ofInt (c0)), .int (Int32.ofInt (d0)), .int (Int32.ofInt (e0))]) (n := 6) (Nat.le_of_ble_eq_true rfl)
  rw [lg_entry_eq]
  generalize (lg_sl ([.ref (arT 99), .int (Int32.ofInt (a0)), .int (Int32.ofInt (b0)), .int (Int32.ofInt (c0)), .int (Int32.ofInt (d0)), .int (Int32.ofInt (e0))]) ++ List.replicate (6 - (lg_sl ([.ref (arT 99), .int (Int32.ofInt (a0)), .int (Int32.ofInt (b0)), .int (Int32.ofInt (c0)), .int (Int32.ofInt (d0)), .int (Int32.ofInt (e0))])).length) Slot.unset).toArray = ls at hl ⊢
  have hl : lv_has ls 6 [(0, .ref (arT 99)), (1, .int (Int32.ofInt (a0))), (2, .int (Int32.ofInt (b0))), (3, .int (Int32.ofInt (c0))), (4, .int (Int32.ofInt (d0))), (5, .int (Int32.ofInt (e0)))] := hl
  obtain ⟨H, eH⟩ : ∃ H, H = s.heap := ⟨_, rfl⟩
  rw [← eH] at hP
  have hS : va_S A s.heap H [] := by rw [eH]; exact hS
  have gW : s.heap = H := eH.symm
  refine iv_heap gW ?_
  have h0w := hts (.fieldLink RX9 13 "RopeTown" "fed" "I") (wz_at 0 15 rfl)
  have h1w : ∀ w ∈ wsX90, w ∈ wzX9_feed := fun w h => List.mem_cons_of_mem _ (inlX9 w h)
  refine lv_aload_n hx hb dX9_feed_0 rfl (lv_at hl 0 rfl) ?_
  refine va_get (D := G) (ci := 6) (v := .int (Int32.ofInt (fiT 1))) (C := RX9) (T := TX9) (N := 11) (ref := RX9) hx hb hts h1w hown hX.1 hP 0 rfl rfl 1 (by decide) h0w (fun _ h9 => h9) rfl dX9_feed_1 ?_
  have rf1T := hRT 1
  refine lv_bipush (v := Int32.ofInt 20) hx hb dX9_feed_4 (by decide +kernel) ?_
  refine iv_add (x := fiT 1) (y := 20) hx hb dX9_feed_6 ?_
  refine lv_sipush (v := Int32.ofInt 600) hx hb dX9_feed_7 (by decide +kernel) ?_
  refine iv_icmp_le (tgt := 15) hx hb (by omega) (by omega) dX9_feed_10 (by decide) (fun q1 => ?_) (fun q1 => ?_)
  · refine lv_aload_n hx hb dX9_feed_15 rfl (lv_at hl 0 rfl) ?_
    refine lv_iload_n hx hb dX9_feed_16 rfl (lv_at hl 1 rfl) ?_
    refine cr_v (va_runV (As := [.int (Int32.ofInt (a0))]) (rest := []) ⟨hx, hb, hml, hown, hts⟩ (mX9_append l G k arT paT ppT pdT pbT pkT psT fiT faT arY fiY faY a0 H.size hRT hRaT hRY hRaY hB0Y (by omega) (show 0 ≤ (fiT 1) ∧ (fiT 1) ≤ 596 from by omega)) (cwV 1 hts (gz [.methodLink RX9 72 yX9_append, .instanceMethod yX9_append, .selects RX9 yX9_append yX9_append, .initialized RX9] (.code yX9_append cX9_append 3 none) [(8, 4), (8, 5), (8, 6), (0, 2), (8, 7)] rfl) rfl rfl rfl (by decide +kernel) ⟨Nat.le_of_ble_eq_true rfl, Nat.le_of_ble_eq_true rfl⟩) (cr_preV (EZ_ok k) hZ hS hX hP hD hA (ci := 6) (q0 := 0) rfl rfl) rfl rfl hl.1 rfl (lv_room (Nat.le_of_ble_eq_true rfl)) dX9_feed_17 ⟨Nat.le_of_ble_eq_true rfl, Nat.le_of_ble_eq_true rfl⟩) hD hS hA (fun u H locs hp hP hD hS => ?_)
    obtain ⟨c2, c3⟩ := u
    obtain ⟨hP, hD⟩ : va_P G vwCl ((wT k arT (arY 0) (paT) (ppT) (pdT) (pbT) (pkT) (psT) (uF fiT 1 (c2)) faT) ++ (wY k arY fiY (uF faY 0 (c3)))) H ∧ va_D A ((wT k arT (arY 0) (paT) (ppT) (pdT) (pbT) (pkT) (psT) (uF fiT 1 (c2)) faT) ++ (wY k arY fiY (uF faY 0 (c3)))) := ⟨hP, hD⟩
    obtain ⟨rc2, rc3, bc3, hp3⟩ : (inR c2) ∧ (∀ t, inR (c3 t)) ∧ (bnd c3 600 (-128) 128) ∧ (c2 = (fiT 1) + 4 ∧ c3 = apV ((faY 0)) ((fiT 1)) 4 a0) := hp
    obtain ⟨hp3, hA17⟩ := hp3
    refine lv_aload_n hx hb dX9_feed_20 rfl (lv_at hl 0 rfl) ?_
    refine lv_iload_n hx hb dX9_feed_21 rfl (lv_at hl 2 rfl) ?_
    refine cr_v (va_runV (As := [.int (Int32.ofInt (b0))]) (rest := []) ⟨hx, hb, hml, hown, hts⟩ (mX9_append l G k arT paT ppT pdT pbT pkT psT (uF fiT 1 (c2)) faT arY fiY (uF faY 0 (c3)) b0 H.size (iF hRT (by omega)) hRaT hRY (iG hRaY rc3) bc3 (by omega) (show 0 ≤ c2 ∧ c2 ≤ 596 from by omega)) (cwV 1 hts (gz [.methodLink RX9 72 yX9_append, .instanceMethod yX9_append, .selects RX9 yX9_append yX9_append, .initialized RX9] (.code yX9_append cX9_append 3 none) [(8, 4), (8, 5), (8, 6), (0, 2), (8, 7)] rfl) rfl rfl rfl (by decide +kernel) ⟨Nat.le_of_ble_eq_true rfl, Nat.le_of_ble_eq_true rfl⟩) (cr_preV (EZ_ok k) hZ hS hX hP hD hA (ci := 6) (q0 := 0) rfl rfl) rfl rfl hl.1 rfl (lv_room (Nat.le_of_ble_eq_true rfl)) dX9_feed_22 ⟨Nat.le_of_ble_eq_true rfl, Nat.le_of_ble_eq_true rfl⟩) hD hS hA (fun u H locs hp hP hD hS => ?_)
    obtain ⟨c4, c5⟩ := u
    obtain ⟨hP, hD⟩ : va_P G vwCl ((wT k arT (arY 0) (paT) (ppT) (pdT) (pbT) (pkT) (psT) (uF fiT 1 (c4)) faT) ++ (wY k arY fiY (uF faY 0 (c5)))) H ∧ va_D A ((wT k arT (arY 0) (paT) (ppT) (pdT) (pbT) (pkT) (psT) (uF fiT 1 (c4)) faT) ++ (wY k arY fiY (uF faY 0 (c5)))) := ⟨hP, hD⟩
    obtain ⟨rc4, rc5, bc5, hp5⟩ : (inR c4) ∧ (∀ t, inR (c5 t)) ∧ (bnd c5 600 (-128) 128) ∧ (c4 = c2 + 4 ∧ c5 = apV (c3) (c2) 4 b0) := hp
    obtain ⟨hp5, hA22⟩ := hp5
    refine lv_aload_n hx hb dX9_feed_25 rfl (lv_at hl 0 rfl) ?_
    refine lv_iload_n hx hb dX9_feed_26 rfl (lv_at hl 3 rfl) ?_
    refine cr_v (va_runV (As := [.int (Int32.ofInt (c0))]) (rest := []) ⟨hx, hb, hml, hown, hts⟩ (mX9_append l G k arT paT ppT pdT pbT pkT psT (uF fiT 1 (c4)) faT arY fiY (uF faY 0 (c5)) c0 H.size (iF hRT (by omega)) hRaT hRY (iG hRaY rc5) bc5 (by omega) (show 0 ≤ c4 ∧ c4 ≤ 596 from by omega)) (cwV 1 hts (gz [.methodLink RX9 72 yX9_append, .instanceMethod yX9_append, .selects RX9 yX9_append yX9_append, .initialized RX9] (.code yX9_append cX9_append 3 none) [(8, 4), (8, 5), (8, 6), (0, 2), (8, 7)] rfl) rfl rfl rfl (by decide +kernel) ⟨Nat.le_of_ble_eq_true rfl, Nat.le_of_ble_eq_true rfl⟩) (cr_preV (EZ_ok k) hZ hS hX hP hD hA (ci := 6) (q0 := 0) rfl rfl) rfl rfl hl.1 rfl (lv_room (Nat.le_of_ble_eq_true rfl)) dX9_feed_27 ⟨Nat.le_of_ble_eq_true rfl, Nat.le_of_ble_eq_true rfl⟩) hD hS hA (fun u H locs hp hP hD hS => ?_)
    obtain ⟨c6, c7⟩ := u
    obtain ⟨hP, hD⟩ : va_P G vwCl ((wT k arT (arY 0) (paT) (ppT) (pdT) (pbT) (pkT) (psT) (uF fiT 1 (c6)) faT) ++ (wY k arY fiY (uF faY 0 (c7)))) H ∧ va_D A ((wT k arT (arY 0) (paT) (ppT) (pdT) (pbT) (pkT) (psT) (uF fiT 1 (c6)) faT) ++ (wY k arY fiY (uF faY 0 (c7)))) := ⟨hP, hD⟩
    obtain ⟨rc6, rc7, bc7, hp7⟩ : (inR c6) ∧ (∀ t, inR (c7 t)) ∧ (bnd c7 600 (-128) 128) ∧ (c6 = c4 + 4 ∧ c7 = apV (c5) (c4) 4 c0) := hp
    obtain ⟨hp7, hA27⟩ := hp7
    refine lv_aload_n hx hb dX9_feed_30 rfl (lv_at hl 0 rfl) ?_
    refine lv_iload hx hb dX9_feed_31 (lv_at hl 4 rfl) ?_
    refine cr_v (va_runV (As := [.int (Int32.ofInt (d0))]) (rest := []) ⟨hx, hb, hml, hown, hts⟩ (mX9_append l G k arT paT ppT pdT pbT pkT psT (uF fiT 1 (c6)) faT arY fiY (uF faY 0 (c7)) d0 H.size (iF hRT (by omega)) hRaT hRY (iG hRaY rc7) bc7 (by omega) (show 0 ≤ c6 ∧ c6 ≤ 596 from by omega)) (cwV 1 hts (gz [.methodLink RX9 72 yX9_append, .instanceMethod yX9_append, .selects RX9 yX9_append yX9_append, .initialized RX9] (.code yX9_append cX9_append 3 none) [(8, 4), (8, 5), (8, 6), (0, 2), (8, 7)] rfl) rfl rfl rfl (by decide +kernel) ⟨Nat.le_of_ble_eq_true rfl, Nat.le_of_ble_eq_true rfl⟩) (cr_preV (EZ_ok k) hZ hS hX hP hD hA (ci := 6) (q0 := 0) rfl rfl) rfl rfl hl.1 rfl (lv_room (Nat.le_of_ble_eq_true rfl)) dX9_feed_33 ⟨Nat.le_of_ble_eq_true rfl, Nat.le_of_ble_eq_true rfl⟩) hD hS hA (fun u H locs hp hP hD hS => ?_)
    obtain ⟨c8, c9⟩ := u
    obtain ⟨hP, hD⟩ : va_P G vwCl ((wT k arT (arY 0) (paT) (ppT) (pdT) (pbT) (pkT) (psT) (uF fiT 1 (c8)) faT) ++ (wY k arY fiY (uF faY 0 (c9)))) H ∧ va_D A ((wT k arT (arY 0) (paT) (ppT) (pdT) (pbT) (pkT) (psT) (uF fiT 1 (c8)) faT) ++ (wY k arY fiY (uF faY 0 (c9)))) := ⟨hP, hD⟩
    obtain ⟨rc8, rc9, bc9, hp9⟩ : (inR c8) ∧ (∀ t, inR (c9 t)) ∧ (bnd c9 600 (-128) 128) ∧ (c8 = c6 + 4 ∧ c9 = apV (c7) (c6) 4 d0) := hp
    obtain ⟨hp9, hA33⟩ := hp9
    refine lv_aload_n hx hb dX9_feed_36 rfl (lv_at hl 0 rfl) ?_
    refine lv_iload hx hb dX9_feed_37 (lv_at hl 5 rfl) ?_
    refine cr_v (va_runV (As := [.int (Int32.ofInt (e0))]) (rest := []) ⟨hx, hb, hml, hown, hts⟩ (mX9_append l G k arT paT ppT pdT pbT pkT psT (uF fiT 1 (c8)) faT arY fiY (uF faY 0 (c9)) e0 H.size (iF hRT (by omega)) hRaT hRY (iG hRaY rc9) bc9 (by omega) (show 0 ≤ c8 ∧ c8 ≤ 596 from by omega)) (cwV 1 hts (gz [.methodLink RX9 72 yX9_append, .instanceMethod yX9_append, .selects RX9 yX9_append yX9_append, .initialized RX9] (.code yX9_append cX9_append 3 none) [(8, 4), (8, 5), (8, 6), (0, 2), (8, 7)] rfl) rfl rfl rfl (by decide +kernel) ⟨Nat.le_of_ble_eq_true rfl, Nat.le_of_ble_eq_true rfl⟩) (cr_preV (EZ_ok k) hZ hS hX hP hD hA (ci := 6) (q0 := 0) rfl rfl) rfl rfl hl.1 rfl (lv_room (Nat.le_of_ble_eq_true rfl)) dX9_feed_39 ⟨Nat.le_of_ble_eq_true rfl, Nat.le_of_ble_eq_true rfl⟩) hD hS hA (fun u H locs hp hP hD hS => ?_)
    obtain ⟨c10, c11⟩ := u
    obtain ⟨hP, hD⟩ : va_P G vwCl ((wT k arT (arY 0) (paT) (ppT) (pdT) (pbT) (pkT) (psT) (uF fiT 1 (c10)) faT) ++ (wY k arY fiY (uF faY 0 (c11)))) H ∧ va_D A ((wT k arT (arY 0) (paT) (ppT) (pdT) (pbT) (pkT) (psT) (uF fiT 1 (c10)) faT) ++ (wY k arY fiY (uF faY 0 (c11)))) := ⟨hP, hD⟩
    obtain ⟨rc10, rc11, bc11, hp11⟩ : (inR c10) ∧ (∀ t, inR (c11 t)) ∧ (bnd c11 600 (-128) 128) ∧ (c10 = c8 + 4 ∧ c11 = apV (c9) (c8) 4 e0) := hp
    obtain ⟨hp11, hA39⟩ := hp11
    refine lv_aload_n hx hb dX9_feed_42 rfl (lv_at hl 0 rfl) ?_
    refine va_get (D := G) (ci := 6) (v := .int (Int32.ofInt (c10))) (C := RX9) (T := TX9) (N := 11) (ref := RX9) hx hb hts h1w hown hX.1 hP 0 rfl rfl 1 (by decide) h0w (fun _ h9 => h9) rfl dX9_feed_43 ?_
    exact W.iret (v := Int32.ofInt (c10)) hx hb hr (fun t ht hW => ⟨⟨Int32.ofInt (c10), (c10, c10, c11), rfl, ⟨rfl, (show (inR c10) ∧ (inR c10) ∧ (∀ t, inR (c11 t)) ∧ (bnd c11 600 (-128) 128) ∧ (((fiT 1 ≤ 580 → c10 = fiT 1 + 20 ∧ c10 = c10) ∧ (580 < fiT 1 → c10 = fiT 1 ∧ c10 = -1)) ∧ uT c11 = (if fiT 1 ≤ 580 then fdW (uT (faY 0)) (fiT 1) a0 b0 c0 d0 e0 else uT (faY 0))) from ⟨(by omega), (by omega), rc11, bc11, (by first | exact ⟨by omega, fd_5 hA17 hA22 hA27 hA33 hA39 (by omega) (by omega) (by omega) (by omega) (by omega)⟩ | exact ⟨by omega, (if_neg (by omega)).symm⟩)⟩)⟩, by rw [ht]; exact hP, hD⟩, hS.F ht⟩) hS.2.2 dX9_feed_46
  · refine lv_iconst (v := Int32.ofInt (-1)) hx hb dX9_feed_13 (by decide +kernel) ?_
    exact W.iret (v := Int32.ofInt ((-1))) hx hb hr (fun t ht hW => ⟨⟨Int32.ofInt ((-1)), ((-1), fiT 1, faY 0), rfl, ⟨rfl, (show (inR (-1)) ∧ (inR (fiT 1)) ∧ (∀ t, inR ((faY 0) t)) ∧ (bnd (faY 0) 600 (-128) 128) ∧ (((fiT 1 ≤ 580 → (fiT 1) = fiT 1 + 20 ∧ (-1) = (fiT 1)) ∧ (580 < fiT 1 → (fiT 1) = fiT 1 ∧ (-1) = -1)) ∧ uT (faY 0) = (if fiT 1 ≤ 580 then fdW (uT (faY 0)) (fiT 1) a0 b0 c0 d0 e0 else uT (faY 0))) from ⟨(by omega), (hRT 1), (hRaY 0), hB0Y, (by first | exact ⟨by omega, fd_5 hA17 hA22 hA27 hA33 hA39 (by omega) (by omega) (by omega) (by omega) (by omega)⟩ | exact ⟨by omega, (if_neg (by omega)).symm⟩)⟩)⟩, by rw [ht]; exact hP, hD⟩, hS.F ht⟩) hS.2.2 dX9_feed_14

set_option maxHeartbeats 4000000 in
set_option maxRecDepth 100000 in
theorem mX9_fault (l : Launch) (G : va_G) (k : Nat → ClassId) (ar : Nat → Nat) (tp : Nat) (pa : Nat) (pp : Nat) (pd : Nat) (pb : Nat) (pk : Nat) (ps : Nat) (fi : Nat → Int) (fa : Nat → Int → Int) (sz : Nat) (hR : ∀ j, inR (fi j)) (hRa : ∀ j t, inR (fa j t)) : CNi l G k (EZ k) yX9_fault wzX9_fault ({ frames := 0, cells := 0, slots := 0, locals := 0 }) [.ref (ar 99)] sz (wT k ar (tp) (pa) (pp) (pd) (pb) (pk) (ps) fi fa) (fun (r0 : Int32) (u : Int) => r0 = Int32.ofInt (u) ∧ (inR u) ∧ (u = fi 2)) (fun (u : Int) => (wT k ar (tp) (pa) (pp) (pd) (pb) (pk) (ps) fi fa)) := by
  refine Met.ofW (cc := cX9_fault) (maxL := 1) (ret := (some .int)) (by decide) rfl ?_
  intro p e s m args below meth c s₁ B hml hv
  obtain ⟨rfl, hsz, hP, hX, hD0, hZ0⟩ := hv
  have hx := B.exec
  have hb := B.bytes
  have hr := B.returns
  have hts := atoms_spec (ws := wzX9_fault) B.pre
  have hown : s.vm.findClass RX9 = some m.cls := findClass_of_methodNamed B.named
  subst hsz
  have hD := hD0.self (sz := s.heap.size)
  have hZ := hZ0
  generalize hAe : va_A (wT k ar (tp) (pa) (pp) (pd) (pb) (pk) (ps) fi fa) s.heap.size = A at hD hZ ⊢
  have hA : ∀ q : Nat, s.heap.size ≤ q → A q := fun q h => by rw [← hAe]; exact Or.inr h
  have hS : va_S A s.heap s.heap [] := va_S.rf
  have hl := lv_entry ([.ref (ar 99)]) (n := 1) (Nat.le_of_ble_eq_true rfl)
  rw [lg_entry_eq]
  generalize (lg_sl ([.ref (ar 99)]) ++ List.replicate (1 - (lg_sl ([.ref (ar 99)])).length) Slot.unset).toArray = ls at hl ⊢
  have hl : lv_has ls 1 [(0, .ref (ar 99))] := hl
  obtain ⟨H, eH⟩ : ∃ H, H = s.heap := ⟨_, rfl⟩
  rw [← eH] at hP
  have hS : va_S A s.heap H [] := by rw [eH]; exact hS
  have gW : s.heap = H := eH.symm
  refine iv_heap gW ?_
  have h0w := hts (.fieldLink RX9 17 "RopeTown" "faultPlace" "I") (wz_at 0 16 rfl)
  have h1w : ∀ w ∈ wsX90, w ∈ wzX9_fault := fun w h => List.mem_cons_of_mem _ (inlX9 w h)
  refine lv_aload_n hx hb dX9_fault_0 rfl (lv_at hl 0 rfl) ?_
  refine va_get (D := G) (ci := 6) (v := .int (Int32.ofInt (fi 2))) (C := RX9) (T := TX9) (N := 11) (ref := RX9) hx hb hts h1w hown hX.1 hP 0 rfl rfl 2 (by decide) h0w (fun _ h9 => h9) rfl dX9_fault_1 ?_
  have rf2 := hR 2
  exact W.iret (v := Int32.ofInt (fi 2)) hx hb hr (fun t ht hW => ⟨⟨Int32.ofInt (fi 2), (fi 2), rfl, ⟨rfl, (show (inR (fi 2)) ∧ ((fi 2) = fi 2) from ⟨(hR 2), (by omega)⟩)⟩, by rw [ht]; exact hP, hD⟩, hS.F ht⟩) hS.2.2 dX9_fault_4

