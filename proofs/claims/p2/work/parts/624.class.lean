set_option maxHeartbeats 4000000 in
set_option maxRecDepth 100000 in
theorem mX1_copy (l : Launch) (G : va_G) (k : Nat → ClassId) (arB : Nat → Nat) (fiB : Nat → Int) (faB : Nat → Int → Int) (arK : Nat → Nat) (fiK : Nat → Int) (faK : Nat → Int → Int) (sz : Nat) (hRB : ∀ j, inR (fiB j)) (hRaB : ∀ j t, inR (faB j t)) (hRK : ∀ j, inR (fiK j)) (hRaK : ∀ j t, inR (faK j t)) : CNv l G k (EZ k) yX1_copy wzX1_copy ({ frames := 1, cells := 0, slots := 0, locals := 64 }) [.ref (arB 99), .ref (arK 99)] sz ((wB k arB fiB faB) ++ (wB k arK fiK faK)) (fun (u : (Int → Int) × (Int → Int) × (Int → Int) × (Int → Int) × (Int → Int) × (Int → Int) × (Int → Int) × Int × Int × Int × Int × Int) => (∀ t, inR (u.1 t)) ∧ (∀ t, inR (u.2.1 t)) ∧ (∀ t, inR (u.2.2.1 t)) ∧ (∀ t, inR (u.2.2.2.1 t)) ∧ (∀ t, inR (u.2.2.2.2.1 t)) ∧ (∀ t, inR (u.2.2.2.2.2.1 t)) ∧ (∀ t, inR (u.2.2.2.2.2.2.1 t)) ∧ (inR u.2.2.2.2.2.2.2.1) ∧ (inR u.2.2.2.2.2.2.2.2.1) ∧ (inR u.2.2.2.2.2.2.2.2.2.1) ∧ (inR u.2.2.2.2.2.2.2.2.2.2.1) ∧ (inR u.2.2.2.2.2.2.2.2.2.2.2) ∧ (u.2.2.2.2.2.2.2.2.1 = fiK 1 ∧ u.2.2.2.2.2.2.2.2.2.2.2 = fiK 4)) (fun (u : (Int → Int) × (Int → Int) × (Int → Int) × (Int → Int) × (Int → Int) × (Int → Int) × (Int → Int) × Int × Int × Int × Int × Int) => ((wB k arB (uF (uF (uF (uF (uF fiB 0 (u.2.2.2.2.2.2.2.1)) 1 (u.2.2.2.2.2.2.2.2.1)) 2 (u.2.2.2.2.2.2.2.2.2.1)) 3 (u.2.2.2.2.2.2.2.2.2.2.1)) 4 (u.2.2.2.2.2.2.2.2.2.2.2)) (uF (uF (uF (uF (uF (uF (uF faB 5 (u.1)) 6 (u.2.1)) 7 (u.2.2.1)) 8 (u.2.2.2.1)) 9 (u.2.2.2.2.1)) 10 (u.2.2.2.2.2.1)) 11 (u.2.2.2.2.2.2.1))) ++ (wB k arK fiK faK))) := by
  refine Met.ofW (cc := cX1_copy) (maxL := 2) (ret := none) (by decide) rfl ?_
  intro p e s m args below meth c s₁ B hml hv
  obtain ⟨rfl, hsz, hP, hX, hD0, hZ0⟩ := hv
  have hx := B.exec
  have hb := B.bytes
  have hr := B.returns
  have hts := atoms_spec (ws := wzX1_copy) B.pre
  have hown : s.vm.findClass RX1 = some m.cls := findClass_of_methodNamed B.named
  subst hsz
  have hD := hD0.self (sz := s.heap.size)
  have hZ := hZ0
  generalize hAe : va_A ((wB k arB fiB faB) ++ (wB k arK fiK faK)) s.heap.size = A at hD hZ ⊢
  have hA : ∀ q : Nat, s.heap.size ≤ q → A q := fun q h => by rw [← hAe]; exact Or.inr h
  have hS : va_S A s.heap s.heap [] := va_S.rf
  have hl := lv_entry ([.ref (arB 99), .ref (arK 99)]) (n := 2) (Nat.le_of_ble_eq_true rfl)
  rw [lg_entry_eq]
  generalize (lg_sl ([.ref (arB 99), .ref (arK 99)]) ++ List.replicate (2 - (lg_sl ([.ref (arB 99), .ref (arK 99)])).length) Slot.unset).toArray = ls at hl ⊢
  have hl : lv_has ls 2 [(0, .ref (arB 99)), (1, .ref (arK 99))] := hl
  obtain ⟨H, eH⟩ : ∃ H, H = s.heap := ⟨_, rfl⟩
  rw [← eH] at hP
  have hS : va_S A s.heap H [] := by rw [eH]; exact hS
  have gW : s.heap = H := eH.symm
  refine iv_heap gW ?_
  have h0w := hts (.fieldLink RX1 33 "RopeTown$Book" "state" "I") (wz_at 5 18 rfl)
  have h1w : ∀ w ∈ wsX10, w ∈ wzX1_copy := fun w h => List.mem_cons_of_mem _ (inlX1 w h)
  have h2w := hts (.fieldLink RX1 37 "RopeTown$Book" "moves" "I") (wz_at 5 19 rfl)
  have h3w := hts (.fieldLink RX1 40 "RopeTown$Book" "rides" "I") (wz_at 5 20 rfl)
  have h4w := hts (.fieldLink RX1 43 "RopeTown$Book" "cost" "I") (wz_at 5 21 rfl)
  have h5w := hts (.fieldLink RX1 46 "RopeTown$Book" "days" "I") (wz_at 5 22 rfl)
  have h6w := hts (.fieldLink RX1 9 "RopeTown$Book" "which" "[I") (wz_at 4 4 rfl)
  have h7w := hts (.methodLink RX1 49 arraycopyName) (wz_at 41 13 rfl)
  have h8w := hts (.native arraycopyName) (wz_at 41 14 rfl)
  have h9w := hts (.static arraycopyName) (wz_at 41 15 rfl)
  have h10w := hts (.initialized "java/lang/System") (wz_at 41 16 rfl)
  have h11w := hts (.fieldLink RX1 15 "RopeTown$Book" "target" "[I") (wz_at 4 5 rfl)
  have h12w := hts (.fieldLink RX1 18 "RopeTown$Book" "manner" "[I") (wz_at 4 6 rfl)
  have h13w := hts (.fieldLink RX1 21 "RopeTown$Book" "before" "[I") (wz_at 4 7 rfl)
  have h14w := hts (.fieldLink RX1 24 "RopeTown$Book" "wound" "[I") (wz_at 4 8 rfl)
  have h15w := hts (.fieldLink RX1 27 "RopeTown$Book" "day" "[I") (wz_at 4 9 rfl)
  have h16w := hts (.fieldLink RX1 30 "RopeTown$Book" "status" "[I") (wz_at 4 10 rfl)
  refine lv_aload_n hx hb dX1_copy_0 rfl (lv_at hl 0 rfl) ?_
  refine lv_aload_n hx hb dX1_copy_1 rfl (lv_at hl 1 rfl) ?_
  refine va_get (D := G) (ci := 0) (v := .int (Int32.ofInt (fiK 0))) (C := RX1) (T := TX1) (N := 12) (ref := RX1) hx hb hts h1w hown hX.1 hP 8 rfl rfl 0 (by decide) h0w (fun _ h9 => h9) rfl dX1_copy_2 ?_
  have rf0K := hRK 0
  refine iv_put (ci := 0) (v := .int (Int32.ofInt (fiK 0))) (ty := .int) (C := RX1) (T := TX1) (N := 12) (ref := RX1) hx hb hts h1w tyX1 tyX1_ok nmX1 hown hX.1 hP hD hS 0 rfl rfl 0 (by decide) h0w (fun _ h9 => h9) rfl (by decide +kernel) rfl rfl (Nat.le_of_ble_eq_true rfl) (show _ = ((wB k arB (uF fiB 0 (fiK 0)) faB) ++ (wB k arK fiK faK)) from rfl) dX1_copy_5 (fun H locs hP hD hS => ?_)
  refine lv_aload_n hx hb dX1_copy_8 rfl (lv_at hl 0 rfl) ?_
  refine lv_aload_n hx hb dX1_copy_9 rfl (lv_at hl 1 rfl) ?_
  refine va_get (D := G) (ci := 0) (v := .int (Int32.ofInt (fiK 1))) (C := RX1) (T := TX1) (N := 12) (ref := RX1) hx hb hts h1w hown hX.1 hP 8 rfl rfl 1 (by decide) h2w (fun _ h9 => h9) rfl dX1_copy_10 ?_
  have rf1K := hRK 1
  refine iv_put (ci := 0) (v := .int (Int32.ofInt (fiK 1))) (ty := .int) (C := RX1) (T := TX1) (N := 12) (ref := RX1) hx hb hts h1w tyX1 tyX1_ok nmX1 hown hX.1 hP hD hS 0 rfl rfl 1 (by decide) h2w (fun _ h9 => h9) rfl (by decide +kernel) rfl rfl (Nat.le_of_ble_eq_true rfl) (show _ = ((wB k arB (uF (uF fiB 0 (fiK 0)) 1 (fiK 1)) faB) ++ (wB k arK fiK faK)) from rfl) dX1_copy_13 (fun H locs hP hD hS => ?_)
  refine lv_aload_n hx hb dX1_copy_16 rfl (lv_at hl 0 rfl) ?_
  refine lv_aload_n hx hb dX1_copy_17 rfl (lv_at hl 1 rfl) ?_
  refine va_get (D := G) (ci := 0) (v := .int (Int32.ofInt (fiK 2))) (C := RX1) (T := TX1) (N := 12) (ref := RX1) hx hb hts h1w hown hX.1 hP 8 rfl rfl 2 (by decide) h3w (fun _ h9 => h9) rfl dX1_copy_18 ?_
  have rf2K := hRK 2
  refine iv_put (ci := 0) (v := .int (Int32.ofInt (fiK 2))) (ty := .int) (C := RX1) (T := TX1) (N := 12) (ref := RX1) hx hb hts h1w tyX1 tyX1_ok nmX1 hown hX.1 hP hD hS 0 rfl rfl 2 (by decide) h3w (fun _ h9 => h9) rfl (by decide +kernel) rfl rfl (Nat.le_of_ble_eq_true rfl) (show _ = ((wB k arB (uF (uF (uF fiB 0 (fiK 0)) 1 (fiK 1)) 2 (fiK 2)) faB) ++ (wB k arK fiK faK)) from rfl) dX1_copy_21 (fun H locs hP hD hS => ?_)
  refine lv_aload_n hx hb dX1_copy_24 rfl (lv_at hl 0 rfl) ?_
  refine lv_aload_n hx hb dX1_copy_25 rfl (lv_at hl 1 rfl) ?_
  refine va_get (D := G) (ci := 0) (v := .int (Int32.ofInt (fiK 3))) (C := RX1) (T := TX1) (N := 12) (ref := RX1) hx hb hts h1w hown hX.1 hP 8 rfl rfl 3 (by decide) h4w (fun _ h9 => h9) rfl dX1_copy_26 ?_
  have rf3K := hRK 3
  refine iv_put (ci := 0) (v := .int (Int32.ofInt (fiK 3))) (ty := .int) (C := RX1) (T := TX1) (N := 12) (ref := RX1) hx hb hts h1w tyX1 tyX1_ok nmX1 hown hX.1 hP hD hS 0 rfl rfl 3 (by decide) h4w (fun _ h9 => h9) rfl (by decide +kernel) rfl rfl (Nat.le_of_ble_eq_true rfl) (show _ = ((wB k arB (uF (uF (uF (uF fiB 0 (fiK 0)) 1 (fiK 1)) 2 (fiK 2)) 3 (fiK 3)) faB) ++ (wB k arK fiK faK)) from rfl) dX1_copy_29 (fun H locs hP hD hS => ?_)
  refine lv_aload_n hx hb dX1_copy_32 rfl (lv_at hl 0 rfl) ?_
  refine lv_aload_n hx hb dX1_copy_33 rfl (lv_at hl 1 rfl) ?_
  refine va_get (D := G) (ci := 0) (v := .int (Int32.ofInt (fiK 4))) (C := RX1) (T := TX1) (N := 12) (ref := RX1) hx hb hts h1w hown hX.1 hP 8 rfl rfl 4 (by decide) h5w (fun _ h9 => h9) rfl dX1_copy_34 ?_
  have rf4K := hRK 4
  refine iv_put (ci := 0) (v := .int (Int32.ofInt (fiK 4))) (ty := .int) (C := RX1) (T := TX1) (N := 12) (ref := RX1) hx hb hts h1w tyX1 tyX1_ok nmX1 hown hX.1 hP hD hS 0 rfl rfl 4 (by decide) h5w (fun _ h9 => h9) rfl (by decide +kernel) rfl rfl (Nat.le_of_ble_eq_true rfl) (show _ = ((wB k arB (uF (uF (uF (uF (uF fiB 0 (fiK 0)) 1 (fiK 1)) 2 (fiK 2)) 3 (fiK 3)) 4 (fiK 4)) faB) ++ (wB k arK fiK faK)) from rfl) dX1_copy_37 (fun H locs hP hD hS => ?_)
  refine lv_aload_n hx hb dX1_copy_40 rfl (lv_at hl 1 rfl) ?_
  refine va_get (D := G) (ci := 0) (v := .ref (arK 5)) (C := RX1) (T := TX1) (N := 12) (ref := RX1) hx hb hts h1w hown hX.1 hP 8 rfl rfl 5 (by decide) h6w (fun _ h9 => h9) rfl dX1_copy_41 ?_
  refine lv_iconst (v := Int32.ofInt 0) hx hb dX1_copy_44 (by decide +kernel) ?_
  refine lv_aload_n hx hb dX1_copy_45 rfl (lv_at hl 0 rfl) ?_
  refine va_get (D := G) (ci := 0) (v := .ref (arB 5)) (C := RX1) (T := TX1) (N := 12) (ref := RX1) hx hb hts h1w hown hX.1 hP 0 rfl rfl 5 (by decide) h6w (fun _ h9 => h9) rfl dX1_copy_46 ?_
  refine lv_iconst (v := Int32.ofInt 0) hx hb dX1_copy_49 (by decide +kernel) ?_
  refine lv_bipush (v := Int32.ofInt 60) hx hb dX1_copy_50 (by decide +kernel) ?_
  refine iv_cpy (n := 60) hx hb (hml.trans hl.1.symm) hown h7w h8w h9w h10w hX.1 hP hD hS 9 1 0 0 rfl rfl rfl rfl (fun g' => show _ = ((wB k arB (uF (uF (uF (uF (uF fiB 0 (fiK 0)) 1 (fiK 1)) 2 (fiK 2)) 3 (fiK 3)) 4 (fiK 4)) (uF faB 5 (g'))) ++ (wB k arK fiK faK)) from rfl) (by decide) (Nat.le_of_ble_eq_true rfl) (Nat.le_of_ble_eq_true rfl) dX1_copy_52 (fun H locs hP hD hS => ?_)
  obtain ⟨g1, eg1, rg1⟩ : ∃ z, z = cpZ (faK 5) (faB 5) 60 ∧ ∀ t, inR (z t) := ⟨_, rfl, cpZ_r (hRaK 5) (hRaB 5)⟩
  rw [← eg1] at hP hD
  refine lv_aload_n hx hb dX1_copy_55 rfl (lv_at hl 1 rfl) ?_
  refine va_get (D := G) (ci := 0) (v := .ref (arK 6)) (C := RX1) (T := TX1) (N := 12) (ref := RX1) hx hb hts h1w hown hX.1 hP 8 rfl rfl 6 (by decide) h11w (fun _ h9 => h9) rfl dX1_copy_56 ?_
  refine lv_iconst (v := Int32.ofInt 0) hx hb dX1_copy_59 (by decide +kernel) ?_
  refine lv_aload_n hx hb dX1_copy_60 rfl (lv_at hl 0 rfl) ?_
  refine va_get (D := G) (ci := 0) (v := .ref (arB 6)) (C := RX1) (T := TX1) (N := 12) (ref := RX1) hx hb hts h1w hown hX.1 hP 0 rfl rfl 6 (by decide) h11w (fun _ h9 => h9) rfl dX1_copy_61 ?_
  refine lv_iconst (v := Int32.ofInt 0) hx hb dX1_copy_64 (by decide +kernel) ?_
  refine lv_bipush (v := Int32.ofInt 60) hx hb dX1_copy_65 (by decide +kernel) ?_
  refine iv_cpy (n := 60) hx hb (hml.trans hl.1.symm) hown h7w h8w h9w h10w hX.1 hP hD hS 10 2 0 0 rfl rfl rfl rfl (fun g' => show _ = ((wB k arB (uF (uF (uF (uF (uF fiB 0 (fiK 0)) 1 (fiK 1)) 2 (fiK 2)) 3 (fiK 3)) 4 (fiK 4)) (uF (uF faB 5 (g1)) 6 (g'))) ++ (wB k arK fiK faK)) from rfl) (by decide) (Nat.le_of_ble_eq_true rfl) (Nat.le_of_ble_eq_true rfl) dX1_copy_67 (fun H locs hP hD hS => ?_)
  obtain ⟨hP, hD⟩ : va_P G vwCl ((wB k arB (uF (uF (uF (uF (uF fiB 0 (fiK 0)) 1 (fiK 1)) 2 (fiK 2)) 3 (fiK 3)) 4 (fiK 4)) (uF (uF faB 5 (g1)) 6 (cpZ (faK 6) (faB 6) 60))) ++ (wB k arK fiK faK)) H ∧ va_D A ((wB k arB (uF (uF (uF (uF (uF fiB 0 (fiK 0)) 1 (fiK 1)) 2 (fiK 2)) 3 (fiK 3)) 4 (fiK 4)) (uF (uF faB 5 (g1)) 6 (cpZ (faK 6) (faB 6) 60))) ++ (wB k arK fiK faK)) := ⟨hP, hD⟩
  obtain ⟨g2, eg2, rg2⟩ : ∃ z, z = cpZ (faK 6) (faB 6) 60 ∧ ∀ t, inR (z t) := ⟨_, rfl, cpZ_r (hRaK 6) (hRaB 6)⟩
  rw [← eg2] at hP hD
  refine lv_aload_n hx hb dX1_copy_70 rfl (lv_at hl 1 rfl) ?_
  refine va_get (D := G) (ci := 0) (v := .ref (arK 7)) (C := RX1) (T := TX1) (N := 12) (ref := RX1) hx hb hts h1w hown hX.1 hP 8 rfl rfl 7 (by decide) h12w (fun _ h9 => h9) rfl dX1_copy_71 ?_
  refine lv_iconst (v := Int32.ofInt 0) hx hb dX1_copy_74 (by decide +kernel) ?_
  refine lv_aload_n hx hb dX1_copy_75 rfl (lv_at hl 0 rfl) ?_
  refine va_get (D := G) (ci := 0) (v := .ref (arB 7)) (C := RX1) (T := TX1) (N := 12) (ref := RX1) hx hb hts h1w hown hX.1 hP 0 rfl rfl 7 (by decide) h12w (fun _ h9 => h9) rfl dX1_copy_76 ?_
  refine lv_iconst (v := Int32.ofInt 0) hx hb dX1_copy_79 (by decide +kernel) ?_
  refine lv_bipush (v := Int32.ofInt 60) hx hb dX1_copy_80 (by decide +kernel) ?_
  refine iv_cpy (n := 60) hx hb (hml.trans hl.1.symm) hown h7w h8w h9w h10w hX.1 hP hD hS 11 3 0 0 rfl rfl rfl rfl (fun g' => show _ = ((wB k arB (uF (uF (uF (uF (uF fiB 0 (fiK 0)) 1 (fiK 1)) 2 (fiK 2)) 3 (fiK 3)) 4 (fiK 4)) (uF (uF (uF faB 5 (g1)) 6 (g2)) 7 (g'))) ++ (wB k arK fiK faK)) from rfl) (by decide) (Nat.le_of_ble_eq_true rfl) (Nat.le_of_ble_eq_true rfl) dX1_copy_82 (fun H locs hP hD hS => ?_)
  obtain ⟨hP, hD⟩ : va_P G vwCl ((wB k arB (uF (uF (uF (uF (uF fiB 0 (fiK 0)) 1 (fiK 1)) 2 (fiK 2)) 3 (fiK 3)) 4 (fiK 4)) (uF (uF (uF faB 5 (g1)) 6 (g2)) 7 (cpZ (faK 7) (faB 7) 60))) ++ (wB k arK fiK faK)) H ∧ va_D A ((wB k arB (uF (uF (uF (uF (uF fiB 0 (fiK 0)) 1 (fiK 1)) 2 (fiK 2)) 3 (fiK 3)) 4 (fiK 4)) (uF (uF (uF faB 5 (g1)) 6 (g2)) 7 (cpZ (faK 7) (faB 7) 60))) ++ (wB k arK fiK faK)) := ⟨hP, hD⟩
  obtain ⟨g3, eg3, rg3⟩ : ∃ z, z = cpZ (faK 7) (faB 7) 60 ∧ ∀ t, inR (z t) := ⟨_, rfl, cpZ_r (hRaK 7) (hRaB 7)⟩
  rw [← eg3] at hP hD
  refine lv_aload_n hx hb dX1_copy_85 rfl (lv_at hl 1 rfl) ?_
  refine va_get (D := G) (ci := 0) (v := .ref (arK 8)) (C := RX1) (T := TX1) (N := 12) (ref := RX1) hx hb hts h1w hown hX.1 hP 8 rfl rfl 8 (by decide) h13w (fun _ h9 => h9) rfl dX1_copy_86 ?_
  refine lv_iconst (v := Int32.ofInt 0) hx hb dX1_copy_89 (by decide +kernel) ?_
  refine lv_aload_n hx hb dX1_copy_90 rfl (lv_at hl 0 rfl) ?_
  refine va_get (D := G) (ci := 0) (v := .ref (arB 8)) (C := RX1) (T := TX1) (N := 12) (ref := RX1) hx hb hts h1w hown hX.1 hP 0 rfl rfl 8 (by decide) h13w (fun _ h9 => h9) rfl dX1_copy_91 ?_
  refine lv_iconst (v := Int32.ofInt 0) hx hb dX1_copy_94 (by decide +kernel) ?_
  refine lv_bipush (v := Int32.ofInt 60) hx hb dX1_copy_95 (by decide +kernel) ?_
  refine iv_cpy (n := 60) hx hb (hml.trans hl.1.symm) hown h7w h8w h9w h10w hX.1 hP hD hS 12 4 0 0 rfl rfl rfl rfl (fun g' => show _ = ((wB k arB (uF (uF (uF (uF (uF fiB 0 (fiK 0)) 1 (fiK 1)) 2 (fiK 2)) 3 (fiK 3)) 4 (fiK 4)) (uF (uF (uF (uF faB 5 (g1)) 6 (g2)) 7 (g3)) 8 (g'))) ++ (wB k arK fiK faK)) from rfl) (by decide) (Nat.le_of_ble_eq_true rfl) (Nat.le_of_ble_eq_true rfl) dX1_copy_97 (fun H locs hP hD hS => ?_)
  obtain ⟨hP, hD⟩ : va_P G vwCl ((wB k arB (uF (uF (uF (uF (uF fiB 0 (fiK 0)) 1 (fiK 1)) 2 (fiK 2)) 3 (fiK 3)) 4 (fiK 4)) (uF (uF (uF (uF faB 5 (g1)) 6 (g2)) 7 (g3)) 8 (cpZ (faK 8) (faB 8) 60))) ++ (wB k arK fiK faK)) H ∧ va_D A ((wB k arB (uF (uF (uF (uF (uF fiB 0 (fiK 0)) 1 (fiK 1)) 2 (fiK 2)) 3 (fiK 3)) 4 (fiK 4)) (uF (uF (uF (uF faB 5 (g1)) 6 (g2)) 7 (g3)) 8 (cpZ (faK 8) (faB 8) 60))) ++ (wB k arK fiK faK)) := ⟨hP, hD⟩
  obtain ⟨g4, eg4, rg4⟩ : ∃ z, z = cpZ (faK 8) (faB 8) 60 ∧ ∀ t, inR (z t) := ⟨_, rfl, cpZ_r (hRaK 8) (hRaB 8)⟩
  rw [← eg4] at hP hD
  refine lv_aload_n hx hb dX1_copy_100 rfl (lv_at hl 1 rfl) ?_
  refine va_get (D := G) (ci := 0) (v := .ref (arK 9)) (C := RX1) (T := TX1) (N := 12) (ref := RX1) hx hb hts h1w hown hX.1 hP 8 rfl rfl 9 (by decide) h14w (fun _ h9 => h9) rfl dX1_copy_101 ?_
  refine lv_iconst (v := Int32.ofInt 0) hx hb dX1_copy_104 (by decide +kernel) ?_
  refine lv_aload_n hx hb dX1_copy_105 rfl (lv_at hl 0 rfl) ?_
  refine va_get (D := G) (ci := 0) (v := .ref (arB 9)) (C := RX1) (T := TX1) (N := 12) (ref := RX1) hx hb hts h1w hown hX.1 hP 0 rfl rfl 9 (by decide) h14w (fun _ h9 => h9) rfl dX1_copy_106 ?_
  refine lv_iconst (v := Int32.ofInt 0) hx hb dX1_copy_109 (by decide +kernel) ?_
  refine lv_bipush (v := Int32.ofInt 60) hx hb dX1_copy_110 (by decide +kernel) ?_
  refine iv_cpy (n := 60) hx hb (hml.trans hl.1.symm) hown h7w h8w h9w h10w hX.1 hP hD hS 13 5 0 0 rfl rfl rfl rfl (fun g' => show _ = ((wB k arB (uF (uF (uF (uF (uF fiB 0 (fiK 0)) 1 (fiK 1)) 2 (fiK 2)) 3 (fiK 3)) 4 (fiK 4)) (uF (uF (uF (uF (uF faB 5 (g1)) 6 (g2)) 7 (g3)) 8 (g4)) 9 (g'))) ++ (wB k arK fiK faK)) from rfl) (by decide) (Nat.le_of_ble_eq_true rfl) (Nat.le_of_ble_eq_true rfl) dX1_copy_112 (fun H locs hP hD hS => ?_)
  obtain ⟨hP, hD⟩ : va_P G vwCl ((wB k arB (uF (uF (uF (uF (uF fiB 0 (fiK 0)) 1 (fiK 1)) 2 (fiK 2)) 3 (fiK 3)) 4 (fiK 4)) (uF (uF (uF (uF (uF faB 5 (g1)) 6 (g2)) 7 (g3)) 8 (g4)) 9 (cpZ (faK 9) (faB 9) 60))) ++ (wB k arK fiK faK)) H ∧ va_D A ((wB k arB (uF (uF (uF (uF (uF fiB 0 (fiK 0)) 1 (fiK 1)) 2 (fiK 2)) 3 (fiK 3)) 4 (fiK 4)) (uF (uF (uF (uF (uF faB 5 (g1)) 6 (g2)) 7 (g3)) 8 (g4)) 9 (cpZ (faK 9) (faB 9) 60))) ++ (wB k arK fiK faK)) := ⟨hP, hD⟩
  obtain ⟨g5, eg5, rg5⟩ : ∃ z, z = cpZ (faK 9) (faB 9) 60 ∧ ∀ t, inR (z t) := ⟨_, rfl, cpZ_r (hRaK 9) (hRaB 9)⟩
  rw [← eg5] at hP hD
  refine lv_aload_n hx hb dX1_copy_115 rfl (lv_at hl 1 rfl) ?_
  refine va_get (D := G) (ci := 0) (v := .ref (arK 10)) (C := RX1) (T := TX1) (N := 12) (ref := RX1) hx hb hts h1w hown hX.1 hP 8 rfl rfl 10 (by decide) h15w (fun _ h9 => h9) rfl dX1_copy_116 ?_
  refine lv_iconst (v := Int32.ofInt 0) hx hb dX1_copy_119 (by decide +kernel) ?_
  refine lv_aload_n hx hb dX1_copy_120 rfl (lv_at hl 0 rfl) ?_
  refine va_get (D := G) (ci := 0) (v := .ref (arB 10)) (C := RX1) (T := TX1) (N := 12) (ref := RX1) hx hb hts h1w hown hX.1 hP 0 rfl rfl 10 (by decide) h15w (fun _ h9 => h9) rfl dX1_copy_121 ?_
  refine lv_iconst (v := Int32.ofInt 0) hx hb dX1_copy_124 (by decide +kernel) ?_
  refine lv_bipush (v := Int32.ofInt 6) hx hb dX1_copy_125 (by decide +kernel) ?_
  refine iv_cpy (n := 6) hx hb (hml.trans hl.1.symm) hown h7w h8w h9w h10w hX.1 hP hD hS 14 6 0 0 rfl rfl rfl rfl (fun g' => show _ = ((wB k arB (uF (uF (uF (uF (uF fiB 0 (fiK 0)) 1 (fiK 1)) 2 (fiK 2)) 3 (fiK 3)) 4 (fiK 4)) (uF (uF (uF (uF (uF (uF faB 5 (g1)) 6 (g2)) 7 (g3)) 8 (g4)) 9 (g5)) 10 (g'))) ++ (wB k arK fiK faK)) from rfl) (by decide) (Nat.le_of_ble_eq_true rfl) (Nat.le_of_ble_eq_true rfl) dX1_copy_127 (fun H locs hP hD hS => ?_)
  obtain ⟨hP, hD⟩ : va_P G vwCl ((wB k arB (uF (uF (uF (uF (uF fiB 0 (fiK 0)) 1 (fiK 1)) 2 (fiK 2)) 3 (fiK 3)) 4 (fiK 4)) (uF (uF (uF (uF (uF (uF faB 5 (g1)) 6 (g2)) 7 (g3)) 8 (g4)) 9 (g5)) 10 (cpZ (faK 10) (faB 10) 6))) ++ (wB k arK fiK faK)) H ∧ va_D A ((wB k arB (uF (uF (uF (uF (uF fiB 0 (fiK 0)) 1 (fiK 1)) 2 (fiK 2)) 3 (fiK 3)) 4 (fiK 4)) (uF (uF (uF (uF (uF (uF faB 5 (g1)) 6 (g2)) 7 (g3)) 8 (g4)) 9 (g5)) 10 (cpZ (faK 10) (faB 10) 6))) ++ (wB k arK fiK faK)) := ⟨hP, hD⟩
  obtain ⟨g6, eg6, rg6⟩ : ∃ z, z = cpZ (faK 10) (faB 10) 6 ∧ ∀ t, inR (z t) := ⟨_, rfl, cpZ_r (hRaK 10) (hRaB 10)⟩
  rw [← eg6] at hP hD
  refine lv_aload_n hx hb dX1_copy_130 rfl (lv_at hl 1 rfl) ?_
  refine va_get (D := G) (ci := 0) (v := .ref (arK 11)) (C := RX1) (T := TX1) (N := 12) (ref := RX1) hx hb hts h1w hown hX.1 hP 8 rfl rfl 11 (by decide) h16w (fun _ h9 => h9) rfl dX1_copy_131 ?_
  refine lv_iconst (v := Int32.ofInt 0) hx hb dX1_copy_134 (by decide +kernel) ?_
  refine lv_aload_n hx hb dX1_copy_135 rfl (lv_at hl 0 rfl) ?_
  refine va_get (D := G) (ci := 0) (v := .ref (arB 11)) (C := RX1) (T := TX1) (N := 12) (ref := RX1) hx hb hts h1w hown hX.1 hP 0 rfl rfl 11 (by decide) h16w (fun _ h9 => h9) rfl dX1_copy_136 ?_
  refine lv_iconst (v := Int32.ofInt 0) hx hb dX1_copy_139 (by decide +kernel) ?_
  refine lv_aload_n hx hb dX1_copy_140 rfl (lv_at hl 0 rfl) ?_
  refine va_get (D := G) (ci := 0) (v := .ref (arB 11)) (C := RX1) (T := TX1) (N := 12) (ref := RX1) hx hb hts h1w hown hX.1 hP 0 rfl rfl 11 (by decide) h16w (fun _ h9 => h9) rfl dX1_copy_141 ?_
  refine va_alen (v := Int32.ofInt 3) hx hb hX.1 hP 7 0 rfl rfl (show Int32.ofNat 3 = Int32.ofInt 3 from by decide) dX1_copy_144 ?_
  refine iv_cpy (n := 3) hx hb (hml.trans hl.1.symm) hown h7w h8w h9w h10w hX.1 hP hD hS 15 7 0 0 rfl rfl rfl rfl (fun g' => show _ = ((wB k arB (uF (uF (uF (uF (uF fiB 0 (fiK 0)) 1 (fiK 1)) 2 (fiK 2)) 3 (fiK 3)) 4 (fiK 4)) (uF (uF (uF (uF (uF (uF (uF faB 5 (g1)) 6 (g2)) 7 (g3)) 8 (g4)) 9 (g5)) 10 (g6)) 11 (g'))) ++ (wB k arK fiK faK)) from rfl) (by decide) (Nat.le_of_ble_eq_true rfl) (Nat.le_of_ble_eq_true rfl) dX1_copy_145 (fun H locs hP hD hS => ?_)
  obtain ⟨hP, hD⟩ : va_P G vwCl ((wB k arB (uF (uF (uF (uF (uF fiB 0 (fiK 0)) 1 (fiK 1)) 2 (fiK 2)) 3 (fiK 3)) 4 (fiK 4)) (uF (uF (uF (uF (uF (uF (uF faB 5 (g1)) 6 (g2)) 7 (g3)) 8 (g4)) 9 (g5)) 10 (g6)) 11 (cpZ (faK 11) (faB 11) 3))) ++ (wB k arK fiK faK)) H ∧ va_D A ((wB k arB (uF (uF (uF (uF (uF fiB 0 (fiK 0)) 1 (fiK 1)) 2 (fiK 2)) 3 (fiK 3)) 4 (fiK 4)) (uF (uF (uF (uF (uF (uF (uF faB 5 (g1)) 6 (g2)) 7 (g3)) 8 (g4)) 9 (g5)) 10 (g6)) 11 (cpZ (faK 11) (faB 11) 3))) ++ (wB k arK fiK faK)) := ⟨hP, hD⟩
  obtain ⟨g7, eg7, rg7⟩ : ∃ z, z = cpZ (faK 11) (faB 11) 3 ∧ ∀ t, inR (z t) := ⟨_, rfl, cpZ_r (hRaK 11) (hRaB 11)⟩
  rw [← eg7] at hP hD
  exact W.vret hx hb hr (fun t ht hW => ⟨⟨(g1, g2, g3, g4, g5, g6, g7, fiK 0, fiK 1, fiK 2, fiK 3, fiK 4), rfl, (show (∀ t, inR (g1 t)) ∧ (∀ t, inR (g2 t)) ∧ (∀ t, inR (g3 t)) ∧ (∀ t, inR (g4 t)) ∧ (∀ t, inR (g5 t)) ∧ (∀ t, inR (g6 t)) ∧ (∀ t, inR (g7 t)) ∧ (inR (fiK 0)) ∧ (inR (fiK 1)) ∧ (inR (fiK 2)) ∧ (inR (fiK 3)) ∧ (inR (fiK 4)) ∧ ((fiK 1) = fiK 1 ∧ (fiK 4) = fiK 4) from ⟨rg1, rg2, rg3, rg4, rg5, rg6, rg7, (hRK 0), (hRK 1), (hRK 2), (hRK 3), (hRK 4), (by omega)⟩), by rw [ht]; exact hP, hD⟩, hS.F ht⟩) hS.2.2 dX1_copy_148

set_option maxHeartbeats 4000000 in
set_option maxRecDepth 100000 in
theorem mX4_stop (l : Launch) (G : va_G) (k : Nat → ClassId) (arR : Nat → Nat) (plR : Nat) (fiR : Nat → Int) (faR : Nat → Int → Int) (arY : Nat → Nat) (fiY : Nat → Int) (faY : Nat → Int → Int) (sz : Nat) (hRR : ∀ j, inR (fiR j)) (hRaR : ∀ j t, inR (faR j t)) (hRY : ∀ j, inR (fiY j)) (hRaY : ∀ j t, inR (faY j t)) (hB0Y : bnd (faY 0) 600 (-128) 128) (h0 : 0 ≤ fiR 21) : CNv l G k (EZ k) yX4_stop wzX4_stop ({ frames := 0, cells := 0, slots := 0, locals := 0 }) [.ref (arR 98)] sz ((wR k arR (plR) (arY 0) fiR faR) ++ (wY k arY fiY faY)) (fun (u : Int × Int × Int × Int × Int) => (inR u.1) ∧ (inR u.2.1) ∧ (inR u.2.2.1) ∧ (inR u.2.2.2.1) ∧ (inR u.2.2.2.2) ∧ (u.1 = fiR 21 ∧ u.2.1 = fiR 21 ∧ u.2.2.2.1 = 23 ∧ u.2.2.1 = 0)) (fun (u : Int × Int × Int × Int × Int) => ((wR k arR (plR) (arY 0) (uF (uF (uF (uF (uF fiR 22 (u.1)) 23 (u.2.1)) 24 (u.2.2.1)) 25 (u.2.2.2.1)) 27 (u.2.2.2.2)) faR) ++ (wY k arY fiY faY))) := by
  refine Met.ofW (cc := cX4_stop) (maxL := 1) (ret := none) (by decide) rfl ?_
  intro p e s m args below meth c s₁ B hml hv
  obtain ⟨rfl, hsz, hP, hX, hD0, hZ0⟩ := hv
  have hx := B.exec
  have hb := B.bytes
  have hr := B.returns
  have hts := atoms_spec (ws := wzX4_stop) B.pre
  have hown : s.vm.findClass RX4 = some m.cls := findClass_of_methodNamed B.named
  subst hsz
  have hD := hD0.self (sz := s.heap.size)
  have hZ := hZ0
  generalize hAe : va_A ((wR k arR (plR) (arY 0) fiR faR) ++ (wY k arY fiY faY)) s.heap.size = A at hD hZ ⊢
  have hA : ∀ q : Nat, s.heap.size ≤ q → A q := fun q h => by rw [← hAe]; exact Or.inr h
  have hS : va_S A s.heap s.heap [] := va_S.rf
  have hl := lv_entry ([.ref (arR 98)]) (n := 1) (Nat.le_of_ble_eq_true rfl)
  rw [lg_entry_eq]
  generalize (lg_sl ([.ref (arR 98)]) ++ List.replicate (1 - (lg_sl ([.ref (arR 98)])).length) Slot.unset).toArray = ls at hl ⊢
  have hl : lv_has ls 1 [(0, .ref (arR 98))] := hl
  obtain ⟨H, eH⟩ : ∃ H, H = s.heap := ⟨_, rfl⟩
  rw [← eH] at hP
  have hS : va_S A s.heap H [] := by rw [eH]; exact hS
  have gW : s.heap = H := eH.symm
  refine iv_heap gW ?_
  have h0w := hts (.fieldLink RX4 25 "RopeTown$Reader" "kind" "I") (wz_at 3 20 rfl)
  have h1w : ∀ w ∈ wsX40, w ∈ wzX4_stop := fun w h => List.mem_cons_of_mem _ (inlX4 w h)
  have h2w := hts (.fieldLink RX4 15 "RopeTown$Reader" "length" "I") (wz_at 3 17 rfl)
  have h3w := hts (.fieldLink RX4 19 "RopeTown$Reader" "start" "I") (wz_at 3 18 rfl)
  have h4w := hts (.fieldLink RX4 22 "RopeTown$Reader" "next" "I") (wz_at 3 19 rfl)
  have h5w := hts (.fieldLink RX4 28 "RopeTown$Word" "UNKNOWN" "LRopeTown$Word;") (wz_at 3 21 rfl)
  have h6w := hts (.fieldLink RX4 34 "RopeTown$Reader" "word" "LRopeTown$Word;") (wz_at 3 22 rfl)
  have h7w := hts (.fieldLink RX4 40 "RopeTown$Reader" "sign" "I") (wz_at 4 0 rfl)
  refine lv_aload_n hx hb dX4_stop_0 rfl (lv_at hl 0 rfl) ?_
  refine lv_iconst (v := Int32.ofInt 0) hx hb dX4_stop_1 (by decide +kernel) ?_
  refine iv_put (ci := 3) (v := .int (Int32.ofInt (0))) (ty := .int) (C := RX4) (T := TX4) (N := 8) (ref := RX4) hx hb hts h1w tyX4 tyX4_ok nmX4 hown hX.1 hP hD hS 1 rfl rfl 4 (by decide) h0w (fun _ h9 => h9) rfl (by decide +kernel) rfl rfl (Nat.le_of_ble_eq_true rfl) (show _ = ((wR k arR (plR) (arY 0) (uF fiR 24 (0)) faR) ++ (wY k arY fiY faY)) from rfl) dX4_stop_2 (fun H locs hP hD hS => ?_)
  refine lv_aload_n hx hb dX4_stop_5 rfl (lv_at hl 0 rfl) ?_
  refine lv_aload_n hx hb dX4_stop_6 rfl (lv_at hl 0 rfl) ?_
  refine va_get (D := G) (ci := 3) (v := .int (Int32.ofInt (fiR 21))) (C := RX4) (T := TX4) (N := 8) (ref := RX4) hx hb hts h1w hown hX.1 hP 1 rfl rfl 1 (by decide) h2w (fun _ h9 => h9) rfl dX4_stop_7 ?_
  have rf21R := hRR 21
  refine iv_put (ci := 3) (v := .int (Int32.ofInt (fiR 21))) (ty := .int) (C := RX4) (T := TX4) (N := 8) (ref := RX4) hx hb hts h1w tyX4 tyX4_ok nmX4 hown hX.1 hP hD hS 1 rfl rfl 2 (by decide) h3w (fun _ h9 => h9) rfl (by decide +kernel) rfl rfl (Nat.le_of_ble_eq_true rfl) (show _ = ((wR k arR (plR) (arY 0) (uF (uF fiR 22 (fiR 21)) 24 (0)) faR) ++ (wY k arY fiY faY)) from rfl) dX4_stop_10 (fun H locs hP hD hS => ?_)
  refine lv_aload_n hx hb dX4_stop_13 rfl (lv_at hl 0 rfl) ?_
  refine lv_aload_n hx hb dX4_stop_14 rfl (lv_at hl 0 rfl) ?_
  refine va_get (D := G) (ci := 3) (v := .int (Int32.ofInt (fiR 21))) (C := RX4) (T := TX4) (N := 8) (ref := RX4) hx hb hts h1w hown hX.1 hP 1 rfl rfl 1 (by decide) h2w (fun _ h9 => h9) rfl dX4_stop_15 ?_
  have rf21R := hRR 21
  refine iv_put (ci := 3) (v := .int (Int32.ofInt (fiR 21))) (ty := .int) (C := RX4) (T := TX4) (N := 8) (ref := RX4) hx hb hts h1w tyX4 tyX4_ok nmX4 hown hX.1 hP hD hS 1 rfl rfl 3 (by decide) h4w (fun _ h9 => h9) rfl (by decide +kernel) rfl rfl (Nat.le_of_ble_eq_true rfl) (show _ = ((wR k arR (plR) (arY 0) (uF (uF (uF fiR 22 (fiR 21)) 23 (fiR 21)) 24 (0)) faR) ++ (wY k arY fiY faY)) from rfl) dX4_stop_18 (fun H locs hP hD hS => ?_)
  refine lv_aload_n hx hb dX4_stop_21 rfl (lv_at hl 0 rfl) ?_
  refine va_gets (C := "RopeTown$Word") (n := "UNKNOWN") (d := "LRopeTown$Word;") (ref := "RopeTown$Word") (v := .ref (k (400 + (23 : Int).toNat))) hx hb (ez_word hZ 23 rfl) hS hown h5w (fun _ h9 => h9) dX4_stop_22 ?_
  refine iv_put (ci := 3) (v := .ref (k (400 + (23 : Int).toNat))) (ty := .object "RopeTown$Word") (C := RX4) (T := TX4) (N := 8) (ref := RX4) hx hb hts h1w tyX4 tyX4_ok nmX4 hown hX.1 hP hD hS 1 rfl rfl 5 (by decide) h6w (fun _ h9 => h9) rfl (by decide +kernel) rfl rfl (Nat.le_of_ble_eq_true rfl) (show _ = ((wR k arR (plR) (arY 0) (uF (uF (uF (uF fiR 22 (fiR 21)) 23 (fiR 21)) 24 (0)) 25 (23)) faR) ++ (wY k arY fiY faY)) from rfl) dX4_stop_25 (fun H locs hP hD hS => ?_)
  refine lv_aload_n hx hb dX4_stop_28 rfl (lv_at hl 0 rfl) ?_
  refine lv_iconst (v := Int32.ofInt 0) hx hb dX4_stop_29 (by decide +kernel) ?_
  refine iv_put (ci := 3) (v := .int (Int32.ofInt (0))) (ty := .int) (C := RX4) (T := TX4) (N := 8) (ref := RX4) hx hb hts h1w tyX4 tyX4_ok nmX4 hown hX.1 hP hD hS 1 rfl rfl 7 (by decide) h7w (fun _ h9 => h9) rfl (by decide +kernel) rfl rfl (Nat.le_of_ble_eq_true rfl) (show _ = ((wR k arR (plR) (arY 0) (uF (uF (uF (uF (uF fiR 22 (fiR 21)) 23 (fiR 21)) 24 (0)) 25 (23)) 27 (0)) faR) ++ (wY k arY fiY faY)) from rfl) dX4_stop_30 (fun H locs hP hD hS => ?_)
  exact W.vret hx hb hr (fun t ht hW => ⟨⟨(fiR 21, fiR 21, 0, 23, 0), rfl, (show (inR (fiR 21)) ∧ (inR (fiR 21)) ∧ (inR 0) ∧ (inR 23) ∧ (inR 0) ∧ ((fiR 21) = fiR 21 ∧ (fiR 21) = fiR 21 ∧ 23 = 23 ∧ 0 = 0) from ⟨(hRR 21), (hRR 21), (by omega), (by omega), (by omega), (by omega)⟩), by rw [ht]; exact hP, hD⟩, hS.F ht⟩) hS.2.2 dX4_stop_33

set_option maxHeartbeats 4000000 in
set_option maxRecDepth 100000 in
theorem mX4_rowEnd (l : Launch) (G : va_G) (k : Nat → ClassId) (arR : Nat → Nat) (plR : Nat) (fiR : Nat → Int) (faR : Nat → Int → Int) (arY : Nat → Nat) (fiY : Nat → Int) (faY : Nat → Int → Int) (a0 : Int) (b0 : Int) (sz : Nat) (hRR : ∀ j, inR (fiR j)) (hRaR : ∀ j t, inR (faR j t)) (hRY : ∀ j, inR (fiY j)) (hRaY : ∀ j t, inR (faY j t)) (hB0Y : bnd (faY 0) 600 (-128) 128) (hr_a0 : inR a0) (hr_b0 : inR b0) (hst : 0 ≤ fiR 22 ∧ fiR 22 ≤ fiR 21 ∧ fiR 21 ≤ 600) : CNi l G k (EZ k) yX4_rowEnd wzX4_rowEnd ({ frames := 0, cells := 0, slots := 0, locals := 0 }) [.ref (arR 98), .int (Int32.ofInt (a0)), .int (Int32.ofInt (b0))] sz ((wR k arR (plR) (arY 0) fiR faR) ++ (wY k arY fiY faY)) (fun (r0 : Int32) (u : Int) => r0 = Int32.ofInt (u) ∧ (inR u) ∧ (fiR 22 ≤ u ∧ u ≤ fiR 21)) (fun (u : Int) => ((wR k arR (plR) (arY 0) fiR faR) ++ (wY k arY fiY faY))) := by
  refine Met.ofW (cc := cX4_rowEnd) (maxL := 5) (ret := (some .int)) (by decide) rfl ?_
  intro p e s m args below meth c s₁ B hml hv
  obtain ⟨rfl, hsz, hP, hX, hD0, hZ0⟩ := hv
  have hx := B.exec
  have hb := B.bytes
  have hr := B.returns
  have hts := atoms_spec (ws := wzX4_rowEnd) B.pre
  have hown : s.vm.findClass RX4 = some m.cls := findClass_of_methodNamed B.named
  subst hsz
  have hD := hD0.self (sz := s.heap.size)
  have hZ := hZ0
  generalize hAe : va_A ((wR k arR (plR) (arY 0) fiR faR) ++ (wY k arY fiY faY)) s.heap.size = A at hD hZ ⊢
  have hA : ∀ q : Nat, s.heap.size ≤ q → A q := fun q h => by rw [← hAe]; exact Or.inr h
  have hS : va_S A s.heap s.heap [] := va_S.rf
  have hl := lv_entry ([.ref (arR 98), .int (Int32.ofInt (a0)), .int (Int32.ofInt (b0))]) (n := 5) (Nat.le_of_ble_eq_true rfl)
  rw [lg_entry_eq]
  generalize (lg_sl ([.ref (arR 98), .int (Int32.ofInt (a0)), .int (Int32.ofInt (b0))]) ++ List.replicate (5 - (lg_sl ([.ref (arR 98), .int (Int32.ofInt (a0)), .int (Int32.ofInt (b0))])).length) Slot.unset).toArray = ls at hl ⊢
  have hl : lv_has ls 5 [(0, .ref (arR 98)), (1, .int (Int32.ofInt (a0))), (2, .int (Int32.ofInt (b0)))] := hl
  obtain ⟨H, eH⟩ : ∃ H, H = s.heap := ⟨_, rfl⟩
  rw [← eH] at hP
  have hS : va_S A s.heap H [] := by rw [eH]; exact hS
  have gW : s.heap = H := eH.symm
  refine iv_heap gW ?_
  have h0w := hts (.fieldLink RX4 19 "RopeTown$Reader" "start" "I") (wz_at 3 18 rfl)
  have h1w : ∀ w ∈ wsX40, w ∈ wzX4_rowEnd := fun w h => List.mem_cons_of_mem _ (inlX4 w h)
  have h2w := hts (.fieldLink RX4 15 "RopeTown$Reader" "length" "I") (wz_at 3 17 rfl)
  have h3w := hts (.fieldLink RX4 9 "RopeTown$Reader" "text" "[B") (wz_at 3 16 rfl)
  refine lv_aload_n hx hb dX4_rowEnd_0 rfl (lv_at hl 0 rfl) ?_
  refine va_get (D := G) (ci := 3) (v := .int (Int32.ofInt (fiR 22))) (C := RX4) (T := TX4) (N := 8) (ref := RX4) hx hb hts h1w hown hX.1 hP 1 rfl rfl 2 (by decide) h0w (fun _ h9 => h9) rfl dX4_rowEnd_1 ?_
  have rf22R := hRR 22
  refine lv_istore_n (lv' := [(3, .int (Int32.ofInt (fiR 22))), (0, .ref (arR 98)), (1, .int (Int32.ofInt (a0))), (2, .int (Int32.ofInt (b0)))]) hx hb dX4_rowEnd_4 rfl hl (by decide) rfl (fun ls hl => ?_)
  refine lv_aload_n hx hb dX4_rowEnd_5 rfl (lv_at hl 1 rfl) ?_
  refine va_get (D := G) (ci := 3) (v := .int (Int32.ofInt (fiR 22))) (C := RX4) (T := TX4) (N := 8) (ref := RX4) hx hb hts h1w hown hX.1 hP 1 rfl rfl 2 (by decide) h0w (fun _ h9 => h9) rfl dX4_rowEnd_6 ?_
  have rf22R := hRR 22
  refine lv_istore (lv' := [(4, .int (Int32.ofInt (fiR 22))), (3, .int (Int32.ofInt (fiR 22))), (0, .ref (arR 98)), (1, .int (Int32.ofInt (a0))), (2, .int (Int32.ofInt (b0)))]) hx hb dX4_rowEnd_9 hl (by decide) rfl (fun ls hl => ?_)
  refine iv_loop (α := Int × Int) (nL := 5) (fun b9 => ((wR k arR (plR) (arY 0) fiR faR) ++ (wY k arY fiY faY))) (fun b9 => [(4, .int (Int32.ofInt (b9.1))), (3, .int (Int32.ofInt (b9.2))), (0, .ref (arR 98)), (1, .int (Int32.ofInt (a0))), (2, .int (Int32.ofInt (b0)))]) (fun b9 => (fiR 21 - b9.1).toNat) (fun b9 => inR b9.1 ∧ inR b9.2 ∧ (fiR 22 ≤ b9.1 ∧ b9.1 ≤ fiR 21 ∧ fiR 22 ≤ b9.2 ∧ b9.2 ≤ b9.1)) ?_ (fiR 22, fiR 22) (show inR (fiR 22) ∧ inR (fiR 22) ∧ (fiR 22 ≤ (fiR 22) ∧ (fiR 22) ≤ fiR 21 ∧ fiR 22 ≤ (fiR 22) ∧ (fiR 22) ≤ (fiR 22)) from ⟨(hRR 22), (hRR 22), (by omega)⟩) hP hD hS hl
  rintro ⟨x4_1, x3_2⟩ ih hi9 H locs ls hP hD hS hl
  obtain ⟨r_x4_1, r_x3_2, hinv⟩ : inR x4_1 ∧ inR x3_2 ∧ (fiR 22 ≤ x4_1 ∧ x4_1 ≤ fiR 21 ∧ fiR 22 ≤ x3_2 ∧ x3_2 ≤ x4_1) := hi9
  obtain ⟨hP, hD⟩ : va_P G vwCl ((wR k arR (plR) (arY 0) fiR faR) ++ (wY k arY fiY faY)) H ∧ va_D A ((wR k arR (plR) (arY 0) fiR faR) ++ (wY k arY fiY faY)) := ⟨hP, hD⟩
  have hl : lv_has ls 5 [(4, .int (Int32.ofInt (x4_1))), (3, .int (Int32.ofInt (x3_2))), (0, .ref (arR 98)), (1, .int (Int32.ofInt (a0))), (2, .int (Int32.ofInt (b0)))] := hl
  refine lv_iload hx hb dX4_rowEnd_11 (lv_at hl 0 rfl) ?_
  refine lv_aload_n hx hb dX4_rowEnd_13 rfl (lv_at hl 2 rfl) ?_
  refine va_get (D := G) (ci := 3) (v := .int (Int32.ofInt (fiR 21))) (C := RX4) (T := TX4) (N := 8) (ref := RX4) hx hb hts h1w hown hX.1 hP 1 rfl rfl 1 (by decide) h2w (fun _ h9 => h9) rfl dX4_rowEnd_14 ?_
  have rf21R := hRR 21
  refine iv_icmp_ge (tgt := 53) hx hb (by omega) (by omega) dX4_rowEnd_17 (by decide) (fun q3 => ?_) (fun q3 => ?_)
  · refine lv_iload_n hx hb dX4_rowEnd_53 rfl (lv_at hl 1 rfl) ?_
    exact W.iret (v := Int32.ofInt (x3_2)) hx hb hr (fun t ht hW => ⟨⟨Int32.ofInt (x3_2), (x3_2), rfl, ⟨rfl, (show (inR x3_2) ∧ (fiR 22 ≤ x3_2 ∧ x3_2 ≤ fiR 21) from ⟨(by omega), (by omega)⟩)⟩, by rw [ht]; exact hP, hD⟩, hS.F ht⟩) hS.2.2 dX4_rowEnd_54
  · refine lv_aload_n hx hb dX4_rowEnd_20 rfl (lv_at hl 2 rfl) ?_
    refine va_get (D := G) (ci := 3) (v := .ref (arY 0)) (C := RX4) (T := TX4) (N := 8) (ref := RX4) hx hb hts h1w hown hX.1 hP 1 rfl rfl 0 (by decide) h3w (fun _ h9 => h9) rfl dX4_rowEnd_21 ?_
    refine lv_iload hx hb dX4_rowEnd_24 (lv_at hl 0 rfl) ?_
    refine iv_bald hx hb hX.1 hP 2 1 rfl rfl (by omega) (by omega) (by decide) dX4_rowEnd_26 ?_
    refine iv_top (fun z4 ez4 => ?_)
    have rz4 : inR z4 := ez4 ▸ (hRaY 0) _
    have ez4 : z4 = (faY 0) x4_1 := ez4
    have bz4 : (-128) ≤ z4 ∧ z4 < 128 := by rw [ez4]; exact bnd_at hB0Y (by omega) (by omega)
    refine lv_iload_n hx hb dX4_rowEnd_27 rfl (lv_at hl 3 rfl) ?_
    refine iv_icmp_lt (tgt := 53) hx hb (by omega) (by omega) dX4_rowEnd_28 (by decide) (fun q5 => ?_) (fun q5 => ?_)
    · refine lv_iload_n hx hb dX4_rowEnd_53 rfl (lv_at hl 1 rfl) ?_
      exact W.iret (v := Int32.ofInt (x3_2)) hx hb hr (fun t ht hW => ⟨⟨Int32.ofInt (x3_2), (x3_2), rfl, ⟨rfl, (show (inR x3_2) ∧ (fiR 22 ≤ x3_2 ∧ x3_2 ≤ fiR 21) from ⟨(by omega), (by omega)⟩)⟩, by rw [ht]; exact hP, hD⟩, hS.F ht⟩) hS.2.2 dX4_rowEnd_54
    · refine lv_aload_n hx hb dX4_rowEnd_31 rfl (lv_at hl 2 rfl) ?_
      refine va_get (D := G) (ci := 3) (v := .ref (arY 0)) (C := RX4) (T := TX4) (N := 8) (ref := RX4) hx hb hts h1w hown hX.1 hP 1 rfl rfl 0 (by decide) h3w (fun _ h9 => h9) rfl dX4_rowEnd_32 ?_
      refine lv_iload hx hb dX4_rowEnd_35 (lv_at hl 0 rfl) ?_
      refine iv_bald hx hb hX.1 hP 2 1 rfl rfl (by omega) (by omega) (by decide) dX4_rowEnd_37 ?_
      refine iv_top (fun z6 ez6 => ?_)
      have rz6 : inR z6 := ez6 ▸ (hRaY 0) _
      have ez6 : z6 = (faY 0) x4_1 := ez6
      have bz6 : (-128) ≤ z6 ∧ z6 < 128 := by rw [ez6]; exact bnd_at hB0Y (by omega) (by omega)
      refine lv_iload_n hx hb dX4_rowEnd_38 rfl (lv_at hl 4 rfl) ?_
      refine iv_icmp_gt (tgt := 53) hx hb (by omega) (by omega) dX4_rowEnd_39 (by decide) (fun q7 => ?_) (fun q7 => ?_)
      · refine lv_iload_n hx hb dX4_rowEnd_53 rfl (lv_at hl 1 rfl) ?_
        exact W.iret (v := Int32.ofInt (x3_2)) hx hb hr (fun t ht hW => ⟨⟨Int32.ofInt (x3_2), (x3_2), rfl, ⟨rfl, (show (inR x3_2) ∧ (fiR 22 ≤ x3_2 ∧ x3_2 ≤ fiR 21) from ⟨(by omega), (by omega)⟩)⟩, by rw [ht]; exact hP, hD⟩, hS.F ht⟩) hS.2.2 dX4_rowEnd_54
      · refine lv_iload hx hb dX4_rowEnd_42 (lv_at hl 0 rfl) ?_
        refine lv_iconst (v := Int32.ofInt 1) hx hb dX4_rowEnd_44 (by decide +kernel) ?_
        refine iv_add (x := x4_1) (y := 1) hx hb dX4_rowEnd_45 ?_
        refine lv_istore_n (lv' := [(3, .int (Int32.ofInt ((x4_1 + 1)))), (4, .int (Int32.ofInt (x4_1))), (0, .ref (arR 98)), (1, .int (Int32.ofInt (a0))), (2, .int (Int32.ofInt (b0)))]) hx hb dX4_rowEnd_46 rfl hl (by decide) rfl (fun ls hl => ?_)
        refine lv_iinc (v := Int32.ofInt (x4_1 + 1)) (lv' := [(4, .int (Int32.ofInt ((x4_1 + 1)))), (3, .int (Int32.ofInt ((x4_1 + 1)))), (0, .ref (arR 98)), (1, .int (Int32.ofInt (a0))), (2, .int (Int32.ofInt (b0)))]) hx hb dX4_rowEnd_47 hl (k := 1) rfl (Int32.ofInt_add _ _).symm (by decide) rfl (fun ls hl => ?_)
        refine lv_goto (tgt := 11) hx hb dX4_rowEnd_50 (by decide) ?_
        have hl : lv_has ls 5 [(4, .int (Int32.ofInt ((x4_1 + 1)))), (3, .int (Int32.ofInt ((x4_1 + 1)))), (0, .ref (arR 98)), (1, .int (Int32.ofInt (a0))), (2, .int (Int32.ofInt (b0)))] := lv_sub hl [0, 1, 2, 3, 4] rfl
        exact ih ((x4_1 + 1), (x4_1 + 1)) (show (fiR 21 - (x4_1 + 1)).toNat < (fiR 21 - x4_1).toNat from by omega) (show inR (x4_1 + 1) ∧ inR (x4_1 + 1) ∧ (fiR 22 ≤ (x4_1 + 1) ∧ (x4_1 + 1) ≤ fiR 21 ∧ fiR 22 ≤ (x4_1 + 1) ∧ (x4_1 + 1) ≤ (x4_1 + 1)) from ⟨(by omega), (by omega), (by omega)⟩) _ _ _ hP hD hS hl

