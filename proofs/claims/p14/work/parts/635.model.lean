set_option maxHeartbeats 4000000 in
set_option maxRecDepth 100000 in
theorem mX10_restore (l : Launch) (G : va_G) (k : Nat → ClassId) (ar : Nat → Nat) (fi : Nat → Int) (fa : Nat → Int → Int) (fl : Nat → Int64) (sz : Nat) (hR : ∀ j, inR (fi j)) (hRa : ∀ j t, inR (fa j t)) (hbi : 0 ≤ fi 29 ∧ fi 29 ≤ 60 ∧ 0 ≤ fi 31 ∧ fi 31 ≤ 6) (hbj : 0 ≤ fi 60 ∧ fi 60 ≤ 60 ∧ 0 ≤ fi 62 ∧ fi 62 ≤ 6) (hh58 : fi 58 = 0 ∨ fi 58 = 1) (hPM : ∀ i, 0 ≤ i → i < fi 29 → ¬ fa 34 i = 2 → 0 ≤ fa 35 i ∧ fa 35 i < 7) (hPN : ∀ i, 0 ≤ i → i < fi 60 → ¬ fa 65 i = 2 → 0 ≤ fa 66 i ∧ fa 66 i < 7) : CNi l G k (EZ k) yX10_restore wzX10_restore ({ frames := 1, cells := 0, slots := 0, locals := 22 }) [.ref (ar 71)] sz (wM k ar fi fa fl) (fun (r0 : Int32) (u : Int × (Int → Int) × (Int → Int) × (Int → Int) × (Int → Int) × (Int → Int) × (Int → Int) × (Int → Int) × (Int → Int) × Int × Int × Int × Int × Int) => r0 = Int32.ofInt (u.1) ∧ (inR u.1) ∧ (∀ t, inR (u.2.1 t)) ∧ (∀ t, inR (u.2.2.1 t)) ∧ (∀ t, inR (u.2.2.2.1 t)) ∧ (∀ t, inR (u.2.2.2.2.1 t)) ∧ (∀ t, inR (u.2.2.2.2.2.1 t)) ∧ (∀ t, inR (u.2.2.2.2.2.2.1 t)) ∧ (∀ t, inR (u.2.2.2.2.2.2.2.1 t)) ∧ (∀ t, inR (u.2.2.2.2.2.2.2.2.1 t)) ∧ (inR u.2.2.2.2.2.2.2.2.2.1) ∧ (inR u.2.2.2.2.2.2.2.2.2.2.1) ∧ (inR u.2.2.2.2.2.2.2.2.2.2.2.1) ∧ (inR u.2.2.2.2.2.2.2.2.2.2.2.2.1) ∧ (inR u.2.2.2.2.2.2.2.2.2.2.2.2.2) ∧ (((0 ≤ u.2.2.2.2.2.2.2.2.2.2.2.1 ∧ u.1 = fi 58) ∧ u.2.2.2.2.2.2.2.2.2.2.2.1 ≤ 60 ∧ 0 ≤ u.2.2.2.2.2.2.2.2.2.2.2.2.2 ∧ u.2.2.2.2.2.2.2.2.2.2.2.2.2 ≤ 6 ∧ (∀ i, 0 ≤ i → i < u.2.2.2.2.2.2.2.2.2.2.2.1 → ¬ u.2.2.2.2.1 i = 2 → 0 ≤ u.2.2.2.2.2.1 i ∧ u.2.2.2.2.2.1 i < 7)) ∧ (¬ fi 58 = 0 → (u.2.2.2.2.2.2.2.2.2.2.1 = fi 59 ∧ u.2.2.2.2.2.2.2.2.2.2.2.1 = fi 60 ∧ u.2.2.2.2.2.2.2.2.2.2.2.2.2 = fi 62) ∧ (∀ t, 0 ≤ t → t < 7 → u.2.2.1 t = fa 63 t) ∧ (∀ t, 0 ≤ t → t < 6 → u.2.2.2.1 t = fa 64 t) ∧ (∀ t, 0 ≤ t → t < 60 → u.2.2.2.2.1 t = fa 65 t) ∧ (∀ t, 0 ≤ t → t < 60 → u.2.2.2.2.2.1 t = fa 66 t) ∧ (∀ t, 0 ≤ t → t < 60 → u.2.2.2.2.2.2.1 t = fa 67 t) ∧ (∀ t, 0 ≤ t → t < 60 → u.2.2.2.2.2.2.2.1 t = fa 68 t)) ∧ (fi 58 = 0 → (u.2.2.2.2.2.2.2.2.2.2.1 = fi 28 ∧ u.2.2.2.2.2.2.2.2.2.2.2.1 = fi 29 ∧ u.2.2.2.2.2.2.2.2.2.2.2.2.2 = fi 31) ∧ u.2.2.1 = fa 32 ∧ u.2.2.2.1 = fa 33 ∧ u.2.2.2.2.1 = fa 34 ∧ u.2.2.2.2.2.1 = fa 35 ∧ u.2.2.2.2.2.2.1 = fa 36 ∧ u.2.2.2.2.2.2.2.1 = fa 37))) (fun (u : Int × (Int → Int) × (Int → Int) × (Int → Int) × (Int → Int) × (Int → Int) × (Int → Int) × (Int → Int) × (Int → Int) × Int × Int × Int × Int × Int) => (wM k ar (uF (uF (uF (uF (uF fi 2 (u.2.2.2.2.2.2.2.2.2.1)) 28 (u.2.2.2.2.2.2.2.2.2.2.1)) 29 (u.2.2.2.2.2.2.2.2.2.2.2.1)) 30 (u.2.2.2.2.2.2.2.2.2.2.2.2.1)) 31 (u.2.2.2.2.2.2.2.2.2.2.2.2.2)) (uF (uF (uF (uF (uF (uF (uF (uF fa 11 (u.2.1)) 32 (u.2.2.1)) 33 (u.2.2.2.1)) 34 (u.2.2.2.2.1)) 35 (u.2.2.2.2.2.1)) 36 (u.2.2.2.2.2.2.1)) 37 (u.2.2.2.2.2.2.2.1)) 38 (u.2.2.2.2.2.2.2.2.1)) fl)) := by
  refine Met.ofW (cc := cX10_restore) (maxL := 1) (ret := (some .boolean)) (by decide) rfl ?_
  intro p e s m args below meth c s₁ B hml hv
  obtain ⟨rfl, hsz, hP, hX, hD0, hZ0⟩ := hv
  have hx := B.exec
  have hb := B.bytes
  have hr := B.returns
  have hts := atoms_spec (ws := wzX10_restore) B.pre
  have hown : s.vm.findClass RX10 = some m.cls := findClass_of_methodNamed B.named
  subst hsz
  have hD := hD0.self (sz := s.heap.size)
  have hZ := hZ0
  generalize hAe : va_A (wM k ar fi fa fl) s.heap.size = A at hD hZ ⊢
  have hA : ∀ q : Nat, s.heap.size ≤ q → A q := fun q h => by rw [← hAe]; exact Or.inr h
  have hS : va_S A s.heap s.heap [] := va_S.rf
  have hl := lv_entry ([.ref (ar 71)]) (n := 1) (Nat.le_of_ble_eq_true rfl)
  rw [lg_entry_eq]
  generalize (lg_sl ([.ref (ar 71)]) ++ List.replicate (1 - (lg_sl ([.ref (ar 71)])).length) Slot.unset).toArray = ls at hl ⊢
  have hl : lv_has ls 1 [(0, .ref (ar 71))] := hl
  obtain ⟨H, eH⟩ : ∃ H, H = s.heap := ⟨_, rfl⟩
  rw [← eH] at hP
  have hS : va_S A s.heap H [] := by rw [eH]; exact hS
  have gW : s.heap = H := eH.symm
  refine iv_heap gW ?_
  have h0w := hts (.fieldLink RX10 171 "RopeTownModel" "code" "I") (wz_at 8 12 rfl)
  have h1w : ∀ w ∈ wsX100, w ∈ wzX10_restore := fun w h => List.mem_cons_of_mem _ (inlX10 w h)
  have h2w := hts (.fieldLink RX10 339 "RopeTownModel" "hasImage" "Z") (wz_at 21 17 rfl)
  have h3w := hts (.fieldLink RX10 491 "RopeTownModel" "bucketThen" "I") (wz_at 42 1 rfl)
  have h4w := hts (.fieldLink RX10 327 "RopeTownModel" "bucket0" "I") (wz_at 21 13 rfl)
  have h5w := hts (.fieldLink RX10 494 "RopeTownModel" "movesThen" "I") (wz_at 42 2 rfl)
  have h6w := hts (.fieldLink RX10 330 "RopeTownModel" "moves" "I") (wz_at 21 14 rfl)
  have h7w := hts (.fieldLink RX10 497 "RopeTownModel" "costThen" "I") (wz_at 42 3 rfl)
  have h8w := hts (.fieldLink RX10 333 "RopeTownModel" "cost" "I") (wz_at 21 15 rfl)
  have h9w := hts (.fieldLink RX10 500 "RopeTownModel" "daysThen" "I") (wz_at 42 4 rfl)
  have h10w := hts (.fieldLink RX10 336 "RopeTownModel" "days" "I") (wz_at 21 16 rfl)
  have h11w := hts (.fieldLink RX10 87 "RopeTownModel" "place" "[I") (wz_at 6 17 rfl)
  have h12w := hts (.fieldLink RX10 143 "RopeTownModel" "placeThen" "[I") (wz_at 7 12 rfl)
  have h13w := hts (.fieldLink RX10 90 "RopeTownModel" "day" "[I") (wz_at 6 18 rfl)
  have h14w := hts (.fieldLink RX10 146 "RopeTownModel" "dayThen" "[I") (wz_at 7 13 rfl)
  have h15w := hts (.fieldLink RX10 93 "RopeTownModel" "moveWhich" "[I") (wz_at 6 19 rfl)
  have h16w := hts (.fieldLink RX10 149 "RopeTownModel" "whichThen" "[I") (wz_at 7 14 rfl)
  have h17w := hts (.fieldLink RX10 96 "RopeTownModel" "moveWhat" "[I") (wz_at 6 20 rfl)
  have h18w := hts (.fieldLink RX10 152 "RopeTownModel" "whatThen" "[I") (wz_at 7 15 rfl)
  have h19w := hts (.fieldLink RX10 99 "RopeTownModel" "moveTo" "[I") (wz_at 6 21 rfl)
  have h20w := hts (.fieldLink RX10 155 "RopeTownModel" "toThen" "[I") (wz_at 7 16 rfl)
  have h21w := hts (.fieldLink RX10 102 "RopeTownModel" "moveWas" "[I") (wz_at 6 22 rfl)
  have h22w := hts (.fieldLink RX10 158 "RopeTownModel" "wasThen" "[I") (wz_at 7 17 rfl)
  have h23w := hts (.fieldLink RX10 105 "RopeTownModel" "moveCost" "[I") (wz_at 6 23 rfl)
  have h24w := hts (.fieldLink RX10 161 "RopeTownModel" "costsThen" "[I") (wz_at 7 18 rfl)
  have h25w := hts (.fieldLink RX10 77 "RopeTownModel" "status" "[I") (wz_at 6 14 rfl)
  have h26w := hts (.fieldLink RX10 164 "RopeTownModel" "statusThen" "[I") (wz_at 7 19 rfl)
  refine lv_aload_n hx hb dX10_restore_0 rfl (lv_at hl 0 rfl) ?_
  refine lv_iconst (v := Int32.ofInt 0) hx hb dX10_restore_1 (by decide +kernel) ?_
  refine iv_put (ci := 7) (v := .int (Int32.ofInt (0))) (ty := .int) (C := RX10) (T := TX10) (N := 71) (ref := RX10) hx hb hts h1w tyX10 tyX10_ok nmX10 hown hX.1 hP hD hS 0 rfl rfl 2 (by decide) h0w (fun _ h9 => h9) rfl (by decide +kernel) rfl rfl (Nat.le_of_ble_eq_true rfl) (wM_F2 _ _ _ _ _) dX10_restore_2 (fun H locs hP hD hS => ?_)
  refine lv_aload_n hx hb dX10_restore_5 rfl (lv_at hl 0 rfl) ?_
  refine va_get (D := G) (ci := 7) (v := .int (Int32.ofInt (fi 58))) (C := RX10) (T := TX10) (N := 71) (ref := RX10) hx hb hts h1w hown hX.1 hP 0 rfl rfl 58 (by decide) h2w (fun _ h9 => h9) rfl dX10_restore_6 ?_
  have rf58 := hR 58
  refine iv_if_ne (tgt := 14) hx hb (by omega) dX10_restore_9 (by decide) (fun q1 => ?_) (fun q1 => ?_)
  · refine lv_aload_n hx hb dX10_restore_14 rfl (lv_at hl 0 rfl) ?_
    refine lv_aload_n hx hb dX10_restore_15 rfl (lv_at hl 0 rfl) ?_
    refine va_get (D := G) (ci := 7) (v := .int (Int32.ofInt (fi 59))) (C := RX10) (T := TX10) (N := 71) (ref := RX10) hx hb hts h1w hown hX.1 hP 0 rfl rfl 59 (by decide) h3w (fun _ h9 => h9) rfl dX10_restore_16 ?_
    have rf59 := hR 59
    refine iv_put (ci := 7) (v := .int (Int32.ofInt (fi 59))) (ty := .int) (C := RX10) (T := TX10) (N := 71) (ref := RX10) hx hb hts h1w tyX10 tyX10_ok nmX10 hown hX.1 hP hD hS 0 rfl rfl 28 (by decide) h4w (fun _ h9 => h9) rfl (by decide +kernel) rfl rfl (Nat.le_of_ble_eq_true rfl) (wM_F28 _ _ _ _ _) dX10_restore_19 (fun H locs hP hD hS => ?_)
    refine lv_aload_n hx hb dX10_restore_22 rfl (lv_at hl 0 rfl) ?_
    refine lv_aload_n hx hb dX10_restore_23 rfl (lv_at hl 0 rfl) ?_
    refine va_get (D := G) (ci := 7) (v := .int (Int32.ofInt (fi 60))) (C := RX10) (T := TX10) (N := 71) (ref := RX10) hx hb hts h1w hown hX.1 hP 0 rfl rfl 60 (by decide) h5w (fun _ h9 => h9) rfl dX10_restore_24 ?_
    have rf60 := hR 60
    refine iv_put (ci := 7) (v := .int (Int32.ofInt (fi 60))) (ty := .int) (C := RX10) (T := TX10) (N := 71) (ref := RX10) hx hb hts h1w tyX10 tyX10_ok nmX10 hown hX.1 hP hD hS 0 rfl rfl 29 (by decide) h6w (fun _ h9 => h9) rfl (by decide +kernel) rfl rfl (Nat.le_of_ble_eq_true rfl) (wM_F29 _ _ _ _ _) dX10_restore_27 (fun H locs hP hD hS => ?_)
    refine lv_aload_n hx hb dX10_restore_30 rfl (lv_at hl 0 rfl) ?_
    refine lv_aload_n hx hb dX10_restore_31 rfl (lv_at hl 0 rfl) ?_
    refine va_get (D := G) (ci := 7) (v := .int (Int32.ofInt (fi 61))) (C := RX10) (T := TX10) (N := 71) (ref := RX10) hx hb hts h1w hown hX.1 hP 0 rfl rfl 61 (by decide) h7w (fun _ h9 => h9) rfl dX10_restore_32 ?_
    have rf61 := hR 61
    refine iv_put (ci := 7) (v := .int (Int32.ofInt (fi 61))) (ty := .int) (C := RX10) (T := TX10) (N := 71) (ref := RX10) hx hb hts h1w tyX10 tyX10_ok nmX10 hown hX.1 hP hD hS 0 rfl rfl 30 (by decide) h8w (fun _ h9 => h9) rfl (by decide +kernel) rfl rfl (Nat.le_of_ble_eq_true rfl) (wM_F30 _ _ _ _ _) dX10_restore_35 (fun H locs hP hD hS => ?_)
    refine lv_aload_n hx hb dX10_restore_38 rfl (lv_at hl 0 rfl) ?_
    refine lv_aload_n hx hb dX10_restore_39 rfl (lv_at hl 0 rfl) ?_
    refine va_get (D := G) (ci := 7) (v := .int (Int32.ofInt (fi 62))) (C := RX10) (T := TX10) (N := 71) (ref := RX10) hx hb hts h1w hown hX.1 hP 0 rfl rfl 62 (by decide) h9w (fun _ h9 => h9) rfl dX10_restore_40 ?_
    have rf62 := hR 62
    refine iv_put (ci := 7) (v := .int (Int32.ofInt (fi 62))) (ty := .int) (C := RX10) (T := TX10) (N := 71) (ref := RX10) hx hb hts h1w tyX10 tyX10_ok nmX10 hown hX.1 hP hD hS 0 rfl rfl 31 (by decide) h10w (fun _ h9 => h9) rfl (by decide +kernel) rfl rfl (Nat.le_of_ble_eq_true rfl) (wM_F31 _ _ _ _ _) dX10_restore_43 (fun H locs hP hD hS => ?_)
    refine lv_aload_n hx hb dX10_restore_46 rfl (lv_at hl 0 rfl) ?_
    refine va_get (D := G) (ci := 7) (v := .ref (ar 32)) (C := RX10) (T := TX10) (N := 71) (ref := RX10) hx hb hts h1w hown hX.1 hP 0 rfl rfl 32 (by decide) h11w (fun _ h9 => h9) rfl dX10_restore_47 ?_
    refine lv_aload_n hx hb dX10_restore_50 rfl (lv_at hl 0 rfl) ?_
    refine va_get (D := G) (ci := 7) (v := .ref (ar 63)) (C := RX10) (T := TX10) (N := 71) (ref := RX10) hx hb hts h1w hown hX.1 hP 0 rfl rfl 63 (by decide) h12w (fun _ h9 => h9) rfl dX10_restore_51 ?_
    refine cr_v (va_runS (As := [.ref (ar 32), .ref (ar 63)]) (rest := []) ⟨hx, hb, hml, hown, hts⟩ (mX10_be_32_63 l G k ar (uF (uF (uF (uF (uF fi 2 (0)) 28 (fi 59)) 29 (fi 60)) 30 (fi 61)) 31 (fi 62)) fa fl H.size (iF (iF (iF (iF (iF hR (by omega)) (hR 59)) (hR 60)) (hR 61)) (hR 62)) hRa) (cwS 2 hts (gz [.methodLink RX10 503 yX10_be, .static yX10_be, .initialized RX10] (.code yX10_be cX10_be 3 none) [(42, 5), (42, 6), (0, 5), (42, 7)] rfl) rfl rfl rfl (by decide +kernel) ⟨Nat.le_of_ble_eq_true rfl, Nat.le_of_ble_eq_true rfl⟩) (cr_preS (EZ_ok k) hZ hS hX hP hD hA) rfl rfl hl.1 rfl (lv_room (Nat.le_of_ble_eq_true rfl)) dX10_restore_54 ⟨Nat.le_of_ble_eq_true rfl, Nat.le_of_ble_eq_true rfl⟩) hD hS hA (fun u H locs hp hP hD hS => ?_)
    obtain ⟨c2, rfl⟩ : ∃ z, z = u := ⟨_, rfl⟩
    obtain ⟨hP, hD⟩ : va_P G vwCl (wM k ar (uF (uF (uF (uF (uF fi 2 (0)) 28 (fi 59)) 29 (fi 60)) 30 (fi 61)) 31 (fi 62)) (uF fa 32 (c2)) fl) H ∧ va_D A (wM k ar (uF (uF (uF (uF (uF fi 2 (0)) 28 (fi 59)) 29 (fi 60)) 30 (fi 61)) 31 (fi 62)) (uF fa 32 (c2)) fl) := ⟨hP, hD⟩
    obtain ⟨rc2, hp2⟩ : (∀ t, inR (c2 t)) ∧ (∀ t, 0 ≤ t → t < 7 → c2 t = (fa 63) t) := hp
    have hc32 := hp2
    refine lv_aload_n hx hb dX10_restore_57 rfl (lv_at hl 0 rfl) ?_
    refine va_get (D := G) (ci := 7) (v := .ref (ar 33)) (C := RX10) (T := TX10) (N := 71) (ref := RX10) hx hb hts h1w hown hX.1 hP 0 rfl rfl 33 (by decide) h13w (fun _ h9 => h9) rfl dX10_restore_58 ?_
    refine lv_aload_n hx hb dX10_restore_61 rfl (lv_at hl 0 rfl) ?_
    refine va_get (D := G) (ci := 7) (v := .ref (ar 64)) (C := RX10) (T := TX10) (N := 71) (ref := RX10) hx hb hts h1w hown hX.1 hP 0 rfl rfl 64 (by decide) h14w (fun _ h9 => h9) rfl dX10_restore_62 ?_
    refine cr_v (va_runS (As := [.ref (ar 33), .ref (ar 64)]) (rest := []) ⟨hx, hb, hml, hown, hts⟩ (mX10_be_33_64 l G k ar (uF (uF (uF (uF (uF fi 2 (0)) 28 (fi 59)) 29 (fi 60)) 30 (fi 61)) 31 (fi 62)) (uF fa 32 (c2)) fl H.size (iF (iF (iF (iF (iF hR (by omega)) (hR 59)) (hR 60)) (hR 61)) (hR 62)) (iG hRa rc2)) (cwS 2 hts (gz [.methodLink RX10 503 yX10_be, .static yX10_be, .initialized RX10] (.code yX10_be cX10_be 3 none) [(42, 5), (42, 6), (0, 5), (42, 7)] rfl) rfl rfl rfl (by decide +kernel) ⟨Nat.le_of_ble_eq_true rfl, Nat.le_of_ble_eq_true rfl⟩) (cr_preS (EZ_ok k) hZ hS hX hP hD hA) rfl rfl hl.1 rfl (lv_room (Nat.le_of_ble_eq_true rfl)) dX10_restore_65 ⟨Nat.le_of_ble_eq_true rfl, Nat.le_of_ble_eq_true rfl⟩) hD hS hA (fun u H locs hp hP hD hS => ?_)
    obtain ⟨c3, rfl⟩ : ∃ z, z = u := ⟨_, rfl⟩
    obtain ⟨hP, hD⟩ : va_P G vwCl (wM k ar (uF (uF (uF (uF (uF fi 2 (0)) 28 (fi 59)) 29 (fi 60)) 30 (fi 61)) 31 (fi 62)) (uF (uF fa 32 (c2)) 33 (c3)) fl) H ∧ va_D A (wM k ar (uF (uF (uF (uF (uF fi 2 (0)) 28 (fi 59)) 29 (fi 60)) 30 (fi 61)) 31 (fi 62)) (uF (uF fa 32 (c2)) 33 (c3)) fl) := ⟨hP, hD⟩
    obtain ⟨rc3, hp3⟩ : (∀ t, inR (c3 t)) ∧ (∀ t, 0 ≤ t → t < 6 → c3 t = (fa 64) t) := hp
    have hc33 := hp3
    refine lv_aload_n hx hb dX10_restore_68 rfl (lv_at hl 0 rfl) ?_
    refine va_get (D := G) (ci := 7) (v := .ref (ar 34)) (C := RX10) (T := TX10) (N := 71) (ref := RX10) hx hb hts h1w hown hX.1 hP 0 rfl rfl 34 (by decide) h15w (fun _ h9 => h9) rfl dX10_restore_69 ?_
    refine lv_aload_n hx hb dX10_restore_72 rfl (lv_at hl 0 rfl) ?_
    refine va_get (D := G) (ci := 7) (v := .ref (ar 65)) (C := RX10) (T := TX10) (N := 71) (ref := RX10) hx hb hts h1w hown hX.1 hP 0 rfl rfl 65 (by decide) h16w (fun _ h9 => h9) rfl dX10_restore_73 ?_
    refine cr_v (va_runS (As := [.ref (ar 34), .ref (ar 65)]) (rest := []) ⟨hx, hb, hml, hown, hts⟩ (mX10_be_34_65 l G k ar (uF (uF (uF (uF (uF fi 2 (0)) 28 (fi 59)) 29 (fi 60)) 30 (fi 61)) 31 (fi 62)) (uF (uF fa 32 (c2)) 33 (c3)) fl H.size (iF (iF (iF (iF (iF hR (by omega)) (hR 59)) (hR 60)) (hR 61)) (hR 62)) (iG (iG hRa rc2) rc3)) (cwS 2 hts (gz [.methodLink RX10 503 yX10_be, .static yX10_be, .initialized RX10] (.code yX10_be cX10_be 3 none) [(42, 5), (42, 6), (0, 5), (42, 7)] rfl) rfl rfl rfl (by decide +kernel) ⟨Nat.le_of_ble_eq_true rfl, Nat.le_of_ble_eq_true rfl⟩) (cr_preS (EZ_ok k) hZ hS hX hP hD hA) rfl rfl hl.1 rfl (lv_room (Nat.le_of_ble_eq_true rfl)) dX10_restore_76 ⟨Nat.le_of_ble_eq_true rfl, Nat.le_of_ble_eq_true rfl⟩) hD hS hA (fun u H locs hp hP hD hS => ?_)
    obtain ⟨c4, rfl⟩ : ∃ z, z = u := ⟨_, rfl⟩
    obtain ⟨hP, hD⟩ : va_P G vwCl (wM k ar (uF (uF (uF (uF (uF fi 2 (0)) 28 (fi 59)) 29 (fi 60)) 30 (fi 61)) 31 (fi 62)) (uF (uF (uF fa 32 (c2)) 33 (c3)) 34 (c4)) fl) H ∧ va_D A (wM k ar (uF (uF (uF (uF (uF fi 2 (0)) 28 (fi 59)) 29 (fi 60)) 30 (fi 61)) 31 (fi 62)) (uF (uF (uF fa 32 (c2)) 33 (c3)) 34 (c4)) fl) := ⟨hP, hD⟩
    obtain ⟨rc4, hp4⟩ : (∀ t, inR (c4 t)) ∧ (∀ t, 0 ≤ t → t < 60 → c4 t = (fa 65) t) := hp
    have hc34 := hp4
    refine lv_aload_n hx hb dX10_restore_79 rfl (lv_at hl 0 rfl) ?_
    refine va_get (D := G) (ci := 7) (v := .ref (ar 35)) (C := RX10) (T := TX10) (N := 71) (ref := RX10) hx hb hts h1w hown hX.1 hP 0 rfl rfl 35 (by decide) h17w (fun _ h9 => h9) rfl dX10_restore_80 ?_
    refine lv_aload_n hx hb dX10_restore_83 rfl (lv_at hl 0 rfl) ?_
    refine va_get (D := G) (ci := 7) (v := .ref (ar 66)) (C := RX10) (T := TX10) (N := 71) (ref := RX10) hx hb hts h1w hown hX.1 hP 0 rfl rfl 66 (by decide) h18w (fun _ h9 => h9) rfl dX10_restore_84 ?_
    refine cr_v (va_runS (As := [.ref (ar 35), .ref (ar 66)]) (rest := []) ⟨hx, hb, hml, hown, hts⟩ (mX10_be_35_66 l G k ar (uF (uF (uF (uF (uF fi 2 (0)) 28 (fi 59)) 29 (fi 60)) 30 (fi 61)) 31 (fi 62)) (uF (uF (uF fa 32 (c2)) 33 (c3)) 34 (c4)) fl H.size (iF (iF (iF (iF (iF hR (by omega)) (hR 59)) (hR 60)) (hR 61)) (hR 62)) (iG (iG (iG hRa rc2) rc3) rc4)) (cwS 2 hts (gz [.methodLink RX10 503 yX10_be, .static yX10_be, .initialized RX10] (.code yX10_be cX10_be 3 none) [(42, 5), (42, 6), (0, 5), (42, 7)] rfl) rfl rfl rfl (by decide +kernel) ⟨Nat.le_of_ble_eq_true rfl, Nat.le_of_ble_eq_true rfl⟩) (cr_preS (EZ_ok k) hZ hS hX hP hD hA) rfl rfl hl.1 rfl (lv_room (Nat.le_of_ble_eq_true rfl)) dX10_restore_87 ⟨Nat.le_of_ble_eq_true rfl, Nat.le_of_ble_eq_true rfl⟩) hD hS hA (fun u H locs hp hP hD hS => ?_)
    obtain ⟨c5, rfl⟩ : ∃ z, z = u := ⟨_, rfl⟩
    obtain ⟨hP, hD⟩ : va_P G vwCl (wM k ar (uF (uF (uF (uF (uF fi 2 (0)) 28 (fi 59)) 29 (fi 60)) 30 (fi 61)) 31 (fi 62)) (uF (uF (uF (uF fa 32 (c2)) 33 (c3)) 34 (c4)) 35 (c5)) fl) H ∧ va_D A (wM k ar (uF (uF (uF (uF (uF fi 2 (0)) 28 (fi 59)) 29 (fi 60)) 30 (fi 61)) 31 (fi 62)) (uF (uF (uF (uF fa 32 (c2)) 33 (c3)) 34 (c4)) 35 (c5)) fl) := ⟨hP, hD⟩
    obtain ⟨rc5, hp5⟩ : (∀ t, inR (c5 t)) ∧ (∀ t, 0 ≤ t → t < 60 → c5 t = (fa 66) t) := hp
    have hc35 := hp5
    refine lv_aload_n hx hb dX10_restore_90 rfl (lv_at hl 0 rfl) ?_
    refine va_get (D := G) (ci := 7) (v := .ref (ar 36)) (C := RX10) (T := TX10) (N := 71) (ref := RX10) hx hb hts h1w hown hX.1 hP 0 rfl rfl 36 (by decide) h19w (fun _ h9 => h9) rfl dX10_restore_91 ?_
    refine lv_aload_n hx hb dX10_restore_94 rfl (lv_at hl 0 rfl) ?_
    refine va_get (D := G) (ci := 7) (v := .ref (ar 67)) (C := RX10) (T := TX10) (N := 71) (ref := RX10) hx hb hts h1w hown hX.1 hP 0 rfl rfl 67 (by decide) h20w (fun _ h9 => h9) rfl dX10_restore_95 ?_
    refine cr_v (va_runS (As := [.ref (ar 36), .ref (ar 67)]) (rest := []) ⟨hx, hb, hml, hown, hts⟩ (mX10_be_36_67 l G k ar (uF (uF (uF (uF (uF fi 2 (0)) 28 (fi 59)) 29 (fi 60)) 30 (fi 61)) 31 (fi 62)) (uF (uF (uF (uF fa 32 (c2)) 33 (c3)) 34 (c4)) 35 (c5)) fl H.size (iF (iF (iF (iF (iF hR (by omega)) (hR 59)) (hR 60)) (hR 61)) (hR 62)) (iG (iG (iG (iG hRa rc2) rc3) rc4) rc5)) (cwS 2 hts (gz [.methodLink RX10 503 yX10_be, .static yX10_be, .initialized RX10] (.code yX10_be cX10_be 3 none) [(42, 5), (42, 6), (0, 5), (42, 7)] rfl) rfl rfl rfl (by decide +kernel) ⟨Nat.le_of_ble_eq_true rfl, Nat.le_of_ble_eq_true rfl⟩) (cr_preS (EZ_ok k) hZ hS hX hP hD hA) rfl rfl hl.1 rfl (lv_room (Nat.le_of_ble_eq_true rfl)) dX10_restore_98 ⟨Nat.le_of_ble_eq_true rfl, Nat.le_of_ble_eq_true rfl⟩) hD hS hA (fun u H locs hp hP hD hS => ?_)
    obtain ⟨c6, rfl⟩ : ∃ z, z = u := ⟨_, rfl⟩
    obtain ⟨hP, hD⟩ : va_P G vwCl (wM k ar (uF (uF (uF (uF (uF fi 2 (0)) 28 (fi 59)) 29 (fi 60)) 30 (fi 61)) 31 (fi 62)) (uF (uF (uF (uF (uF fa 32 (c2)) 33 (c3)) 34 (c4)) 35 (c5)) 36 (c6)) fl) H ∧ va_D A (wM k ar (uF (uF (uF (uF (uF fi 2 (0)) 28 (fi 59)) 29 (fi 60)) 30 (fi 61)) 31 (fi 62)) (uF (uF (uF (uF (uF fa 32 (c2)) 33 (c3)) 34 (c4)) 35 (c5)) 36 (c6)) fl) := ⟨hP, hD⟩
    obtain ⟨rc6, hp6⟩ : (∀ t, inR (c6 t)) ∧ (∀ t, 0 ≤ t → t < 60 → c6 t = (fa 67) t) := hp
    have hc36 := hp6
    refine lv_aload_n hx hb dX10_restore_101 rfl (lv_at hl 0 rfl) ?_
    refine va_get (D := G) (ci := 7) (v := .ref (ar 37)) (C := RX10) (T := TX10) (N := 71) (ref := RX10) hx hb hts h1w hown hX.1 hP 0 rfl rfl 37 (by decide) h21w (fun _ h9 => h9) rfl dX10_restore_102 ?_
    refine lv_aload_n hx hb dX10_restore_105 rfl (lv_at hl 0 rfl) ?_
    refine va_get (D := G) (ci := 7) (v := .ref (ar 68)) (C := RX10) (T := TX10) (N := 71) (ref := RX10) hx hb hts h1w hown hX.1 hP 0 rfl rfl 68 (by decide) h22w (fun _ h9 => h9) rfl dX10_restore_106 ?_
    refine cr_v (va_runS (As := [.ref (ar 37), .ref (ar 68)]) (rest := []) ⟨hx, hb, hml, hown, hts⟩ (mX10_be_37_68 l G k ar (uF (uF (uF (uF (uF fi 2 (0)) 28 (fi 59)) 29 (fi 60)) 30 (fi 61)) 31 (fi 62)) (uF (uF (uF (uF (uF fa 32 (c2)) 33 (c3)) 34 (c4)) 35 (c5)) 36 (c6)) fl H.size (iF (iF (iF (iF (iF hR (by omega)) (hR 59)) (hR 60)) (hR 61)) (hR 62)) (iG (iG (iG (iG (iG hRa rc2) rc3) rc4) rc5) rc6)) (cwS 2 hts (gz [.methodLink RX10 503 yX10_be, .static yX10_be, .initialized RX10] (.code yX10_be cX10_be 3 none) [(42, 5), (42, 6), (0, 5), (42, 7)] rfl) rfl rfl rfl (by decide +kernel) ⟨Nat.le_of_ble_eq_true rfl, Nat.le_of_ble_eq_true rfl⟩) (cr_preS (EZ_ok k) hZ hS hX hP hD hA) rfl rfl hl.1 rfl (lv_room (Nat.le_of_ble_eq_true rfl)) dX10_restore_109 ⟨Nat.le_of_ble_eq_true rfl, Nat.le_of_ble_eq_true rfl⟩) hD hS hA (fun u H locs hp hP hD hS => ?_)
    obtain ⟨c7, rfl⟩ : ∃ z, z = u := ⟨_, rfl⟩
    obtain ⟨hP, hD⟩ : va_P G vwCl (wM k ar (uF (uF (uF (uF (uF fi 2 (0)) 28 (fi 59)) 29 (fi 60)) 30 (fi 61)) 31 (fi 62)) (uF (uF (uF (uF (uF (uF fa 32 (c2)) 33 (c3)) 34 (c4)) 35 (c5)) 36 (c6)) 37 (c7)) fl) H ∧ va_D A (wM k ar (uF (uF (uF (uF (uF fi 2 (0)) 28 (fi 59)) 29 (fi 60)) 30 (fi 61)) 31 (fi 62)) (uF (uF (uF (uF (uF (uF fa 32 (c2)) 33 (c3)) 34 (c4)) 35 (c5)) 36 (c6)) 37 (c7)) fl) := ⟨hP, hD⟩
    obtain ⟨rc7, hp7⟩ : (∀ t, inR (c7 t)) ∧ (∀ t, 0 ≤ t → t < 60 → c7 t = (fa 68) t) := hp
    have hc37 := hp7
    refine lv_aload_n hx hb dX10_restore_112 rfl (lv_at hl 0 rfl) ?_
    refine va_get (D := G) (ci := 7) (v := .ref (ar 38)) (C := RX10) (T := TX10) (N := 71) (ref := RX10) hx hb hts h1w hown hX.1 hP 0 rfl rfl 38 (by decide) h23w (fun _ h9 => h9) rfl dX10_restore_113 ?_
    refine lv_aload_n hx hb dX10_restore_116 rfl (lv_at hl 0 rfl) ?_
    refine va_get (D := G) (ci := 7) (v := .ref (ar 69)) (C := RX10) (T := TX10) (N := 71) (ref := RX10) hx hb hts h1w hown hX.1 hP 0 rfl rfl 69 (by decide) h24w (fun _ h9 => h9) rfl dX10_restore_117 ?_
    refine cr_v (va_runS (As := [.ref (ar 38), .ref (ar 69)]) (rest := []) ⟨hx, hb, hml, hown, hts⟩ (mX10_be_38_69 l G k ar (uF (uF (uF (uF (uF fi 2 (0)) 28 (fi 59)) 29 (fi 60)) 30 (fi 61)) 31 (fi 62)) (uF (uF (uF (uF (uF (uF fa 32 (c2)) 33 (c3)) 34 (c4)) 35 (c5)) 36 (c6)) 37 (c7)) fl H.size (iF (iF (iF (iF (iF hR (by omega)) (hR 59)) (hR 60)) (hR 61)) (hR 62)) (iG (iG (iG (iG (iG (iG hRa rc2) rc3) rc4) rc5) rc6) rc7)) (cwS 2 hts (gz [.methodLink RX10 503 yX10_be, .static yX10_be, .initialized RX10] (.code yX10_be cX10_be 3 none) [(42, 5), (42, 6), (0, 5), (42, 7)] rfl) rfl rfl rfl (by decide +kernel) ⟨Nat.le_of_ble_eq_true rfl, Nat.le_of_ble_eq_true rfl⟩) (cr_preS (EZ_ok k) hZ hS hX hP hD hA) rfl rfl hl.1 rfl (lv_room (Nat.le_of_ble_eq_true rfl)) dX10_restore_120 ⟨Nat.le_of_ble_eq_true rfl, Nat.le_of_ble_eq_true rfl⟩) hD hS hA (fun u H locs hp hP hD hS => ?_)
    obtain ⟨c8, rfl⟩ : ∃ z, z = u := ⟨_, rfl⟩
    obtain ⟨hP, hD⟩ : va_P G vwCl (wM k ar (uF (uF (uF (uF (uF fi 2 (0)) 28 (fi 59)) 29 (fi 60)) 30 (fi 61)) 31 (fi 62)) (uF (uF (uF (uF (uF (uF (uF fa 32 (c2)) 33 (c3)) 34 (c4)) 35 (c5)) 36 (c6)) 37 (c7)) 38 (c8)) fl) H ∧ va_D A (wM k ar (uF (uF (uF (uF (uF fi 2 (0)) 28 (fi 59)) 29 (fi 60)) 30 (fi 61)) 31 (fi 62)) (uF (uF (uF (uF (uF (uF (uF fa 32 (c2)) 33 (c3)) 34 (c4)) 35 (c5)) 36 (c6)) 37 (c7)) 38 (c8)) fl) := ⟨hP, hD⟩
    obtain ⟨rc8, hp8⟩ : (∀ t, inR (c8 t)) ∧ (∀ t, 0 ≤ t → t < 60 → c8 t = (fa 69) t) := hp
    have hc38 := hp8
    refine lv_aload_n hx hb dX10_restore_123 rfl (lv_at hl 0 rfl) ?_
    refine va_get (D := G) (ci := 7) (v := .ref (ar 11)) (C := RX10) (T := TX10) (N := 71) (ref := RX10) hx hb hts h1w hown hX.1 hP 0 rfl rfl 11 (by decide) h25w (fun _ h9 => h9) rfl dX10_restore_124 ?_
    refine lv_aload_n hx hb dX10_restore_127 rfl (lv_at hl 0 rfl) ?_
    refine va_get (D := G) (ci := 7) (v := .ref (ar 70)) (C := RX10) (T := TX10) (N := 71) (ref := RX10) hx hb hts h1w hown hX.1 hP 0 rfl rfl 70 (by decide) h26w (fun _ h9 => h9) rfl dX10_restore_128 ?_
    refine cr_v (va_runS (As := [.ref (ar 11), .ref (ar 70)]) (rest := []) ⟨hx, hb, hml, hown, hts⟩ (mX10_be_11_70 l G k ar (uF (uF (uF (uF (uF fi 2 (0)) 28 (fi 59)) 29 (fi 60)) 30 (fi 61)) 31 (fi 62)) (uF (uF (uF (uF (uF (uF (uF fa 32 (c2)) 33 (c3)) 34 (c4)) 35 (c5)) 36 (c6)) 37 (c7)) 38 (c8)) fl H.size (iF (iF (iF (iF (iF hR (by omega)) (hR 59)) (hR 60)) (hR 61)) (hR 62)) (iG (iG (iG (iG (iG (iG (iG hRa rc2) rc3) rc4) rc5) rc6) rc7) rc8)) (cwS 2 hts (gz [.methodLink RX10 503 yX10_be, .static yX10_be, .initialized RX10] (.code yX10_be cX10_be 3 none) [(42, 5), (42, 6), (0, 5), (42, 7)] rfl) rfl rfl rfl (by decide +kernel) ⟨Nat.le_of_ble_eq_true rfl, Nat.le_of_ble_eq_true rfl⟩) (cr_preS (EZ_ok k) hZ hS hX hP hD hA) rfl rfl hl.1 rfl (lv_room (Nat.le_of_ble_eq_true rfl)) dX10_restore_131 ⟨Nat.le_of_ble_eq_true rfl, Nat.le_of_ble_eq_true rfl⟩) hD hS hA (fun u H locs hp hP hD hS => ?_)
    obtain ⟨c9, rfl⟩ : ∃ z, z = u := ⟨_, rfl⟩
    obtain ⟨hP, hD⟩ : va_P G vwCl (wM k ar (uF (uF (uF (uF (uF fi 2 (0)) 28 (fi 59)) 29 (fi 60)) 30 (fi 61)) 31 (fi 62)) (uF (uF (uF (uF (uF (uF (uF (uF fa 11 (c9)) 32 (c2)) 33 (c3)) 34 (c4)) 35 (c5)) 36 (c6)) 37 (c7)) 38 (c8)) fl) H ∧ va_D A (wM k ar (uF (uF (uF (uF (uF fi 2 (0)) 28 (fi 59)) 29 (fi 60)) 30 (fi 61)) 31 (fi 62)) (uF (uF (uF (uF (uF (uF (uF (uF fa 11 (c9)) 32 (c2)) 33 (c3)) 34 (c4)) 35 (c5)) 36 (c6)) 37 (c7)) 38 (c8)) fl) := ⟨hP, hD⟩
    obtain ⟨rc9, hp9⟩ : (∀ t, inR (c9 t)) ∧ (∀ t, 0 ≤ t → t < 3 → c9 t = (fa 70) t) := hp
    have hc11 := hp9
    refine lv_iconst (v := Int32.ofInt 1) hx hb dX10_restore_134 (by decide +kernel) ?_
    exact W.zret (v := Int32.ofInt (1)) hx hb hr (nz_bool (by omega)) (fun t ht hW => ⟨⟨Int32.ofInt (1), (1, c9, c2, c3, c4, c5, c6, c7, c8, 0, fi 59, fi 60, fi 61, fi 62), rfl, ⟨rfl, (show (inR 1) ∧ (∀ t, inR (c9 t)) ∧ (∀ t, inR (c2 t)) ∧ (∀ t, inR (c3 t)) ∧ (∀ t, inR (c4 t)) ∧ (∀ t, inR (c5 t)) ∧ (∀ t, inR (c6 t)) ∧ (∀ t, inR (c7 t)) ∧ (∀ t, inR (c8 t)) ∧ (inR 0) ∧ (inR (fi 59)) ∧ (inR (fi 60)) ∧ (inR (fi 61)) ∧ (inR (fi 62)) ∧ (((0 ≤ (fi 60) ∧ 1 = fi 58) ∧ (fi 60) ≤ 60 ∧ 0 ≤ (fi 62) ∧ (fi 62) ≤ 6 ∧ (∀ i, 0 ≤ i → i < (fi 60) → ¬ c4 i = 2 → 0 ≤ c5 i ∧ c5 i < 7)) ∧ (¬ fi 58 = 0 → ((fi 59) = fi 59 ∧ (fi 60) = fi 60 ∧ (fi 62) = fi 62) ∧ (∀ t, 0 ≤ t → t < 7 → c2 t = fa 63 t) ∧ (∀ t, 0 ≤ t → t < 6 → c3 t = fa 64 t) ∧ (∀ t, 0 ≤ t → t < 60 → c4 t = fa 65 t) ∧ (∀ t, 0 ≤ t → t < 60 → c5 t = fa 66 t) ∧ (∀ t, 0 ≤ t → t < 60 → c6 t = fa 67 t) ∧ (∀ t, 0 ≤ t → t < 60 → c7 t = fa 68 t)) ∧ (fi 58 = 0 → ((fi 59) = fi 28 ∧ (fi 60) = fi 29 ∧ (fi 62) = fi 31) ∧ c2 = fa 32 ∧ c3 = fa 33 ∧ c4 = fa 34 ∧ c5 = fa 35 ∧ c6 = fa 36 ∧ c7 = fa 37)) from ⟨(by omega), rc9, rc2, rc3, rc4, rc5, rc6, rc7, rc8, (by omega), (hR 59), (hR 60), (hR 61), (hR 62), (by first | exact ⟨⟨by omega, by omega, by omega, by omega, hPM⟩, fun z => absurd z (by omega), fun _ => ⟨⟨rfl, rfl, rfl⟩, rfl, rfl, rfl, rfl, rfl, rfl⟩⟩ | exact ⟨⟨by omega, by omega, by omega, by omega, fun i h1 h2 h3 => by have c1 := hc34 i h1 (by omega); have c2 := hc35 i h1 (by omega); have c3 := hPN i h1 h2 (by omega); omega⟩, fun _ => ⟨⟨by omega, by omega, by omega⟩, hc32, hc33, hc34, hc35, hc36, hc37⟩, fun z => absurd z (by omega)⟩)⟩)⟩, by rw [ht]; exact hP, hD⟩, hS.F ht⟩) hS.2.2 dX10_restore_135
  · refine lv_iconst (v := Int32.ofInt 0) hx hb dX10_restore_12 (by decide +kernel) ?_
    exact W.zret (v := Int32.ofInt (0)) hx hb hr (nz_bool (by omega)) (fun t ht hW => ⟨⟨Int32.ofInt (0), (0, fa 11, fa 32, fa 33, fa 34, fa 35, fa 36, fa 37, fa 38, 0, fi 28, fi 29, fi 30, fi 31), rfl, ⟨rfl, (show (inR 0) ∧ (∀ t, inR ((fa 11) t)) ∧ (∀ t, inR ((fa 32) t)) ∧ (∀ t, inR ((fa 33) t)) ∧ (∀ t, inR ((fa 34) t)) ∧ (∀ t, inR ((fa 35) t)) ∧ (∀ t, inR ((fa 36) t)) ∧ (∀ t, inR ((fa 37) t)) ∧ (∀ t, inR ((fa 38) t)) ∧ (inR 0) ∧ (inR (fi 28)) ∧ (inR (fi 29)) ∧ (inR (fi 30)) ∧ (inR (fi 31)) ∧ (((0 ≤ (fi 29) ∧ 0 = fi 58) ∧ (fi 29) ≤ 60 ∧ 0 ≤ (fi 31) ∧ (fi 31) ≤ 6 ∧ (∀ i, 0 ≤ i → i < (fi 29) → ¬ (fa 34) i = 2 → 0 ≤ (fa 35) i ∧ (fa 35) i < 7)) ∧ (¬ fi 58 = 0 → ((fi 28) = fi 59 ∧ (fi 29) = fi 60 ∧ (fi 31) = fi 62) ∧ (∀ t, 0 ≤ t → t < 7 → (fa 32) t = fa 63 t) ∧ (∀ t, 0 ≤ t → t < 6 → (fa 33) t = fa 64 t) ∧ (∀ t, 0 ≤ t → t < 60 → (fa 34) t = fa 65 t) ∧ (∀ t, 0 ≤ t → t < 60 → (fa 35) t = fa 66 t) ∧ (∀ t, 0 ≤ t → t < 60 → (fa 36) t = fa 67 t) ∧ (∀ t, 0 ≤ t → t < 60 → (fa 37) t = fa 68 t)) ∧ (fi 58 = 0 → ((fi 28) = fi 28 ∧ (fi 29) = fi 29 ∧ (fi 31) = fi 31) ∧ (fa 32) = fa 32 ∧ (fa 33) = fa 33 ∧ (fa 34) = fa 34 ∧ (fa 35) = fa 35 ∧ (fa 36) = fa 36 ∧ (fa 37) = fa 37)) from ⟨(by omega), (hRa 11), (hRa 32), (hRa 33), (hRa 34), (hRa 35), (hRa 36), (hRa 37), (hRa 38), (by omega), (hR 28), (hR 29), (hR 30), (hR 31), (by first | exact ⟨⟨by omega, by omega, by omega, by omega, hPM⟩, fun z => absurd z (by omega), fun _ => ⟨⟨rfl, rfl, rfl⟩, rfl, rfl, rfl, rfl, rfl, rfl⟩⟩ | exact ⟨⟨by omega, by omega, by omega, by omega, fun i h1 h2 h3 => by have c1 := hc34 i h1 (by omega); have c2 := hc35 i h1 (by omega); have c3 := hPN i h1 h2 (by omega); omega⟩, fun _ => ⟨⟨by omega, by omega, by omega⟩, hc32, hc33, hc34, hc35, hc36, hc37⟩, fun z => absurd z (by omega)⟩)⟩)⟩, by rw [ht]; exact hP, hD⟩, hS.F ht⟩) hS.2.2 dX10_restore_13

