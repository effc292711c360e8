set_option maxHeartbeats 4000000 in
set_option maxRecDepth 100000 in
theorem mX10_ride (l : Launch) (G : va_G) (k : Nat → ClassId) (ar : Nat → Nat) (fi : Nat → Int) (fa : Nat → Int → Int) (fl : Nat → Int64) (d0 : Int) (w0 : Int) (sz : Nat) (hR : ∀ j, inR (fi j)) (hRa : ∀ j t, inR (fa j t)) (hr_d0 : inR d0) (hr_w0 : inR w0) (hth : 0 ≤ fi 12 ∧ fi 12 ≤ 7) (hru : 0 ≤ fi 13 ∧ fi 13 ≤ 4) (hRW : ∀ q9, 0 ≤ q9 → q9 < fi 13 → RWf (fa 10) (fa 8 q9) (fa 9 q9)) (hmv : 0 ≤ fi 29 ∧ fi 29 ≤ 60) (hPM : ∀ i, 0 ≤ i → i < fi 29 → ¬ fa 34 i = 2 → 0 ≤ fa 35 i ∧ fa 35 i < 7) : CNi l G k (EZ k) yX10_ride wsX10_ride ({ frames := 5, cells := 0, slots := 0, locals := 118 }) [.ref (ar 71), .int (Int32.ofInt (d0)), .int (Int32.ofInt (w0))] sz (wM k ar fi fa fl) (fun (r0 : Int32) (u : Int × (Int → Int) × (Int → Int) × (Int → Int) × (Int → Int) × (Int → Int) × (Int → Int) × (Int → Int) × (Int → Int) × Int × Int × Int × Int × Int × Int × Int) => r0 = Int32.ofInt (u.1) ∧ (inR u.1) ∧ (∀ t, inR (u.2.1 t)) ∧ (∀ t, inR (u.2.2.1 t)) ∧ (∀ t, inR (u.2.2.2.1 t)) ∧ (∀ t, inR (u.2.2.2.2.1 t)) ∧ (∀ t, inR (u.2.2.2.2.2.1 t)) ∧ (∀ t, inR (u.2.2.2.2.2.2.1 t)) ∧ (∀ t, inR (u.2.2.2.2.2.2.2.1 t)) ∧ (∀ t, inR (u.2.2.2.2.2.2.2.2.1 t)) ∧ (inR u.2.2.2.2.2.2.2.2.2.1) ∧ (inR u.2.2.2.2.2.2.2.2.2.2.1) ∧ (inR u.2.2.2.2.2.2.2.2.2.2.2.1) ∧ (inR u.2.2.2.2.2.2.2.2.2.2.2.2.1) ∧ (inR u.2.2.2.2.2.2.2.2.2.2.2.2.2.1) ∧ (inR u.2.2.2.2.2.2.2.2.2.2.2.2.2.2.1) ∧ (inR u.2.2.2.2.2.2.2.2.2.2.2.2.2.2.2) ∧ ((0 ≤ u.2.2.2.2.2.2.2.2.2.2.2.1 ∧ u.2.2.2.2.2.2.2.2.2.2.2.1 ≤ 60) ∧ (∀ i, 0 ≤ i → i < u.2.2.2.2.2.2.2.2.2.2.2.1 → ¬ u.2.2.1 i = 2 → 0 ≤ u.2.2.2.1 i ∧ u.2.2.2.1 i < 7))) (fun (u : Int × (Int → Int) × (Int → Int) × (Int → Int) × (Int → Int) × (Int → Int) × (Int → Int) × (Int → Int) × (Int → Int) × Int × Int × Int × Int × Int × Int × Int) => (wM k ar (uF (uF (uF (uF (uF (uF (uF fi 2 (u.2.2.2.2.2.2.2.2.2.1)) 28 (u.2.2.2.2.2.2.2.2.2.2.1)) 29 (u.2.2.2.2.2.2.2.2.2.2.2.1)) 30 (u.2.2.2.2.2.2.2.2.2.2.2.2.1)) 41 (u.2.2.2.2.2.2.2.2.2.2.2.2.2.1)) 42 (u.2.2.2.2.2.2.2.2.2.2.2.2.2.2.1)) 43 (u.2.2.2.2.2.2.2.2.2.2.2.2.2.2.2)) (uF (uF (uF (uF (uF (uF (uF (uF fa 11 (u.2.1)) 34 (u.2.2.1)) 35 (u.2.2.2.1)) 36 (u.2.2.2.2.1)) 37 (u.2.2.2.2.2.1)) 38 (u.2.2.2.2.2.2.1)) 39 (u.2.2.2.2.2.2.2.1)) 40 (u.2.2.2.2.2.2.2.2.1)) fl)) := by
  refine Met.ofW (cc := cX10_ride) (maxL := 4) (ret := (some .int)) (by decide) rfl ?_
  intro p e s m args below meth c s₁ B hml hv
  obtain ⟨rfl, hsz, hP, hX, hD0, hZ0⟩ := hv
  have hx := B.exec
  have hb := B.bytes
  have hr := B.returns
  have hts := atoms_spec (ws := wsX10_ride) B.pre
  have hown : s.vm.findClass RX10 = some m.cls := findClass_of_methodNamed B.named
  subst hsz
  have hD := hD0.self (sz := s.heap.size)
  have hZ := hZ0
  generalize hAe : va_A (wM k ar fi fa fl) s.heap.size = A at hD hZ ⊢
  have hA : ∀ q : Nat, s.heap.size ≤ q → A q := fun q h => by rw [← hAe]; exact Or.inr h
  have hS : va_S A s.heap s.heap [] := va_S.rf
  have hl := lv_entry ([.ref (ar 71), .int (Int32.ofInt (d0)), .int (Int32.ofInt (w0))]) (n := 4) (Nat.le_of_ble_eq_true rfl)
  rw [lg_entry_eq]
  generalize (lg_sl ([.ref (ar 71), .int (Int32.ofInt (d0)), .int (Int32.ofInt (w0))]) ++ List.replicate (4 - (lg_sl ([.ref (ar 71), .int (Int32.ofInt (d0)), .int (Int32.ofInt (w0))])).length) Slot.unset).toArray = ls at hl ⊢
  have hl : lv_has ls 4 [(0, .ref (ar 71)), (1, .int (Int32.ofInt (d0))), (2, .int (Int32.ofInt (w0)))] := hl
  obtain ⟨H, eH⟩ : ∃ H, H = s.heap := ⟨_, rfl⟩
  rw [← eH] at hP
  have hS : va_S A s.heap H [] := by rw [eH]; exact hS
  have gW : s.heap = H := eH.symm
  refine iv_heap gW ?_
  have h0w := hts (.fieldLink RX10 171 "RopeTownModel" "code" "I") (by decide +kernel)
  have h1w : ∀ w ∈ wsX100, w ∈ wsX10_ride := by decide +kernel
  have h2w := hts (.fieldLink RX10 327 "RopeTownModel" "bucket0" "I") (by decide +kernel)
  have h3w := hts (.fieldLink RX10 391 "RopeTownModel" "wound" "I") (by decide +kernel)
  refine lv_aload_n hx hb dX10_ride_0 rfl (lv_at hl 0 rfl) ?_
  refine lv_iconst (v := Int32.ofInt 0) hx hb dX10_ride_1 (by decide +kernel) ?_
  refine iv_put (ci := 7) (v := .int (Int32.ofInt (0))) (ty := .int) (C := RX10) (T := TX10) (N := 71) (ref := RX10) hx hb hts h1w tyX10 tyX10_ok nmX10 hown hX.1 hP hD hS 0 rfl rfl 2 (by decide) h0w (fun _ h9 => h9) rfl (by decide +kernel) rfl rfl (Nat.le_of_ble_eq_true rfl) (wM_F2 _ _ _ _ _) dX10_ride_2 (fun H locs hP hD hS => ?_)
  refine lv_aload_n hx hb dX10_ride_5 rfl (lv_at hl 0 rfl) ?_
  refine lv_iload_n hx hb dX10_ride_6 rfl (lv_at hl 1 rfl) ?_
  refine lv_iload_n hx hb dX10_ride_7 rfl (lv_at hl 2 rfl) ?_
  refine cr_i (va_runV (As := [.int (Int32.ofInt (d0)), .int (Int32.ofInt (w0))]) (rest := []) ⟨hx, hb, hml, hown, hts⟩ (mX10_rideTrouble l G k ar (uF fi 2 (0)) fa fl d0 w0 H.size (iF hR (by omega)) hRa (by omega) (by omega) (show 0 ≤ (fi 12) ∧ (fi 12) ≤ 7 from by omega) (show 0 ≤ (fi 13) ∧ (fi 13) ≤ 4 from by omega) (show ∀ q9, 0 ≤ q9 → q9 < (fi 13) → RWf ((fa 10)) ((fa 8) q9) ((fa 9) q9) from by first | exact hRW | omega) (show 0 ≤ (fi 29) ∧ (fi 29) ≤ 60 from by omega)) (cwV 2 hts gX10_ride_X10_rideTrouble rfl rfl rfl (by decide +kernel) ⟨Nat.le_of_ble_eq_true rfl, Nat.le_of_ble_eq_true rfl⟩) (cr_preV (EZ_ok k) hZ hS hX hP hD hA (ci := 7) (q0 := 0) rfl rfl) rfl rfl hl.1 rfl (lv_room (Nat.le_of_ble_eq_true rfl)) dX10_ride_8 ⟨Nat.le_of_ble_eq_true rfl, Nat.le_of_ble_eq_true rfl⟩) hD hS hA (fun r u H locs hp hP hD hS => ?_)
  obtain ⟨c1, c2, c3, c4, c5, c6⟩ := u
  obtain ⟨hP, hD⟩ : va_P G vwCl (wM k ar (uF (uF (uF (uF fi 2 (0)) 41 (c4)) 42 (c5)) 43 (c6)) (uF (uF fa 39 (c2)) 40 (c3)) fl) H ∧ va_D A (wM k ar (uF (uF (uF (uF fi 2 (0)) 41 (c4)) 42 (c5)) 43 (c6)) (uF (uF fa 39 (c2)) 40 (c3)) fl) := ⟨hP, hD⟩
  obtain ⟨h9, rc1, rc2, rc3, rc4, rc5, rc6, hp6⟩ : r = Int32.ofInt c1 ∧ (inR c1) ∧ (∀ t, inR (c2 t)) ∧ (∀ t, inR (c3 t)) ∧ (inR c4) ∧ (inR c5) ∧ (inR c6) ∧ (c1 = 0 → ¬ (fi 29) = 60) := hp
  subst h9
  refine lv_istore_n (lv' := [(3, .int (Int32.ofInt (c1))), (0, .ref (ar 71)), (1, .int (Int32.ofInt (d0))), (2, .int (Int32.ofInt (w0)))]) hx hb dX10_ride_11 rfl hl (by decide) rfl (fun ls hl => ?_)
  refine lv_iload_n hx hb dX10_ride_12 rfl (lv_at hl 0 rfl) ?_
  refine iv_if_eq (tgt := 22) hx hb (by omega) dX10_ride_13 (by decide) (fun q7 => ?_) (fun q7 => ?_)
  · refine lv_aload_n hx hb dX10_ride_22 rfl (lv_at hl 1 rfl) ?_
    refine lv_iconst (v := Int32.ofInt 2) hx hb dX10_ride_23 (by decide +kernel) ?_
    refine lv_iload_n hx hb dX10_ride_24 rfl (lv_at hl 2 rfl) ?_
    refine lv_iload_n hx hb dX10_ride_25 rfl (lv_at hl 3 rfl) ?_
    refine lv_aload_n hx hb dX10_ride_26 rfl (lv_at hl 1 rfl) ?_
    refine va_get (D := G) (ci := 7) (v := .int (Int32.ofInt (fi 28))) (C := RX10) (T := TX10) (N := 71) (ref := RX10) hx hb hts h1w hown hX.1 hP 0 rfl rfl 28 (by decide) h2w (fun _ h9 => h9) rfl dX10_ride_27 ?_
    have rf28 := hR 28
    refine lv_iload_n hx hb dX10_ride_30 rfl (lv_at hl 3 rfl) ?_
    refine lv_iconst (v := Int32.ofInt 2) hx hb dX10_ride_31 (by decide +kernel) ?_
    refine iv_icmp_ne (tgt := 42) hx hb (by omega) (by omega) dX10_ride_32 (by decide) (fun q8 => ?_) (fun q8 => ?_)
    · refine lv_iconst (v := Int32.ofInt 0) hx hb dX10_ride_42 (by decide +kernel) ?_
      refine cr_v (va_runV (As := [.int (Int32.ofInt (2)), .int (Int32.ofInt (d0)), .int (Int32.ofInt (w0)), .int (Int32.ofInt (fi 28)), .int (Int32.ofInt (0))]) (rest := []) ⟨hx, hb, hml, hown, hts⟩ (mX10_add l G k ar (uF (uF (uF (uF fi 2 (0)) 41 (c4)) 42 (c5)) 43 (c6)) (uF (uF fa 39 (c2)) 40 (c3)) fl 2 d0 w0 (fi 28) 0 H.size (iF (iF (iF (iF hR (by omega)) (by omega)) (by omega)) (by omega)) (iG (iG hRa rc2) rc3) (by omega) (by omega) (by omega) (hR 28) (by omega) (show 0 ≤ (fi 29) ∧ (fi 29) < 60 from by omega) (show ∀ i, 0 ≤ i → i < (fi 29) → ¬ (fa 34) i = 2 → 0 ≤ (fa 35) i ∧ (fa 35) i < 7 from by first | exact hPM | omega) (show 2 = 2 ∨ (0 ≤ d0 ∧ d0 < 7) from by omega)) (cwV 5 hts gX10_ride_X10_add rfl rfl rfl (by decide +kernel) ⟨Nat.le_of_ble_eq_true rfl, Nat.le_of_ble_eq_true rfl⟩) (cr_preV (EZ_ok k) hZ hS hX hP hD hA (ci := 7) (q0 := 0) rfl rfl) rfl rfl hl.1 rfl (lv_room (Nat.le_of_ble_eq_true rfl)) dX10_ride_43 ⟨Nat.le_of_ble_eq_true rfl, Nat.le_of_ble_eq_true rfl⟩) hD hS hA (fun u H locs hp hP hD hS => ?_)
      obtain ⟨c9, c10, c11, c12, c13, c14, c15⟩ := u
      obtain ⟨hP, hD⟩ : va_P G vwCl (wM k ar (uF (uF (uF (uF (uF (uF fi 2 (0)) 29 (c14)) 30 (c15)) 41 (c4)) 42 (c5)) 43 (c6)) (uF (uF (uF (uF (uF (uF (uF fa 34 (c9)) 35 (c10)) 36 (c11)) 37 (c12)) 38 (c13)) 39 (c2)) 40 (c3)) fl) H ∧ va_D A (wM k ar (uF (uF (uF (uF (uF (uF fi 2 (0)) 29 (c14)) 30 (c15)) 41 (c4)) 42 (c5)) 43 (c6)) (uF (uF (uF (uF (uF (uF (uF fa 34 (c9)) 35 (c10)) 36 (c11)) 37 (c12)) 38 (c13)) 39 (c2)) 40 (c3)) fl) := ⟨hP, hD⟩
      obtain ⟨rc9, rc10, rc11, rc12, rc13, rc14, rc15, hp15⟩ : (∀ t, inR (c9 t)) ∧ (∀ t, inR (c10 t)) ∧ (∀ t, inR (c11 t)) ∧ (∀ t, inR (c12 t)) ∧ (∀ t, inR (c13 t)) ∧ (inR c14) ∧ (inR c15) ∧ (c14 = (fi 29) + 1 ∧ (∀ i, 0 ≤ i → i < c14 → ¬ c9 i = 2 → 0 ≤ c10 i ∧ c10 i < 7)) := hp
      have hP9 := hp15.2
      refine lv_aload_n hx hb dX10_ride_46 rfl (lv_at hl 1 rfl) ?_
      refine lv_iload_n hx hb dX10_ride_47 rfl (lv_at hl 2 rfl) ?_
      refine iv_put (ci := 7) (v := .int (Int32.ofInt (d0))) (ty := .int) (C := RX10) (T := TX10) (N := 71) (ref := RX10) hx hb hts h1w tyX10 tyX10_ok nmX10 hown hX.1 hP hD hS 0 rfl rfl 28 (by decide) h2w (fun _ h9 => h9) rfl (by decide +kernel) rfl rfl (Nat.le_of_ble_eq_true rfl) (wM_F28 _ _ _ _ _) dX10_ride_48 (fun H locs hP hD hS => ?_)
      obtain ⟨hP, hD⟩ : va_P G vwCl (wM k ar (uF (uF (uF (uF (uF (uF (uF fi 2 (0)) 28 (d0)) 29 (c14)) 30 (c15)) 41 (c4)) 42 (c5)) 43 (c6)) (uF (uF (uF (uF (uF (uF (uF fa 34 (c9)) 35 (c10)) 36 (c11)) 37 (c12)) 38 (c13)) 39 (c2)) 40 (c3)) fl) H ∧ va_D A (wM k ar (uF (uF (uF (uF (uF (uF (uF fi 2 (0)) 28 (d0)) 29 (c14)) 30 (c15)) 41 (c4)) 42 (c5)) 43 (c6)) (uF (uF (uF (uF (uF (uF (uF fa 34 (c9)) 35 (c10)) 36 (c11)) 37 (c12)) 38 (c13)) 39 (c2)) 40 (c3)) fl) := ⟨hP, hD⟩
      refine lv_iconst (v := Int32.ofInt 0) hx hb dX10_ride_51 (by decide +kernel) ?_
      exact W.iret (v := Int32.ofInt (0)) hx hb hr (fun t ht hW => ⟨⟨Int32.ofInt (0), (0, fa 11, c9, c10, c11, c12, c13, c2, c3, 0, d0, c14, c15, c4, c5, c6), rfl, ⟨rfl, (show (inR 0) ∧ (∀ t, inR ((fa 11) t)) ∧ (∀ t, inR (c9 t)) ∧ (∀ t, inR (c10 t)) ∧ (∀ t, inR (c11 t)) ∧ (∀ t, inR (c12 t)) ∧ (∀ t, inR (c13 t)) ∧ (∀ t, inR (c2 t)) ∧ (∀ t, inR (c3 t)) ∧ (inR 0) ∧ (inR d0) ∧ (inR c14) ∧ (inR c15) ∧ (inR c4) ∧ (inR c5) ∧ (inR c6) ∧ ((0 ≤ c14 ∧ c14 ≤ 60) ∧ (∀ i, 0 ≤ i → i < c14 → ¬ c9 i = 2 → 0 ≤ c10 i ∧ c10 i < 7)) from ⟨(by omega), (hRa 11), rc9, rc10, rc11, rc12, rc13, rc2, rc3, (by omega), (by omega), (by omega), (by omega), (by omega), (by omega), (by omega), (by first | exact ⟨by omega, hPM⟩ | exact ⟨by omega, hP9⟩)⟩)⟩, by rw [ht]; exact hP, hD⟩, hS.F ht⟩) hS.2.2 dX10_ride_52
    · refine lv_aload_n hx hb dX10_ride_35 rfl (lv_at hl 1 rfl) ?_
      refine va_get (D := G) (ci := 7) (v := .int (Int32.ofInt (c6))) (C := RX10) (T := TX10) (N := 71) (ref := RX10) hx hb hts h1w hown hX.1 hP 0 rfl rfl 43 (by decide) h3w (fun _ h9 => h9) rfl dX10_ride_36 ?_
      refine lv_goto (tgt := 43) hx hb dX10_ride_39 (by decide) ?_
      refine cr_v (va_runV (As := [.int (Int32.ofInt (2)), .int (Int32.ofInt (d0)), .int (Int32.ofInt (w0)), .int (Int32.ofInt (fi 28)), .int (Int32.ofInt (c6))]) (rest := []) ⟨hx, hb, hml, hown, hts⟩ (mX10_add l G k ar (uF (uF (uF (uF fi 2 (0)) 41 (c4)) 42 (c5)) 43 (c6)) (uF (uF fa 39 (c2)) 40 (c3)) fl 2 d0 w0 (fi 28) c6 H.size (iF (iF (iF (iF hR (by omega)) (by omega)) (by omega)) (by omega)) (iG (iG hRa rc2) rc3) (by omega) (by omega) (by omega) (hR 28) (by omega) (show 0 ≤ (fi 29) ∧ (fi 29) < 60 from by omega) (show ∀ i, 0 ≤ i → i < (fi 29) → ¬ (fa 34) i = 2 → 0 ≤ (fa 35) i ∧ (fa 35) i < 7 from by first | exact hPM | omega) (show 2 = 2 ∨ (0 ≤ d0 ∧ d0 < 7) from by omega)) (cwV 5 hts gX10_ride_X10_add rfl rfl rfl (by decide +kernel) ⟨Nat.le_of_ble_eq_true rfl, Nat.le_of_ble_eq_true rfl⟩) (cr_preV (EZ_ok k) hZ hS hX hP hD hA (ci := 7) (q0 := 0) rfl rfl) rfl rfl hl.1 rfl (lv_room (Nat.le_of_ble_eq_true rfl)) dX10_ride_43 ⟨Nat.le_of_ble_eq_true rfl, Nat.le_of_ble_eq_true rfl⟩) hD hS hA (fun u H locs hp hP hD hS => ?_)
      obtain ⟨c16, c17, c18, c19, c20, c21, c22⟩ := u
      obtain ⟨hP, hD⟩ : va_P G vwCl (wM k ar (uF (uF (uF (uF (uF (uF fi 2 (0)) 29 (c21)) 30 (c22)) 41 (c4)) 42 (c5)) 43 (c6)) (uF (uF (uF (uF (uF (uF (uF fa 34 (c16)) 35 (c17)) 36 (c18)) 37 (c19)) 38 (c20)) 39 (c2)) 40 (c3)) fl) H ∧ va_D A (wM k ar (uF (uF (uF (uF (uF (uF fi 2 (0)) 29 (c21)) 30 (c22)) 41 (c4)) 42 (c5)) 43 (c6)) (uF (uF (uF (uF (uF (uF (uF fa 34 (c16)) 35 (c17)) 36 (c18)) 37 (c19)) 38 (c20)) 39 (c2)) 40 (c3)) fl) := ⟨hP, hD⟩
      obtain ⟨rc16, rc17, rc18, rc19, rc20, rc21, rc22, hp22⟩ : (∀ t, inR (c16 t)) ∧ (∀ t, inR (c17 t)) ∧ (∀ t, inR (c18 t)) ∧ (∀ t, inR (c19 t)) ∧ (∀ t, inR (c20 t)) ∧ (inR c21) ∧ (inR c22) ∧ (c21 = (fi 29) + 1 ∧ (∀ i, 0 ≤ i → i < c21 → ¬ c16 i = 2 → 0 ≤ c17 i ∧ c17 i < 7)) := hp
      have hP9 := hp22.2
      refine lv_aload_n hx hb dX10_ride_46 rfl (lv_at hl 1 rfl) ?_
      refine lv_iload_n hx hb dX10_ride_47 rfl (lv_at hl 2 rfl) ?_
      refine iv_put (ci := 7) (v := .int (Int32.ofInt (d0))) (ty := .int) (C := RX10) (T := TX10) (N := 71) (ref := RX10) hx hb hts h1w tyX10 tyX10_ok nmX10 hown hX.1 hP hD hS 0 rfl rfl 28 (by decide) h2w (fun _ h9 => h9) rfl (by decide +kernel) rfl rfl (Nat.le_of_ble_eq_true rfl) (wM_F28 _ _ _ _ _) dX10_ride_48 (fun H locs hP hD hS => ?_)
      obtain ⟨hP, hD⟩ : va_P G vwCl (wM k ar (uF (uF (uF (uF (uF (uF (uF fi 2 (0)) 28 (d0)) 29 (c21)) 30 (c22)) 41 (c4)) 42 (c5)) 43 (c6)) (uF (uF (uF (uF (uF (uF (uF fa 34 (c16)) 35 (c17)) 36 (c18)) 37 (c19)) 38 (c20)) 39 (c2)) 40 (c3)) fl) H ∧ va_D A (wM k ar (uF (uF (uF (uF (uF (uF (uF fi 2 (0)) 28 (d0)) 29 (c21)) 30 (c22)) 41 (c4)) 42 (c5)) 43 (c6)) (uF (uF (uF (uF (uF (uF (uF fa 34 (c16)) 35 (c17)) 36 (c18)) 37 (c19)) 38 (c20)) 39 (c2)) 40 (c3)) fl) := ⟨hP, hD⟩
      refine lv_iconst (v := Int32.ofInt 0) hx hb dX10_ride_51 (by decide +kernel) ?_
      exact W.iret (v := Int32.ofInt (0)) hx hb hr (fun t ht hW => ⟨⟨Int32.ofInt (0), (0, fa 11, c16, c17, c18, c19, c20, c2, c3, 0, d0, c21, c22, c4, c5, c6), rfl, ⟨rfl, (show (inR 0) ∧ (∀ t, inR ((fa 11) t)) ∧ (∀ t, inR (c16 t)) ∧ (∀ t, inR (c17 t)) ∧ (∀ t, inR (c18 t)) ∧ (∀ t, inR (c19 t)) ∧ (∀ t, inR (c20 t)) ∧ (∀ t, inR (c2 t)) ∧ (∀ t, inR (c3 t)) ∧ (inR 0) ∧ (inR d0) ∧ (inR c21) ∧ (inR c22) ∧ (inR c4) ∧ (inR c5) ∧ (inR c6) ∧ ((0 ≤ c21 ∧ c21 ≤ 60) ∧ (∀ i, 0 ≤ i → i < c21 → ¬ c16 i = 2 → 0 ≤ c17 i ∧ c17 i < 7)) from ⟨(by omega), (hRa 11), rc16, rc17, rc18, rc19, rc20, rc2, rc3, (by omega), (by omega), (by omega), (by omega), (by omega), (by omega), (by omega), (by first | exact ⟨by omega, hPM⟩ | exact ⟨by omega, hP9⟩)⟩)⟩, by rw [ht]; exact hP, hD⟩, hS.F ht⟩) hS.2.2 dX10_ride_52
  · refine lv_aload_n hx hb dX10_ride_16 rfl (lv_at hl 1 rfl) ?_
    refine lv_iload_n hx hb dX10_ride_17 rfl (lv_at hl 0 rfl) ?_
    refine cr_i (va_runV (As := [.int (Int32.ofInt (c1))]) (rest := []) ⟨hx, hb, hml, hown, hts⟩ (mX10_refuse l G k ar (uF (uF (uF (uF fi 2 (0)) 41 (c4)) 42 (c5)) 43 (c6)) (uF (uF fa 39 (c2)) 40 (c3)) fl c1 H.size (iF (iF (iF (iF hR (by omega)) (by omega)) (by omega)) (by omega)) (iG (iG hRa rc2) rc3) (by omega)) (cwV 1 hts gX10_ride_X10_refuse rfl rfl rfl (by decide +kernel) ⟨Nat.le_of_ble_eq_true rfl, Nat.le_of_ble_eq_true rfl⟩) (cr_preV (EZ_ok k) hZ hS hX hP hD hA (ci := 7) (q0 := 0) rfl rfl) rfl rfl hl.1 rfl (lv_room (Nat.le_of_ble_eq_true rfl)) dX10_ride_18 ⟨Nat.le_of_ble_eq_true rfl, Nat.le_of_ble_eq_true rfl⟩) hD hS hA (fun r u H locs hp hP hD hS => ?_)
    obtain ⟨c23, c24⟩ := u
    obtain ⟨hP, hD⟩ : va_P G vwCl (wM k ar (uF (uF (uF (uF fi 2 (0)) 41 (c4)) 42 (c5)) 43 (c6)) (uF (uF (uF fa 11 (c24)) 39 (c2)) 40 (c3)) fl) H ∧ va_D A (wM k ar (uF (uF (uF (uF fi 2 (0)) 41 (c4)) 42 (c5)) 43 (c6)) (uF (uF (uF fa 11 (c24)) 39 (c2)) 40 (c3)) fl) := ⟨hP, hD⟩
    obtain ⟨h9, rc23, rc24, hp24⟩ : r = Int32.ofInt c23 ∧ (inR c23) ∧ (∀ t, inR (c24 t)) ∧ (True) := hp
    subst h9
    exact W.iret (v := Int32.ofInt (c23)) hx hb hr (fun t ht hW => ⟨⟨Int32.ofInt (c23), (c23, c24, fa 34, fa 35, fa 36, fa 37, fa 38, c2, c3, 0, fi 28, fi 29, fi 30, c4, c5, c6), rfl, ⟨rfl, (show (inR c23) ∧ (∀ t, inR (c24 t)) ∧ (∀ t, inR ((fa 34) t)) ∧ (∀ t, inR ((fa 35) t)) ∧ (∀ t, inR ((fa 36) t)) ∧ (∀ t, inR ((fa 37) t)) ∧ (∀ t, inR ((fa 38) t)) ∧ (∀ t, inR (c2 t)) ∧ (∀ t, inR (c3 t)) ∧ (inR 0) ∧ (inR (fi 28)) ∧ (inR (fi 29)) ∧ (inR (fi 30)) ∧ (inR c4) ∧ (inR c5) ∧ (inR c6) ∧ ((0 ≤ (fi 29) ∧ (fi 29) ≤ 60) ∧ (∀ i, 0 ≤ i → i < (fi 29) → ¬ (fa 34) i = 2 → 0 ≤ (fa 35) i ∧ (fa 35) i < 7)) from ⟨(by omega), rc24, (hRa 34), (hRa 35), (hRa 36), (hRa 37), (hRa 38), rc2, rc3, (by omega), (hR 28), (hR 29), (hR 30), (by omega), (by omega), (by omega), (by first | exact ⟨by omega, hPM⟩ | exact ⟨by omega, hP9⟩)⟩)⟩, by rw [ht]; exact hP, hD⟩, hS.F ht⟩) hS.2.2 dX10_ride_21

set_option maxHeartbeats 4000000 in
set_option maxRecDepth 100000 in
theorem mX10_winding (l : Launch) (G : va_G) (k : Nat → ClassId) (ar : Nat → Nat) (fi : Nat → Int) (fa : Nat → Int → Int) (fl : Nat → Int64) (d0 : Int) (sz : Nat) (hR : ∀ j, inR (fi j)) (hRa : ∀ j t, inR (fa j t)) (hr_d0 : inR d0) (hth : 0 ≤ fi 12 ∧ fi 12 ≤ 7) : CNi l G k (EZ k) yX10_winding wsX10_winding ({ frames := 4, cells := 0, slots := 0, locals := 95 }) [.ref (ar 71), .int (Int32.ofInt (d0))] sz (wM k ar fi fa fl) (fun (r0 : Int32) (u : Int × Int × Int × Int × Int) => r0 = Int32.ofInt (u.1) ∧ (inR u.1) ∧ (inR u.2.1) ∧ (inR u.2.2.1) ∧ (inR u.2.2.2.1) ∧ (inR u.2.2.2.2) ∧ (True)) (fun (u : Int × Int × Int × Int × Int) => (wM k ar (uF (uF (uF (uF fi 2 (u.2.1)) 41 (u.2.2.1)) 42 (u.2.2.2.1)) 43 (u.2.2.2.2)) fa fl)) := by
  refine Met.ofW (cc := cX10_winding) (maxL := 2) (ret := (some .int)) (by decide) rfl ?_
  intro p e s m args below meth c s₁ B hml hv
  obtain ⟨rfl, hsz, hP, hX, hD0, hZ0⟩ := hv
  have hx := B.exec
  have hb := B.bytes
  have hr := B.returns
  have hts := atoms_spec (ws := wsX10_winding) B.pre
  have hown : s.vm.findClass RX10 = some m.cls := findClass_of_methodNamed B.named
  subst hsz
  have hD := hD0.self (sz := s.heap.size)
  have hZ := hZ0
  generalize hAe : va_A (wM k ar fi fa fl) s.heap.size = A at hD hZ ⊢
  have hA : ∀ q : Nat, s.heap.size ≤ q → A q := fun q h => by rw [← hAe]; exact Or.inr h
  have hS : va_S A s.heap s.heap [] := va_S.rf
  have hl := lv_entry ([.ref (ar 71), .int (Int32.ofInt (d0))]) (n := 2) (Nat.le_of_ble_eq_true rfl)
  rw [lg_entry_eq]
  generalize (lg_sl ([.ref (ar 71), .int (Int32.ofInt (d0))]) ++ List.replicate (2 - (lg_sl ([.ref (ar 71), .int (Int32.ofInt (d0))])).length) Slot.unset).toArray = ls at hl ⊢
  have hl : lv_has ls 2 [(0, .ref (ar 71)), (1, .int (Int32.ofInt (d0)))] := hl
  obtain ⟨H, eH⟩ : ∃ H, H = s.heap := ⟨_, rfl⟩
  rw [← eH] at hP
  have hS : va_S A s.heap H [] := by rw [eH]; exact hS
  have gW : s.heap = H := eH.symm
  refine iv_heap gW ?_
  have h0w := hts (.fieldLink RX10 171 "RopeTownModel" "code" "I") (by decide +kernel)
  have h1w : ∀ w ∈ wsX100, w ∈ wsX10_winding := by decide +kernel
  have h2w := hts (.fieldLink RX10 327 "RopeTownModel" "bucket0" "I") (by decide +kernel)
  have h3w := hts (.fieldLink RX10 87 "RopeTownModel" "place" "[I") (by decide +kernel)
  have h4w := hts (.fieldLink RX10 391 "RopeTownModel" "wound" "I") (by decide +kernel)
  refine lv_aload_n hx hb dX10_winding_0 rfl (lv_at hl 0 rfl) ?_
  refine lv_iconst (v := Int32.ofInt 0) hx hb dX10_winding_1 (by decide +kernel) ?_
  refine iv_put (ci := 7) (v := .int (Int32.ofInt (0))) (ty := .int) (C := RX10) (T := TX10) (N := 71) (ref := RX10) hx hb hts h1w tyX10 tyX10_ok nmX10 hown hX.1 hP hD hS 0 rfl rfl 2 (by decide) h0w (fun _ h9 => h9) rfl (by decide +kernel) rfl rfl (Nat.le_of_ble_eq_true rfl) (wM_F2 _ _ _ _ _) dX10_winding_2 (fun H locs hP hD hS => ?_)
  refine lv_iload_n hx hb dX10_winding_5 rfl (lv_at hl 1 rfl) ?_
  refine lv_iconst (v := Int32.ofInt 0) hx hb dX10_winding_6 (by decide +kernel) ?_
  refine lv_aload_n hx hb dX10_winding_7 rfl (lv_at hl 0 rfl) ?_
  refine cr_i (va_runV (As := []) (rest := [.int (Int32.ofInt (0)), .int (Int32.ofInt (d0))]) ⟨hx, hb, hml, hown, hts⟩ (mX10_depths l G k ar (uF fi 2 (0)) fa fl H.size (iF hR (by omega)) hRa) (cwV 0 hts gX10_winding_X10_depths rfl rfl rfl (by decide +kernel) ⟨Nat.le_of_ble_eq_true rfl, Nat.le_of_ble_eq_true rfl⟩) (cr_preV (EZ_ok k) hZ hS hX hP hD hA (ci := 7) (q0 := 0) rfl rfl) rfl rfl hl.1 rfl (lv_room (Nat.le_of_ble_eq_true rfl)) dX10_winding_8 ⟨Nat.le_of_ble_eq_true rfl, Nat.le_of_ble_eq_true rfl⟩) hD hS hA (fun r u H locs hp hP hD hS => ?_)
  obtain ⟨c1, rfl⟩ : ∃ z, z = u := ⟨_, rfl⟩
  obtain ⟨h9, rc1, hp1⟩ : r = Int32.ofInt c1 ∧ (inR c1) ∧ (c1 = (fa 3) 0) := hp
  subst h9
  refine c0_i (va_runS (As := [.int (Int32.ofInt (d0)), .int (Int32.ofInt (0)), .int (Int32.ofInt (c1))]) (rest := []) ⟨hx, hb, hml, hown, hts⟩ (mX10_isIn l G k d0 0 c1 H.size (by omega) (by omega) (by omega)) (cwS 3 hts gX10_winding_X10_isIn rfl rfl rfl (by decide +kernel) ⟨Nat.le_of_ble_eq_true rfl, Nat.le_of_ble_eq_true rfl⟩) (cr_pre0 (EZ_ok k) hZ hS hX hP hD hA) rfl rfl hl.1 rfl (lv_room (Nat.le_of_ble_eq_true rfl)) dX10_winding_11 ⟨Nat.le_of_ble_eq_true rfl, Nat.le_of_ble_eq_true rfl⟩) hP hD hS hA (fun r u H locs hp hP hD hS => ?_)
  obtain ⟨c2, rfl⟩ : ∃ z, z = u := ⟨_, rfl⟩
  obtain ⟨h9, rc2, hp2⟩ : r = Int32.ofInt c2 ∧ (inR c2) ∧ ((c2 = 1 ∧ 0 ≤ d0 ∧ d0 ≤ c1) ∨ (c2 = 0 ∧ (d0 < 0 ∨ c1 < d0))) := hp
  subst h9
  refine iv_if_eq (tgt := 25) hx hb (by omega) dX10_winding_14 (by decide) (fun q3 => ?_) (fun q3 => ?_)
  · refine lv_iconst (v := Int32.ofInt (-1)) hx hb dX10_winding_25 (by decide +kernel) ?_
    exact W.iret (v := Int32.ofInt ((-1))) hx hb hr (fun t ht hW => ⟨⟨Int32.ofInt ((-1)), ((-1), 0, fi 41, fi 42, fi 43), rfl, ⟨rfl, (show (inR (-1)) ∧ (inR 0) ∧ (inR (fi 41)) ∧ (inR (fi 42)) ∧ (inR (fi 43)) ∧ (True) from ⟨(by omega), (by omega), (hR 41), (hR 42), (hR 43), trivial⟩)⟩, by rw [ht]; exact hP, hD⟩, hS.F ht⟩) hS.2.2 dX10_winding_26
  · refine lv_iload_n hx hb dX10_winding_17 rfl (lv_at hl 1 rfl) ?_
    refine lv_aload_n hx hb dX10_winding_18 rfl (lv_at hl 0 rfl) ?_
    refine va_get (D := G) (ci := 7) (v := .int (Int32.ofInt (fi 28))) (C := RX10) (T := TX10) (N := 71) (ref := RX10) hx hb hts h1w hown hX.1 hP 0 rfl rfl 28 (by decide) h2w (fun _ h9 => h9) rfl dX10_winding_19 ?_
    have rf28 := hR 28
    refine iv_icmp_ne (tgt := 27) hx hb (by omega) (by omega) dX10_winding_22 (by decide) (fun q4 => ?_) (fun q4 => ?_)
    · refine lv_aload_n hx hb dX10_winding_27 rfl (lv_at hl 0 rfl) ?_
      refine lv_aload_n hx hb dX10_winding_28 rfl (lv_at hl 0 rfl) ?_
      refine va_get (D := G) (ci := 7) (v := .ref (ar 32)) (C := RX10) (T := TX10) (N := 71) (ref := RX10) hx hb hts h1w hown hX.1 hP 0 rfl rfl 32 (by decide) h3w (fun _ h9 => h9) rfl dX10_winding_29 ?_
      refine lv_aload_n hx hb dX10_winding_32 rfl (lv_at hl 0 rfl) ?_
      refine va_get (D := G) (ci := 7) (v := .int (Int32.ofInt (fi 28))) (C := RX10) (T := TX10) (N := 71) (ref := RX10) hx hb hts h1w hown hX.1 hP 0 rfl rfl 28 (by decide) h2w (fun _ h9 => h9) rfl dX10_winding_33 ?_
      have rf28 := hR 28
      refine lv_iload_n hx hb dX10_winding_36 rfl (lv_at hl 1 rfl) ?_
      refine cr_v (va_runV (As := [.ref (ar 32), .int (Int32.ofInt (fi 28)), .int (Int32.ofInt (d0))]) (rest := []) ⟨hx, hb, hml, hown, hts⟩ (mX10_tellRide_32 l G k ar (uF fi 2 (0)) fa fl (fi 28) d0 H.size (iF hR (by omega)) hRa (hR 28) (by omega) (show 0 ≤ (fi 12) ∧ (fi 12) ≤ 7 from by omega)) (cwV 3 hts gX10_winding_X10_tellRide rfl rfl rfl (by decide +kernel) ⟨Nat.le_of_ble_eq_true rfl, Nat.le_of_ble_eq_true rfl⟩) (cr_preV (EZ_ok k) hZ hS hX hP hD hA (ci := 7) (q0 := 0) rfl rfl) rfl rfl hl.1 rfl (lv_room (Nat.le_of_ble_eq_true rfl)) dX10_winding_37 ⟨Nat.le_of_ble_eq_true rfl, Nat.le_of_ble_eq_true rfl⟩) hD hS hA (fun u H locs hp hP hD hS => ?_)
      obtain ⟨c5, c6, c7⟩ := u
      obtain ⟨hP, hD⟩ : va_P G vwCl (wM k ar (uF (uF (uF (uF fi 2 (0)) 41 (c5)) 42 (c6)) 43 (c7)) fa fl) H ∧ va_D A (wM k ar (uF (uF (uF (uF fi 2 (0)) 41 (c5)) 42 (c6)) 43 (c7)) fa fl) := ⟨hP, hD⟩
      obtain ⟨rc5, rc6, rc7, hp7⟩ : (inR c5) ∧ (inR c6) ∧ (inR c7) ∧ (True) := hp
      refine lv_aload_n hx hb dX10_winding_40 rfl (lv_at hl 0 rfl) ?_
      refine va_get (D := G) (ci := 7) (v := .int (Int32.ofInt (c7))) (C := RX10) (T := TX10) (N := 71) (ref := RX10) hx hb hts h1w hown hX.1 hP 0 rfl rfl 43 (by decide) h4w (fun _ h9 => h9) rfl dX10_winding_41 ?_
      exact W.iret (v := Int32.ofInt (c7)) hx hb hr (fun t ht hW => ⟨⟨Int32.ofInt (c7), (c7, 0, c5, c6, c7), rfl, ⟨rfl, (show (inR c7) ∧ (inR 0) ∧ (inR c5) ∧ (inR c6) ∧ (inR c7) ∧ (True) from ⟨(by omega), (by omega), (by omega), (by omega), (by omega), trivial⟩)⟩, by rw [ht]; exact hP, hD⟩, hS.F ht⟩) hS.2.2 dX10_winding_44
    · refine lv_iconst (v := Int32.ofInt (-1)) hx hb dX10_winding_25 (by decide +kernel) ?_
      exact W.iret (v := Int32.ofInt ((-1))) hx hb hr (fun t ht hW => ⟨⟨Int32.ofInt ((-1)), ((-1), 0, fi 41, fi 42, fi 43), rfl, ⟨rfl, (show (inR (-1)) ∧ (inR 0) ∧ (inR (fi 41)) ∧ (inR (fi 42)) ∧ (inR (fi 43)) ∧ (True) from ⟨(by omega), (by omega), (hR 41), (hR 42), (hR 43), trivial⟩)⟩, by rw [ht]; exact hP, hD⟩, hS.F ht⟩) hS.2.2 dX10_winding_26

set_option maxHeartbeats 4000000 in
set_option maxRecDepth 100000 in
theorem mX10_may (l : Launch) (G : va_G) (k : Nat → ClassId) (ar : Nat → Nat) (fi : Nat → Int) (fa : Nat → Int → Int) (fl : Nat → Int64) (d0 : Int) (sz : Nat) (hR : ∀ j, inR (fi j)) (hRa : ∀ j t, inR (fa j t)) (hr_d0 : inR d0) (hth : 0 ≤ fi 12 ∧ fi 12 ≤ 7) (hru : 0 ≤ fi 13 ∧ fi 13 ≤ 4) (hRW : ∀ q9, 0 ≤ q9 → q9 < fi 13 → RWf (fa 10) (fa 8 q9) (fa 9 q9)) : CNi l G k (EZ k) yX10_may wsX10_may ({ frames := 4, cells := 0, slots := 0, locals := 95 }) [.ref (ar 71), .int (Int32.ofInt (d0))] sz (wM k ar fi fa fl) (fun (r0 : Int32) (u : Int × (Int → Int) × (Int → Int) × Int × Int × Int × Int) => r0 = Int32.ofInt (u.1) ∧ (inR u.1) ∧ (∀ t, inR (u.2.1 t)) ∧ (∀ t, inR (u.2.2.1 t)) ∧ (inR u.2.2.2.1) ∧ (inR u.2.2.2.2.1) ∧ (inR u.2.2.2.2.2.1) ∧ (inR u.2.2.2.2.2.2) ∧ (True)) (fun (u : Int × (Int → Int) × (Int → Int) × Int × Int × Int × Int) => (wM k ar (uF (uF (uF (uF fi 2 (u.2.2.2.1)) 41 (u.2.2.2.2.1)) 42 (u.2.2.2.2.2.1)) 43 (u.2.2.2.2.2.2)) (uF (uF fa 39 (u.2.1)) 40 (u.2.2.1)) fl)) := by
  refine Met.ofW (cc := cX10_may) (maxL := 4) (ret := (some .int)) (by decide) rfl ?_
  intro p e s m args below meth c s₁ B hml hv
  obtain ⟨rfl, hsz, hP, hX, hD0, hZ0⟩ := hv
  have hx := B.exec
  have hb := B.bytes
  have hr := B.returns
  have hts := atoms_spec (ws := wsX10_may) B.pre
  have hown : s.vm.findClass RX10 = some m.cls := findClass_of_methodNamed B.named
  subst hsz
  have hD := hD0.self (sz := s.heap.size)
  have hZ := hZ0
  generalize hAe : va_A (wM k ar fi fa fl) s.heap.size = A at hD hZ ⊢
  have hA : ∀ q : Nat, s.heap.size ≤ q → A q := fun q h => by rw [← hAe]; exact Or.inr h
  have hS : va_S A s.heap s.heap [] := va_S.rf
  have hl := lv_entry ([.ref (ar 71), .int (Int32.ofInt (d0))]) (n := 4) (Nat.le_of_ble_eq_true rfl)
  rw [lg_entry_eq]
  generalize (lg_sl ([.ref (ar 71), .int (Int32.ofInt (d0))]) ++ List.replicate (4 - (lg_sl ([.ref (ar 71), .int (Int32.ofInt (d0))])).length) Slot.unset).toArray = ls at hl ⊢
  have hl : lv_has ls 4 [(0, .ref (ar 71)), (1, .int (Int32.ofInt (d0)))] := hl
  obtain ⟨H, eH⟩ : ∃ H, H = s.heap := ⟨_, rfl⟩
  rw [← eH] at hP
  have hS : va_S A s.heap H [] := by rw [eH]; exact hS
  have gW : s.heap = H := eH.symm
  refine iv_heap gW ?_
  have h0w := hts (.fieldLink RX10 171 "RopeTownModel" "code" "I") (by decide +kernel)
  have h1w : ∀ w ∈ wsX100, w ∈ wsX10_may := by decide +kernel
  have h2w := hts (.fieldLink RX10 327 "RopeTownModel" "bucket0" "I") (by decide +kernel)
  have h3w := hts (.fieldLink RX10 87 "RopeTownModel" "place" "[I") (by decide +kernel)
  refine lv_aload_n hx hb dX10_may_0 rfl (lv_at hl 0 rfl) ?_
  refine lv_iconst (v := Int32.ofInt 0) hx hb dX10_may_1 (by decide +kernel) ?_
  refine iv_put (ci := 7) (v := .int (Int32.ofInt (0))) (ty := .int) (C := RX10) (T := TX10) (N := 71) (ref := RX10) hx hb hts h1w tyX10 tyX10_ok nmX10 hown hX.1 hP hD hS 0 rfl rfl 2 (by decide) h0w (fun _ h9 => h9) rfl (by decide +kernel) rfl rfl (Nat.le_of_ble_eq_true rfl) (wM_F2 _ _ _ _ _) dX10_may_2 (fun H locs hP hD hS => ?_)
  refine lv_iload_n hx hb dX10_may_5 rfl (lv_at hl 1 rfl) ?_
  refine lv_iconst (v := Int32.ofInt 0) hx hb dX10_may_6 (by decide +kernel) ?_
  refine lv_aload_n hx hb dX10_may_7 rfl (lv_at hl 0 rfl) ?_
  refine cr_i (va_runV (As := []) (rest := [.int (Int32.ofInt (0)), .int (Int32.ofInt (d0))]) ⟨hx, hb, hml, hown, hts⟩ (mX10_depths l G k ar (uF fi 2 (0)) fa fl H.size (iF hR (by omega)) hRa) (cwV 0 hts gX10_may_X10_depths rfl rfl rfl (by decide +kernel) ⟨Nat.le_of_ble_eq_true rfl, Nat.le_of_ble_eq_true rfl⟩) (cr_preV (EZ_ok k) hZ hS hX hP hD hA (ci := 7) (q0 := 0) rfl rfl) rfl rfl hl.1 rfl (lv_room (Nat.le_of_ble_eq_true rfl)) dX10_may_8 ⟨Nat.le_of_ble_eq_true rfl, Nat.le_of_ble_eq_true rfl⟩) hD hS hA (fun r u H locs hp hP hD hS => ?_)
  obtain ⟨c1, rfl⟩ : ∃ z, z = u := ⟨_, rfl⟩
  obtain ⟨h9, rc1, hp1⟩ : r = Int32.ofInt c1 ∧ (inR c1) ∧ (c1 = (fa 3) 0) := hp
  subst h9
  refine c0_i (va_runS (As := [.int (Int32.ofInt (d0)), .int (Int32.ofInt (0)), .int (Int32.ofInt (c1))]) (rest := []) ⟨hx, hb, hml, hown, hts⟩ (mX10_isIn l G k d0 0 c1 H.size (by omega) (by omega) (by omega)) (cwS 3 hts gX10_may_X10_isIn rfl rfl rfl (by decide +kernel) ⟨Nat.le_of_ble_eq_true rfl, Nat.le_of_ble_eq_true rfl⟩) (cr_pre0 (EZ_ok k) hZ hS hX hP hD hA) rfl rfl hl.1 rfl (lv_room (Nat.le_of_ble_eq_true rfl)) dX10_may_11 ⟨Nat.le_of_ble_eq_true rfl, Nat.le_of_ble_eq_true rfl⟩) hP hD hS hA (fun r u H locs hp hP hD hS => ?_)
  obtain ⟨c2, rfl⟩ : ∃ z, z = u := ⟨_, rfl⟩
  obtain ⟨h9, rc2, hp2⟩ : r = Int32.ofInt c2 ∧ (inR c2) ∧ ((c2 = 1 ∧ 0 ≤ d0 ∧ d0 ≤ c1) ∨ (c2 = 0 ∧ (d0 < 0 ∨ c1 < d0))) := hp
  subst h9
  refine iv_if_eq (tgt := 51) hx hb (by omega) dX10_may_14 (by decide) (fun q3 => ?_) (fun q3 => ?_)
  · refine lv_iconst (v := Int32.ofInt 0) hx hb dX10_may_51 (by decide +kernel) ?_
    exact W.iret (v := Int32.ofInt (0)) hx hb hr (fun t ht hW => ⟨⟨Int32.ofInt (0), (0, fa 39, fa 40, 0, fi 41, fi 42, fi 43), rfl, ⟨rfl, (show (inR 0) ∧ (∀ t, inR ((fa 39) t)) ∧ (∀ t, inR ((fa 40) t)) ∧ (inR 0) ∧ (inR (fi 41)) ∧ (inR (fi 42)) ∧ (inR (fi 43)) ∧ (True) from ⟨(by omega), (hRa 39), (hRa 40), (by omega), (hR 41), (hR 42), (hR 43), trivial⟩)⟩, by rw [ht]; exact hP, hD⟩, hS.F ht⟩) hS.2.2 dX10_may_52
  · refine lv_iload_n hx hb dX10_may_17 rfl (lv_at hl 1 rfl) ?_
    refine lv_aload_n hx hb dX10_may_18 rfl (lv_at hl 0 rfl) ?_
    refine va_get (D := G) (ci := 7) (v := .int (Int32.ofInt (fi 28))) (C := RX10) (T := TX10) (N := 71) (ref := RX10) hx hb hts h1w hown hX.1 hP 0 rfl rfl 28 (by decide) h2w (fun _ h9 => h9) rfl dX10_may_19 ?_
    have rf28 := hR 28
    refine iv_icmp_eq (tgt := 51) hx hb (by omega) (by omega) dX10_may_22 (by decide) (fun q4 => ?_) (fun q4 => ?_)
    · refine lv_iconst (v := Int32.ofInt 0) hx hb dX10_may_51 (by decide +kernel) ?_
      exact W.iret (v := Int32.ofInt (0)) hx hb hr (fun t ht hW => ⟨⟨Int32.ofInt (0), (0, fa 39, fa 40, 0, fi 41, fi 42, fi 43), rfl, ⟨rfl, (show (inR 0) ∧ (∀ t, inR ((fa 39) t)) ∧ (∀ t, inR ((fa 40) t)) ∧ (inR 0) ∧ (inR (fi 41)) ∧ (inR (fi 42)) ∧ (inR (fi 43)) ∧ (True) from ⟨(by omega), (hRa 39), (hRa 40), (by omega), (hR 41), (hR 42), (hR 43), trivial⟩)⟩, by rw [ht]; exact hP, hD⟩, hS.F ht⟩) hS.2.2 dX10_may_52
    · refine lv_aload_n hx hb dX10_may_25 rfl (lv_at hl 0 rfl) ?_
      refine lv_aload_n hx hb dX10_may_26 rfl (lv_at hl 0 rfl) ?_
      refine va_get (D := G) (ci := 7) (v := .ref (ar 32)) (C := RX10) (T := TX10) (N := 71) (ref := RX10) hx hb hts h1w hown hX.1 hP 0 rfl rfl 32 (by decide) h3w (fun _ h9 => h9) rfl dX10_may_27 ?_
      refine cr_i (va_runV (As := [.ref (ar 32)]) (rest := []) ⟨hx, hb, hml, hown, hts⟩ (mX10_keepsCap_32 l G k ar (uF fi 2 (0)) fa fl H.size (iF hR (by omega)) hRa (show 0 ≤ (fi 12) ∧ (fi 12) ≤ 7 from by omega)) (cwV 1 hts gX10_may_X10_keepsCap rfl rfl rfl (by decide +kernel) ⟨Nat.le_of_ble_eq_true rfl, Nat.le_of_ble_eq_true rfl⟩) (cr_preV (EZ_ok k) hZ hS hX hP hD hA (ci := 7) (q0 := 0) rfl rfl) rfl rfl hl.1 rfl (lv_room (Nat.le_of_ble_eq_true rfl)) dX10_may_30 ⟨Nat.le_of_ble_eq_true rfl, Nat.le_of_ble_eq_true rfl⟩) hD hS hA (fun r u H locs hp hP hD hS => ?_)
      obtain ⟨c5, rfl⟩ : ∃ z, z = u := ⟨_, rfl⟩
      obtain ⟨h9, rc5, hp5⟩ : r = Int32.ofInt c5 ∧ (inR c5) ∧ ((c5 = 0 ∨ c5 = 1)) := hp
      subst h9
      refine iv_if_eq (tgt := 51) hx hb (by omega) dX10_may_33 (by decide) (fun q6 => ?_) (fun q6 => ?_)
      · refine lv_iconst (v := Int32.ofInt 0) hx hb dX10_may_51 (by decide +kernel) ?_
        exact W.iret (v := Int32.ofInt (0)) hx hb hr (fun t ht hW => ⟨⟨Int32.ofInt (0), (0, fa 39, fa 40, 0, fi 41, fi 42, fi 43), rfl, ⟨rfl, (show (inR 0) ∧ (∀ t, inR ((fa 39) t)) ∧ (∀ t, inR ((fa 40) t)) ∧ (inR 0) ∧ (inR (fi 41)) ∧ (inR (fi 42)) ∧ (inR (fi 43)) ∧ (True) from ⟨(by omega), (hRa 39), (hRa 40), (by omega), (hR 41), (hR 42), (hR 43), trivial⟩)⟩, by rw [ht]; exact hP, hD⟩, hS.F ht⟩) hS.2.2 dX10_may_52
      · refine lv_aload_n hx hb dX10_may_36 rfl (lv_at hl 0 rfl) ?_
        refine lv_aload_n hx hb dX10_may_37 rfl (lv_at hl 0 rfl) ?_
        refine va_get (D := G) (ci := 7) (v := .ref (ar 32)) (C := RX10) (T := TX10) (N := 71) (ref := RX10) hx hb hts h1w hown hX.1 hP 0 rfl rfl 32 (by decide) h3w (fun _ h9 => h9) rfl dX10_may_38 ?_
        refine lv_aload_n hx hb dX10_may_41 rfl (lv_at hl 0 rfl) ?_
        refine va_get (D := G) (ci := 7) (v := .int (Int32.ofInt (fi 28))) (C := RX10) (T := TX10) (N := 71) (ref := RX10) hx hb hts h1w hown hX.1 hP 0 rfl rfl 28 (by decide) h2w (fun _ h9 => h9) rfl dX10_may_42 ?_
        have rf28 := hR 28
        refine cr_i (va_runV (As := [.ref (ar 32), .int (Int32.ofInt (fi 28))]) (rest := []) ⟨hx, hb, hml, hown, hts⟩ (mX10_keepsRules_32 l G k ar (uF fi 2 (0)) fa fl (fi 28) H.size (iF hR (by omega)) hRa (hR 28) (show 0 ≤ (fi 12) ∧ (fi 12) ≤ 7 from by omega) (show 0 ≤ (fi 13) ∧ (fi 13) ≤ 4 from by omega) (show ∀ q9, 0 ≤ q9 → q9 < (fi 13) → RWf ((fa 10)) ((fa 8) q9) ((fa 9) q9) from by first | exact hRW | omega)) (cwV 2 hts gX10_may_X10_keepsRules rfl rfl rfl (by decide +kernel) ⟨Nat.le_of_ble_eq_true rfl, Nat.le_of_ble_eq_true rfl⟩) (cr_preV (EZ_ok k) hZ hS hX hP hD hA (ci := 7) (q0 := 0) rfl rfl) rfl rfl hl.1 rfl (lv_room (Nat.le_of_ble_eq_true rfl)) dX10_may_45 ⟨Nat.le_of_ble_eq_true rfl, Nat.le_of_ble_eq_true rfl⟩) hD hS hA (fun r u H locs hp hP hD hS => ?_)
        obtain ⟨c7, c8, c9⟩ := u
        obtain ⟨hP, hD⟩ : va_P G vwCl (wM k ar (uF fi 2 (0)) (uF (uF fa 39 (c8)) 40 (c9)) fl) H ∧ va_D A (wM k ar (uF fi 2 (0)) (uF (uF fa 39 (c8)) 40 (c9)) fl) := ⟨hP, hD⟩
        obtain ⟨h9, rc7, rc8, rc9, hp9⟩ : r = Int32.ofInt c7 ∧ (inR c7) ∧ (∀ t, inR (c8 t)) ∧ (∀ t, inR (c9 t)) ∧ ((c7 = 0 ∨ c7 = 1)) := hp
        subst h9
        refine iv_if_ne (tgt := 53) hx hb (by omega) dX10_may_48 (by decide) (fun q10 => ?_) (fun q10 => ?_)
        · refine lv_aload_n hx hb dX10_may_53 rfl (lv_at hl 0 rfl) ?_
          refine lv_aload_n hx hb dX10_may_54 rfl (lv_at hl 0 rfl) ?_
          refine va_get (D := G) (ci := 7) (v := .ref (ar 32)) (C := RX10) (T := TX10) (N := 71) (ref := RX10) hx hb hts h1w hown hX.1 hP 0 rfl rfl 32 (by decide) h3w (fun _ h9 => h9) rfl dX10_may_55 ?_
          refine lv_aload_n hx hb dX10_may_58 rfl (lv_at hl 0 rfl) ?_
          refine va_get (D := G) (ci := 7) (v := .int (Int32.ofInt (fi 28))) (C := RX10) (T := TX10) (N := 71) (ref := RX10) hx hb hts h1w hown hX.1 hP 0 rfl rfl 28 (by decide) h2w (fun _ h9 => h9) rfl dX10_may_59 ?_
          have rf28 := hR 28
          refine lv_iload_n hx hb dX10_may_62 rfl (lv_at hl 1 rfl) ?_
          refine cr_v (va_runV (As := [.ref (ar 32), .int (Int32.ofInt (fi 28)), .int (Int32.ofInt (d0))]) (rest := []) ⟨hx, hb, hml, hown, hts⟩ (mX10_tellRide_32 l G k ar (uF fi 2 (0)) (uF (uF fa 39 (c8)) 40 (c9)) fl (fi 28) d0 H.size (iF hR (by omega)) (iG (iG hRa rc8) rc9) (hR 28) (by omega) (show 0 ≤ (fi 12) ∧ (fi 12) ≤ 7 from by omega)) (cwV 3 hts gX10_may_X10_tellRide rfl rfl rfl (by decide +kernel) ⟨Nat.le_of_ble_eq_true rfl, Nat.le_of_ble_eq_true rfl⟩) (cr_preV (EZ_ok k) hZ hS hX hP hD hA (ci := 7) (q0 := 0) rfl rfl) rfl rfl hl.1 rfl (lv_room (Nat.le_of_ble_eq_true rfl)) dX10_may_63 ⟨Nat.le_of_ble_eq_true rfl, Nat.le_of_ble_eq_true rfl⟩) hD hS hA (fun u H locs hp hP hD hS => ?_)
          obtain ⟨c11, c12, c13⟩ := u
          obtain ⟨hP, hD⟩ : va_P G vwCl (wM k ar (uF (uF (uF (uF fi 2 (0)) 41 (c11)) 42 (c12)) 43 (c13)) (uF (uF fa 39 (c8)) 40 (c9)) fl) H ∧ va_D A (wM k ar (uF (uF (uF (uF fi 2 (0)) 41 (c11)) 42 (c12)) 43 (c13)) (uF (uF fa 39 (c8)) 40 (c9)) fl) := ⟨hP, hD⟩
          obtain ⟨rc11, rc12, rc13, hp13⟩ : (inR c11) ∧ (inR c12) ∧ (inR c13) ∧ (True) := hp
          refine lv_iconst (v := Int32.ofInt 0) hx hb dX10_may_66 (by decide +kernel) ?_
          refine lv_istore_n (lv' := [(2, .int (Int32.ofInt (0))), (0, .ref (ar 71)), (1, .int (Int32.ofInt (d0)))]) hx hb dX10_may_67 rfl hl (by decide) rfl (fun ls hl => ?_)
          refine lv_iconst (v := Int32.ofInt 0) hx hb dX10_may_68 (by decide +kernel) ?_
          refine lv_istore_n (lv' := [(3, .int (Int32.ofInt (0))), (2, .int (Int32.ofInt (0))), (0, .ref (ar 71)), (1, .int (Int32.ofInt (d0)))]) hx hb dX10_may_69 rfl hl (by decide) rfl (fun ls hl => ?_)
          refine iv_loop (α := Int × Int) (nL := 4) (fun b9 => (wM k ar (uF (uF (uF (uF fi 2 (0)) 41 (c11)) 42 (c12)) 43 (c13)) (uF (uF fa 39 (c8)) 40 (c9)) fl)) (fun b9 => [(3, .int (Int32.ofInt (b9.1))), (2, .int (Int32.ofInt (b9.2))), (0, .ref (ar 71)), (1, .int (Int32.ofInt (d0)))]) (fun b9 => (3 - b9.1).toNat) (fun b9 => inR b9.1 ∧ inR b9.2 ∧ (0 ≤ b9.1 ∧ b9.1 ≤ 3)) ?_ (0, 0) (show inR 0 ∧ inR 0 ∧ (0 ≤ 0 ∧ 0 ≤ 3) from ⟨(by omega), (by omega), (by omega)⟩) hP hD hS hl
          rintro ⟨x3_14, x2_15⟩ ih hi9 H locs ls hP hD hS hl
          obtain ⟨r_x3_14, r_x2_15, hinv⟩ : inR x3_14 ∧ inR x2_15 ∧ (0 ≤ x3_14 ∧ x3_14 ≤ 3) := hi9
          obtain ⟨hP, hD⟩ : va_P G vwCl (wM k ar (uF (uF (uF (uF fi 2 (0)) 41 (c11)) 42 (c12)) 43 (c13)) (uF (uF fa 39 (c8)) 40 (c9)) fl) H ∧ va_D A (wM k ar (uF (uF (uF (uF fi 2 (0)) 41 (c11)) 42 (c12)) 43 (c13)) (uF (uF fa 39 (c8)) 40 (c9)) fl) := ⟨hP, hD⟩
          have hl : lv_has ls 4 [(3, .int (Int32.ofInt (x3_14))), (2, .int (Int32.ofInt (x2_15))), (0, .ref (ar 71)), (1, .int (Int32.ofInt (d0)))] := hl
          refine lv_iload_n hx hb dX10_may_70 rfl (lv_at hl 0 rfl) ?_
          refine lv_iconst (v := Int32.ofInt 2) hx hb dX10_may_71 (by decide +kernel) ?_
          refine iv_icmp_gt (tgt := 99) hx hb (by omega) (by omega) dX10_may_72 (by decide) (fun q16 => ?_) (fun q16 => ?_)
          · refine lv_iload_n hx hb dX10_may_99 rfl (lv_at hl 1 rfl) ?_
            exact W.iret (v := Int32.ofInt (x2_15)) hx hb hr (fun t ht hW => ⟨⟨Int32.ofInt (x2_15), (x2_15, c8, c9, 0, c11, c12, c13), rfl, ⟨rfl, (show (inR x2_15) ∧ (∀ t, inR (c8 t)) ∧ (∀ t, inR (c9 t)) ∧ (inR 0) ∧ (inR c11) ∧ (inR c12) ∧ (inR c13) ∧ (True) from ⟨(by omega), rc8, rc9, (by omega), (by omega), (by omega), (by omega), trivial⟩)⟩, by rw [ht]; exact hP, hD⟩, hS.F ht⟩) hS.2.2 dX10_may_100
          · refine lv_iload_n hx hb dX10_may_75 rfl (lv_at hl 1 rfl) ?_
            refine lv_aload_n hx hb dX10_may_76 rfl (lv_at hl 2 rfl) ?_
            refine lv_iload_n hx hb dX10_may_77 rfl (lv_at hl 0 rfl) ?_
            refine cr_i (va_runV (As := [.int (Int32.ofInt (x3_14))]) (rest := [.int (Int32.ofInt (x2_15))]) ⟨hx, hb, hml, hown, hts⟩ (mX10_swing l G k ar (uF (uF (uF (uF fi 2 (0)) 41 (c11)) 42 (c12)) 43 (c13)) (uF (uF fa 39 (c8)) 40 (c9)) fl x3_14 H.size (iF (iF (iF (iF hR (by omega)) (by omega)) (by omega)) (by omega)) (iG (iG hRa rc8) rc9) (by omega)) (cwV 1 hts gX10_may_X10_swing rfl rfl rfl (by decide +kernel) ⟨Nat.le_of_ble_eq_true rfl, Nat.le_of_ble_eq_true rfl⟩) (cr_preV (EZ_ok k) hZ hS hX hP hD hA (ci := 7) (q0 := 0) rfl rfl) rfl rfl hl.1 rfl (lv_room (Nat.le_of_ble_eq_true rfl)) dX10_may_78 ⟨Nat.le_of_ble_eq_true rfl, Nat.le_of_ble_eq_true rfl⟩) hD hS hA (fun r u H locs hp hP hD hS => ?_)
            obtain ⟨c17, rfl⟩ : ∃ z, z = u := ⟨_, rfl⟩
            obtain ⟨h9, rc17, hp17⟩ : r = Int32.ofInt c17 ∧ (inR c17) ∧ (True) := hp
            subst h9
            refine iv_if_ne (tgt := 90) hx hb (by omega) dX10_may_81 (by decide) (fun q18 => ?_) (fun q18 => ?_)
            · refine lv_iconst (v := Int32.ofInt 0) hx hb dX10_may_90 (by decide +kernel) ?_
              refine iv_or hx hb dX10_may_91 ?_
              refine iv_top (fun z19 ez19 => ?_)
              have rz19 : inR z19 := ez19 ▸ bOr_r _ _
              refine lv_istore_n (lv' := [(2, .int (Int32.ofInt (z19))), (3, .int (Int32.ofInt (x3_14))), (0, .ref (ar 71)), (1, .int (Int32.ofInt (d0)))]) hx hb dX10_may_92 rfl hl (by decide) rfl (fun ls hl => ?_)
              refine lv_iinc (v := Int32.ofInt (x3_14 + 1)) (lv' := [(3, .int (Int32.ofInt ((x3_14 + 1)))), (2, .int (Int32.ofInt (z19))), (0, .ref (ar 71)), (1, .int (Int32.ofInt (d0)))]) hx hb dX10_may_93 hl (k := 1) rfl (Int32.ofInt_add _ _).symm (by decide) rfl (fun ls hl => ?_)
              refine lv_goto (tgt := 70) hx hb dX10_may_96 (by decide) ?_
              have hl : lv_has ls 4 [(3, .int (Int32.ofInt ((x3_14 + 1)))), (2, .int (Int32.ofInt (z19))), (0, .ref (ar 71)), (1, .int (Int32.ofInt (d0)))] := lv_sub hl [0, 1, 2, 3] rfl
              exact ih ((x3_14 + 1), z19) (show (3 - (x3_14 + 1)).toNat < (3 - x3_14).toNat from by omega) (show inR (x3_14 + 1) ∧ inR z19 ∧ (0 ≤ (x3_14 + 1) ∧ (x3_14 + 1) ≤ 3) from ⟨(by omega), (by omega), (by omega)⟩) _ _ _ hP hD hS hl
            · refine lv_iconst (v := Int32.ofInt 1) hx hb dX10_may_84 (by decide +kernel) ?_
              refine lv_iload_n hx hb dX10_may_85 rfl (lv_at hl 0 rfl) ?_
              refine iv_shl hx hb dX10_may_86 ?_
              refine iv_top (fun z20 ez20 => ?_)
              have rz20 : inR z20 := ez20 ▸ bShl_r _ _
              refine lv_goto (tgt := 91) hx hb dX10_may_87 (by decide) ?_
              refine iv_or hx hb dX10_may_91 ?_
              refine iv_top (fun z21 ez21 => ?_)
              have rz21 : inR z21 := ez21 ▸ bOr_r _ _
              refine lv_istore_n (lv' := [(2, .int (Int32.ofInt (z21))), (3, .int (Int32.ofInt (x3_14))), (0, .ref (ar 71)), (1, .int (Int32.ofInt (d0)))]) hx hb dX10_may_92 rfl hl (by decide) rfl (fun ls hl => ?_)
              refine lv_iinc (v := Int32.ofInt (x3_14 + 1)) (lv' := [(3, .int (Int32.ofInt ((x3_14 + 1)))), (2, .int (Int32.ofInt (z21))), (0, .ref (ar 71)), (1, .int (Int32.ofInt (d0)))]) hx hb dX10_may_93 hl (k := 1) rfl (Int32.ofInt_add _ _).symm (by decide) rfl (fun ls hl => ?_)
              refine lv_goto (tgt := 70) hx hb dX10_may_96 (by decide) ?_
              have hl : lv_has ls 4 [(3, .int (Int32.ofInt ((x3_14 + 1)))), (2, .int (Int32.ofInt (z21))), (0, .ref (ar 71)), (1, .int (Int32.ofInt (d0)))] := lv_sub hl [0, 1, 2, 3] rfl
              exact ih ((x3_14 + 1), z21) (show (3 - (x3_14 + 1)).toNat < (3 - x3_14).toNat from by omega) (show inR (x3_14 + 1) ∧ inR z21 ∧ (0 ≤ (x3_14 + 1) ∧ (x3_14 + 1) ≤ 3) from ⟨(by omega), (by omega), (by omega)⟩) _ _ _ hP hD hS hl
        · refine lv_iconst (v := Int32.ofInt 0) hx hb dX10_may_51 (by decide +kernel) ?_
          exact W.iret (v := Int32.ofInt (0)) hx hb hr (fun t ht hW => ⟨⟨Int32.ofInt (0), (0, c8, c9, 0, fi 41, fi 42, fi 43), rfl, ⟨rfl, (show (inR 0) ∧ (∀ t, inR (c8 t)) ∧ (∀ t, inR (c9 t)) ∧ (inR 0) ∧ (inR (fi 41)) ∧ (inR (fi 42)) ∧ (inR (fi 43)) ∧ (True) from ⟨(by omega), rc8, rc9, (by omega), (hR 41), (hR 42), (hR 43), trivial⟩)⟩, by rw [ht]; exact hP, hD⟩, hS.F ht⟩) hS.2.2 dX10_may_52

set_option maxHeartbeats 4000000 in
set_option maxRecDepth 100000 in
theorem mX10_undo (l : Launch) (G : va_G) (k : Nat → ClassId) (ar : Nat → Nat) (fi : Nat → Int) (fa : Nat → Int → Int) (fl : Nat → Int64) (sz : Nat) (hR : ∀ j, inR (fi j)) (hRa : ∀ j t, inR (fa j t)) (hmv : 0 ≤ fi 29 ∧ fi 29 ≤ 60) (hPM : ∀ i, 0 ≤ i → i < fi 29 → ¬ fa 34 i = 2 → 0 ≤ fa 35 i ∧ fa 35 i < 7) : CNi l G k (EZ k) yX10_undo wsX10_undo ({ frames := 0, cells := 0, slots := 0, locals := 0 }) [.ref (ar 71)] sz (wM k ar fi fa fl) (fun (r0 : Int32) (u : Int × (Int → Int) × Int × Int × Int × Int) => r0 = Int32.ofInt (u.1) ∧ (inR u.1) ∧ (∀ t, inR (u.2.1 t)) ∧ (inR u.2.2.1) ∧ (inR u.2.2.2.1) ∧ (inR u.2.2.2.2.1) ∧ (inR u.2.2.2.2.2) ∧ ((0 ≤ u.2.2.2.2.1 ∧ u.2.2.2.2.1 ≤ 60) ∧ (∀ i, 0 ≤ i → i < u.2.2.2.2.1 → ¬ fa 34 i = 2 → 0 ≤ fa 35 i ∧ fa 35 i < 7))) (fun (u : Int × (Int → Int) × Int × Int × Int × Int) => (wM k ar (uF (uF (uF (uF fi 2 (u.2.2.1)) 28 (u.2.2.2.1)) 29 (u.2.2.2.2.1)) 30 (u.2.2.2.2.2)) (uF fa 32 (u.2.1)) fl)) := by
  refine Met.ofW (cc := cX10_undo) (maxL := 1) (ret := (some .int)) (by decide) rfl ?_
  intro p e s m args below meth c s₁ B hml hv
  obtain ⟨rfl, hsz, hP, hX, hD0, hZ0⟩ := hv
  have hx := B.exec
  have hb := B.bytes
  have hr := B.returns
  have hts := atoms_spec (ws := wsX10_undo) B.pre
  have hown : s.vm.findClass RX10 = some m.cls := findClass_of_methodNamed B.named
  subst hsz
  have hD := hD0.self (sz := s.heap.size)
  have hZ := hZ0
  generalize hAe : va_A (wM k ar fi fa fl) s.heap.size = A at hD hZ ⊢
  have hA : ∀ q : Nat, s.heap.size ≤ q → A q := fun q h => by rw [← hAe]; exact Or.inr h
  have hS : va_S A s.heap s.heap [] := va_S.rf
  have hl := lv_entry ([.ref (ar 71)]) (n := 1) (Nat.le_of_ble_eq_true rfl)
  rw [lg_entry_eq]
  generalize (lg_sl ([.ref (ar 71)]) ++ List.replicate (1 - (lg_sl ([.ref (ar 71)])).length) Slot.unset).toArray = ls at hl ⊢
  have hl : lv_has ls 1 [(0, .ref (ar 71))] := hl
  obtain ⟨H, eH⟩ : ∃ H, H = s.heap := ⟨_, rfl⟩
  rw [← eH] at hP
  have hS : va_S A s.heap H [] := by rw [eH]; exact hS
  have gW : s.heap = H := eH.symm
  refine iv_heap gW ?_
  have h0w := hts (.fieldLink RX10 171 "RopeTownModel" "code" "I") (by decide +kernel)
  have h1w : ∀ w ∈ wsX100, w ∈ wsX10_undo := by decide +kernel
  have h2w := hts (.fieldLink RX10 330 "RopeTownModel" "moves" "I") (by decide +kernel)
  have h3w := hts (.fieldLink RX10 333 "RopeTownModel" "cost" "I") (by decide +kernel)
  have h4w := hts (.fieldLink RX10 105 "RopeTownModel" "moveCost" "[I") (by decide +kernel)
  have h5w := hts (.fieldLink RX10 93 "RopeTownModel" "moveWhich" "[I") (by decide +kernel)
  have h6w := hts (.fieldLink RX10 87 "RopeTownModel" "place" "[I") (by decide +kernel)
  have h7w := hts (.fieldLink RX10 96 "RopeTownModel" "moveWhat" "[I") (by decide +kernel)
  have h8w := hts (.fieldLink RX10 102 "RopeTownModel" "moveWas" "[I") (by decide +kernel)
  have h9w := hts (.fieldLink RX10 327 "RopeTownModel" "bucket0" "I") (by decide +kernel)
  refine lv_aload_n hx hb dX10_undo_0 rfl (lv_at hl 0 rfl) ?_
  refine lv_iconst (v := Int32.ofInt 0) hx hb dX10_undo_1 (by decide +kernel) ?_
  refine iv_put (ci := 7) (v := .int (Int32.ofInt (0))) (ty := .int) (C := RX10) (T := TX10) (N := 71) (ref := RX10) hx hb hts h1w tyX10 tyX10_ok nmX10 hown hX.1 hP hD hS 0 rfl rfl 2 (by decide) h0w (fun _ h9 => h9) rfl (by decide +kernel) rfl rfl (Nat.le_of_ble_eq_true rfl) (wM_F2 _ _ _ _ _) dX10_undo_2 (fun H locs hP hD hS => ?_)
  refine lv_aload_n hx hb dX10_undo_5 rfl (lv_at hl 0 rfl) ?_
  refine va_get (D := G) (ci := 7) (v := .int (Int32.ofInt (fi 29))) (C := RX10) (T := TX10) (N := 71) (ref := RX10) hx hb hts h1w hown hX.1 hP 0 rfl rfl 29 (by decide) h2w (fun _ h9 => h9) rfl dX10_undo_6 ?_
  have rf29 := hR 29
  refine iv_if_ne (tgt := 14) hx hb (by omega) dX10_undo_9 (by decide) (fun q1 => ?_) (fun q1 => ?_)
  · refine lv_aload_n hx hb dX10_undo_14 rfl (lv_at hl 0 rfl) ?_
    refine lv_dup hx hb dX10_undo_15 rfl ?_
    refine va_get (D := G) (ci := 7) (v := .int (Int32.ofInt (fi 29))) (C := RX10) (T := TX10) (N := 71) (ref := RX10) hx hb hts h1w hown hX.1 hP 0 rfl rfl 29 (by decide) h2w (fun _ h9 => h9) rfl dX10_undo_16 ?_
    have rf29 := hR 29
    refine lv_iconst (v := Int32.ofInt 1) hx hb dX10_undo_19 (by decide +kernel) ?_
    refine iv_sub (x := fi 29) (y := 1) hx hb dX10_undo_20 ?_
    refine iv_put (ci := 7) (v := .int (Int32.ofInt ((fi 29 - 1)))) (ty := .int) (C := RX10) (T := TX10) (N := 71) (ref := RX10) hx hb hts h1w tyX10 tyX10_ok nmX10 hown hX.1 hP hD hS 0 rfl rfl 29 (by decide) h2w (fun _ h9 => h9) rfl (by decide +kernel) rfl rfl (Nat.le_of_ble_eq_true rfl) (wM_F29 _ _ _ _ _) dX10_undo_21 (fun H locs hP hD hS => ?_)
    refine lv_aload_n hx hb dX10_undo_24 rfl (lv_at hl 0 rfl) ?_
    refine lv_dup hx hb dX10_undo_25 rfl ?_
    refine va_get (D := G) (ci := 7) (v := .int (Int32.ofInt (fi 30))) (C := RX10) (T := TX10) (N := 71) (ref := RX10) hx hb hts h1w hown hX.1 hP 0 rfl rfl 30 (by decide) h3w (fun _ h9 => h9) rfl dX10_undo_26 ?_
    have rf30 := hR 30
    refine lv_aload_n hx hb dX10_undo_29 rfl (lv_at hl 0 rfl) ?_
    refine va_get (D := G) (ci := 7) (v := .ref (ar 38)) (C := RX10) (T := TX10) (N := 71) (ref := RX10) hx hb hts h1w hown hX.1 hP 0 rfl rfl 38 (by decide) h4w (fun _ h9 => h9) rfl dX10_undo_30 ?_
    refine lv_aload_n hx hb dX10_undo_33 rfl (lv_at hl 0 rfl) ?_
    refine va_get (D := G) (ci := 7) (v := .int (Int32.ofInt ((fi 29 - 1)))) (C := RX10) (T := TX10) (N := 71) (ref := RX10) hx hb hts h1w hown hX.1 hP 0 rfl rfl 29 (by decide) h2w (fun _ h9 => h9) rfl dX10_undo_34 ?_
    refine iv_iald hx hb hX.1 hP 17 0 rfl rfl (by omega) (by omega) (by decide) dX10_undo_37 ?_
    refine iv_top (fun z2 ez2 => ?_)
    have rz2 : inR z2 := ez2 ▸ (hRa 38) _
    have ez2 : z2 = (fa 38) (fi 29 - 1) := ez2
    refine iv_sub (x := fi 30) (y := z2) hx hb dX10_undo_38 ?_
    refine iv_wr ?_
    refine iv_top (fun z3 ez3 => ?_)
    have rz3 : inR z3 := ez3 ▸ bWr_r _
    refine iv_put (ci := 7) (v := .int (Int32.ofInt (z3))) (ty := .int) (C := RX10) (T := TX10) (N := 71) (ref := RX10) hx hb hts h1w tyX10 tyX10_ok nmX10 hown hX.1 hP hD hS 0 rfl rfl 30 (by decide) h3w (fun _ h9 => h9) rfl (by decide +kernel) rfl rfl (Nat.le_of_ble_eq_true rfl) (wM_F30 _ _ _ _ _) dX10_undo_39 (fun H locs hP hD hS => ?_)
    refine lv_aload_n hx hb dX10_undo_42 rfl (lv_at hl 0 rfl) ?_
    refine va_get (D := G) (ci := 7) (v := .ref (ar 34)) (C := RX10) (T := TX10) (N := 71) (ref := RX10) hx hb hts h1w hown hX.1 hP 0 rfl rfl 34 (by decide) h5w (fun _ h9 => h9) rfl dX10_undo_43 ?_
    refine lv_aload_n hx hb dX10_undo_46 rfl (lv_at hl 0 rfl) ?_
    refine va_get (D := G) (ci := 7) (v := .int (Int32.ofInt ((fi 29 - 1)))) (C := RX10) (T := TX10) (N := 71) (ref := RX10) hx hb hts h1w hown hX.1 hP 0 rfl rfl 29 (by decide) h2w (fun _ h9 => h9) rfl dX10_undo_47 ?_
    refine iv_iald hx hb hX.1 hP 13 0 rfl rfl (by omega) (by omega) (by decide) dX10_undo_50 ?_
    refine iv_top (fun z4 ez4 => ?_)
    have rz4 : inR z4 := ez4 ▸ (hRa 34) _
    have ez4 : z4 = (fa 34) (fi 29 - 1) := ez4
    refine lv_iconst (v := Int32.ofInt 2) hx hb dX10_undo_51 (by decide +kernel) ?_
    refine iv_icmp_ne (tgt := 71) hx hb (by omega) (by omega) dX10_undo_52 (by decide) (fun q5 => ?_) (fun q5 => ?_)
    · refine lv_aload_n hx hb dX10_undo_71 rfl (lv_at hl 0 rfl) ?_
      refine va_get (D := G) (ci := 7) (v := .ref (ar 32)) (C := RX10) (T := TX10) (N := 71) (ref := RX10) hx hb hts h1w hown hX.1 hP 0 rfl rfl 32 (by decide) h6w (fun _ h9 => h9) rfl dX10_undo_72 ?_
      refine lv_aload_n hx hb dX10_undo_75 rfl (lv_at hl 0 rfl) ?_
      refine va_get (D := G) (ci := 7) (v := .ref (ar 35)) (C := RX10) (T := TX10) (N := 71) (ref := RX10) hx hb hts h1w hown hX.1 hP 0 rfl rfl 35 (by decide) h7w (fun _ h9 => h9) rfl dX10_undo_76 ?_
      refine lv_aload_n hx hb dX10_undo_79 rfl (lv_at hl 0 rfl) ?_
      refine va_get (D := G) (ci := 7) (v := .int (Int32.ofInt ((fi 29 - 1)))) (C := RX10) (T := TX10) (N := 71) (ref := RX10) hx hb hts h1w hown hX.1 hP 0 rfl rfl 29 (by decide) h2w (fun _ h9 => h9) rfl dX10_undo_80 ?_
      refine iv_iald hx hb hX.1 hP 14 0 rfl rfl (by omega) (by omega) (by decide) dX10_undo_83 ?_
      refine iv_top (fun z6 ez6 => ?_)
      have rz6 : inR z6 := ez6 ▸ (hRa 35) _
      have ez6 : z6 = (fa 35) (fi 29 - 1) := ez6
      refine lv_aload_n hx hb dX10_undo_84 rfl (lv_at hl 0 rfl) ?_
      refine va_get (D := G) (ci := 7) (v := .ref (ar 37)) (C := RX10) (T := TX10) (N := 71) (ref := RX10) hx hb hts h1w hown hX.1 hP 0 rfl rfl 37 (by decide) h8w (fun _ h9 => h9) rfl dX10_undo_85 ?_
      refine lv_aload_n hx hb dX10_undo_88 rfl (lv_at hl 0 rfl) ?_
      refine va_get (D := G) (ci := 7) (v := .int (Int32.ofInt ((fi 29 - 1)))) (C := RX10) (T := TX10) (N := 71) (ref := RX10) hx hb hts h1w hown hX.1 hP 0 rfl rfl 29 (by decide) h2w (fun _ h9 => h9) rfl dX10_undo_89 ?_
      refine iv_iald hx hb hX.1 hP 16 0 rfl rfl (by omega) (by omega) (by decide) dX10_undo_92 ?_
      refine iv_top (fun z7 ez7 => ?_)
      have rz7 : inR z7 := ez7 ▸ (hRa 37) _
      have ez7 : z7 = (fa 37) (fi 29 - 1) := ez7
      have hx9 := hPM (fi 29 - 1) (by omega) (by omega) (by omega)
      refine iv_iast hx hb hX.1 hP hD hS 11 0 rfl rfl (wM_A32 _ _ _ _ _) (by omega) (by omega) (by decide) dX10_undo_93 (fun H locs hP hD hS => ?_)
      obtain ⟨g8, eg8, rg8⟩ : ∃ z, z = uA (fa 32) (z6) (z7) ∧ ∀ t, inR (z t) := ⟨_, rfl, iU (hRa 32) (by omega)⟩
      rw [← eg8] at hP hD
      refine lv_aload_n hx hb dX10_undo_94 rfl (lv_at hl 0 rfl) ?_
      refine va_get (D := G) (ci := 7) (v := .int (Int32.ofInt ((fi 29 - 1)))) (C := RX10) (T := TX10) (N := 71) (ref := RX10) hx hb hts h1w hown hX.1 hP 0 rfl rfl 29 (by decide) h2w (fun _ h9 => h9) rfl dX10_undo_95 ?_
      exact W.iret (v := Int32.ofInt ((fi 29 - 1))) hx hb hr (fun t ht hW => ⟨⟨Int32.ofInt ((fi 29 - 1)), ((fi 29 - 1), g8, 0, fi 28, (fi 29 - 1), z3), rfl, ⟨rfl, (show (inR (fi 29 - 1)) ∧ (∀ t, inR (g8 t)) ∧ (inR 0) ∧ (inR (fi 28)) ∧ (inR (fi 29 - 1)) ∧ (inR z3) ∧ ((0 ≤ (fi 29 - 1) ∧ (fi 29 - 1) ≤ 60) ∧ (∀ i, 0 ≤ i → i < (fi 29 - 1) → ¬ fa 34 i = 2 → 0 ≤ fa 35 i ∧ fa 35 i < 7)) from ⟨(by omega), rg8, (by omega), (hR 28), (by omega), (by omega), (by exact ⟨by omega, fun i h1 h2 => hPM i h1 (by omega)⟩)⟩)⟩, by rw [ht]; exact hP, hD⟩, hS.F ht⟩) hS.2.2 dX10_undo_98
    · refine lv_aload_n hx hb dX10_undo_55 rfl (lv_at hl 0 rfl) ?_
      refine lv_aload_n hx hb dX10_undo_56 rfl (lv_at hl 0 rfl) ?_
      refine va_get (D := G) (ci := 7) (v := .ref (ar 37)) (C := RX10) (T := TX10) (N := 71) (ref := RX10) hx hb hts h1w hown hX.1 hP 0 rfl rfl 37 (by decide) h8w (fun _ h9 => h9) rfl dX10_undo_57 ?_
      refine lv_aload_n hx hb dX10_undo_60 rfl (lv_at hl 0 rfl) ?_
      refine va_get (D := G) (ci := 7) (v := .int (Int32.ofInt ((fi 29 - 1)))) (C := RX10) (T := TX10) (N := 71) (ref := RX10) hx hb hts h1w hown hX.1 hP 0 rfl rfl 29 (by decide) h2w (fun _ h9 => h9) rfl dX10_undo_61 ?_
      refine iv_iald hx hb hX.1 hP 16 0 rfl rfl (by omega) (by omega) (by decide) dX10_undo_64 ?_
      refine iv_top (fun z9 ez9 => ?_)
      have rz9 : inR z9 := ez9 ▸ (hRa 37) _
      have ez9 : z9 = (fa 37) (fi 29 - 1) := ez9
      refine iv_put (ci := 7) (v := .int (Int32.ofInt (z9))) (ty := .int) (C := RX10) (T := TX10) (N := 71) (ref := RX10) hx hb hts h1w tyX10 tyX10_ok nmX10 hown hX.1 hP hD hS 0 rfl rfl 28 (by decide) h9w (fun _ h9 => h9) rfl (by decide +kernel) rfl rfl (Nat.le_of_ble_eq_true rfl) (wM_F28 _ _ _ _ _) dX10_undo_65 (fun H locs hP hD hS => ?_)
      obtain ⟨hP, hD⟩ : va_P G vwCl (wM k ar (uF (uF (uF (uF fi 2 (0)) 28 (z9)) 29 ((fi 29 - 1))) 30 (z3)) fa fl) H ∧ va_D A (wM k ar (uF (uF (uF (uF fi 2 (0)) 28 (z9)) 29 ((fi 29 - 1))) 30 (z3)) fa fl) := ⟨hP, hD⟩
      refine lv_goto (tgt := 94) hx hb dX10_undo_68 (by decide) ?_
      refine lv_aload_n hx hb dX10_undo_94 rfl (lv_at hl 0 rfl) ?_
      refine va_get (D := G) (ci := 7) (v := .int (Int32.ofInt ((fi 29 - 1)))) (C := RX10) (T := TX10) (N := 71) (ref := RX10) hx hb hts h1w hown hX.1 hP 0 rfl rfl 29 (by decide) h2w (fun _ h9 => h9) rfl dX10_undo_95 ?_
      exact W.iret (v := Int32.ofInt ((fi 29 - 1))) hx hb hr (fun t ht hW => ⟨⟨Int32.ofInt ((fi 29 - 1)), ((fi 29 - 1), fa 32, 0, z9, (fi 29 - 1), z3), rfl, ⟨rfl, (show (inR (fi 29 - 1)) ∧ (∀ t, inR ((fa 32) t)) ∧ (inR 0) ∧ (inR z9) ∧ (inR (fi 29 - 1)) ∧ (inR z3) ∧ ((0 ≤ (fi 29 - 1) ∧ (fi 29 - 1) ≤ 60) ∧ (∀ i, 0 ≤ i → i < (fi 29 - 1) → ¬ fa 34 i = 2 → 0 ≤ fa 35 i ∧ fa 35 i < 7)) from ⟨(by omega), (hRa 32), (by omega), (by omega), (by omega), (by omega), (by exact ⟨by omega, fun i h1 h2 => hPM i h1 (by omega)⟩)⟩)⟩, by rw [ht]; exact hP, hD⟩, hS.F ht⟩) hS.2.2 dX10_undo_98
  · refine lv_iconst (v := Int32.ofInt (-1)) hx hb dX10_undo_12 (by decide +kernel) ?_
    exact W.iret (v := Int32.ofInt ((-1))) hx hb hr (fun t ht hW => ⟨⟨Int32.ofInt ((-1)), ((-1), fa 32, 0, fi 28, fi 29, fi 30), rfl, ⟨rfl, (show (inR (-1)) ∧ (∀ t, inR ((fa 32) t)) ∧ (inR 0) ∧ (inR (fi 28)) ∧ (inR (fi 29)) ∧ (inR (fi 30)) ∧ ((0 ≤ (fi 29) ∧ (fi 29) ≤ 60) ∧ (∀ i, 0 ≤ i → i < (fi 29) → ¬ fa 34 i = 2 → 0 ≤ fa 35 i ∧ fa 35 i < 7)) from ⟨(by omega), (hRa 32), (by omega), (hR 28), (hR 29), (hR 30), (by exact ⟨by omega, fun i h1 h2 => hPM i h1 (by omega)⟩)⟩)⟩, by rw [ht]; exact hP, hD⟩, hS.F ht⟩) hS.2.2 dX10_undo_13

