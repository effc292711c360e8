set_option maxHeartbeats 4000000 in
set_option maxRecDepth 100000 in
theorem mX10_unload (l : Launch) (G : va_G) (k : Nat → ClassId) (ar : Nat → Nat) (fi : Nat → Int) (fa : Nat → Int → Int) (fl : Nat → Int64) (t0 : Int) (sz : Nat) (hR : ∀ j, inR (fi j)) (hRa : ∀ j t, inR (fa j t)) (hr_t0 : inR t0) (hth : 0 ≤ fi 12 ∧ fi 12 ≤ 7) (hmv : 0 ≤ fi 29 ∧ fi 29 ≤ 60) (hPM : ∀ i, 0 ≤ i → i < fi 29 → ¬ fa 34 i = 2 → 0 ≤ fa 35 i ∧ fa 35 i < 7) : CNi l G k (EZ k) yX10_unload wzX10_unload ({ frames := 2, cells := 0, slots := 0, locals := 43 }) [.ref (ar 71), .int (Int32.ofInt (t0))] sz (wM k ar fi fa fl) (fun (r0 : Int32) (u : Int × (Int → Int) × (Int → Int) × (Int → Int) × (Int → Int) × (Int → Int) × (Int → Int) × (Int → Int) × Int × Int × Int) => r0 = Int32.ofInt (u.1) ∧ (inR u.1) ∧ (∀ t, inR (u.2.1 t)) ∧ (∀ t, inR (u.2.2.1 t)) ∧ (∀ t, inR (u.2.2.2.1 t)) ∧ (∀ t, inR (u.2.2.2.2.1 t)) ∧ (∀ t, inR (u.2.2.2.2.2.1 t)) ∧ (∀ t, inR (u.2.2.2.2.2.2.1 t)) ∧ (∀ t, inR (u.2.2.2.2.2.2.2.1 t)) ∧ (inR u.2.2.2.2.2.2.2.2.1) ∧ (inR u.2.2.2.2.2.2.2.2.2.1) ∧ (inR u.2.2.2.2.2.2.2.2.2.2) ∧ ((0 ≤ u.2.2.2.2.2.2.2.2.2.1 ∧ u.2.2.2.2.2.2.2.2.2.1 ≤ 60) ∧ (∀ i, 0 ≤ i → i < u.2.2.2.2.2.2.2.2.2.1 → ¬ u.2.2.2.1 i = 2 → 0 ≤ u.2.2.2.2.1 i ∧ u.2.2.2.2.1 i < 7))) (fun (u : Int × (Int → Int) × (Int → Int) × (Int → Int) × (Int → Int) × (Int → Int) × (Int → Int) × (Int → Int) × Int × Int × Int) => (wM k ar (uF (uF (uF fi 2 (u.2.2.2.2.2.2.2.2.1)) 29 (u.2.2.2.2.2.2.2.2.2.1)) 30 (u.2.2.2.2.2.2.2.2.2.2)) (uF (uF (uF (uF (uF (uF (uF fa 11 (u.2.1)) 32 (u.2.2.1)) 34 (u.2.2.2.1)) 35 (u.2.2.2.2.1)) 36 (u.2.2.2.2.2.1)) 37 (u.2.2.2.2.2.2.1)) 38 (u.2.2.2.2.2.2.2.1)) fl)) := by
  refine Met.ofW (cc := cX10_unload) (maxL := 3) (ret := (some .int)) (by decide) rfl ?_
  intro p e s m args below meth c s₁ B hml hv
  obtain ⟨rfl, hsz, hP, hX, hD0, hZ0⟩ := hv
  have hx := B.exec
  have hb := B.bytes
  have hr := B.returns
  have hts := atoms_spec (ws := wzX10_unload) B.pre
  have hown : s.vm.findClass RX10 = some m.cls := findClass_of_methodNamed B.named
  subst hsz
  have hD := hD0.self (sz := s.heap.size)
  have hZ := hZ0
  generalize hAe : va_A (wM k ar fi fa fl) s.heap.size = A at hD hZ ⊢
  have hA : ∀ q : Nat, s.heap.size ≤ q → A q := fun q h => by rw [← hAe]; exact Or.inr h
  have hS : va_S A s.heap s.heap [] := va_S.rf
  have hl := lv_entry ([.ref (ar 71), .int (Int32.ofInt (t0))]) (n := 3) (Nat.le_of_ble_eq_true rfl)
  rw [lg_entry_eq]
  generalize (lg_sl ([.ref (ar 71), .int (Int32.ofInt (t0))]) ++ List.replicate (3 - (lg_sl ([.ref (ar 71), .int (Int32.ofInt (t0))])).length) Slot.unset).toArray = ls at hl ⊢
  have hl : lv_has ls 3 [(0, .ref (ar 71)), (1, .int (Int32.ofInt (t0)))] := hl
  obtain ⟨H, eH⟩ : ∃ H, H = s.heap := ⟨_, rfl⟩
  rw [← eH] at hP
  have hS : va_S A s.heap H [] := by rw [eH]; exact hS
  have gW : s.heap = H := eH.symm
  refine iv_heap gW ?_
  have h0w := hts (.fieldLink RX10 171 "RopeTownModel" "code" "I") (wz_at 8 12 rfl)
  have h1w : ∀ w ∈ wsX100, w ∈ wzX10_unload := fun w h => List.mem_cons_of_mem _ (inlX10 w h)
  have h2w := hts (.fieldLink RX10 87 "RopeTownModel" "place" "[I") (wz_at 6 17 rfl)
  have h3w := hts (.fieldLink RX10 330 "RopeTownModel" "moves" "I") (wz_at 21 14 rfl)
  have h4w := hts (.fieldLink RX10 327 "RopeTownModel" "bucket0" "I") (wz_at 21 13 rfl)
  refine lv_aload_n hx hb dX10_unload_0 rfl (lv_at hl 0 rfl) ?_
  refine lv_iconst (v := Int32.ofInt 0) hx hb dX10_unload_1 (by decide +kernel) ?_
  refine iv_put (ci := 7) (v := .int (Int32.ofInt (0))) (ty := .int) (C := RX10) (T := TX10) (N := 71) (ref := RX10) hx hb hts h1w tyX10 tyX10_ok nmX10 hown hX.1 hP hD hS 0 rfl rfl 2 (by decide) h0w (fun _ h9 => h9) rfl (by decide +kernel) rfl rfl (Nat.le_of_ble_eq_true rfl) (wM_F2 _ _ _ _ _) dX10_unload_2 (fun H locs hP hD hS => ?_)
  refine lv_aload_n hx hb dX10_unload_5 rfl (lv_at hl 0 rfl) ?_
  refine lv_iload_n hx hb dX10_unload_6 rfl (lv_at hl 1 rfl) ?_
  refine cr_i (va_runV (As := [.int (Int32.ofInt (t0))]) (rest := []) ⟨hx, hb, hml, hown, hts⟩ (mX10_isThing l G k ar (uF fi 2 (0)) fa fl t0 H.size (iF hR (by omega)) hRa (by omega) (show 0 ≤ (fi 12) ∧ (fi 12) ≤ 7 from by omega)) (cwV 1 hts (gz [.methodLink RX10 349 yX10_isThing, .instanceMethod yX10_isThing, .selects RX10 yX10_isThing yX10_isThing, .initialized RX10] (.code yX10_isThing cX10_isThing 2 (some .boolean)) [(24, 3), (24, 4), (24, 5), (0, 5), (24, 6)] rfl) rfl rfl rfl (by decide +kernel) ⟨Nat.le_of_ble_eq_true rfl, Nat.le_of_ble_eq_true rfl⟩) (cr_preV (EZ_ok k) hZ hS hX hP hD hA (ci := 7) (q0 := 0) rfl rfl) rfl rfl hl.1 rfl (lv_room (Nat.le_of_ble_eq_true rfl)) dX10_unload_7 ⟨Nat.le_of_ble_eq_true rfl, Nat.le_of_ble_eq_true rfl⟩) hD hS hA (fun r u H locs hp hP hD hS => ?_)
  obtain ⟨c1, rfl⟩ : ∃ z, z = u := ⟨_, rfl⟩
  obtain ⟨h9, rc1, hp1⟩ : r = Int32.ofInt c1 ∧ (inR c1) ∧ ((c1 = 1 ∧ 0 ≤ t0 ∧ t0 < (fi 12)) ∨ (c1 = 0 ∧ (t0 < 0 ∨ (fi 12) ≤ t0))) := hp
  subst h9
  refine iv_if_ne (tgt := 19) hx hb (by omega) dX10_unload_10 (by decide) (fun q2 => ?_) (fun q2 => ?_)
  · refine lv_aload_n hx hb dX10_unload_19 rfl (lv_at hl 0 rfl) ?_
    refine va_get (D := G) (ci := 7) (v := .ref (ar 32)) (C := RX10) (T := TX10) (N := 71) (ref := RX10) hx hb hts h1w hown hX.1 hP 0 rfl rfl 32 (by decide) h2w (fun _ h9 => h9) rfl dX10_unload_20 ?_
    refine lv_iload_n hx hb dX10_unload_23 rfl (lv_at hl 1 rfl) ?_
    refine iv_iald hx hb hX.1 hP 11 0 rfl rfl (by omega) (by omega) (by decide) dX10_unload_24 ?_
    refine iv_top (fun z3 ez3 => ?_)
    have rz3 : inR z3 := ez3 ▸ (hRa 32) _
    have ez3 : z3 = (fa 32) t0 := ez3
    refine lv_istore_n (lv' := [(2, .int (Int32.ofInt (z3))), (0, .ref (ar 71)), (1, .int (Int32.ofInt (t0)))]) hx hb dX10_unload_25 rfl hl (by decide) rfl (fun ls hl => ?_)
    refine lv_iload_n hx hb dX10_unload_26 rfl (lv_at hl 0 rfl) ?_
    refine lv_bipush (v := Int32.ofInt 12) hx hb dX10_unload_27 (by decide +kernel) ?_
    refine iv_icmp_eq (tgt := 44) hx hb (by omega) (by omega) dX10_unload_29 (by decide) (fun q4 => ?_) (fun q4 => ?_)
    · refine lv_aload_n hx hb dX10_unload_44 rfl (lv_at hl 1 rfl) ?_
      refine va_get (D := G) (ci := 7) (v := .int (Int32.ofInt (fi 29))) (C := RX10) (T := TX10) (N := 71) (ref := RX10) hx hb hts h1w hown hX.1 hP 0 rfl rfl 29 (by decide) h3w (fun _ h9 => h9) rfl dX10_unload_45 ?_
      have rf29 := hR 29
      refine lv_bipush (v := Int32.ofInt 60) hx hb dX10_unload_48 (by decide +kernel) ?_
      refine iv_icmp_ne (tgt := 60) hx hb (by omega) (by omega) dX10_unload_50 (by decide) (fun q5 => ?_) (fun q5 => ?_)
      · refine lv_aload_n hx hb dX10_unload_60 rfl (lv_at hl 1 rfl) ?_
        refine lv_iconst (v := Int32.ofInt 1) hx hb dX10_unload_61 (by decide +kernel) ?_
        refine lv_iload_n hx hb dX10_unload_62 rfl (lv_at hl 2 rfl) ?_
        refine lv_iconst (v := Int32.ofInt 0) hx hb dX10_unload_63 (by decide +kernel) ?_
        refine lv_iload_n hx hb dX10_unload_64 rfl (lv_at hl 0 rfl) ?_
        refine lv_iconst (v := Int32.ofInt 0) hx hb dX10_unload_65 (by decide +kernel) ?_
        refine cr_v (va_runV (As := [.int (Int32.ofInt (1)), .int (Int32.ofInt (t0)), .int (Int32.ofInt (0)), .int (Int32.ofInt (z3)), .int (Int32.ofInt (0))]) (rest := []) ⟨hx, hb, hml, hown, hts⟩ (mX10_add l G k ar (uF fi 2 (0)) fa fl 1 t0 0 z3 0 H.size (iF hR (by omega)) hRa (by omega) (by omega) (by omega) (by omega) (by omega) (show 0 ≤ (fi 29) ∧ (fi 29) < 60 from by omega) (show ∀ i, 0 ≤ i → i < (fi 29) → ¬ (fa 34) i = 2 → 0 ≤ (fa 35) i ∧ (fa 35) i < 7 from by first | exact hPM | omega) (show 1 = 2 ∨ (0 ≤ t0 ∧ t0 < 7) from by omega)) (cwV 5 hts (gz [.methodLink RX10 415 yX10_add, .instanceMethod yX10_add, .selects RX10 yX10_add yX10_add, .initialized RX10] (.code yX10_add cX10_add 6 none) [(28, 0), (28, 1), (28, 2), (0, 5), (28, 3)] rfl) rfl rfl rfl (by decide +kernel) ⟨Nat.le_of_ble_eq_true rfl, Nat.le_of_ble_eq_true rfl⟩) (cr_preV (EZ_ok k) hZ hS hX hP hD hA (ci := 7) (q0 := 0) rfl rfl) rfl rfl hl.1 rfl (lv_room (Nat.le_of_ble_eq_true rfl)) dX10_unload_66 ⟨Nat.le_of_ble_eq_true rfl, Nat.le_of_ble_eq_true rfl⟩) hD hS hA (fun u H locs hp hP hD hS => ?_)
        obtain ⟨c6, c7, c8, c9, c10, c11, c12⟩ := u
        obtain ⟨hP, hD⟩ : va_P G vwCl (wM k ar (uF (uF (uF fi 2 (0)) 29 (c11)) 30 (c12)) (uF (uF (uF (uF (uF fa 34 (c6)) 35 (c7)) 36 (c8)) 37 (c9)) 38 (c10)) fl) H ∧ va_D A (wM k ar (uF (uF (uF fi 2 (0)) 29 (c11)) 30 (c12)) (uF (uF (uF (uF (uF fa 34 (c6)) 35 (c7)) 36 (c8)) 37 (c9)) 38 (c10)) fl) := ⟨hP, hD⟩
        obtain ⟨rc6, rc7, rc8, rc9, rc10, rc11, rc12, hp12⟩ : (∀ t, inR (c6 t)) ∧ (∀ t, inR (c7 t)) ∧ (∀ t, inR (c8 t)) ∧ (∀ t, inR (c9 t)) ∧ (∀ t, inR (c10 t)) ∧ (inR c11) ∧ (inR c12) ∧ (c11 = (fi 29) + 1 ∧ (∀ i, 0 ≤ i → i < c11 → ¬ c6 i = 2 → 0 ≤ c7 i ∧ c7 i < 7)) := hp
        have hP9 := hp12.2
        refine lv_aload_n hx hb dX10_unload_69 rfl (lv_at hl 1 rfl) ?_
        refine va_get (D := G) (ci := 7) (v := .ref (ar 32)) (C := RX10) (T := TX10) (N := 71) (ref := RX10) hx hb hts h1w hown hX.1 hP 0 rfl rfl 32 (by decide) h2w (fun _ h9 => h9) rfl dX10_unload_70 ?_
        refine lv_iload_n hx hb dX10_unload_73 rfl (lv_at hl 2 rfl) ?_
        refine lv_aload_n hx hb dX10_unload_74 rfl (lv_at hl 1 rfl) ?_
        refine lv_iload_n hx hb dX10_unload_75 rfl (lv_at hl 2 rfl) ?_
        refine lv_aload_n hx hb dX10_unload_76 rfl (lv_at hl 1 rfl) ?_
        refine lv_iload_n hx hb dX10_unload_77 rfl (lv_at hl 0 rfl) ?_
        refine lv_bipush (v := Int32.ofInt 12) hx hb dX10_unload_78 (by decide +kernel) ?_
        refine iv_sub (x := z3) (y := 12) hx hb dX10_unload_80 ?_
        refine iv_wr ?_
        refine iv_top (fun z13 ez13 => ?_)
        have rz13 : inR z13 := ez13 ▸ bWr_r _
        refine lv_aload_n hx hb dX10_unload_81 rfl (lv_at hl 1 rfl) ?_
        refine va_get (D := G) (ci := 7) (v := .int (Int32.ofInt (fi 28))) (C := RX10) (T := TX10) (N := 71) (ref := RX10) hx hb hts h1w hown hX.1 hP 0 rfl rfl 28 (by decide) h4w (fun _ h9 => h9) rfl dX10_unload_82 ?_
        have rf28 := hR 28
        refine cr_i (va_runV (As := [.int (Int32.ofInt (z13)), .int (Int32.ofInt (fi 28))]) (rest := [.int (Int32.ofInt (t0)), .ref (ar 71), .int (Int32.ofInt (t0)), .ref (ar 32)]) ⟨hx, hb, hml, hown, hts⟩ (mX10_depthOf l G k ar (uF (uF (uF fi 2 (0)) 29 (c11)) 30 (c12)) (uF (uF (uF (uF (uF fa 34 (c6)) 35 (c7)) 36 (c8)) 37 (c9)) 38 (c10)) fl z13 (fi 28) H.size (iF (iF (iF hR (by omega)) (by omega)) (by omega)) (iG (iG (iG (iG (iG hRa rc6) rc7) rc8) rc9) rc10) (by omega) (hR 28)) (cwV 2 hts (gz [.methodLink RX10 352 yX10_depthOf, .instanceMethod yX10_depthOf, .selects RX10 yX10_depthOf yX10_depthOf, .initialized RX10] (.code yX10_depthOf cX10_depthOf 3 (some .int)) [(24, 7), (24, 8), (24, 9), (0, 5), (24, 10)] rfl) rfl rfl rfl (by decide +kernel) ⟨Nat.le_of_ble_eq_true rfl, Nat.le_of_ble_eq_true rfl⟩) (cr_preV (EZ_ok k) hZ hS hX hP hD hA (ci := 7) (q0 := 0) rfl rfl) rfl rfl hl.1 rfl (lv_room (Nat.le_of_ble_eq_true rfl)) dX10_unload_85 ⟨Nat.le_of_ble_eq_true rfl, Nat.le_of_ble_eq_true rfl⟩) hD hS hA (fun r u H locs hp hP hD hS => ?_)
        obtain ⟨c14, rfl⟩ : ∃ z, z = u := ⟨_, rfl⟩
        obtain ⟨h9, rc14, hp14⟩ : r = Int32.ofInt c14 ∧ (inR c14) ∧ (True) := hp
        subst h9
        refine cr_i (va_runV (As := [.int (Int32.ofInt (t0)), .int (Int32.ofInt (c14))]) (rest := [.int (Int32.ofInt (t0)), .ref (ar 32)]) ⟨hx, hb, hml, hown, hts⟩ (mX10_unloadedAt l G k ar (uF (uF (uF fi 2 (0)) 29 (c11)) 30 (c12)) (uF (uF (uF (uF (uF fa 34 (c6)) 35 (c7)) 36 (c8)) 37 (c9)) 38 (c10)) fl t0 c14 H.size (iF (iF (iF hR (by omega)) (by omega)) (by omega)) (iG (iG (iG (iG (iG hRa rc6) rc7) rc8) rc9) rc10) (by omega) (by omega) (show 0 ≤ t0 ∧ t0 < 14 from by omega)) (cwV 2 hts (gz [.methodLink RX10 419 yX10_unloadedAt, .instanceMethod yX10_unloadedAt, .selects RX10 yX10_unloadedAt yX10_unloadedAt, .initialized RX10] (.code yX10_unloadedAt cX10_unloadedAt 3 (some .int)) [(28, 18), (28, 19), (28, 20), (0, 5), (28, 21)] rfl) rfl rfl rfl (by decide +kernel) ⟨Nat.le_of_ble_eq_true rfl, Nat.le_of_ble_eq_true rfl⟩) (cr_preV (EZ_ok k) hZ hS hX hP hD hA (ci := 7) (q0 := 0) rfl rfl) rfl rfl hl.1 rfl (lv_room (Nat.le_of_ble_eq_true rfl)) dX10_unload_88 ⟨Nat.le_of_ble_eq_true rfl, Nat.le_of_ble_eq_true rfl⟩) hD hS hA (fun r u H locs hp hP hD hS => ?_)
        obtain ⟨c15, rfl⟩ : ∃ z, z = u := ⟨_, rfl⟩
        obtain ⟨h9, rc15, hp15⟩ : r = Int32.ofInt c15 ∧ (inR c15) ∧ (True) := hp
        subst h9
        refine iv_iast hx hb hX.1 hP hD hS 11 0 rfl rfl (wM_A32 _ _ _ _ _) (by omega) (by omega) (by decide) dX10_unload_91 (fun H locs hP hD hS => ?_)
        obtain ⟨hP, hD⟩ : va_P G vwCl (wM k ar (uF (uF (uF fi 2 (0)) 29 (c11)) 30 (c12)) (uF (uF (uF (uF (uF (uF fa 32 (uA (fa 32) (t0) (c15))) 34 (c6)) 35 (c7)) 36 (c8)) 37 (c9)) 38 (c10)) fl) H ∧ va_D A (wM k ar (uF (uF (uF fi 2 (0)) 29 (c11)) 30 (c12)) (uF (uF (uF (uF (uF (uF fa 32 (uA (fa 32) (t0) (c15))) 34 (c6)) 35 (c7)) 36 (c8)) 37 (c9)) 38 (c10)) fl) := ⟨hP, hD⟩
        obtain ⟨g16, eg16, rg16⟩ : ∃ z, z = uA (fa 32) (t0) (c15) ∧ ∀ t, inR (z t) := ⟨_, rfl, iU (hRa 32) (by omega)⟩
        rw [← eg16] at hP hD
        refine lv_iconst (v := Int32.ofInt 0) hx hb dX10_unload_92 (by decide +kernel) ?_
        exact W.iret (v := Int32.ofInt (0)) hx hb hr (fun t ht hW => ⟨⟨Int32.ofInt (0), (0, fa 11, g16, c6, c7, c8, c9, c10, 0, c11, c12), rfl, ⟨rfl, (show (inR 0) ∧ (∀ t, inR ((fa 11) t)) ∧ (∀ t, inR (g16 t)) ∧ (∀ t, inR (c6 t)) ∧ (∀ t, inR (c7 t)) ∧ (∀ t, inR (c8 t)) ∧ (∀ t, inR (c9 t)) ∧ (∀ t, inR (c10 t)) ∧ (inR 0) ∧ (inR c11) ∧ (inR c12) ∧ ((0 ≤ c11 ∧ c11 ≤ 60) ∧ (∀ i, 0 ≤ i → i < c11 → ¬ c6 i = 2 → 0 ≤ c7 i ∧ c7 i < 7)) from ⟨(by omega), (hRa 11), rg16, rc6, rc7, rc8, rc9, rc10, (by omega), (by omega), (by omega), (by first | exact ⟨by omega, hPM⟩ | exact ⟨by omega, hP9⟩)⟩)⟩, by rw [ht]; exact hP, hD⟩, hS.F ht⟩) hS.2.2 dX10_unload_93
      · refine lv_aload_n hx hb dX10_unload_53 rfl (lv_at hl 1 rfl) ?_
        refine lv_bipush (v := Int32.ofInt 8) hx hb dX10_unload_54 (by decide +kernel) ?_
        refine cr_i (va_runV (As := [.int (Int32.ofInt (8))]) (rest := []) ⟨hx, hb, hml, hown, hts⟩ (mX10_refuse l G k ar (uF fi 2 (0)) fa fl 8 H.size (iF hR (by omega)) hRa (by omega)) (cwV 1 hts (gz [.methodLink RX10 412 yX10_refuse, .instanceMethod yX10_refuse, .selects RX10 yX10_refuse yX10_refuse, .initialized RX10] (.code yX10_refuse cX10_refuse 2 (some .int)) [(27, 20), (27, 21), (27, 22), (0, 5), (27, 23)] rfl) rfl rfl rfl (by decide +kernel) ⟨Nat.le_of_ble_eq_true rfl, Nat.le_of_ble_eq_true rfl⟩) (cr_preV (EZ_ok k) hZ hS hX hP hD hA (ci := 7) (q0 := 0) rfl rfl) rfl rfl hl.1 rfl (lv_room (Nat.le_of_ble_eq_true rfl)) dX10_unload_56 ⟨Nat.le_of_ble_eq_true rfl, Nat.le_of_ble_eq_true rfl⟩) hD hS hA (fun r u H locs hp hP hD hS => ?_)
        obtain ⟨c17, c18⟩ := u
        obtain ⟨hP, hD⟩ : va_P G vwCl (wM k ar (uF fi 2 (0)) (uF fa 11 (c18)) fl) H ∧ va_D A (wM k ar (uF fi 2 (0)) (uF fa 11 (c18)) fl) := ⟨hP, hD⟩
        obtain ⟨h9, rc17, rc18, hp18⟩ : r = Int32.ofInt c17 ∧ (inR c17) ∧ (∀ t, inR (c18 t)) ∧ (True) := hp
        subst h9
        exact W.iret (v := Int32.ofInt (c17)) hx hb hr (fun t ht hW => ⟨⟨Int32.ofInt (c17), (c17, c18, fa 32, fa 34, fa 35, fa 36, fa 37, fa 38, 0, fi 29, fi 30), rfl, ⟨rfl, (show (inR c17) ∧ (∀ t, inR (c18 t)) ∧ (∀ t, inR ((fa 32) t)) ∧ (∀ t, inR ((fa 34) t)) ∧ (∀ t, inR ((fa 35) t)) ∧ (∀ t, inR ((fa 36) t)) ∧ (∀ t, inR ((fa 37) t)) ∧ (∀ t, inR ((fa 38) t)) ∧ (inR 0) ∧ (inR (fi 29)) ∧ (inR (fi 30)) ∧ ((0 ≤ (fi 29) ∧ (fi 29) ≤ 60) ∧ (∀ i, 0 ≤ i → i < (fi 29) → ¬ (fa 34) i = 2 → 0 ≤ (fa 35) i ∧ (fa 35) i < 7)) from ⟨(by omega), rc18, (hRa 32), (hRa 34), (hRa 35), (hRa 36), (hRa 37), (hRa 38), (by omega), (hR 29), (hR 30), (by first | exact ⟨by omega, hPM⟩ | exact ⟨by omega, hP9⟩)⟩)⟩, by rw [ht]; exact hP, hD⟩, hS.F ht⟩) hS.2.2 dX10_unload_59
    · refine lv_iload_n hx hb dX10_unload_32 rfl (lv_at hl 0 rfl) ?_
      refine lv_bipush (v := Int32.ofInt 13) hx hb dX10_unload_33 (by decide +kernel) ?_
      refine iv_icmp_eq (tgt := 44) hx hb (by omega) (by omega) dX10_unload_35 (by decide) (fun q19 => ?_) (fun q19 => ?_)
      · refine lv_aload_n hx hb dX10_unload_44 rfl (lv_at hl 1 rfl) ?_
        refine va_get (D := G) (ci := 7) (v := .int (Int32.ofInt (fi 29))) (C := RX10) (T := TX10) (N := 71) (ref := RX10) hx hb hts h1w hown hX.1 hP 0 rfl rfl 29 (by decide) h3w (fun _ h9 => h9) rfl dX10_unload_45 ?_
        have rf29 := hR 29
        refine lv_bipush (v := Int32.ofInt 60) hx hb dX10_unload_48 (by decide +kernel) ?_
        refine iv_icmp_ne (tgt := 60) hx hb (by omega) (by omega) dX10_unload_50 (by decide) (fun q20 => ?_) (fun q20 => ?_)
        · refine lv_aload_n hx hb dX10_unload_60 rfl (lv_at hl 1 rfl) ?_
          refine lv_iconst (v := Int32.ofInt 1) hx hb dX10_unload_61 (by decide +kernel) ?_
          refine lv_iload_n hx hb dX10_unload_62 rfl (lv_at hl 2 rfl) ?_
          refine lv_iconst (v := Int32.ofInt 0) hx hb dX10_unload_63 (by decide +kernel) ?_
          refine lv_iload_n hx hb dX10_unload_64 rfl (lv_at hl 0 rfl) ?_
          refine lv_iconst (v := Int32.ofInt 0) hx hb dX10_unload_65 (by decide +kernel) ?_
          refine cr_v (va_runV (As := [.int (Int32.ofInt (1)), .int (Int32.ofInt (t0)), .int (Int32.ofInt (0)), .int (Int32.ofInt (z3)), .int (Int32.ofInt (0))]) (rest := []) ⟨hx, hb, hml, hown, hts⟩ (mX10_add l G k ar (uF fi 2 (0)) fa fl 1 t0 0 z3 0 H.size (iF hR (by omega)) hRa (by omega) (by omega) (by omega) (by omega) (by omega) (show 0 ≤ (fi 29) ∧ (fi 29) < 60 from by omega) (show ∀ i, 0 ≤ i → i < (fi 29) → ¬ (fa 34) i = 2 → 0 ≤ (fa 35) i ∧ (fa 35) i < 7 from by first | exact hPM | omega) (show 1 = 2 ∨ (0 ≤ t0 ∧ t0 < 7) from by omega)) (cwV 5 hts (gz [.methodLink RX10 415 yX10_add, .instanceMethod yX10_add, .selects RX10 yX10_add yX10_add, .initialized RX10] (.code yX10_add cX10_add 6 none) [(28, 0), (28, 1), (28, 2), (0, 5), (28, 3)] rfl) rfl rfl rfl (by decide +kernel) ⟨Nat.le_of_ble_eq_true rfl, Nat.le_of_ble_eq_true rfl⟩) (cr_preV (EZ_ok k) hZ hS hX hP hD hA (ci := 7) (q0 := 0) rfl rfl) rfl rfl hl.1 rfl (lv_room (Nat.le_of_ble_eq_true rfl)) dX10_unload_66 ⟨Nat.le_of_ble_eq_true rfl, Nat.le_of_ble_eq_true rfl⟩) hD hS hA (fun u H locs hp hP hD hS => ?_)
          obtain ⟨c21, c22, c23, c24, c25, c26, c27⟩ := u
          obtain ⟨hP, hD⟩ : va_P G vwCl (wM k ar (uF (uF (uF fi 2 (0)) 29 (c26)) 30 (c27)) (uF (uF (uF (uF (uF fa 34 (c21)) 35 (c22)) 36 (c23)) 37 (c24)) 38 (c25)) fl) H ∧ va_D A (wM k ar (uF (uF (uF fi 2 (0)) 29 (c26)) 30 (c27)) (uF (uF (uF (uF (uF fa 34 (c21)) 35 (c22)) 36 (c23)) 37 (c24)) 38 (c25)) fl) := ⟨hP, hD⟩
          obtain ⟨rc21, rc22, rc23, rc24, rc25, rc26, rc27, hp27⟩ : (∀ t, inR (c21 t)) ∧ (∀ t, inR (c22 t)) ∧ (∀ t, inR (c23 t)) ∧ (∀ t, inR (c24 t)) ∧ (∀ t, inR (c25 t)) ∧ (inR c26) ∧ (inR c27) ∧ (c26 = (fi 29) + 1 ∧ (∀ i, 0 ≤ i → i < c26 → ¬ c21 i = 2 → 0 ≤ c22 i ∧ c22 i < 7)) := hp
          have hP9 := hp27.2
          refine lv_aload_n hx hb dX10_unload_69 rfl (lv_at hl 1 rfl) ?_
          refine va_get (D := G) (ci := 7) (v := .ref (ar 32)) (C := RX10) (T := TX10) (N := 71) (ref := RX10) hx hb hts h1w hown hX.1 hP 0 rfl rfl 32 (by decide) h2w (fun _ h9 => h9) rfl dX10_unload_70 ?_
          refine lv_iload_n hx hb dX10_unload_73 rfl (lv_at hl 2 rfl) ?_
          refine lv_aload_n hx hb dX10_unload_74 rfl (lv_at hl 1 rfl) ?_
          refine lv_iload_n hx hb dX10_unload_75 rfl (lv_at hl 2 rfl) ?_
          refine lv_aload_n hx hb dX10_unload_76 rfl (lv_at hl 1 rfl) ?_
          refine lv_iload_n hx hb dX10_unload_77 rfl (lv_at hl 0 rfl) ?_
          refine lv_bipush (v := Int32.ofInt 12) hx hb dX10_unload_78 (by decide +kernel) ?_
          refine iv_sub (x := z3) (y := 12) hx hb dX10_unload_80 ?_
          refine iv_wr ?_
          refine iv_top (fun z28 ez28 => ?_)
          have rz28 : inR z28 := ez28 ▸ bWr_r _
          refine lv_aload_n hx hb dX10_unload_81 rfl (lv_at hl 1 rfl) ?_
          refine va_get (D := G) (ci := 7) (v := .int (Int32.ofInt (fi 28))) (C := RX10) (T := TX10) (N := 71) (ref := RX10) hx hb hts h1w hown hX.1 hP 0 rfl rfl 28 (by decide) h4w (fun _ h9 => h9) rfl dX10_unload_82 ?_
          have rf28 := hR 28
          refine cr_i (va_runV (As := [.int (Int32.ofInt (z28)), .int (Int32.ofInt (fi 28))]) (rest := [.int (Int32.ofInt (t0)), .ref (ar 71), .int (Int32.ofInt (t0)), .ref (ar 32)]) ⟨hx, hb, hml, hown, hts⟩ (mX10_depthOf l G k ar (uF (uF (uF fi 2 (0)) 29 (c26)) 30 (c27)) (uF (uF (uF (uF (uF fa 34 (c21)) 35 (c22)) 36 (c23)) 37 (c24)) 38 (c25)) fl z28 (fi 28) H.size (iF (iF (iF hR (by omega)) (by omega)) (by omega)) (iG (iG (iG (iG (iG hRa rc21) rc22) rc23) rc24) rc25) (by omega) (hR 28)) (cwV 2 hts (gz [.methodLink RX10 352 yX10_depthOf, .instanceMethod yX10_depthOf, .selects RX10 yX10_depthOf yX10_depthOf, .initialized RX10] (.code yX10_depthOf cX10_depthOf 3 (some .int)) [(24, 7), (24, 8), (24, 9), (0, 5), (24, 10)] rfl) rfl rfl rfl (by decide +kernel) ⟨Nat.le_of_ble_eq_true rfl, Nat.le_of_ble_eq_true rfl⟩) (cr_preV (EZ_ok k) hZ hS hX hP hD hA (ci := 7) (q0 := 0) rfl rfl) rfl rfl hl.1 rfl (lv_room (Nat.le_of_ble_eq_true rfl)) dX10_unload_85 ⟨Nat.le_of_ble_eq_true rfl, Nat.le_of_ble_eq_true rfl⟩) hD hS hA (fun r u H locs hp hP hD hS => ?_)
          obtain ⟨c29, rfl⟩ : ∃ z, z = u := ⟨_, rfl⟩
          obtain ⟨h9, rc29, hp29⟩ : r = Int32.ofInt c29 ∧ (inR c29) ∧ (True) := hp
          subst h9
          refine cr_i (va_runV (As := [.int (Int32.ofInt (t0)), .int (Int32.ofInt (c29))]) (rest := [.int (Int32.ofInt (t0)), .ref (ar 32)]) ⟨hx, hb, hml, hown, hts⟩ (mX10_unloadedAt l G k ar (uF (uF (uF fi 2 (0)) 29 (c26)) 30 (c27)) (uF (uF (uF (uF (uF fa 34 (c21)) 35 (c22)) 36 (c23)) 37 (c24)) 38 (c25)) fl t0 c29 H.size (iF (iF (iF hR (by omega)) (by omega)) (by omega)) (iG (iG (iG (iG (iG hRa rc21) rc22) rc23) rc24) rc25) (by omega) (by omega) (show 0 ≤ t0 ∧ t0 < 14 from by omega)) (cwV 2 hts (gz [.methodLink RX10 419 yX10_unloadedAt, .instanceMethod yX10_unloadedAt, .selects RX10 yX10_unloadedAt yX10_unloadedAt, .initialized RX10] (.code yX10_unloadedAt cX10_unloadedAt 3 (some .int)) [(28, 18), (28, 19), (28, 20), (0, 5), (28, 21)] rfl) rfl rfl rfl (by decide +kernel) ⟨Nat.le_of_ble_eq_true rfl, Nat.le_of_ble_eq_true rfl⟩) (cr_preV (EZ_ok k) hZ hS hX hP hD hA (ci := 7) (q0 := 0) rfl rfl) rfl rfl hl.1 rfl (lv_room (Nat.le_of_ble_eq_true rfl)) dX10_unload_88 ⟨Nat.le_of_ble_eq_true rfl, Nat.le_of_ble_eq_true rfl⟩) hD hS hA (fun r u H locs hp hP hD hS => ?_)
          obtain ⟨c30, rfl⟩ : ∃ z, z = u := ⟨_, rfl⟩
          obtain ⟨h9, rc30, hp30⟩ : r = Int32.ofInt c30 ∧ (inR c30) ∧ (True) := hp
          subst h9
          refine iv_iast hx hb hX.1 hP hD hS 11 0 rfl rfl (wM_A32 _ _ _ _ _) (by omega) (by omega) (by decide) dX10_unload_91 (fun H locs hP hD hS => ?_)
          obtain ⟨hP, hD⟩ : va_P G vwCl (wM k ar (uF (uF (uF fi 2 (0)) 29 (c26)) 30 (c27)) (uF (uF (uF (uF (uF (uF fa 32 (uA (fa 32) (t0) (c30))) 34 (c21)) 35 (c22)) 36 (c23)) 37 (c24)) 38 (c25)) fl) H ∧ va_D A (wM k ar (uF (uF (uF fi 2 (0)) 29 (c26)) 30 (c27)) (uF (uF (uF (uF (uF (uF fa 32 (uA (fa 32) (t0) (c30))) 34 (c21)) 35 (c22)) 36 (c23)) 37 (c24)) 38 (c25)) fl) := ⟨hP, hD⟩
          obtain ⟨g31, eg31, rg31⟩ : ∃ z, z = uA (fa 32) (t0) (c30) ∧ ∀ t, inR (z t) := ⟨_, rfl, iU (hRa 32) (by omega)⟩
          rw [← eg31] at hP hD
          refine lv_iconst (v := Int32.ofInt 0) hx hb dX10_unload_92 (by decide +kernel) ?_
          exact W.iret (v := Int32.ofInt (0)) hx hb hr (fun t ht hW => ⟨⟨Int32.ofInt (0), (0, fa 11, g31, c21, c22, c23, c24, c25, 0, c26, c27), rfl, ⟨rfl, (show (inR 0) ∧ (∀ t, inR ((fa 11) t)) ∧ (∀ t, inR (g31 t)) ∧ (∀ t, inR (c21 t)) ∧ (∀ t, inR (c22 t)) ∧ (∀ t, inR (c23 t)) ∧ (∀ t, inR (c24 t)) ∧ (∀ t, inR (c25 t)) ∧ (inR 0) ∧ (inR c26) ∧ (inR c27) ∧ ((0 ≤ c26 ∧ c26 ≤ 60) ∧ (∀ i, 0 ≤ i → i < c26 → ¬ c21 i = 2 → 0 ≤ c22 i ∧ c22 i < 7)) from ⟨(by omega), (hRa 11), rg31, rc21, rc22, rc23, rc24, rc25, (by omega), (by omega), (by omega), (by first | exact ⟨by omega, hPM⟩ | exact ⟨by omega, hP9⟩)⟩)⟩, by rw [ht]; exact hP, hD⟩, hS.F ht⟩) hS.2.2 dX10_unload_93
        · refine lv_aload_n hx hb dX10_unload_53 rfl (lv_at hl 1 rfl) ?_
          refine lv_bipush (v := Int32.ofInt 8) hx hb dX10_unload_54 (by decide +kernel) ?_
          refine cr_i (va_runV (As := [.int (Int32.ofInt (8))]) (rest := []) ⟨hx, hb, hml, hown, hts⟩ (mX10_refuse l G k ar (uF fi 2 (0)) fa fl 8 H.size (iF hR (by omega)) hRa (by omega)) (cwV 1 hts (gz [.methodLink RX10 412 yX10_refuse, .instanceMethod yX10_refuse, .selects RX10 yX10_refuse yX10_refuse, .initialized RX10] (.code yX10_refuse cX10_refuse 2 (some .int)) [(27, 20), (27, 21), (27, 22), (0, 5), (27, 23)] rfl) rfl rfl rfl (by decide +kernel) ⟨Nat.le_of_ble_eq_true rfl, Nat.le_of_ble_eq_true rfl⟩) (cr_preV (EZ_ok k) hZ hS hX hP hD hA (ci := 7) (q0 := 0) rfl rfl) rfl rfl hl.1 rfl (lv_room (Nat.le_of_ble_eq_true rfl)) dX10_unload_56 ⟨Nat.le_of_ble_eq_true rfl, Nat.le_of_ble_eq_true rfl⟩) hD hS hA (fun r u H locs hp hP hD hS => ?_)
          obtain ⟨c32, c33⟩ := u
          obtain ⟨hP, hD⟩ : va_P G vwCl (wM k ar (uF fi 2 (0)) (uF fa 11 (c33)) fl) H ∧ va_D A (wM k ar (uF fi 2 (0)) (uF fa 11 (c33)) fl) := ⟨hP, hD⟩
          obtain ⟨h9, rc32, rc33, hp33⟩ : r = Int32.ofInt c32 ∧ (inR c32) ∧ (∀ t, inR (c33 t)) ∧ (True) := hp
          subst h9
          exact W.iret (v := Int32.ofInt (c32)) hx hb hr (fun t ht hW => ⟨⟨Int32.ofInt (c32), (c32, c33, fa 32, fa 34, fa 35, fa 36, fa 37, fa 38, 0, fi 29, fi 30), rfl, ⟨rfl, (show (inR c32) ∧ (∀ t, inR (c33 t)) ∧ (∀ t, inR ((fa 32) t)) ∧ (∀ t, inR ((fa 34) t)) ∧ (∀ t, inR ((fa 35) t)) ∧ (∀ t, inR ((fa 36) t)) ∧ (∀ t, inR ((fa 37) t)) ∧ (∀ t, inR ((fa 38) t)) ∧ (inR 0) ∧ (inR (fi 29)) ∧ (inR (fi 30)) ∧ ((0 ≤ (fi 29) ∧ (fi 29) ≤ 60) ∧ (∀ i, 0 ≤ i → i < (fi 29) → ¬ (fa 34) i = 2 → 0 ≤ (fa 35) i ∧ (fa 35) i < 7)) from ⟨(by omega), rc33, (hRa 32), (hRa 34), (hRa 35), (hRa 36), (hRa 37), (hRa 38), (by omega), (hR 29), (hR 30), (by first | exact ⟨by omega, hPM⟩ | exact ⟨by omega, hP9⟩)⟩)⟩, by rw [ht]; exact hP, hD⟩, hS.F ht⟩) hS.2.2 dX10_unload_59
      · refine lv_aload_n hx hb dX10_unload_38 rfl (lv_at hl 1 rfl) ?_
        refine lv_iconst (v := Int32.ofInt 2) hx hb dX10_unload_39 (by decide +kernel) ?_
        refine cr_i (va_runV (As := [.int (Int32.ofInt (2))]) (rest := []) ⟨hx, hb, hml, hown, hts⟩ (mX10_refuse l G k ar (uF fi 2 (0)) fa fl 2 H.size (iF hR (by omega)) hRa (by omega)) (cwV 1 hts (gz [.methodLink RX10 412 yX10_refuse, .instanceMethod yX10_refuse, .selects RX10 yX10_refuse yX10_refuse, .initialized RX10] (.code yX10_refuse cX10_refuse 2 (some .int)) [(27, 20), (27, 21), (27, 22), (0, 5), (27, 23)] rfl) rfl rfl rfl (by decide +kernel) ⟨Nat.le_of_ble_eq_true rfl, Nat.le_of_ble_eq_true rfl⟩) (cr_preV (EZ_ok k) hZ hS hX hP hD hA (ci := 7) (q0 := 0) rfl rfl) rfl rfl hl.1 rfl (lv_room (Nat.le_of_ble_eq_true rfl)) dX10_unload_40 ⟨Nat.le_of_ble_eq_true rfl, Nat.le_of_ble_eq_true rfl⟩) hD hS hA (fun r u H locs hp hP hD hS => ?_)
        obtain ⟨c34, c35⟩ := u
        obtain ⟨hP, hD⟩ : va_P G vwCl (wM k ar (uF fi 2 (0)) (uF fa 11 (c35)) fl) H ∧ va_D A (wM k ar (uF fi 2 (0)) (uF fa 11 (c35)) fl) := ⟨hP, hD⟩
        obtain ⟨h9, rc34, rc35, hp35⟩ : r = Int32.ofInt c34 ∧ (inR c34) ∧ (∀ t, inR (c35 t)) ∧ (True) := hp
        subst h9
        exact W.iret (v := Int32.ofInt (c34)) hx hb hr (fun t ht hW => ⟨⟨Int32.ofInt (c34), (c34, c35, fa 32, fa 34, fa 35, fa 36, fa 37, fa 38, 0, fi 29, fi 30), rfl, ⟨rfl, (show (inR c34) ∧ (∀ t, inR (c35 t)) ∧ (∀ t, inR ((fa 32) t)) ∧ (∀ t, inR ((fa 34) t)) ∧ (∀ t, inR ((fa 35) t)) ∧ (∀ t, inR ((fa 36) t)) ∧ (∀ t, inR ((fa 37) t)) ∧ (∀ t, inR ((fa 38) t)) ∧ (inR 0) ∧ (inR (fi 29)) ∧ (inR (fi 30)) ∧ ((0 ≤ (fi 29) ∧ (fi 29) ≤ 60) ∧ (∀ i, 0 ≤ i → i < (fi 29) → ¬ (fa 34) i = 2 → 0 ≤ (fa 35) i ∧ (fa 35) i < 7)) from ⟨(by omega), rc35, (hRa 32), (hRa 34), (hRa 35), (hRa 36), (hRa 37), (hRa 38), (by omega), (hR 29), (hR 30), (by first | exact ⟨by omega, hPM⟩ | exact ⟨by omega, hP9⟩)⟩)⟩, by rw [ht]; exact hP, hD⟩, hS.F ht⟩) hS.2.2 dX10_unload_43
  · refine lv_aload_n hx hb dX10_unload_13 rfl (lv_at hl 0 rfl) ?_
    refine lv_iconst (v := Int32.ofInt 1) hx hb dX10_unload_14 (by decide +kernel) ?_
    refine cr_i (va_runV (As := [.int (Int32.ofInt (1))]) (rest := []) ⟨hx, hb, hml, hown, hts⟩ (mX10_refuse l G k ar (uF fi 2 (0)) fa fl 1 H.size (iF hR (by omega)) hRa (by omega)) (cwV 1 hts (gz [.methodLink RX10 412 yX10_refuse, .instanceMethod yX10_refuse, .selects RX10 yX10_refuse yX10_refuse, .initialized RX10] (.code yX10_refuse cX10_refuse 2 (some .int)) [(27, 20), (27, 21), (27, 22), (0, 5), (27, 23)] rfl) rfl rfl rfl (by decide +kernel) ⟨Nat.le_of_ble_eq_true rfl, Nat.le_of_ble_eq_true rfl⟩) (cr_preV (EZ_ok k) hZ hS hX hP hD hA (ci := 7) (q0 := 0) rfl rfl) rfl rfl hl.1 rfl (lv_room (Nat.le_of_ble_eq_true rfl)) dX10_unload_15 ⟨Nat.le_of_ble_eq_true rfl, Nat.le_of_ble_eq_true rfl⟩) hD hS hA (fun r u H locs hp hP hD hS => ?_)
    obtain ⟨c36, c37⟩ := u
    obtain ⟨hP, hD⟩ : va_P G vwCl (wM k ar (uF fi 2 (0)) (uF fa 11 (c37)) fl) H ∧ va_D A (wM k ar (uF fi 2 (0)) (uF fa 11 (c37)) fl) := ⟨hP, hD⟩
    obtain ⟨h9, rc36, rc37, hp37⟩ : r = Int32.ofInt c36 ∧ (inR c36) ∧ (∀ t, inR (c37 t)) ∧ (True) := hp
    subst h9
    exact W.iret (v := Int32.ofInt (c36)) hx hb hr (fun t ht hW => ⟨⟨Int32.ofInt (c36), (c36, c37, fa 32, fa 34, fa 35, fa 36, fa 37, fa 38, 0, fi 29, fi 30), rfl, ⟨rfl, (show (inR c36) ∧ (∀ t, inR (c37 t)) ∧ (∀ t, inR ((fa 32) t)) ∧ (∀ t, inR ((fa 34) t)) ∧ (∀ t, inR ((fa 35) t)) ∧ (∀ t, inR ((fa 36) t)) ∧ (∀ t, inR ((fa 37) t)) ∧ (∀ t, inR ((fa 38) t)) ∧ (inR 0) ∧ (inR (fi 29)) ∧ (inR (fi 30)) ∧ ((0 ≤ (fi 29) ∧ (fi 29) ≤ 60) ∧ (∀ i, 0 ≤ i → i < (fi 29) → ¬ (fa 34) i = 2 → 0 ≤ (fa 35) i ∧ (fa 35) i < 7)) from ⟨(by omega), rc37, (hRa 32), (hRa 34), (hRa 35), (hRa 36), (hRa 37), (hRa 38), (by omega), (hR 29), (hR 30), (by first | exact ⟨by omega, hPM⟩ | exact ⟨by omega, hP9⟩)⟩)⟩, by rw [ht]; exact hP, hD⟩, hS.F ht⟩) hS.2.2 dX10_unload_18

set_option maxHeartbeats 4000000 in
set_option maxRecDepth 100000 in
theorem mX10_ride (l : Launch) (G : va_G) (k : Nat → ClassId) (ar : Nat → Nat) (fi : Nat → Int) (fa : Nat → Int → Int) (fl : Nat → Int64) (d0 : Int) (w0 : Int) (sz : Nat) (hR : ∀ j, inR (fi j)) (hRa : ∀ j t, inR (fa j t)) (hr_d0 : inR d0) (hr_w0 : inR w0) (hth : 0 ≤ fi 12 ∧ fi 12 ≤ 7) (hru : 0 ≤ fi 13 ∧ fi 13 ≤ 4) (hRW : ∀ q9, 0 ≤ q9 → q9 < fi 13 → RWf (fa 10) (fa 8 q9) (fa 9 q9)) (hmv : 0 ≤ fi 29 ∧ fi 29 ≤ 60) (hPM : ∀ i, 0 ≤ i → i < fi 29 → ¬ fa 34 i = 2 → 0 ≤ fa 35 i ∧ fa 35 i < 7) : CNi l G k (EZ k) yX10_ride wzX10_ride ({ frames := 5, cells := 0, slots := 0, locals := 118 }) [.ref (ar 71), .int (Int32.ofInt (d0)), .int (Int32.ofInt (w0))] sz (wM k ar fi fa fl) (fun (r0 : Int32) (u : Int × (Int → Int) × (Int → Int) × (Int → Int) × (Int → Int) × (Int → Int) × (Int → Int) × (Int → Int) × (Int → Int) × Int × Int × Int × Int × Int × Int × Int) => r0 = Int32.ofInt (u.1) ∧ (inR u.1) ∧ (∀ t, inR (u.2.1 t)) ∧ (∀ t, inR (u.2.2.1 t)) ∧ (∀ t, inR (u.2.2.2.1 t)) ∧ (∀ t, inR (u.2.2.2.2.1 t)) ∧ (∀ t, inR (u.2.2.2.2.2.1 t)) ∧ (∀ t, inR (u.2.2.2.2.2.2.1 t)) ∧ (∀ t, inR (u.2.2.2.2.2.2.2.1 t)) ∧ (∀ t, inR (u.2.2.2.2.2.2.2.2.1 t)) ∧ (inR u.2.2.2.2.2.2.2.2.2.1) ∧ (inR u.2.2.2.2.2.2.2.2.2.2.1) ∧ (inR u.2.2.2.2.2.2.2.2.2.2.2.1) ∧ (inR u.2.2.2.2.2.2.2.2.2.2.2.2.1) ∧ (inR u.2.2.2.2.2.2.2.2.2.2.2.2.2.1) ∧ (inR u.2.2.2.2.2.2.2.2.2.2.2.2.2.2.1) ∧ (inR u.2.2.2.2.2.2.2.2.2.2.2.2.2.2.2) ∧ ((0 ≤ u.2.2.2.2.2.2.2.2.2.2.2.1 ∧ u.2.2.2.2.2.2.2.2.2.2.2.1 ≤ 60) ∧ (∀ i, 0 ≤ i → i < u.2.2.2.2.2.2.2.2.2.2.2.1 → ¬ u.2.2.1 i = 2 → 0 ≤ u.2.2.2.1 i ∧ u.2.2.2.1 i < 7))) (fun (u : Int × (Int → Int) × (Int → Int) × (Int → Int) × (Int → Int) × (Int → Int) × (Int → Int) × (Int → Int) × (Int → Int) × Int × Int × Int × Int × Int × Int × Int) => (wM k ar (uF (uF (uF (uF (uF (uF (uF fi 2 (u.2.2.2.2.2.2.2.2.2.1)) 28 (u.2.2.2.2.2.2.2.2.2.2.1)) 29 (u.2.2.2.2.2.2.2.2.2.2.2.1)) 30 (u.2.2.2.2.2.2.2.2.2.2.2.2.1)) 41 (u.2.2.2.2.2.2.2.2.2.2.2.2.2.1)) 42 (u.2.2.2.2.2.2.2.2.2.2.2.2.2.2.1)) 43 (u.2.2.2.2.2.2.2.2.2.2.2.2.2.2.2)) (uF (uF (uF (uF (uF (uF (uF (uF fa 11 (u.2.1)) 34 (u.2.2.1)) 35 (u.2.2.2.1)) 36 (u.2.2.2.2.1)) 37 (u.2.2.2.2.2.1)) 38 (u.2.2.2.2.2.2.1)) 39 (u.2.2.2.2.2.2.2.1)) 40 (u.2.2.2.2.2.2.2.2.1)) fl)) := by
  refine Met.ofW (cc := cX10_ride) (maxL := 4) (ret := (some .int)) (by decide) rfl ?_
  intro p e s m args below meth c s₁ B hml hv
  obtain ⟨rfl, hsz, hP, hX, hD0, hZ0⟩ := hv
  have hx := B.exec
  have hb := B.bytes
  have hr := B.returns
  have hts := atoms_spec (ws := wzX10_ride) B.pre
  have hown : s.vm.findClass RX10 = some m.cls := findClass_of_methodNamed B.named
  subst hsz
  have hD := hD0.self (sz := s.heap.size)
  have hZ := hZ0
  generalize hAe : va_A (wM k ar fi fa fl) s.heap.size = A at hD hZ ⊢
  have hA : ∀ q : Nat, s.heap.size ≤ q → A q := fun q h => by rw [← hAe]; exact Or.inr h
  have hS : va_S A s.heap s.heap [] := va_S.rf
  have hl := lv_entry ([.ref (ar 71), .int (Int32.ofInt (d0)), .int (Int32.ofInt (w0))]) (n := 4) (Nat.le_of_ble_eq_true rfl)
  rw [lg_entry_eq]
  generalize (lg_sl ([.ref (ar 71), .int (Int32.ofInt (d0)), .int (Int32.ofInt (w0))]) ++ List.replicate (4 - (lg_sl ([.ref (ar 71), .int (Int32.ofInt (d0)), .int (Int32.ofInt (w0))])).length) Slot.unset).toArray = ls at hl ⊢
  have hl : lv_has ls 4 [(0, .ref (ar 71)), (1, .int (Int32.ofInt (d0))), (2, .int (Int32.ofInt (w0)))] := hl
  obtain ⟨H, eH⟩ : ∃ H, H = s.heap := ⟨_, rfl⟩
  rw [← eH] at hP
  have hS : va_S A s.heap H [] := by rw [eH]; exact hS
  have gW : s.heap = H := eH.symm
  refine iv_heap gW ?_
  have h0w := hts (.fieldLink RX10 171 "RopeTownModel" "code" "I") (wz_at 8 12 rfl)
  have h1w : ∀ w ∈ wsX100, w ∈ wzX10_ride := fun w h => List.mem_cons_of_mem _ (inlX10 w h)
  have h2w := hts (.fieldLink RX10 327 "RopeTownModel" "bucket0" "I") (wz_at 21 13 rfl)
  have h3w := hts (.fieldLink RX10 391 "RopeTownModel" "wound" "I") (wz_at 30 6 rfl)
  refine lv_aload_n hx hb dX10_ride_0 rfl (lv_at hl 0 rfl) ?_
  refine lv_iconst (v := Int32.ofInt 0) hx hb dX10_ride_1 (by decide +kernel) ?_
  refine iv_put (ci := 7) (v := .int (Int32.ofInt (0))) (ty := .int) (C := RX10) (T := TX10) (N := 71) (ref := RX10) hx hb hts h1w tyX10 tyX10_ok nmX10 hown hX.1 hP hD hS 0 rfl rfl 2 (by decide) h0w (fun _ h9 => h9) rfl (by decide +kernel) rfl rfl (Nat.le_of_ble_eq_true rfl) (wM_F2 _ _ _ _ _) dX10_ride_2 (fun H locs hP hD hS => ?_)
  refine lv_aload_n hx hb dX10_ride_5 rfl (lv_at hl 0 rfl) ?_
  refine lv_iload_n hx hb dX10_ride_6 rfl (lv_at hl 1 rfl) ?_
  refine lv_iload_n hx hb dX10_ride_7 rfl (lv_at hl 2 rfl) ?_
  refine cr_i (va_runV (As := [.int (Int32.ofInt (d0)), .int (Int32.ofInt (w0))]) (rest := []) ⟨hx, hb, hml, hown, hts⟩ (mX10_rideTrouble l G k ar (uF fi 2 (0)) fa fl d0 w0 H.size (iF hR (by omega)) hRa (by omega) (by omega) (show 0 ≤ (fi 12) ∧ (fi 12) ≤ 7 from by omega) (show 0 ≤ (fi 13) ∧ (fi 13) ≤ 4 from by omega) (show ∀ q9, 0 ≤ q9 → q9 < (fi 13) → RWf ((fa 10)) ((fa 8) q9) ((fa 9) q9) from by first | exact hRW | omega) (show 0 ≤ (fi 29) ∧ (fi 29) ≤ 60 from by omega)) (cwV 2 hts (gz [.methodLink RX10 422 yX10_rideTrouble, .instanceMethod yX10_rideTrouble, .selects RX10 yX10_rideTrouble yX10_rideTrouble, .initialized RX10] (.code yX10_rideTrouble cX10_rideTrouble 4 (some .int)) [(30, 7), (30, 8), (30, 9), (0, 5), (30, 10)] rfl) rfl rfl rfl (by decide +kernel) ⟨Nat.le_of_ble_eq_true rfl, Nat.le_of_ble_eq_true rfl⟩) (cr_preV (EZ_ok k) hZ hS hX hP hD hA (ci := 7) (q0 := 0) rfl rfl) rfl rfl hl.1 rfl (lv_room (Nat.le_of_ble_eq_true rfl)) dX10_ride_8 ⟨Nat.le_of_ble_eq_true rfl, Nat.le_of_ble_eq_true rfl⟩) hD hS hA (fun r u H locs hp hP hD hS => ?_)
  obtain ⟨c1, c2, c3, c4, c5, c6⟩ := u
  obtain ⟨hP, hD⟩ : va_P G vwCl (wM k ar (uF (uF (uF (uF fi 2 (0)) 41 (c4)) 42 (c5)) 43 (c6)) (uF (uF fa 39 (c2)) 40 (c3)) fl) H ∧ va_D A (wM k ar (uF (uF (uF (uF fi 2 (0)) 41 (c4)) 42 (c5)) 43 (c6)) (uF (uF fa 39 (c2)) 40 (c3)) fl) := ⟨hP, hD⟩
  obtain ⟨h9, rc1, rc2, rc3, rc4, rc5, rc6, hp6⟩ : r = Int32.ofInt c1 ∧ (inR c1) ∧ (∀ t, inR (c2 t)) ∧ (∀ t, inR (c3 t)) ∧ (inR c4) ∧ (inR c5) ∧ (inR c6) ∧ (c1 = 0 → ¬ (fi 29) = 60) := hp
  subst h9
  refine lv_istore_n (lv' := [(3, .int (Int32.ofInt (c1))), (0, .ref (ar 71)), (1, .int (Int32.ofInt (d0))), (2, .int (Int32.ofInt (w0)))]) hx hb dX10_ride_11 rfl hl (by decide) rfl (fun ls hl => ?_)
  refine lv_iload_n hx hb dX10_ride_12 rfl (lv_at hl 0 rfl) ?_
  refine iv_if_eq (tgt := 22) hx hb (by omega) dX10_ride_13 (by decide) (fun q7 => ?_) (fun q7 => ?_)
  · refine lv_aload_n hx hb dX10_ride_22 rfl (lv_at hl 1 rfl) ?_
    refine lv_iconst (v := Int32.ofInt 2) hx hb dX10_ride_23 (by decide +kernel) ?_
    refine lv_iload_n hx hb dX10_ride_24 rfl (lv_at hl 2 rfl) ?_
    refine lv_iload_n hx hb dX10_ride_25 rfl (lv_at hl 3 rfl) ?_
    refine lv_aload_n hx hb dX10_ride_26 rfl (lv_at hl 1 rfl) ?_
    refine va_get (D := G) (ci := 7) (v := .int (Int32.ofInt (fi 28))) (C := RX10) (T := TX10) (N := 71) (ref := RX10) hx hb hts h1w hown hX.1 hP 0 rfl rfl 28 (by decide) h2w (fun _ h9 => h9) rfl dX10_ride_27 ?_
    have rf28 := hR 28
    refine lv_iload_n hx hb dX10_ride_30 rfl (lv_at hl 3 rfl) ?_
    refine lv_iconst (v := Int32.ofInt 2) hx hb dX10_ride_31 (by decide +kernel) ?_
    refine iv_icmp_ne (tgt := 42) hx hb (by omega) (by omega) dX10_ride_32 (by decide) (fun q8 => ?_) (fun q8 => ?_)
    · refine lv_iconst (v := Int32.ofInt 0) hx hb dX10_ride_42 (by decide +kernel) ?_
      refine cr_v (va_runV (As := [.int (Int32.ofInt (2)), .int (Int32.ofInt (d0)), .int (Int32.ofInt (w0)), .int (Int32.ofInt (fi 28)), .int (Int32.ofInt (0))]) (rest := []) ⟨hx, hb, hml, hown, hts⟩ (mX10_add l G k ar (uF (uF (uF (uF fi 2 (0)) 41 (c4)) 42 (c5)) 43 (c6)) (uF (uF fa 39 (c2)) 40 (c3)) fl 2 d0 w0 (fi 28) 0 H.size (iF (iF (iF (iF hR (by omega)) (by omega)) (by omega)) (by omega)) (iG (iG hRa rc2) rc3) (by omega) (by omega) (by omega) (hR 28) (by omega) (show 0 ≤ (fi 29) ∧ (fi 29) < 60 from by omega) (show ∀ i, 0 ≤ i → i < (fi 29) → ¬ (fa 34) i = 2 → 0 ≤ (fa 35) i ∧ (fa 35) i < 7 from by first | exact hPM | omega) (show 2 = 2 ∨ (0 ≤ d0 ∧ d0 < 7) from by omega)) (cwV 5 hts (gz [.methodLink RX10 415 yX10_add, .instanceMethod yX10_add, .selects RX10 yX10_add yX10_add, .initialized RX10] (.code yX10_add cX10_add 6 none) [(28, 0), (28, 1), (28, 2), (0, 5), (28, 3)] rfl) rfl rfl rfl (by decide +kernel) ⟨Nat.le_of_ble_eq_true rfl, Nat.le_of_ble_eq_true rfl⟩) (cr_preV (EZ_ok k) hZ hS hX hP hD hA (ci := 7) (q0 := 0) rfl rfl) rfl rfl hl.1 rfl (lv_room (Nat.le_of_ble_eq_true rfl)) dX10_ride_43 ⟨Nat.le_of_ble_eq_true rfl, Nat.le_of_ble_eq_true rfl⟩) hD hS hA (fun u H locs hp hP hD hS => ?_)
      obtain ⟨c9, c10, c11, c12, c13, c14, c15⟩ := u
      obtain ⟨hP, hD⟩ : va_P G vwCl (wM k ar (uF (uF (uF (uF (uF (uF fi 2 (0)) 29 (c14)) 30 (c15)) 41 (c4)) 42 (c5)) 43 (c6)) (uF (uF (uF (uF (uF (uF (uF fa 34 (c9)) 35 (c10)) 36 (c11)) 37 (c12)) 38 (c13)) 39 (c2)) 40 (c3)) fl) H ∧ va_D A (wM k ar (uF (uF (uF (uF (uF (uF fi 2 (0)) 29 (c14)) 30 (c15)) 41 (c4)) 42 (c5)) 43 (c6)) (uF (uF (uF (uF (uF (uF (uF fa 34 (c9)) 35 (c10)) 36 (c11)) 37 (c12)) 38 (c13)) 39 (c2)) 40 (c3)) fl) := ⟨hP, hD⟩
      obtain ⟨rc9, rc10, rc11, rc12, rc13, rc14, rc15, hp15⟩ : (∀ t, inR (c9 t)) ∧ (∀ t, inR (c10 t)) ∧ (∀ t, inR (c11 t)) ∧ (∀ t, inR (c12 t)) ∧ (∀ t, inR (c13 t)) ∧ (inR c14) ∧ (inR c15) ∧ (c14 = (fi 29) + 1 ∧ (∀ i, 0 ≤ i → i < c14 → ¬ c9 i = 2 → 0 ≤ c10 i ∧ c10 i < 7)) := hp
      have hP9 := hp15.2
      refine lv_aload_n hx hb dX10_ride_46 rfl (lv_at hl 1 rfl) ?_
      refine lv_iload_n hx hb dX10_ride_47 rfl (lv_at hl 2 rfl) ?_
      refine iv_put (ci := 7) (v := .int (Int32.ofInt (d0))) (ty := .int) (C := RX10) (T := TX10) (N := 71) (ref := RX10) hx hb hts h1w tyX10 tyX10_ok nmX10 hown hX.1 hP hD hS 0 rfl rfl 28 (by decide) h2w (fun _ h9 => h9) rfl (by decide +kernel) rfl rfl (Nat.le_of_ble_eq_true rfl) (wM_F28 _ _ _ _ _) dX10_ride_48 (fun H locs hP hD hS => ?_)
      obtain ⟨hP, hD⟩ : va_P G vwCl (wM k ar (uF (uF (uF (uF (uF (uF (uF fi 2 (0)) 28 (d0)) 29 (c14)) 30 (c15)) 41 (c4)) 42 (c5)) 43 (c6)) (uF (uF (uF (uF (uF (uF (uF fa 34 (c9)) 35 (c10)) 36 (c11)) 37 (c12)) 38 (c13)) 39 (c2)) 40 (c3)) fl) H ∧ va_D A (wM k ar (uF (uF (uF (uF (uF (uF (uF fi 2 (0)) 28 (d0)) 29 (c14)) 30 (c15)) 41 (c4)) 42 (c5)) 43 (c6)) (uF (uF (uF (uF (uF (uF (uF fa 34 (c9)) 35 (c10)) 36 (c11)) 37 (c12)) 38 (c13)) 39 (c2)) 40 (c3)) fl) := ⟨hP, hD⟩
      refine lv_iconst (v := Int32.ofInt 0) hx hb dX10_ride_51 (by decide +kernel) ?_
      exact W.iret (v := Int32.ofInt (0)) hx hb hr (fun t ht hW => ⟨⟨Int32.ofInt (0), (0, fa 11, c9, c10, c11, c12, c13, c2, c3, 0, d0, c14, c15, c4, c5, c6), rfl, ⟨rfl, (show (inR 0) ∧ (∀ t, inR ((fa 11) t)) ∧ (∀ t, inR (c9 t)) ∧ (∀ t, inR (c10 t)) ∧ (∀ t, inR (c11 t)) ∧ (∀ t, inR (c12 t)) ∧ (∀ t, inR (c13 t)) ∧ (∀ t, inR (c2 t)) ∧ (∀ t, inR (c3 t)) ∧ (inR 0) ∧ (inR d0) ∧ (inR c14) ∧ (inR c15) ∧ (inR c4) ∧ (inR c5) ∧ (inR c6) ∧ ((0 ≤ c14 ∧ c14 ≤ 60) ∧ (∀ i, 0 ≤ i → i < c14 → ¬ c9 i = 2 → 0 ≤ c10 i ∧ c10 i < 7)) from ⟨(by omega), (hRa 11), rc9, rc10, rc11, rc12, rc13, rc2, rc3, (by omega), (by omega), (by omega), (by omega), (by omega), (by omega), (by omega), (by first | exact ⟨by omega, hPM⟩ | exact ⟨by omega, hP9⟩)⟩)⟩, by rw [ht]; exact hP, hD⟩, hS.F ht⟩) hS.2.2 dX10_ride_52
    · refine lv_aload_n hx hb dX10_ride_35 rfl (lv_at hl 1 rfl) ?_
      refine va_get (D := G) (ci := 7) (v := .int (Int32.ofInt (c6))) (C := RX10) (T := TX10) (N := 71) (ref := RX10) hx hb hts h1w hown hX.1 hP 0 rfl rfl 43 (by decide) h3w (fun _ h9 => h9) rfl dX10_ride_36 ?_
      refine lv_goto (tgt := 43) hx hb dX10_ride_39 (by decide) ?_
      refine cr_v (va_runV (As := [.int (Int32.ofInt (2)), .int (Int32.ofInt (d0)), .int (Int32.ofInt (w0)), .int (Int32.ofInt (fi 28)), .int (Int32.ofInt (c6))]) (rest := []) ⟨hx, hb, hml, hown, hts⟩ (mX10_add l G k ar (uF (uF (uF (uF fi 2 (0)) 41 (c4)) 42 (c5)) 43 (c6)) (uF (uF fa 39 (c2)) 40 (c3)) fl 2 d0 w0 (fi 28) c6 H.size (iF (iF (iF (iF hR (by omega)) (by omega)) (by omega)) (by omega)) (iG (iG hRa rc2) rc3) (by omega) (by omega) (by omega) (hR 28) (by omega) (show 0 ≤ (fi 29) ∧ (fi 29) < 60 from by omega) (show ∀ i, 0 ≤ i → i < (fi 29) → ¬ (fa 34) i = 2 → 0 ≤ (fa 35) i ∧ (fa 35) i < 7 from by first | exact hPM | omega) (show 2 = 2 ∨ (0 ≤ d0 ∧ d0 < 7) from by omega)) (cwV 5 hts (gz [.methodLink RX10 415 yX10_add, .instanceMethod yX10_add, .selects RX10 yX10_add yX10_add, .initialized RX10] (.code yX10_add cX10_add 6 none) [(28, 0), (28, 1), (28, 2), (0, 5), (28, 3)] rfl) rfl rfl rfl (by decide +kernel) ⟨Nat.le_of_ble_eq_true rfl, Nat.le_of_ble_eq_true rfl⟩) (cr_preV (EZ_ok k) hZ hS hX hP hD hA (ci := 7) (q0 := 0) rfl rfl) rfl rfl hl.1 rfl (lv_room (Nat.le_of_ble_eq_true rfl)) dX10_ride_43 ⟨Nat.le_of_ble_eq_true rfl, Nat.le_of_ble_eq_true rfl⟩) hD hS hA (fun u H locs hp hP hD hS => ?_)
      obtain ⟨c16, c17, c18, c19, c20, c21, c22⟩ := u
      obtain ⟨hP, hD⟩ : va_P G vwCl (wM k ar (uF (uF (uF (uF (uF (uF fi 2 (0)) 29 (c21)) 30 (c22)) 41 (c4)) 42 (c5)) 43 (c6)) (uF (uF (uF (uF (uF (uF (uF fa 34 (c16)) 35 (c17)) 36 (c18)) 37 (c19)) 38 (c20)) 39 (c2)) 40 (c3)) fl) H ∧ va_D A (wM k ar (uF (uF (uF (uF (uF (uF fi 2 (0)) 29 (c21)) 30 (c22)) 41 (c4)) 42 (c5)) 43 (c6)) (uF (uF (uF (uF (uF (uF (uF fa 34 (c16)) 35 (c17)) 36 (c18)) 37 (c19)) 38 (c20)) 39 (c2)) 40 (c3)) fl) := ⟨hP, hD⟩
      obtain ⟨rc16, rc17, rc18, rc19, rc20, rc21, rc22, hp22⟩ : (∀ t, inR (c16 t)) ∧ (∀ t, inR (c17 t)) ∧ (∀ t, inR (c18 t)) ∧ (∀ t, inR (c19 t)) ∧ (∀ t, inR (c20 t)) ∧ (inR c21) ∧ (inR c22) ∧ (c21 = (fi 29) + 1 ∧ (∀ i, 0 ≤ i → i < c21 → ¬ c16 i = 2 → 0 ≤ c17 i ∧ c17 i < 7)) := hp
      have hP9 := hp22.2
      refine lv_aload_n hx hb dX10_ride_46 rfl (lv_at hl 1 rfl) ?_
      refine lv_iload_n hx hb dX10_ride_47 rfl (lv_at hl 2 rfl) ?_
      refine iv_put (ci := 7) (v := .int (Int32.ofInt (d0))) (ty := .int) (C := RX10) (T := TX10) (N := 71) (ref := RX10) hx hb hts h1w tyX10 tyX10_ok nmX10 hown hX.1 hP hD hS 0 rfl rfl 28 (by decide) h2w (fun _ h9 => h9) rfl (by decide +kernel) rfl rfl (Nat.le_of_ble_eq_true rfl) (wM_F28 _ _ _ _ _) dX10_ride_48 (fun H locs hP hD hS => ?_)
      obtain ⟨hP, hD⟩ : va_P G vwCl (wM k ar (uF (uF (uF (uF (uF (uF (uF fi 2 (0)) 28 (d0)) 29 (c21)) 30 (c22)) 41 (c4)) 42 (c5)) 43 (c6)) (uF (uF (uF (uF (uF (uF (uF fa 34 (c16)) 35 (c17)) 36 (c18)) 37 (c19)) 38 (c20)) 39 (c2)) 40 (c3)) fl) H ∧ va_D A (wM k ar (uF (uF (uF (uF (uF (uF (uF fi 2 (0)) 28 (d0)) 29 (c21)) 30 (c22)) 41 (c4)) 42 (c5)) 43 (c6)) (uF (uF (uF (uF (uF (uF (uF fa 34 (c16)) 35 (c17)) 36 (c18)) 37 (c19)) 38 (c20)) 39 (c2)) 40 (c3)) fl) := ⟨hP, hD⟩
      refine lv_iconst (v := Int32.ofInt 0) hx hb dX10_ride_51 (by decide +kernel) ?_
      exact W.iret (v := Int32.ofInt (0)) hx hb hr (fun t ht hW => ⟨⟨Int32.ofInt (0), (0, fa 11, c16, c17, c18, c19, c20, c2, c3, 0, d0, c21, c22, c4, c5, c6), rfl, ⟨rfl, (show (inR 0) ∧ (∀ t, inR ((fa 11) t)) ∧ (∀ t, inR (c16 t)) ∧ (∀ t, inR (c17 t)) ∧ (∀ t, inR (c18 t)) ∧ (∀ t, inR (c19 t)) ∧ (∀ t, inR (c20 t)) ∧ (∀ t, inR (c2 t)) ∧ (∀ t, inR (c3 t)) ∧ (inR 0) ∧ (inR d0) ∧ (inR c21) ∧ (inR c22) ∧ (inR c4) ∧ (inR c5) ∧ (inR c6) ∧ ((0 ≤ c21 ∧ c21 ≤ 60) ∧ (∀ i, 0 ≤ i → i < c21 → ¬ c16 i = 2 → 0 ≤ c17 i ∧ c17 i < 7)) from ⟨(by omega), (hRa 11), rc16, rc17, rc18, rc19, rc20, rc2, rc3, (by omega), (by omega), (by omega), (by omega), (by omega), (by omega), (by omega), (by first | exact ⟨by omega, hPM⟩ | exact ⟨by omega, hP9⟩)⟩)⟩, by rw [ht]; exact hP, hD⟩, hS.F ht⟩) hS.2.2 dX10_ride_52
  · refine lv_aload_n hx hb dX10_ride_16 rfl (lv_at hl 1 rfl) ?_
    refine lv_iload_n hx hb dX10_ride_17 rfl (lv_at hl 0 rfl) ?_
    refine cr_i (va_runV (As := [.int (Int32.ofInt (c1))]) (rest := []) ⟨hx, hb, hml, hown, hts⟩ (mX10_refuse l G k ar (uF (uF (uF (uF fi 2 (0)) 41 (c4)) 42 (c5)) 43 (c6)) (uF (uF fa 39 (c2)) 40 (c3)) fl c1 H.size (iF (iF (iF (iF hR (by omega)) (by omega)) (by omega)) (by omega)) (iG (iG hRa rc2) rc3) (by omega)) (cwV 1 hts (gz [.methodLink RX10 412 yX10_refuse, .instanceMethod yX10_refuse, .selects RX10 yX10_refuse yX10_refuse, .initialized RX10] (.code yX10_refuse cX10_refuse 2 (some .int)) [(27, 20), (27, 21), (27, 22), (0, 5), (27, 23)] rfl) rfl rfl rfl (by decide +kernel) ⟨Nat.le_of_ble_eq_true rfl, Nat.le_of_ble_eq_true rfl⟩) (cr_preV (EZ_ok k) hZ hS hX hP hD hA (ci := 7) (q0 := 0) rfl rfl) rfl rfl hl.1 rfl (lv_room (Nat.le_of_ble_eq_true rfl)) dX10_ride_18 ⟨Nat.le_of_ble_eq_true rfl, Nat.le_of_ble_eq_true rfl⟩) hD hS hA (fun r u H locs hp hP hD hS => ?_)
    obtain ⟨c23, c24⟩ := u
    obtain ⟨hP, hD⟩ : va_P G vwCl (wM k ar (uF (uF (uF (uF fi 2 (0)) 41 (c4)) 42 (c5)) 43 (c6)) (uF (uF (uF fa 11 (c24)) 39 (c2)) 40 (c3)) fl) H ∧ va_D A (wM k ar (uF (uF (uF (uF fi 2 (0)) 41 (c4)) 42 (c5)) 43 (c6)) (uF (uF (uF fa 11 (c24)) 39 (c2)) 40 (c3)) fl) := ⟨hP, hD⟩
    obtain ⟨h9, rc23, rc24, hp24⟩ : r = Int32.ofInt c23 ∧ (inR c23) ∧ (∀ t, inR (c24 t)) ∧ (True) := hp
    subst h9
    exact W.iret (v := Int32.ofInt (c23)) hx hb hr (fun t ht hW => ⟨⟨Int32.ofInt (c23), (c23, c24, fa 34, fa 35, fa 36, fa 37, fa 38, c2, c3, 0, fi 28, fi 29, fi 30, c4, c5, c6), rfl, ⟨rfl, (show (inR c23) ∧ (∀ t, inR (c24 t)) ∧ (∀ t, inR ((fa 34) t)) ∧ (∀ t, inR ((fa 35) t)) ∧ (∀ t, inR ((fa 36) t)) ∧ (∀ t, inR ((fa 37) t)) ∧ (∀ t, inR ((fa 38) t)) ∧ (∀ t, inR (c2 t)) ∧ (∀ t, inR (c3 t)) ∧ (inR 0) ∧ (inR (fi 28)) ∧ (inR (fi 29)) ∧ (inR (fi 30)) ∧ (inR c4) ∧ (inR c5) ∧ (inR c6) ∧ ((0 ≤ (fi 29) ∧ (fi 29) ≤ 60) ∧ (∀ i, 0 ≤ i → i < (fi 29) → ¬ (fa 34) i = 2 → 0 ≤ (fa 35) i ∧ (fa 35) i < 7)) from ⟨(by omega), rc24, (hRa 34), (hRa 35), (hRa 36), (hRa 37), (hRa 38), rc2, rc3, (by omega), (hR 28), (hR 29), (hR 30), (by omega), (by omega), (by omega), (by first | exact ⟨by omega, hPM⟩ | exact ⟨by omega, hP9⟩)⟩)⟩, by rw [ht]; exact hP, hD⟩, hS.F ht⟩) hS.2.2 dX10_ride_21

set_option maxHeartbeats 4000000 in
set_option maxRecDepth 100000 in
theorem mX10_winding (l : Launch) (G : va_G) (k : Nat → ClassId) (ar : Nat → Nat) (fi : Nat → Int) (fa : Nat → Int → Int) (fl : Nat → Int64) (d0 : Int) (sz : Nat) (hR : ∀ j, inR (fi j)) (hRa : ∀ j t, inR (fa j t)) (hr_d0 : inR d0) (hth : 0 ≤ fi 12 ∧ fi 12 ≤ 7) : CNi l G k (EZ k) yX10_winding wzX10_winding ({ frames := 4, cells := 0, slots := 0, locals := 95 }) [.ref (ar 71), .int (Int32.ofInt (d0))] sz (wM k ar fi fa fl) (fun (r0 : Int32) (u : Int × Int × Int × Int × Int) => r0 = Int32.ofInt (u.1) ∧ (inR u.1) ∧ (inR u.2.1) ∧ (inR u.2.2.1) ∧ (inR u.2.2.2.1) ∧ (inR u.2.2.2.2) ∧ (True)) (fun (u : Int × Int × Int × Int × Int) => (wM k ar (uF (uF (uF (uF fi 2 (u.2.1)) 41 (u.2.2.1)) 42 (u.2.2.2.1)) 43 (u.2.2.2.2)) fa fl)) := by
  refine Met.ofW (cc := cX10_winding) (maxL := 2) (ret := (some .int)) (by decide) rfl ?_
  intro p e s m args below meth c s₁ B hml hv
  obtain ⟨rfl, hsz, hP, hX, hD0, hZ0⟩ := hv
  have hx := B.exec
  have hb := B.bytes
  have hr := B.returns
  have hts := atoms_spec (ws := wzX10_winding) B.pre
  have hown : s.vm.findClass RX10 = some m.cls := findClass_of_methodNamed B.named
  subst hsz
  have hD := hD0.self (sz := s.heap.size)
  have hZ := hZ0
  generalize hAe : va_A (wM k ar fi fa fl) s.heap.size = A at hD hZ ⊢
  have hA : ∀ q : Nat, s.heap.size ≤ q → A q := fun q h => by rw [← hAe]; exact Or.inr h
  have hS : va_S A s.heap s.heap [] := va_S.rf
  have hl := lv_entry ([.ref (ar 71), .int (Int32.ofInt (d0))]) (n := 2) (Nat.le_of_ble_eq_true rfl)
  rw [lg_entry_eq]
  generalize (lg_sl ([.ref (ar 71), .int (Int32.ofInt (d0))]) ++ List.replicate (2 - (lg_sl ([.ref (ar 71), .int (Int32.ofInt (d0))])).length) Slot.unset).toArray = ls at hl ⊢
  have hl : lv_has ls 2 [(0, .ref (ar 71)), (1, .int (Int32.ofInt (d0)))] := hl
  obtain ⟨H, eH⟩ : ∃ H, H = s.heap := ⟨_, rfl⟩
  rw [← eH] at hP
  have hS : va_S A s.heap H [] := by rw [eH]; exact hS
  have gW : s.heap = H := eH.symm
  refine iv_heap gW ?_
  have h0w := hts (.fieldLink RX10 171 "RopeTownModel" "code" "I") (wz_at 8 12 rfl)
  have h1w : ∀ w ∈ wsX100, w ∈ wzX10_winding := fun w h => List.mem_cons_of_mem _ (inlX10 w h)
  have h2w := hts (.fieldLink RX10 327 "RopeTownModel" "bucket0" "I") (wz_at 21 13 rfl)
  have h3w := hts (.fieldLink RX10 87 "RopeTownModel" "place" "[I") (wz_at 6 17 rfl)
  have h4w := hts (.fieldLink RX10 391 "RopeTownModel" "wound" "I") (wz_at 30 6 rfl)
  refine lv_aload_n hx hb dX10_winding_0 rfl (lv_at hl 0 rfl) ?_
  refine lv_iconst (v := Int32.ofInt 0) hx hb dX10_winding_1 (by decide +kernel) ?_
  refine iv_put (ci := 7) (v := .int (Int32.ofInt (0))) (ty := .int) (C := RX10) (T := TX10) (N := 71) (ref := RX10) hx hb hts h1w tyX10 tyX10_ok nmX10 hown hX.1 hP hD hS 0 rfl rfl 2 (by decide) h0w (fun _ h9 => h9) rfl (by decide +kernel) rfl rfl (Nat.le_of_ble_eq_true rfl) (wM_F2 _ _ _ _ _) dX10_winding_2 (fun H locs hP hD hS => ?_)
  refine lv_iload_n hx hb dX10_winding_5 rfl (lv_at hl 1 rfl) ?_
  refine lv_iconst (v := Int32.ofInt 0) hx hb dX10_winding_6 (by decide +kernel) ?_
  refine lv_aload_n hx hb dX10_winding_7 rfl (lv_at hl 0 rfl) ?_
  refine cr_i (va_runV (As := []) (rest := [.int (Int32.ofInt (0)), .int (Int32.ofInt (d0))]) ⟨hx, hb, hml, hown, hts⟩ (mX10_depths l G k ar (uF fi 2 (0)) fa fl H.size (iF hR (by omega)) hRa) (cwV 0 hts (gz [.methodLink RX10 346 yX10_depths, .instanceMethod yX10_depths, .selects RX10 yX10_depths yX10_depths, .initialized RX10] (.code yX10_depths cX10_depths 1 (some .int)) [(24, 11), (24, 12), (24, 13), (0, 5), (24, 14)] rfl) rfl rfl rfl (by decide +kernel) ⟨Nat.le_of_ble_eq_true rfl, Nat.le_of_ble_eq_true rfl⟩) (cr_preV (EZ_ok k) hZ hS hX hP hD hA (ci := 7) (q0 := 0) rfl rfl) rfl rfl hl.1 rfl (lv_room (Nat.le_of_ble_eq_true rfl)) dX10_winding_8 ⟨Nat.le_of_ble_eq_true rfl, Nat.le_of_ble_eq_true rfl⟩) hD hS hA (fun r u H locs hp hP hD hS => ?_)
  obtain ⟨c1, rfl⟩ : ∃ z, z = u := ⟨_, rfl⟩
  obtain ⟨h9, rc1, hp1⟩ : r = Int32.ofInt c1 ∧ (inR c1) ∧ (c1 = (fa 3) 0) := hp
  subst h9
  refine c0_i (va_runS (As := [.int (Int32.ofInt (d0)), .int (Int32.ofInt (0)), .int (Int32.ofInt (c1))]) (rest := []) ⟨hx, hb, hml, hown, hts⟩ (mX10_isIn l G k d0 0 c1 H.size (by omega) (by omega) (by omega)) (cwS 3 hts (gz [.methodLink RX10 177 yX10_isIn, .static yX10_isIn, .initialized RX10] (.code yX10_isIn cX10_isIn 3 (some .boolean)) [(18, 16), (18, 17), (0, 5), (18, 18)] rfl) rfl rfl rfl (by decide +kernel) ⟨Nat.le_of_ble_eq_true rfl, Nat.le_of_ble_eq_true rfl⟩) (cr_pre0 (EZ_ok k) hZ hS hX hP hD hA) rfl rfl hl.1 rfl (lv_room (Nat.le_of_ble_eq_true rfl)) dX10_winding_11 ⟨Nat.le_of_ble_eq_true rfl, Nat.le_of_ble_eq_true rfl⟩) hP hD hS hA (fun r u H locs hp hP hD hS => ?_)
  obtain ⟨c2, rfl⟩ : ∃ z, z = u := ⟨_, rfl⟩
  obtain ⟨h9, rc2, hp2⟩ : r = Int32.ofInt c2 ∧ (inR c2) ∧ ((c2 = 1 ∧ 0 ≤ d0 ∧ d0 ≤ c1) ∨ (c2 = 0 ∧ (d0 < 0 ∨ c1 < d0))) := hp
  subst h9
  refine iv_if_eq (tgt := 25) hx hb (by omega) dX10_winding_14 (by decide) (fun q3 => ?_) (fun q3 => ?_)
  · refine lv_iconst (v := Int32.ofInt (-1)) hx hb dX10_winding_25 (by decide +kernel) ?_
    exact W.iret (v := Int32.ofInt ((-1))) hx hb hr (fun t ht hW => ⟨⟨Int32.ofInt ((-1)), ((-1), 0, fi 41, fi 42, fi 43), rfl, ⟨rfl, (show (inR (-1)) ∧ (inR 0) ∧ (inR (fi 41)) ∧ (inR (fi 42)) ∧ (inR (fi 43)) ∧ (True) from ⟨(by omega), (by omega), (hR 41), (hR 42), (hR 43), trivial⟩)⟩, by rw [ht]; exact hP, hD⟩, hS.F ht⟩) hS.2.2 dX10_winding_26
  · refine lv_iload_n hx hb dX10_winding_17 rfl (lv_at hl 1 rfl) ?_
    refine lv_aload_n hx hb dX10_winding_18 rfl (lv_at hl 0 rfl) ?_
    refine va_get (D := G) (ci := 7) (v := .int (Int32.ofInt (fi 28))) (C := RX10) (T := TX10) (N := 71) (ref := RX10) hx hb hts h1w hown hX.1 hP 0 rfl rfl 28 (by decide) h2w (fun _ h9 => h9) rfl dX10_winding_19 ?_
    have rf28 := hR 28
    refine iv_icmp_ne (tgt := 27) hx hb (by omega) (by omega) dX10_winding_22 (by decide) (fun q4 => ?_) (fun q4 => ?_)
    · refine lv_aload_n hx hb dX10_winding_27 rfl (lv_at hl 0 rfl) ?_
      refine lv_aload_n hx hb dX10_winding_28 rfl (lv_at hl 0 rfl) ?_
      refine va_get (D := G) (ci := 7) (v := .ref (ar 32)) (C := RX10) (T := TX10) (N := 71) (ref := RX10) hx hb hts h1w hown hX.1 hP 0 rfl rfl 32 (by decide) h3w (fun _ h9 => h9) rfl dX10_winding_29 ?_
      refine lv_aload_n hx hb dX10_winding_32 rfl (lv_at hl 0 rfl) ?_
      refine va_get (D := G) (ci := 7) (v := .int (Int32.ofInt (fi 28))) (C := RX10) (T := TX10) (N := 71) (ref := RX10) hx hb hts h1w hown hX.1 hP 0 rfl rfl 28 (by decide) h2w (fun _ h9 => h9) rfl dX10_winding_33 ?_
      have rf28 := hR 28
      refine lv_iload_n hx hb dX10_winding_36 rfl (lv_at hl 1 rfl) ?_
      refine cr_v (va_runV (As := [.ref (ar 32), .int (Int32.ofInt (fi 28)), .int (Int32.ofInt (d0))]) (rest := []) ⟨hx, hb, hml, hown, hts⟩ (mX10_tellRide_32 l G k ar (uF fi 2 (0)) fa fl (fi 28) d0 H.size (iF hR (by omega)) hRa (hR 28) (by omega) (show 0 ≤ (fi 12) ∧ (fi 12) ≤ 7 from by omega)) (cwV 3 hts (gz [.methodLink RX10 405 yX10_tellRide, .instanceMethod yX10_tellRide, .selects RX10 yX10_tellRide yX10_tellRide, .initialized RX10] (.code yX10_tellRide cX10_tellRide 8 none) [(30, 19), (30, 20), (30, 21), (0, 5), (30, 22)] rfl) rfl rfl rfl (by decide +kernel) ⟨Nat.le_of_ble_eq_true rfl, Nat.le_of_ble_eq_true rfl⟩) (cr_preV (EZ_ok k) hZ hS hX hP hD hA (ci := 7) (q0 := 0) rfl rfl) rfl rfl hl.1 rfl (lv_room (Nat.le_of_ble_eq_true rfl)) dX10_winding_37 ⟨Nat.le_of_ble_eq_true rfl, Nat.le_of_ble_eq_true rfl⟩) hD hS hA (fun u H locs hp hP hD hS => ?_)
      obtain ⟨c5, c6, c7⟩ := u
      obtain ⟨hP, hD⟩ : va_P G vwCl (wM k ar (uF (uF (uF (uF fi 2 (0)) 41 (c5)) 42 (c6)) 43 (c7)) fa fl) H ∧ va_D A (wM k ar (uF (uF (uF (uF fi 2 (0)) 41 (c5)) 42 (c6)) 43 (c7)) fa fl) := ⟨hP, hD⟩
      obtain ⟨rc5, rc6, rc7, hp7⟩ : (inR c5) ∧ (inR c6) ∧ (inR c7) ∧ (True) := hp
      refine lv_aload_n hx hb dX10_winding_40 rfl (lv_at hl 0 rfl) ?_
      refine va_get (D := G) (ci := 7) (v := .int (Int32.ofInt (c7))) (C := RX10) (T := TX10) (N := 71) (ref := RX10) hx hb hts h1w hown hX.1 hP 0 rfl rfl 43 (by decide) h4w (fun _ h9 => h9) rfl dX10_winding_41 ?_
      exact W.iret (v := Int32.ofInt (c7)) hx hb hr (fun t ht hW => ⟨⟨Int32.ofInt (c7), (c7, 0, c5, c6, c7), rfl, ⟨rfl, (show (inR c7) ∧ (inR 0) ∧ (inR c5) ∧ (inR c6) ∧ (inR c7) ∧ (True) from ⟨(by omega), (by omega), (by omega), (by omega), (by omega), trivial⟩)⟩, by rw [ht]; exact hP, hD⟩, hS.F ht⟩) hS.2.2 dX10_winding_44
    · refine lv_iconst (v := Int32.ofInt (-1)) hx hb dX10_winding_25 (by decide +kernel) ?_
      exact W.iret (v := Int32.ofInt ((-1))) hx hb hr (fun t ht hW => ⟨⟨Int32.ofInt ((-1)), ((-1), 0, fi 41, fi 42, fi 43), rfl, ⟨rfl, (show (inR (-1)) ∧ (inR 0) ∧ (inR (fi 41)) ∧ (inR (fi 42)) ∧ (inR (fi 43)) ∧ (True) from ⟨(by omega), (by omega), (hR 41), (hR 42), (hR 43), trivial⟩)⟩, by rw [ht]; exact hP, hD⟩, hS.F ht⟩) hS.2.2 dX10_winding_26

