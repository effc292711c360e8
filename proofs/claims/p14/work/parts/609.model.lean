set_option maxHeartbeats 4000000 in
set_option maxRecDepth 100000 in
theorem mX10_keepsCap_44 (l : Launch) (G : va_G) (k : Nat → ClassId) (ar : Nat → Nat) (fi : Nat → Int) (fa : Nat → Int → Int) (fl : Nat → Int64) (sz : Nat) (hR : ∀ j, inR (fi j)) (hRa : ∀ j t, inR (fa j t)) (hth : 0 ≤ fi 12 ∧ fi 12 ≤ 7) : CNi l G k (EZ k) yX10_keepsCap wzX10_keepsCap ({ frames := 2, cells := 0, slots := 0, locals := 45 }) [.ref (ar 71), .ref (ar 44)] sz (wM k ar fi fa fl) (fun (r0 : Int32) (u : Int) => r0 = Int32.ofInt (u) ∧ (inR u) ∧ ((u = 1 ∧ (gs (lc (fa 44) (fa 5) 0) (fi 12)) ≤ fa 3 2 ∧ (gs (lc (fa 44) (fa 5) 1) (fi 12)) ≤ fa 3 2) ∨ (u = 0 ∧ ¬ ((gs (lc (fa 44) (fa 5) 0) (fi 12)) ≤ fa 3 2 ∧ (gs (lc (fa 44) (fa 5) 1) (fi 12)) ≤ fa 3 2)))) (fun (u : Int) => (wM k ar fi fa fl)) := by
  refine Met.ofW (cc := cX10_keepsCap) (maxL := 2) (ret := (some .boolean)) (by decide) rfl ?_
  intro p e s m args below meth c s₁ B hml hv
  obtain ⟨rfl, hsz, hP, hX, hD0, hZ0⟩ := hv
  have hx := B.exec
  have hb := B.bytes
  have hr := B.returns
  have hts := atoms_spec (ws := wzX10_keepsCap) B.pre
  have hown : s.vm.findClass RX10 = some m.cls := findClass_of_methodNamed B.named
  subst hsz
  have hD := hD0.self (sz := s.heap.size)
  have hZ := hZ0
  generalize hAe : va_A (wM k ar fi fa fl) s.heap.size = A at hD hZ ⊢
  have hA : ∀ q : Nat, s.heap.size ≤ q → A q := fun q h => by rw [← hAe]; exact Or.inr h
  have hS : va_S A s.heap s.heap [] := va_S.rf
  have hl := lv_entry ([.ref (ar 71), .ref (ar 44)]) (n := 2) (Nat.le_of_ble_eq_true rfl)
  rw [lg_entry_eq]
  generalize (lg_sl ([.ref (ar 71), .ref (ar 44)]) ++ List.replicate (2 - (lg_sl ([.ref (ar 71), .ref (ar 44)])).length) Slot.unset).toArray = ls at hl ⊢
  have hl : lv_has ls 2 [(0, .ref (ar 71)), (1, .ref (ar 44))] := hl
  obtain ⟨H, eH⟩ : ∃ H, H = s.heap := ⟨_, rfl⟩
  rw [← eH] at hP
  have hS : va_S A s.heap H [] := by rw [eH]; exact hS
  have gW : s.heap = H := eH.symm
  refine iv_heap gW ?_
  have h0w := hts (.fieldLink RX10 54 "RopeTownModel" "rule" "[I") (wz_at 6 6 rfl)
  have h1w : ∀ w ∈ wsX100, w ∈ wzX10_keepsCap := fun w h => List.mem_cons_of_mem _ (inlX10 w h)
  refine lv_aload_n hx hb dX10_keepsCap_0 rfl (lv_at hl 0 rfl) ?_
  refine lv_aload_n hx hb dX10_keepsCap_1 rfl (lv_at hl 1 rfl) ?_
  refine lv_iconst (v := Int32.ofInt 0) hx hb dX10_keepsCap_2 (by decide +kernel) ?_
  refine cr_i (va_runV (As := [.ref (ar 44), .int (Int32.ofInt (0))]) (rest := []) ⟨hx, hb, hml, hown, hts⟩ (mX10_loadOf_44 l G k ar fi fa fl 0 H.size hR hRa (by omega) (show 0 ≤ (fi 12) ∧ (fi 12) ≤ 7 from by omega) (show 0 = 0 ∨ 0 = 1 from by omega)) (cwV 2 hts (gz [.methodLink RX10 362 yX10_loadOf, .instanceMethod yX10_loadOf, .selects RX10 yX10_loadOf yX10_loadOf, .initialized RX10] (.code yX10_loadOf cX10_loadOf 5 (some .int)) [(26, 0), (26, 1), (26, 2), (0, 5), (26, 3)] rfl) rfl rfl rfl (by decide +kernel) ⟨Nat.le_of_ble_eq_true rfl, Nat.le_of_ble_eq_true rfl⟩) (cr_preV (EZ_ok k) hZ hS hX hP hD hA (ci := 7) (q0 := 0) rfl rfl) rfl rfl hl.1 rfl (lv_room (Nat.le_of_ble_eq_true rfl)) dX10_keepsCap_3 ⟨Nat.le_of_ble_eq_true rfl, Nat.le_of_ble_eq_true rfl⟩) hD hS hA (fun r u H locs hp hP hD hS => ?_)
  obtain ⟨c1, rfl⟩ : ∃ z, z = u := ⟨_, rfl⟩
  obtain ⟨h9, rc1, hp1⟩ : r = Int32.ofInt c1 ∧ (inR c1) ∧ (c1 = (gs (lc ((fa 44)) ((fa 5)) 0) ((fi 12)))) := hp
  subst h9
  have hLd3 := hp1
  refine lv_aload_n hx hb dX10_keepsCap_6 rfl (lv_at hl 0 rfl) ?_
  refine va_get (D := G) (ci := 7) (v := .ref (ar 3)) (C := RX10) (T := TX10) (N := 71) (ref := RX10) hx hb hts h1w hown hX.1 hP 0 rfl rfl 3 (by decide) h0w (fun _ h9 => h9) rfl dX10_keepsCap_7 ?_
  refine lv_iconst (v := Int32.ofInt 2) hx hb dX10_keepsCap_10 (by decide +kernel) ?_
  refine iv_iald hx hb hX.1 hP 1 0 rfl rfl (by omega) (by omega) (by decide) dX10_keepsCap_11 ?_
  refine iv_top (fun z2 ez2 => ?_)
  have rz2 : inR z2 := ez2 ▸ (hRa 3) _
  have ez2 : z2 = (fa 3) 2 := ez2
  refine iv_icmp_gt (tgt := 34) hx hb (by omega) (by omega) dX10_keepsCap_12 (by decide) (fun q3 => ?_) (fun q3 => ?_)
  · refine lv_iconst (v := Int32.ofInt 0) hx hb dX10_keepsCap_34 (by decide +kernel) ?_
    exact W.zret (v := Int32.ofInt (0)) hx hb hr (nz_bool (by omega)) (fun t ht hW => ⟨⟨Int32.ofInt (0), (0), rfl, ⟨rfl, (show (inR 0) ∧ ((0 = 1 ∧ (gs (lc (fa 44) (fa 5) 0) (fi 12)) ≤ fa 3 2 ∧ (gs (lc (fa 44) (fa 5) 1) (fi 12)) ≤ fa 3 2) ∨ (0 = 0 ∧ ¬ ((gs (lc (fa 44) (fa 5) 0) (fi 12)) ≤ fa 3 2 ∧ (gs (lc (fa 44) (fa 5) 1) (fi 12)) ≤ fa 3 2))) from ⟨(by omega), (by omega)⟩)⟩, by rw [ht]; exact hP, hD⟩, hS.F ht⟩) hS.2.2 dX10_keepsCap_35
  · refine lv_aload_n hx hb dX10_keepsCap_15 rfl (lv_at hl 0 rfl) ?_
    refine lv_aload_n hx hb dX10_keepsCap_16 rfl (lv_at hl 1 rfl) ?_
    refine lv_iconst (v := Int32.ofInt 1) hx hb dX10_keepsCap_17 (by decide +kernel) ?_
    refine cr_i (va_runV (As := [.ref (ar 44), .int (Int32.ofInt (1))]) (rest := []) ⟨hx, hb, hml, hown, hts⟩ (mX10_loadOf_44 l G k ar fi fa fl 1 H.size hR hRa (by omega) (show 0 ≤ (fi 12) ∧ (fi 12) ≤ 7 from by omega) (show 1 = 0 ∨ 1 = 1 from by omega)) (cwV 2 hts (gz [.methodLink RX10 362 yX10_loadOf, .instanceMethod yX10_loadOf, .selects RX10 yX10_loadOf yX10_loadOf, .initialized RX10] (.code yX10_loadOf cX10_loadOf 5 (some .int)) [(26, 0), (26, 1), (26, 2), (0, 5), (26, 3)] rfl) rfl rfl rfl (by decide +kernel) ⟨Nat.le_of_ble_eq_true rfl, Nat.le_of_ble_eq_true rfl⟩) (cr_preV (EZ_ok k) hZ hS hX hP hD hA (ci := 7) (q0 := 0) rfl rfl) rfl rfl hl.1 rfl (lv_room (Nat.le_of_ble_eq_true rfl)) dX10_keepsCap_18 ⟨Nat.le_of_ble_eq_true rfl, Nat.le_of_ble_eq_true rfl⟩) hD hS hA (fun r u H locs hp hP hD hS => ?_)
    obtain ⟨c4, rfl⟩ : ∃ z, z = u := ⟨_, rfl⟩
    obtain ⟨h9, rc4, hp4⟩ : r = Int32.ofInt c4 ∧ (inR c4) ∧ (c4 = (gs (lc ((fa 44)) ((fa 5)) 1) ((fi 12)))) := hp
    subst h9
    have hLd18 := hp4
    refine lv_aload_n hx hb dX10_keepsCap_21 rfl (lv_at hl 0 rfl) ?_
    refine va_get (D := G) (ci := 7) (v := .ref (ar 3)) (C := RX10) (T := TX10) (N := 71) (ref := RX10) hx hb hts h1w hown hX.1 hP 0 rfl rfl 3 (by decide) h0w (fun _ h9 => h9) rfl dX10_keepsCap_22 ?_
    refine lv_iconst (v := Int32.ofInt 2) hx hb dX10_keepsCap_25 (by decide +kernel) ?_
    refine iv_iald hx hb hX.1 hP 1 0 rfl rfl (by omega) (by omega) (by decide) dX10_keepsCap_26 ?_
    refine iv_top (fun z5 ez5 => ?_)
    have rz5 : inR z5 := ez5 ▸ (hRa 3) _
    have ez5 : z5 = (fa 3) 2 := ez5
    refine iv_icmp_gt (tgt := 34) hx hb (by omega) (by omega) dX10_keepsCap_27 (by decide) (fun q6 => ?_) (fun q6 => ?_)
    · refine lv_iconst (v := Int32.ofInt 0) hx hb dX10_keepsCap_34 (by decide +kernel) ?_
      exact W.zret (v := Int32.ofInt (0)) hx hb hr (nz_bool (by omega)) (fun t ht hW => ⟨⟨Int32.ofInt (0), (0), rfl, ⟨rfl, (show (inR 0) ∧ ((0 = 1 ∧ (gs (lc (fa 44) (fa 5) 0) (fi 12)) ≤ fa 3 2 ∧ (gs (lc (fa 44) (fa 5) 1) (fi 12)) ≤ fa 3 2) ∨ (0 = 0 ∧ ¬ ((gs (lc (fa 44) (fa 5) 0) (fi 12)) ≤ fa 3 2 ∧ (gs (lc (fa 44) (fa 5) 1) (fi 12)) ≤ fa 3 2))) from ⟨(by omega), (by omega)⟩)⟩, by rw [ht]; exact hP, hD⟩, hS.F ht⟩) hS.2.2 dX10_keepsCap_35
    · refine lv_iconst (v := Int32.ofInt 1) hx hb dX10_keepsCap_30 (by decide +kernel) ?_
      refine lv_goto (tgt := 35) hx hb dX10_keepsCap_31 (by decide) ?_
      exact W.zret (v := Int32.ofInt (1)) hx hb hr (nz_bool (by omega)) (fun t ht hW => ⟨⟨Int32.ofInt (1), (1), rfl, ⟨rfl, (show (inR 1) ∧ ((1 = 1 ∧ (gs (lc (fa 44) (fa 5) 0) (fi 12)) ≤ fa 3 2 ∧ (gs (lc (fa 44) (fa 5) 1) (fi 12)) ≤ fa 3 2) ∨ (1 = 0 ∧ ¬ ((gs (lc (fa 44) (fa 5) 0) (fi 12)) ≤ fa 3 2 ∧ (gs (lc (fa 44) (fa 5) 1) (fi 12)) ≤ fa 3 2))) from ⟨(by omega), (by omega)⟩)⟩, by rw [ht]; exact hP, hD⟩, hS.F ht⟩) hS.2.2 dX10_keepsCap_35

set_option maxHeartbeats 4000000 in
set_option maxRecDepth 100000 in
theorem mX10_keepsRules_44 (l : Launch) (G : va_G) (k : Nat → ClassId) (ar : Nat → Nat) (fi : Nat → Int) (fa : Nat → Int → Int) (fl : Nat → Int64) (a0 : Int) (sz : Nat) (hR : ∀ j, inR (fi j)) (hRa : ∀ j t, inR (fa j t)) (hr_a0 : inR a0) (hth : 0 ≤ fi 12 ∧ fi 12 ≤ 7) (hru : 0 ≤ fi 13 ∧ fi 13 ≤ 4) (hRW : ∀ q9, 0 ≤ q9 → q9 < fi 13 → RWf (fa 10) (fa 8 q9) (fa 9 q9)) : CNi l G k (EZ k) yX10_keepsRules wzX10_keepsRules ({ frames := 3, cells := 0, slots := 0, locals := 70 }) [.ref (ar 71), .ref (ar 44), .int (Int32.ofInt (a0))] sz (wM k ar fi fa fl) (fun (r0 : Int32) (u : Int × (Int → Int) × (Int → Int)) => r0 = Int32.ofInt (u.1) ∧ (inR u.1) ∧ (∀ t, inR (u.2.1 t)) ∧ (∀ t, inR (u.2.2 t)) ∧ (KrP u.1 (bkI (fun q => evR (fa 10) (vls (fa 44) (fa 4) (fa 5) 0 (fi 12) (fa 3 0) a0) (fa 8 q) (fa 9 q)) (fi 13)) (bkI (fun q => evR (fa 10) (vls (fa 44) (fa 4) (fa 5) 1 (fi 12) (fa 3 0) a0) (fa 8 q) (fa 9 q)) (fi 13)))) (fun (u : Int × (Int → Int) × (Int → Int)) => (wM k ar fi (uF (uF fa 39 (u.2.1)) 40 (u.2.2)) fl)) := by
  refine Met.ofW (cc := cX10_keepsRules) (maxL := 3) (ret := (some .boolean)) (by decide) rfl ?_
  intro p e s m args below meth c s₁ B hml hv
  obtain ⟨rfl, hsz, hP, hX, hD0, hZ0⟩ := hv
  have hx := B.exec
  have hb := B.bytes
  have hr := B.returns
  have hts := atoms_spec (ws := wzX10_keepsRules) B.pre
  have hown : s.vm.findClass RX10 = some m.cls := findClass_of_methodNamed B.named
  subst hsz
  have hD := hD0.self (sz := s.heap.size)
  have hZ := hZ0
  generalize hAe : va_A (wM k ar fi fa fl) s.heap.size = A at hD hZ ⊢
  have hA : ∀ q : Nat, s.heap.size ≤ q → A q := fun q h => by rw [← hAe]; exact Or.inr h
  have hS : va_S A s.heap s.heap [] := va_S.rf
  have hl := lv_entry ([.ref (ar 71), .ref (ar 44), .int (Int32.ofInt (a0))]) (n := 3) (Nat.le_of_ble_eq_true rfl)
  rw [lg_entry_eq]
  generalize (lg_sl ([.ref (ar 71), .ref (ar 44), .int (Int32.ofInt (a0))]) ++ List.replicate (3 - (lg_sl ([.ref (ar 71), .ref (ar 44), .int (Int32.ofInt (a0))])).length) Slot.unset).toArray = ls at hl ⊢
  have hl : lv_has ls 3 [(0, .ref (ar 71)), (1, .ref (ar 44)), (2, .int (Int32.ofInt (a0)))] := hl
  obtain ⟨H, eH⟩ : ∃ H, H = s.heap := ⟨_, rfl⟩
  rw [← eH] at hP
  have hS : va_S A s.heap H [] := by rw [eH]; exact hS
  have gW : s.heap = H := eH.symm
  refine iv_heap gW ?_
  refine lv_aload_n hx hb dX10_keepsRules_0 rfl (lv_at hl 0 rfl) ?_
  refine lv_aload_n hx hb dX10_keepsRules_1 rfl (lv_at hl 1 rfl) ?_
  refine lv_iconst (v := Int32.ofInt 0) hx hb dX10_keepsRules_2 (by decide +kernel) ?_
  refine lv_iload_n hx hb dX10_keepsRules_3 rfl (lv_at hl 2 rfl) ?_
  refine cr_i (va_runV (As := [.ref (ar 44), .int (Int32.ofInt (0)), .int (Int32.ofInt (a0))]) (rest := []) ⟨hx, hb, hml, hown, hts⟩ (mX10_brokenBy_44 l G k ar fi fa fl 0 a0 H.size hR hRa (by omega) (by omega) (show 0 ≤ (fi 12) ∧ (fi 12) ≤ 7 from by omega) (show 0 ≤ (fi 13) ∧ (fi 13) ≤ 4 from by omega) (show ∀ q9, 0 ≤ q9 → q9 < (fi 13) → RWf ((fa 10)) ((fa 8) q9) ((fa 9) q9) from by first | exact hRW | omega) (show 0 = 0 ∨ 0 = 1 from by omega)) (cwV 3 hts (gz [.methodLink RX10 380 yX10_brokenBy, .instanceMethod yX10_brokenBy, .selects RX10 yX10_brokenBy yX10_brokenBy, .initialized RX10] (.code yX10_brokenBy cX10_brokenBy 5 (some .int)) [(26, 8), (26, 9), (26, 10), (0, 5), (26, 11)] rfl) rfl rfl rfl (by decide +kernel) ⟨Nat.le_of_ble_eq_true rfl, Nat.le_of_ble_eq_true rfl⟩) (cr_preV (EZ_ok k) hZ hS hX hP hD hA (ci := 7) (q0 := 0) rfl rfl) rfl rfl hl.1 rfl (lv_room (Nat.le_of_ble_eq_true rfl)) dX10_keepsRules_4 ⟨Nat.le_of_ble_eq_true rfl, Nat.le_of_ble_eq_true rfl⟩) hD hS hA (fun r u H locs hp hP hD hS => ?_)
  obtain ⟨c1, c2, c3⟩ := u
  obtain ⟨hP, hD⟩ : va_P G vwCl (wM k ar fi (uF (uF fa 39 (c2)) 40 (c3)) fl) H ∧ va_D A (wM k ar fi (uF (uF fa 39 (c2)) 40 (c3)) fl) := ⟨hP, hD⟩
  obtain ⟨h9, rc1, rc2, rc3, hp3⟩ : r = Int32.ofInt c1 ∧ (inR c1) ∧ (∀ t, inR (c2 t)) ∧ (∀ t, inR (c3 t)) ∧ (brkP c1 (fun q => evR ((fa 10)) (vls ((fa 44)) ((fa 4)) ((fa 5)) 0 ((fi 12)) ((fa 3) 0) a0) ((fa 8) q) ((fa 9) q)) ((fi 13))) := hp
  subst h9
  have hBk4 := hp3
  refine lv_iconst (v := Int32.ofInt (-1)) hx hb dX10_keepsRules_7 (by decide +kernel) ?_
  refine iv_icmp_ne (tgt := 26) hx hb (by omega) (by omega) dX10_keepsRules_8 (by decide) (fun q4 => ?_) (fun q4 => ?_)
  · refine lv_iconst (v := Int32.ofInt 0) hx hb dX10_keepsRules_26 (by decide +kernel) ?_
    exact W.zret (v := Int32.ofInt (0)) hx hb hr (nz_bool (by omega)) (fun t ht hW => ⟨⟨Int32.ofInt (0), (0, c2, c3), rfl, ⟨rfl, (show (inR 0) ∧ (∀ t, inR (c2 t)) ∧ (∀ t, inR (c3 t)) ∧ (KrP 0 (bkI (fun q => evR (fa 10) (vls (fa 44) (fa 4) (fa 5) 0 (fi 12) (fa 3 0) a0) (fa 8 q) (fa 9 q)) (fi 13)) (bkI (fun q => evR (fa 10) (vls (fa 44) (fa 4) (fa 5) 1 (fi 12) (fa 3 0) a0) (fa 8 q) (fa 9 q)) (fi 13))) from ⟨(by omega), rc2, rc3, (by first | exact kr_1 hBk4 hBk15 (by omega) (by omega) rfl | exact kr_a hBk4 (by omega) rfl | exact kr_b hBk15 (by omega) rfl)⟩)⟩, by rw [ht]; exact hP, hD⟩, hS.F ht⟩) hS.2.2 dX10_keepsRules_27
  · refine lv_aload_n hx hb dX10_keepsRules_11 rfl (lv_at hl 0 rfl) ?_
    refine lv_aload_n hx hb dX10_keepsRules_12 rfl (lv_at hl 1 rfl) ?_
    refine lv_iconst (v := Int32.ofInt 1) hx hb dX10_keepsRules_13 (by decide +kernel) ?_
    refine lv_iload_n hx hb dX10_keepsRules_14 rfl (lv_at hl 2 rfl) ?_
    refine cr_i (va_runV (As := [.ref (ar 44), .int (Int32.ofInt (1)), .int (Int32.ofInt (a0))]) (rest := []) ⟨hx, hb, hml, hown, hts⟩ (mX10_brokenBy_44 l G k ar fi (uF (uF fa 39 (c2)) 40 (c3)) fl 1 a0 H.size hR (iG (iG hRa rc2) rc3) (by omega) (by omega) (show 0 ≤ (fi 12) ∧ (fi 12) ≤ 7 from by omega) (show 0 ≤ (fi 13) ∧ (fi 13) ≤ 4 from by omega) (show ∀ q9, 0 ≤ q9 → q9 < (fi 13) → RWf ((fa 10)) ((fa 8) q9) ((fa 9) q9) from by first | exact hRW | omega) (show 1 = 0 ∨ 1 = 1 from by omega)) (cwV 3 hts (gz [.methodLink RX10 380 yX10_brokenBy, .instanceMethod yX10_brokenBy, .selects RX10 yX10_brokenBy yX10_brokenBy, .initialized RX10] (.code yX10_brokenBy cX10_brokenBy 5 (some .int)) [(26, 8), (26, 9), (26, 10), (0, 5), (26, 11)] rfl) rfl rfl rfl (by decide +kernel) ⟨Nat.le_of_ble_eq_true rfl, Nat.le_of_ble_eq_true rfl⟩) (cr_preV (EZ_ok k) hZ hS hX hP hD hA (ci := 7) (q0 := 0) rfl rfl) rfl rfl hl.1 rfl (lv_room (Nat.le_of_ble_eq_true rfl)) dX10_keepsRules_15 ⟨Nat.le_of_ble_eq_true rfl, Nat.le_of_ble_eq_true rfl⟩) hD hS hA (fun r u H locs hp hP hD hS => ?_)
    obtain ⟨c5, c6, c7⟩ := u
    obtain ⟨hP, hD⟩ : va_P G vwCl (wM k ar fi (uF (uF fa 39 (c6)) 40 (c7)) fl) H ∧ va_D A (wM k ar fi (uF (uF fa 39 (c6)) 40 (c7)) fl) := ⟨hP, hD⟩
    obtain ⟨h9, rc5, rc6, rc7, hp7⟩ : r = Int32.ofInt c5 ∧ (inR c5) ∧ (∀ t, inR (c6 t)) ∧ (∀ t, inR (c7 t)) ∧ (brkP c5 (fun q => evR ((fa 10)) (vls ((fa 44)) ((fa 4)) ((fa 5)) 1 ((fi 12)) ((fa 3) 0) a0) ((fa 8) q) ((fa 9) q)) ((fi 13))) := hp
    subst h9
    have hBk15 := hp7
    refine lv_iconst (v := Int32.ofInt (-1)) hx hb dX10_keepsRules_18 (by decide +kernel) ?_
    refine iv_icmp_ne (tgt := 26) hx hb (by omega) (by omega) dX10_keepsRules_19 (by decide) (fun q8 => ?_) (fun q8 => ?_)
    · refine lv_iconst (v := Int32.ofInt 0) hx hb dX10_keepsRules_26 (by decide +kernel) ?_
      exact W.zret (v := Int32.ofInt (0)) hx hb hr (nz_bool (by omega)) (fun t ht hW => ⟨⟨Int32.ofInt (0), (0, c6, c7), rfl, ⟨rfl, (show (inR 0) ∧ (∀ t, inR (c6 t)) ∧ (∀ t, inR (c7 t)) ∧ (KrP 0 (bkI (fun q => evR (fa 10) (vls (fa 44) (fa 4) (fa 5) 0 (fi 12) (fa 3 0) a0) (fa 8 q) (fa 9 q)) (fi 13)) (bkI (fun q => evR (fa 10) (vls (fa 44) (fa 4) (fa 5) 1 (fi 12) (fa 3 0) a0) (fa 8 q) (fa 9 q)) (fi 13))) from ⟨(by omega), rc6, rc7, (by first | exact kr_1 hBk4 hBk15 (by omega) (by omega) rfl | exact kr_a hBk4 (by omega) rfl | exact kr_b hBk15 (by omega) rfl)⟩)⟩, by rw [ht]; exact hP, hD⟩, hS.F ht⟩) hS.2.2 dX10_keepsRules_27
    · refine lv_iconst (v := Int32.ofInt 1) hx hb dX10_keepsRules_22 (by decide +kernel) ?_
      refine lv_goto (tgt := 27) hx hb dX10_keepsRules_23 (by decide) ?_
      exact W.zret (v := Int32.ofInt (1)) hx hb hr (nz_bool (by omega)) (fun t ht hW => ⟨⟨Int32.ofInt (1), (1, c6, c7), rfl, ⟨rfl, (show (inR 1) ∧ (∀ t, inR (c6 t)) ∧ (∀ t, inR (c7 t)) ∧ (KrP 1 (bkI (fun q => evR (fa 10) (vls (fa 44) (fa 4) (fa 5) 0 (fi 12) (fa 3 0) a0) (fa 8 q) (fa 9 q)) (fi 13)) (bkI (fun q => evR (fa 10) (vls (fa 44) (fa 4) (fa 5) 1 (fi 12) (fa 3 0) a0) (fa 8 q) (fa 9 q)) (fi 13))) from ⟨(by omega), rc6, rc7, (by first | exact kr_1 hBk4 hBk15 (by omega) (by omega) rfl | exact kr_a hBk4 (by omega) rfl | exact kr_b hBk15 (by omega) rfl)⟩)⟩, by rw [ht]; exact hP, hD⟩, hS.F ht⟩) hS.2.2 dX10_keepsRules_27

