set_option maxHeartbeats 4000000 in
set_option maxRecDepth 100000 in
theorem mX10_keepsCap_54 (l : Launch) (G : va_G) (k : Nat → ClassId) (ar : Nat → Nat) (fi : Nat → Int) (fa : Nat → Int → Int) (fl : Nat → Int64) (sz : Nat) (hR : ∀ j, inR (fi j)) (hRa : ∀ j t, inR (fa j t)) (hth : 0 ≤ fi 12 ∧ fi 12 ≤ 7) : CNi l G k (EZ k) yX10_keepsCap wzX10_keepsCap ({ frames := 2, cells := 0, slots := 0, locals := 45 }) [.ref (ar 71), .ref (ar 54)] sz (wM k ar fi fa fl) (fun (r0 : Int32) (u : Int) => r0 = Int32.ofInt (u) ∧ (inR u) ∧ ((u = 1 ∧ (gs (lc (fa 54) (fa 5) 0) (fi 12)) ≤ fa 3 2 ∧ (gs (lc (fa 54) (fa 5) 1) (fi 12)) ≤ fa 3 2) ∨ (u = 0 ∧ ¬ ((gs (lc (fa 54) (fa 5) 0) (fi 12)) ≤ fa 3 2 ∧ (gs (lc (fa 54) (fa 5) 1) (fi 12)) ≤ fa 3 2)))) (fun (u : Int) => (wM k ar fi fa fl)) := by
  refine Met.ofW (cc := cX10_keepsCap) (maxL := 2) (ret := (some .boolean)) (by decide) rfl ?_
  intro p e s m args below meth c s₁ B hml hv
  obtain ⟨rfl, hsz, hP, hX, hD0, hZ0⟩ := hv
  have hx := B.exec
  have hb := B.bytes
  have hr := B.returns
  have hts := atoms_spec (ws := wzX10_keepsCap) B.pre
  have hown : s.vm.findClass RX10 = some m.cls := findClass_of_methodNamed B.named
  subst hsz
  have hD := hD0.self (sz := s.heap.size)
  have hZ := hZ0
  generalize hAe : va_A (wM k ar fi fa fl) s.heap.size = A at hD hZ ⊢
  have hA : ∀ q : Nat, s.heap.size ≤ q → A q := fun q h => by rw [← hAe]; exact Or.inr h
  have hS : va_S A s.heap s.heap [] := va_S.rf
  have hl := lv_entry ([.ref (ar 71), .ref (ar 54)]) (n := 2) (Nat.le_of_ble_eq_true rfl)
  rw [lg_entry_eq]
  generalize (lg_sl ([.ref (ar 71), .ref (ar 54)]) ++ List.replicate (2 - (lg_sl ([.ref (ar 71), .ref (ar 54)])).length) Slot.unset).toArray = ls at hl ⊢
  have hl : lv_has ls 2 [(0, .ref (ar 71)), (1, .ref (ar 54))] := hl
  obtain ⟨H, eH⟩ : ∃ H, H = s.heap := ⟨_, rfl⟩
  rw [← eH] at hP
  have hS : va_S A s.heap H [] := by rw [eH]; exact hS
  have gW : s.heap = H := eH.symm
  refine iv_heap gW ?_
  have h0w := hts (.fieldLink RX10 54 "RopeTownModel" "rule" "[I") (wz_at 6 6 rfl)
  have h1w : ∀ w ∈ wsX100, w ∈ wzX10_keepsCap := fun w h => List.mem_cons_of_mem _ (inlX10 w h)
  refine lv_aload_n hx hb dX10_keepsCap_0 rfl (lv_at hl 0 rfl) ?_
  refine lv_aload_n hx hb dX10_keepsCap_1 rfl (lv_at hl 1 rfl) ?_
  refine lv_iconst (v := Int32.ofInt 0) hx hb dX10_keepsCap_2 (by decide +kernel) ?_
  refine cr_i (va_runV (As := [.ref (ar 54), .int (Int32.ofInt (0))]) (rest := []) ⟨hx, hb, hml, hown, hts⟩ (mX10_loadOf_54 l G k ar fi fa fl 0 H.size hR hRa (by omega) (show 0 ≤ (fi 12) ∧ (fi 12) ≤ 7 from by omega) (show 0 = 0 ∨ 0 = 1 from by omega)) (cwV 2 hts (gz [.methodLink RX10 362 yX10_loadOf, .instanceMethod yX10_loadOf, .selects RX10 yX10_loadOf yX10_loadOf, .initialized RX10] (.code yX10_loadOf cX10_loadOf 5 (some .int)) [(26, 0), (26, 1), (26, 2), (0, 5), (26, 3)] rfl) rfl rfl rfl (by decide +kernel) ⟨Nat.le_of_ble_eq_true rfl, Nat.le_of_ble_eq_true rfl⟩) (cr_preV (EZ_ok k) hZ hS hX hP hD hA (ci := 7) (q0 := 0) rfl rfl) rfl rfl hl.1 rfl (lv_room (Nat.le_of_ble_eq_true rfl)) dX10_keepsCap_3 ⟨Nat.le_of_ble_eq_true rfl, Nat.le_of_ble_eq_true rfl⟩) hD hS hA (fun r u H locs hp hP hD hS => ?_)
  obtain ⟨c1, rfl⟩ : ∃ z, z = u := ⟨_, rfl⟩
  obtain ⟨h9, rc1, hp1⟩ : r = Int32.ofInt c1 ∧ (inR c1) ∧ (c1 = (gs (lc ((fa 54)) ((fa 5)) 0) ((fi 12)))) := hp
  subst h9
  have hLd3 := hp1
  refine lv_aload_n hx hb dX10_keepsCap_6 rfl (lv_at hl 0 rfl) ?_
  refine va_get (D := G) (ci := 7) (v := .ref (ar 3)) (C := RX10) (T := TX10) (N := 71) (ref := RX10) hx hb hts h1w hown hX.1 hP 0 rfl rfl 3 (by decide) h0w (fun _ h9 => h9) rfl dX10_keepsCap_7 ?_
  refine lv_iconst (v := Int32.ofInt 2) hx hb dX10_keepsCap_10 (by decide +kernel) ?_
  refine iv_iald hx hb hX.1 hP 1 0 rfl rfl (by omega) (by omega) (by decide) dX10_keepsCap_11 ?_
  refine iv_top (fun z2 ez2 => ?_)
  have rz2 : inR z2 := ez2 ▸ (hRa 3) _
  have ez2 : z2 = (fa 3) 2 := ez2
  refine iv_icmp_gt (tgt := 34) hx hb (by omega) (by omega) dX10_keepsCap_12 (by decide) (fun q3 => ?_) (fun q3 => ?_)
  · refine lv_iconst (v := Int32.ofInt 0) hx hb dX10_keepsCap_34 (by decide +kernel) ?_
    exact W.zret (v := Int32.ofInt (0)) hx hb hr (nz_bool (by omega)) (fun t ht hW => ⟨⟨Int32.ofInt (0), (0), rfl, ⟨rfl, (show (inR 0) ∧ ((0 = 1 ∧ (gs (lc (fa 54) (fa 5) 0) (fi 12)) ≤ fa 3 2 ∧ (gs (lc (fa 54) (fa 5) 1) (fi 12)) ≤ fa 3 2) ∨ (0 = 0 ∧ ¬ ((gs (lc (fa 54) (fa 5) 0) (fi 12)) ≤ fa 3 2 ∧ (gs (lc (fa 54) (fa 5) 1) (fi 12)) ≤ fa 3 2))) from ⟨(by omega), (by omega)⟩)⟩, by rw [ht]; exact hP, hD⟩, hS.F ht⟩) hS.2.2 dX10_keepsCap_35
  · refine lv_aload_n hx hb dX10_keepsCap_15 rfl (lv_at hl 0 rfl) ?_
    refine lv_aload_n hx hb dX10_keepsCap_16 rfl (lv_at hl 1 rfl) ?_
    refine lv_iconst (v := Int32.ofInt 1) hx hb dX10_keepsCap_17 (by decide +kernel) ?_
    refine cr_i (va_runV (As := [.ref (ar 54), .int (Int32.ofInt (1))]) (rest := []) ⟨hx, hb, hml, hown, hts⟩ (mX10_loadOf_54 l G k ar fi fa fl 1 H.size hR hRa (by omega) (show 0 ≤ (fi 12) ∧ (fi 12) ≤ 7 from by omega) (show 1 = 0 ∨ 1 = 1 from by omega)) (cwV 2 hts (gz [.methodLink RX10 362 yX10_loadOf, .instanceMethod yX10_loadOf, .selects RX10 yX10_loadOf yX10_loadOf, .initialized RX10] (.code yX10_loadOf cX10_loadOf 5 (some .int)) [(26, 0), (26, 1), (26, 2), (0, 5), (26, 3)] rfl) rfl rfl rfl (by decide +kernel) ⟨Nat.le_of_ble_eq_true rfl, Nat.le_of_ble_eq_true rfl⟩) (cr_preV (EZ_ok k) hZ hS hX hP hD hA (ci := 7) (q0 := 0) rfl rfl) rfl rfl hl.1 rfl (lv_room (Nat.le_of_ble_eq_true rfl)) dX10_keepsCap_18 ⟨Nat.le_of_ble_eq_true rfl, Nat.le_of_ble_eq_true rfl⟩) hD hS hA (fun r u H locs hp hP hD hS => ?_)
    obtain ⟨c4, rfl⟩ : ∃ z, z = u := ⟨_, rfl⟩
    obtain ⟨h9, rc4, hp4⟩ : r = Int32.ofInt c4 ∧ (inR c4) ∧ (c4 = (gs (lc ((fa 54)) ((fa 5)) 1) ((fi 12)))) := hp
    subst h9
    have hLd18 := hp4
    refine lv_aload_n hx hb dX10_keepsCap_21 rfl (lv_at hl 0 rfl) ?_
    refine va_get (D := G) (ci := 7) (v := .ref (ar 3)) (C := RX10) (T := TX10) (N := 71) (ref := RX10) hx hb hts h1w hown hX.1 hP 0 rfl rfl 3 (by decide) h0w (fun _ h9 => h9) rfl dX10_keepsCap_22 ?_
    refine lv_iconst (v := Int32.ofInt 2) hx hb dX10_keepsCap_25 (by decide +kernel) ?_
    refine iv_iald hx hb hX.1 hP 1 0 rfl rfl (by omega) (by omega) (by decide) dX10_keepsCap_26 ?_
    refine iv_top (fun z5 ez5 => ?_)
    have rz5 : inR z5 := ez5 ▸ (hRa 3) _
    have ez5 : z5 = (fa 3) 2 := ez5
    refine iv_icmp_gt (tgt := 34) hx hb (by omega) (by omega) dX10_keepsCap_27 (by decide) (fun q6 => ?_) (fun q6 => ?_)
    · refine lv_iconst (v := Int32.ofInt 0) hx hb dX10_keepsCap_34 (by decide +kernel) ?_
      exact W.zret (v := Int32.ofInt (0)) hx hb hr (nz_bool (by omega)) (fun t ht hW => ⟨⟨Int32.ofInt (0), (0), rfl, ⟨rfl, (show (inR 0) ∧ ((0 = 1 ∧ (gs (lc (fa 54) (fa 5) 0) (fi 12)) ≤ fa 3 2 ∧ (gs (lc (fa 54) (fa 5) 1) (fi 12)) ≤ fa 3 2) ∨ (0 = 0 ∧ ¬ ((gs (lc (fa 54) (fa 5) 0) (fi 12)) ≤ fa 3 2 ∧ (gs (lc (fa 54) (fa 5) 1) (fi 12)) ≤ fa 3 2))) from ⟨(by omega), (by omega)⟩)⟩, by rw [ht]; exact hP, hD⟩, hS.F ht⟩) hS.2.2 dX10_keepsCap_35
    · refine lv_iconst (v := Int32.ofInt 1) hx hb dX10_keepsCap_30 (by decide +kernel) ?_
      refine lv_goto (tgt := 35) hx hb dX10_keepsCap_31 (by decide) ?_
      exact W.zret (v := Int32.ofInt (1)) hx hb hr (nz_bool (by omega)) (fun t ht hW => ⟨⟨Int32.ofInt (1), (1), rfl, ⟨rfl, (show (inR 1) ∧ ((1 = 1 ∧ (gs (lc (fa 54) (fa 5) 0) (fi 12)) ≤ fa 3 2 ∧ (gs (lc (fa 54) (fa 5) 1) (fi 12)) ≤ fa 3 2) ∨ (1 = 0 ∧ ¬ ((gs (lc (fa 54) (fa 5) 0) (fi 12)) ≤ fa 3 2 ∧ (gs (lc (fa 54) (fa 5) 1) (fi 12)) ≤ fa 3 2))) from ⟨(by omega), (by omega)⟩)⟩, by rw [ht]; exact hP, hD⟩, hS.F ht⟩) hS.2.2 dX10_keepsCap_35

set_option maxHeartbeats 4000000 in
set_option maxRecDepth 100000 in
theorem mX10_keepsRules_54 (l : Launch) (G : va_G) (k : Nat → ClassId) (ar : Nat → Nat) (fi : Nat → Int) (fa : Nat → Int → Int) (fl : Nat → Int64) (a0 : Int) (sz : Nat) (hR : ∀ j, inR (fi j)) (hRa : ∀ j t, inR (fa j t)) (hr_a0 : inR a0) (hth : 0 ≤ fi 12 ∧ fi 12 ≤ 7) (hru : 0 ≤ fi 13 ∧ fi 13 ≤ 4) (hRW : ∀ q9, 0 ≤ q9 → q9 < fi 13 → RWf (fa 10) (fa 8 q9) (fa 9 q9)) : CNi l G k (EZ k) yX10_keepsRules wzX10_keepsRules ({ frames := 3, cells := 0, slots := 0, locals := 70 }) [.ref (ar 71), .ref (ar 54), .int (Int32.ofInt (a0))] sz (wM k ar fi fa fl) (fun (r0 : Int32) (u : Int × (Int → Int) × (Int → Int)) => r0 = Int32.ofInt (u.1) ∧ (inR u.1) ∧ (∀ t, inR (u.2.1 t)) ∧ (∀ t, inR (u.2.2 t)) ∧ (KrP u.1 (bkI (fun q => evR (fa 10) (vls (fa 54) (fa 4) (fa 5) 0 (fi 12) (fa 3 0) a0) (fa 8 q) (fa 9 q)) (fi 13)) (bkI (fun q => evR (fa 10) (vls (fa 54) (fa 4) (fa 5) 1 (fi 12) (fa 3 0) a0) (fa 8 q) (fa 9 q)) (fi 13)))) (fun (u : Int × (Int → Int) × (Int → Int)) => (wM k ar fi (uF (uF fa 39 (u.2.1)) 40 (u.2.2)) fl)) := by
  refine Met.ofW (cc := cX10_keepsRules) (maxL := 3) (ret := (some .boolean)) (by decide) rfl ?_
  intro p e s m args below meth c s₁ B hml hv
  obtain ⟨rfl, hsz, hP, hX, hD0, hZ0⟩ := hv
  have hx := B.exec
  have hb := B.bytes
  have hr := B.returns
  have hts := atoms_spec (ws := wzX10_keepsRules) B.pre
  have hown : s.vm.findClass RX10 = some m.cls := findClass_of_methodNamed B.named
  subst hsz
  have hD := hD0.self (sz := s.heap.size)
  have hZ := hZ0
  generalize hAe : va_A (wM k ar fi fa fl) s.heap.size = A at hD hZ ⊢
  have hA : ∀ q : Nat, s.heap.size ≤ q → A q := fun q h => by rw [← hAe]; exact Or.inr h
  have hS : va_S A s.heap s.heap [] := va_S.rf
  have hl := lv_entry ([.ref (ar 71), .ref (ar 54), .int (Int32.ofInt (a0))]) (n := 3) (Nat.le_of_ble_eq_true rfl)
  rw [lg_entry_eq]
  generalize (lg_sl ([.ref (ar 71), .ref (ar 54), .int (Int32.ofInt (a0))]) ++ List.replicate (3 - (lg_sl ([.ref (ar 71), .ref (ar 54), .int (Int32.ofInt (a0))])).length) Slot.unset).toArray = ls at hl ⊢
  have hl : lv_has ls 3 [(0, .ref (ar 71)), (1, .ref (ar 54)), (2, .int (Int32.ofInt (a0)))] := hl
  obtain ⟨H, eH⟩ : ∃ H, H = s.heap := ⟨_, rfl⟩
  rw [← eH] at hP
  have hS : va_S A s.heap H [] := by rw [eH]; exact hS
  have gW : s.heap = H := eH.symm
  refine iv_heap gW ?_
  refine lv_aload_n hx hb dX10_keepsRules_0 rfl (lv_at hl 0 rfl) ?_
  refine lv_aload_n hx hb dX10_keepsRules_1 rfl (lv_at hl 1 rfl) ?_
  refine lv_iconst (v := Int32.ofInt 0) hx hb dX10_keepsRules_2 (by decide +kernel) ?_
  refine lv_iload_n hx hb dX10_keepsRules_3 rfl (lv_at hl 2 rfl) ?_
  refine cr_i (va_runV (As := [.ref (ar 54), .int (Int32.ofInt (0)), .int (Int32.ofInt (a0))]) (rest := []) ⟨hx, hb, hml, hown, hts⟩ (mX10_brokenBy_54 l G k ar fi fa fl 0 a0 H.size hR hRa (by omega) (by omega) (show 0 ≤ (fi 12) ∧ (fi 12) ≤ 7 from by omega) (show 0 ≤ (fi 13) ∧ (fi 13) ≤ 4 from by omega) (show ∀ q9, 0 ≤ q9 → q9 < (fi 13) → RWf ((fa 10)) ((fa 8) q9) ((fa 9) q9) from by first | exact hRW | omega) (show 0 = 0 ∨ 0 = 1 from by omega)) (cwV 3 hts (gz [.methodLink RX10 380 yX10_brokenBy, .instanceMethod yX10_brokenBy, .selects RX10 yX10_brokenBy yX10_brokenBy, .initialized RX10] (.code yX10_brokenBy cX10_brokenBy 5 (some .int)) [(26, 8), (26, 9), (26, 10), (0, 5), (26, 11)] rfl) rfl rfl rfl (by decide +kernel) ⟨Nat.le_of_ble_eq_true rfl, Nat.le_of_ble_eq_true rfl⟩) (cr_preV (EZ_ok k) hZ hS hX hP hD hA (ci := 7) (q0 := 0) rfl rfl) rfl rfl hl.1 rfl (lv_room (Nat.le_of_ble_eq_true rfl)) dX10_keepsRules_4 ⟨Nat.le_of_ble_eq_true rfl, Nat.le_of_ble_eq_true rfl⟩) hD hS hA (fun r u H locs hp hP hD hS => ?_)
  obtain ⟨c1, c2, c3⟩ := u
  obtain ⟨hP, hD⟩ : va_P G vwCl (wM k ar fi (uF (uF fa 39 (c2)) 40 (c3)) fl) H ∧ va_D A (wM k ar fi (uF (uF fa 39 (c2)) 40 (c3)) fl) := ⟨hP, hD⟩
  obtain ⟨h9, rc1, rc2, rc3, hp3⟩ : r = Int32.ofInt c1 ∧ (inR c1) ∧ (∀ t, inR (c2 t)) ∧ (∀ t, inR (c3 t)) ∧ (brkP c1 (fun q => evR ((fa 10)) (vls ((fa 54)) ((fa 4)) ((fa 5)) 0 ((fi 12)) ((fa 3) 0) a0) ((fa 8) q) ((fa 9) q)) ((fi 13))) := hp
  subst h9
  have hBk4 := hp3
  refine lv_iconst (v := Int32.ofInt (-1)) hx hb dX10_keepsRules_7 (by decide +kernel) ?_
  refine iv_icmp_ne (tgt := 26) hx hb (by omega) (by omega) dX10_keepsRules_8 (by decide) (fun q4 => ?_) (fun q4 => ?_)
  · refine lv_iconst (v := Int32.ofInt 0) hx hb dX10_keepsRules_26 (by decide +kernel) ?_
    exact W.zret (v := Int32.ofInt (0)) hx hb hr (nz_bool (by omega)) (fun t ht hW => ⟨⟨Int32.ofInt (0), (0, c2, c3), rfl, ⟨rfl, (show (inR 0) ∧ (∀ t, inR (c2 t)) ∧ (∀ t, inR (c3 t)) ∧ (KrP 0 (bkI (fun q => evR (fa 10) (vls (fa 54) (fa 4) (fa 5) 0 (fi 12) (fa 3 0) a0) (fa 8 q) (fa 9 q)) (fi 13)) (bkI (fun q => evR (fa 10) (vls (fa 54) (fa 4) (fa 5) 1 (fi 12) (fa 3 0) a0) (fa 8 q) (fa 9 q)) (fi 13))) from ⟨(by omega), rc2, rc3, (by first | exact kr_1 hBk4 hBk15 (by omega) (by omega) rfl | exact kr_a hBk4 (by omega) rfl | exact kr_b hBk15 (by omega) rfl)⟩)⟩, by rw [ht]; exact hP, hD⟩, hS.F ht⟩) hS.2.2 dX10_keepsRules_27
  · refine lv_aload_n hx hb dX10_keepsRules_11 rfl (lv_at hl 0 rfl) ?_
    refine lv_aload_n hx hb dX10_keepsRules_12 rfl (lv_at hl 1 rfl) ?_
    refine lv_iconst (v := Int32.ofInt 1) hx hb dX10_keepsRules_13 (by decide +kernel) ?_
    refine lv_iload_n hx hb dX10_keepsRules_14 rfl (lv_at hl 2 rfl) ?_
    refine cr_i (va_runV (As := [.ref (ar 54), .int (Int32.ofInt (1)), .int (Int32.ofInt (a0))]) (rest := []) ⟨hx, hb, hml, hown, hts⟩ (mX10_brokenBy_54 l G k ar fi (uF (uF fa 39 (c2)) 40 (c3)) fl 1 a0 H.size hR (iG (iG hRa rc2) rc3) (by omega) (by omega) (show 0 ≤ (fi 12) ∧ (fi 12) ≤ 7 from by omega) (show 0 ≤ (fi 13) ∧ (fi 13) ≤ 4 from by omega) (show ∀ q9, 0 ≤ q9 → q9 < (fi 13) → RWf ((fa 10)) ((fa 8) q9) ((fa 9) q9) from by first | exact hRW | omega) (show 1 = 0 ∨ 1 = 1 from by omega)) (cwV 3 hts (gz [.methodLink RX10 380 yX10_brokenBy, .instanceMethod yX10_brokenBy, .selects RX10 yX10_brokenBy yX10_brokenBy, .initialized RX10] (.code yX10_brokenBy cX10_brokenBy 5 (some .int)) [(26, 8), (26, 9), (26, 10), (0, 5), (26, 11)] rfl) rfl rfl rfl (by decide +kernel) ⟨Nat.le_of_ble_eq_true rfl, Nat.le_of_ble_eq_true rfl⟩) (cr_preV (EZ_ok k) hZ hS hX hP hD hA (ci := 7) (q0 := 0) rfl rfl) rfl rfl hl.1 rfl (lv_room (Nat.le_of_ble_eq_true rfl)) dX10_keepsRules_15 ⟨Nat.le_of_ble_eq_true rfl, Nat.le_of_ble_eq_true rfl⟩) hD hS hA (fun r u H locs hp hP hD hS => ?_)
    obtain ⟨c5, c6, c7⟩ := u
    obtain ⟨hP, hD⟩ : va_P G vwCl (wM k ar fi (uF (uF fa 39 (c6)) 40 (c7)) fl) H ∧ va_D A (wM k ar fi (uF (uF fa 39 (c6)) 40 (c7)) fl) := ⟨hP, hD⟩
    obtain ⟨h9, rc5, rc6, rc7, hp7⟩ : r = Int32.ofInt c5 ∧ (inR c5) ∧ (∀ t, inR (c6 t)) ∧ (∀ t, inR (c7 t)) ∧ (brkP c5 (fun q => evR ((fa 10)) (vls ((fa 54)) ((fa 4)) ((fa 5)) 1 ((fi 12)) ((fa 3) 0) a0) ((fa 8) q) ((fa 9) q)) ((fi 13))) := hp
    subst h9
    have hBk15 := hp7
    refine lv_iconst (v := Int32.ofInt (-1)) hx hb dX10_keepsRules_18 (by decide +kernel) ?_
    refine iv_icmp_ne (tgt := 26) hx hb (by omega) (by omega) dX10_keepsRules_19 (by decide) (fun q8 => ?_) (fun q8 => ?_)
    · refine lv_iconst (v := Int32.ofInt 0) hx hb dX10_keepsRules_26 (by decide +kernel) ?_
      exact W.zret (v := Int32.ofInt (0)) hx hb hr (nz_bool (by omega)) (fun t ht hW => ⟨⟨Int32.ofInt (0), (0, c6, c7), rfl, ⟨rfl, (show (inR 0) ∧ (∀ t, inR (c6 t)) ∧ (∀ t, inR (c7 t)) ∧ (KrP 0 (bkI (fun q => evR (fa 10) (vls (fa 54) (fa 4) (fa 5) 0 (fi 12) (fa 3 0) a0) (fa 8 q) (fa 9 q)) (fi 13)) (bkI (fun q => evR (fa 10) (vls (fa 54) (fa 4) (fa 5) 1 (fi 12) (fa 3 0) a0) (fa 8 q) (fa 9 q)) (fi 13))) from ⟨(by omega), rc6, rc7, (by first | exact kr_1 hBk4 hBk15 (by omega) (by omega) rfl | exact kr_a hBk4 (by omega) rfl | exact kr_b hBk15 (by omega) rfl)⟩)⟩, by rw [ht]; exact hP, hD⟩, hS.F ht⟩) hS.2.2 dX10_keepsRules_27
    · refine lv_iconst (v := Int32.ofInt 1) hx hb dX10_keepsRules_22 (by decide +kernel) ?_
      refine lv_goto (tgt := 27) hx hb dX10_keepsRules_23 (by decide) ?_
      exact W.zret (v := Int32.ofInt (1)) hx hb hr (nz_bool (by omega)) (fun t ht hW => ⟨⟨Int32.ofInt (1), (1, c6, c7), rfl, ⟨rfl, (show (inR 1) ∧ (∀ t, inR (c6 t)) ∧ (∀ t, inR (c7 t)) ∧ (KrP 1 (bkI (fun q => evR (fa 10) (vls (fa 54) (fa 4) (fa 5) 0 (fi 12) (fa 3 0) a0) (fa 8 q) (fa 9 q)) (fi 13)) (bkI (fun q => evR (fa 10) (vls (fa 54) (fa 4) (fa 5) 1 (fi 12) (fa 3 0) a0) (fa 8 q) (fa 9 q)) (fi 13))) from ⟨(by omega), rc6, rc7, (by first | exact kr_1 hBk4 hBk15 (by omega) (by omega) rfl | exact kr_a hBk4 (by omega) rfl | exact kr_b hBk15 (by omega) rfl)⟩)⟩, by rw [ht]; exact hP, hD⟩, hS.F ht⟩) hS.2.2 dX10_keepsRules_27

set_option maxHeartbeats 4000000 in
set_option maxRecDepth 100000 in
theorem mX10_swing (l : Launch) (G : va_G) (k : Nat → ClassId) (ar : Nat → Nat) (fi : Nat → Int) (fa : Nat → Int → Int) (fl : Nat → Int64) (w0 : Int) (sz : Nat) (hR : ∀ j, inR (fi j)) (hRa : ∀ j t, inR (fa j t)) (hr_w0 : inR w0) : CNi l G k (EZ k) yX10_swing wzX10_swing ({ frames := 0, cells := 0, slots := 0, locals := 0 }) [.ref (ar 71), .int (Int32.ofInt (w0))] sz (wM k ar fi fa fl) (fun (r0 : Int32) (u : Int) => r0 = Int32.ofInt (u) ∧ (inR u) ∧ (u = swM w0 (fi 41) (fi 42) (fa 3 4) (fa 3 5) (fa 3 6))) (fun (u : Int) => (wM k ar fi fa fl)) := by
  refine Met.ofW (cc := cX10_swing) (maxL := 2) (ret := (some .int)) (by decide) rfl ?_
  intro p e s m args below meth c s₁ B hml hv
  obtain ⟨rfl, hsz, hP, hX, hD0, hZ0⟩ := hv
  have hx := B.exec
  have hb := B.bytes
  have hr := B.returns
  have hts := atoms_spec (ws := wzX10_swing) B.pre
  have hown : s.vm.findClass RX10 = some m.cls := findClass_of_methodNamed B.named
  subst hsz
  have hD := hD0.self (sz := s.heap.size)
  have hZ := hZ0
  generalize hAe : va_A (wM k ar fi fa fl) s.heap.size = A at hD hZ ⊢
  have hA : ∀ q : Nat, s.heap.size ≤ q → A q := fun q h => by rw [← hAe]; exact Or.inr h
  have hS : va_S A s.heap s.heap [] := va_S.rf
  have hl := lv_entry ([.ref (ar 71), .int (Int32.ofInt (w0))]) (n := 2) (Nat.le_of_ble_eq_true rfl)
  rw [lg_entry_eq]
  generalize (lg_sl ([.ref (ar 71), .int (Int32.ofInt (w0))]) ++ List.replicate (2 - (lg_sl ([.ref (ar 71), .int (Int32.ofInt (w0))])).length) Slot.unset).toArray = ls at hl ⊢
  have hl : lv_has ls 2 [(0, .ref (ar 71)), (1, .int (Int32.ofInt (w0)))] := hl
  obtain ⟨H, eH⟩ : ∃ H, H = s.heap := ⟨_, rfl⟩
  rw [← eH] at hP
  have hS : va_S A s.heap H [] := by rw [eH]; exact hS
  have gW : s.heap = H := eH.symm
  refine iv_heap gW ?_
  have h0w := hts (.fieldLink RX10 384 "RopeTownModel" "leastExcess" "I") (wz_at 31 0 rfl)
  have h1w : ∀ w ∈ wsX100, w ∈ wzX10_swing := fun w h => List.mem_cons_of_mem _ (inlX10 w h)
  have h2w := hts (.fieldLink RX10 54 "RopeTownModel" "rule" "[I") (wz_at 6 6 rfl)
  have h3w := hts (.fieldLink RX10 388 "RopeTownModel" "mostExcess" "I") (wz_at 31 2 rfl)
  refine lv_iload_n hx hb dX10_swing_0 rfl (lv_at hl 1 rfl) ?_
  refine lv_iconst (v := Int32.ofInt 2) hx hb dX10_swing_1 (by decide +kernel) ?_
  refine iv_icmp_ne (tgt := 7) hx hb (by omega) (by omega) dX10_swing_2 (by decide) (fun q1 => ?_) (fun q1 => ?_)
  · refine lv_aload_n hx hb dX10_swing_7 rfl (lv_at hl 0 rfl) ?_
    refine va_get (D := G) (ci := 7) (v := .int (Int32.ofInt (fi 41))) (C := RX10) (T := TX10) (N := 71) (ref := RX10) hx hb hts h1w hown hX.1 hP 0 rfl rfl 41 (by decide) h0w (fun _ h9 => h9) rfl dX10_swing_8 ?_
    have rf41 := hR 41
    refine lv_aload_n hx hb dX10_swing_11 rfl (lv_at hl 0 rfl) ?_
    refine va_get (D := G) (ci := 7) (v := .ref (ar 3)) (C := RX10) (T := TX10) (N := 71) (ref := RX10) hx hb hts h1w hown hX.1 hP 0 rfl rfl 3 (by decide) h2w (fun _ h9 => h9) rfl dX10_swing_12 ?_
    refine lv_iconst (v := Int32.ofInt 4) hx hb dX10_swing_15 (by decide +kernel) ?_
    refine iv_iald hx hb hX.1 hP 1 0 rfl rfl (by omega) (by omega) (by decide) dX10_swing_16 ?_
    refine iv_top (fun z2 ez2 => ?_)
    have rz2 : inR z2 := ez2 ▸ (hRa 3) _
    have ez2 : z2 = (fa 3) 4 := ez2
    refine iv_icmp_ge (tgt := 25) hx hb (by omega) (by omega) dX10_swing_17 (by decide) (fun q3 => ?_) (fun q3 => ?_)
    · refine lv_aload_n hx hb dX10_swing_25 rfl (lv_at hl 0 rfl) ?_
      refine va_get (D := G) (ci := 7) (v := .int (Int32.ofInt (fi 42))) (C := RX10) (T := TX10) (N := 71) (ref := RX10) hx hb hts h1w hown hX.1 hP 0 rfl rfl 42 (by decide) h3w (fun _ h9 => h9) rfl dX10_swing_26 ?_
      have rf42 := hR 42
      refine lv_aload_n hx hb dX10_swing_29 rfl (lv_at hl 0 rfl) ?_
      refine va_get (D := G) (ci := 7) (v := .ref (ar 3)) (C := RX10) (T := TX10) (N := 71) (ref := RX10) hx hb hts h1w hown hX.1 hP 0 rfl rfl 3 (by decide) h2w (fun _ h9 => h9) rfl dX10_swing_30 ?_
      refine lv_iconst (v := Int32.ofInt 5) hx hb dX10_swing_33 (by decide +kernel) ?_
      refine iv_iald hx hb hX.1 hP 1 0 rfl rfl (by omega) (by omega) (by decide) dX10_swing_34 ?_
      refine iv_top (fun z4 ez4 => ?_)
      have rz4 : inR z4 := ez4 ▸ (hRa 3) _
      have ez4 : z4 = (fa 3) 5 := ez4
      refine lv_iload_n hx hb dX10_swing_35 rfl (lv_at hl 1 rfl) ?_
      refine lv_iconst (v := Int32.ofInt 1) hx hb dX10_swing_36 (by decide +kernel) ?_
      refine iv_icmp_ne (tgt := 50) hx hb (by omega) (by omega) dX10_swing_37 (by decide) (fun q5 => ?_) (fun q5 => ?_)
      · refine lv_iconst (v := Int32.ofInt 0) hx hb dX10_swing_50 (by decide +kernel) ?_
        refine iv_add (x := z4) (y := 0) hx hb dX10_swing_51 ?_
        refine iv_wr ?_
        refine iv_top (fun z6 ez6 => ?_)
        have rz6 : inR z6 := ez6 ▸ bWr_r _
        have hz5 := ez6
        refine iv_icmp_le (tgt := 60) hx hb (by omega) (by omega) dX10_swing_52 (by decide) (fun q7 => ?_) (fun q7 => ?_)
        · refine lv_iconst (v := Int32.ofInt 0) hx hb dX10_swing_60 (by decide +kernel) ?_
          exact W.iret (v := Int32.ofInt (0)) hx hb hr (fun t ht hW => ⟨⟨Int32.ofInt (0), (0), rfl, ⟨rfl, (show (inR 0) ∧ (0 = swM w0 (fi 41) (fi 42) (fa 3 4) (fa 3 5) (fa 3 6)) from ⟨(by omega), (by first | exact sw_2 (by omega) rfl | exact sw_6 (by omega) (by omega) rfl | exact sw_z (by omega) (by omega) hz5 (by omega) (by omega) (by omega))⟩)⟩, by rw [ht]; exact hP, hD⟩, hS.F ht⟩) hS.2.2 dX10_swing_61
        · refine lv_bipush (v := Int32.ofInt 7) hx hb dX10_swing_55 (by decide +kernel) ?_
          refine lv_goto (tgt := 61) hx hb dX10_swing_57 (by decide) ?_
          exact W.iret (v := Int32.ofInt (7)) hx hb hr (fun t ht hW => ⟨⟨Int32.ofInt (7), (7), rfl, ⟨rfl, (show (inR 7) ∧ (7 = swM w0 (fi 41) (fi 42) (fa 3 4) (fa 3 5) (fa 3 6)) from ⟨(by omega), (by first | exact sw_2 (by omega) rfl | exact sw_6 (by omega) (by omega) rfl | exact sw_z (by omega) (by omega) hz5 (by omega) (by omega) (by omega))⟩)⟩, by rw [ht]; exact hP, hD⟩, hS.F ht⟩) hS.2.2 dX10_swing_61
      · refine lv_aload_n hx hb dX10_swing_40 rfl (lv_at hl 0 rfl) ?_
        refine va_get (D := G) (ci := 7) (v := .ref (ar 3)) (C := RX10) (T := TX10) (N := 71) (ref := RX10) hx hb hts h1w hown hX.1 hP 0 rfl rfl 3 (by decide) h2w (fun _ h9 => h9) rfl dX10_swing_41 ?_
        refine lv_bipush (v := Int32.ofInt 6) hx hb dX10_swing_44 (by decide +kernel) ?_
        refine iv_iald hx hb hX.1 hP 1 0 rfl rfl (by omega) (by omega) (by decide) dX10_swing_46 ?_
        refine iv_top (fun z8 ez8 => ?_)
        have rz8 : inR z8 := ez8 ▸ (hRa 3) _
        have ez8 : z8 = (fa 3) 6 := ez8
        refine lv_goto (tgt := 51) hx hb dX10_swing_47 (by decide) ?_
        refine iv_add (x := z4) (y := z8) hx hb dX10_swing_51 ?_
        refine iv_wr ?_
        refine iv_top (fun z9 ez9 => ?_)
        have rz9 : inR z9 := ez9 ▸ bWr_r _
        have hz5 := ez9
        refine iv_icmp_le (tgt := 60) hx hb (by omega) (by omega) dX10_swing_52 (by decide) (fun q10 => ?_) (fun q10 => ?_)
        · refine lv_iconst (v := Int32.ofInt 0) hx hb dX10_swing_60 (by decide +kernel) ?_
          exact W.iret (v := Int32.ofInt (0)) hx hb hr (fun t ht hW => ⟨⟨Int32.ofInt (0), (0), rfl, ⟨rfl, (show (inR 0) ∧ (0 = swM w0 (fi 41) (fi 42) (fa 3 4) (fa 3 5) (fa 3 6)) from ⟨(by omega), (by first | exact sw_2 (by omega) rfl | exact sw_6 (by omega) (by omega) rfl | exact sw_z (by omega) (by omega) hz5 (by omega) (by omega) (by omega))⟩)⟩, by rw [ht]; exact hP, hD⟩, hS.F ht⟩) hS.2.2 dX10_swing_61
        · refine lv_bipush (v := Int32.ofInt 7) hx hb dX10_swing_55 (by decide +kernel) ?_
          refine lv_goto (tgt := 61) hx hb dX10_swing_57 (by decide) ?_
          exact W.iret (v := Int32.ofInt (7)) hx hb hr (fun t ht hW => ⟨⟨Int32.ofInt (7), (7), rfl, ⟨rfl, (show (inR 7) ∧ (7 = swM w0 (fi 41) (fi 42) (fa 3 4) (fa 3 5) (fa 3 6)) from ⟨(by omega), (by first | exact sw_2 (by omega) rfl | exact sw_6 (by omega) (by omega) rfl | exact sw_z (by omega) (by omega) hz5 (by omega) (by omega) (by omega))⟩)⟩, by rw [ht]; exact hP, hD⟩, hS.F ht⟩) hS.2.2 dX10_swing_61
    · refine lv_bipush (v := Int32.ofInt 6) hx hb dX10_swing_20 (by decide +kernel) ?_
      refine lv_goto (tgt := 61) hx hb dX10_swing_22 (by decide) ?_
      exact W.iret (v := Int32.ofInt (6)) hx hb hr (fun t ht hW => ⟨⟨Int32.ofInt (6), (6), rfl, ⟨rfl, (show (inR 6) ∧ (6 = swM w0 (fi 41) (fi 42) (fa 3 4) (fa 3 5) (fa 3 6)) from ⟨(by omega), (by first | exact sw_2 (by omega) rfl | exact sw_6 (by omega) (by omega) rfl | exact sw_z (by omega) (by omega) hz5 (by omega) (by omega) (by omega))⟩)⟩, by rw [ht]; exact hP, hD⟩, hS.F ht⟩) hS.2.2 dX10_swing_61
  · refine lv_iconst (v := Int32.ofInt 0) hx hb dX10_swing_5 (by decide +kernel) ?_
    exact W.iret (v := Int32.ofInt (0)) hx hb hr (fun t ht hW => ⟨⟨Int32.ofInt (0), (0), rfl, ⟨rfl, (show (inR 0) ∧ (0 = swM w0 (fi 41) (fi 42) (fa 3 4) (fa 3 5) (fa 3 6)) from ⟨(by omega), (by first | exact sw_2 (by omega) rfl | exact sw_6 (by omega) (by omega) rfl | exact sw_z (by omega) (by omega) hz5 (by omega) (by omega) (by omega))⟩)⟩, by rw [ht]; exact hP, hD⟩, hS.F ht⟩) hS.2.2 dX10_swing_6

set_option maxHeartbeats 4000000 in
set_option maxRecDepth 100000 in
theorem mX10_rideTrouble (l : Launch) (G : va_G) (k : Nat → ClassId) (ar : Nat → Nat) (fi : Nat → Int) (fa : Nat → Int → Int) (fl : Nat → Int64) (d0 : Int) (w0 : Int) (sz : Nat) (hR : ∀ j, inR (fi j)) (hRa : ∀ j t, inR (fa j t)) (hr_d0 : inR d0) (hr_w0 : inR w0) (hth : 0 ≤ fi 12 ∧ fi 12 ≤ 7) (hru : 0 ≤ fi 13 ∧ fi 13 ≤ 4) (hRW : ∀ q9, 0 ≤ q9 → q9 < fi 13 → RWf (fa 10) (fa 8 q9) (fa 9 q9)) (hmv : 0 ≤ fi 29 ∧ fi 29 ≤ 60) (hpb : 0 ≤ fa 3 4 ∧ fa 3 4 ≤ 99 ∧ 0 ≤ fa 3 5 ∧ fa 3 5 ≤ 999 ∧ 0 ≤ fa 3 6 ∧ fa 3 6 ≤ 999) : CNi l G k (EZ k) yX10_rideTrouble wzX10_rideTrouble ({ frames := 4, cells := 0, slots := 0, locals := 95 }) [.ref (ar 71), .int (Int32.ofInt (d0)), .int (Int32.ofInt (w0))] sz (wM k ar fi fa fl) (fun (r0 : Int32) (u : Int × (Int → Int) × (Int → Int) × Int × Int × Int) => r0 = Int32.ofInt (u.1) ∧ (inR u.1) ∧ (∀ t, inR (u.2.1 t)) ∧ (∀ t, inR (u.2.2.1 t)) ∧ (inR u.2.2.2.1) ∧ (inR u.2.2.2.2.1) ∧ (inR u.2.2.2.2.2) ∧ ((u.1 = 0 → ¬ fi 29 = 60) ∧ ∃ r0, RtP r0 (fa 3 0) (fi 28) (gs (lc (fa 32) (fa 5) 0) (fi 12)) (gs (lc (fa 32) (fa 5) 1) (fi 12)) (fa 3 2) (bkI (fun q => evR (fa 10) (vls (fa 32) (fa 4) (fa 5) 0 (fi 12) (fa 3 0) (fi 28)) (fa 8 q) (fa 9 q)) (fi 13) ∧ bkI (fun q => evR (fa 10) (vls (fa 32) (fa 4) (fa 5) 1 (fi 12) (fa 3 0) (fi 28)) (fa 8 q) (fa 9 q)) (fi 13)) (fa 3 3) (fa 3 4) (fa 3 5) (fa 3 6) d0 w0 ∧ u.1 = jdg r0 (fi 29))) (fun (u : Int × (Int → Int) × (Int → Int) × Int × Int × Int) => (wM k ar (uF (uF (uF fi 41 (u.2.2.2.1)) 42 (u.2.2.2.2.1)) 43 (u.2.2.2.2.2)) (uF (uF fa 39 (u.2.1)) 40 (u.2.2.1)) fl)) := by
  refine Met.ofW (cc := cX10_rideTrouble) (maxL := 4) (ret := (some .int)) (by decide) rfl ?_
  intro p e s m args below meth c s₁ B hml hv
  obtain ⟨rfl, hsz, hP, hX, hD0, hZ0⟩ := hv
  have hx := B.exec
  have hb := B.bytes
  have hr := B.returns
  have hts := atoms_spec (ws := wzX10_rideTrouble) B.pre
  have hown : s.vm.findClass RX10 = some m.cls := findClass_of_methodNamed B.named
  subst hsz
  have hD := hD0.self (sz := s.heap.size)
  have hZ := hZ0
  generalize hAe : va_A (wM k ar fi fa fl) s.heap.size = A at hD hZ ⊢
  have hA : ∀ q : Nat, s.heap.size ≤ q → A q := fun q h => by rw [← hAe]; exact Or.inr h
  have hS : va_S A s.heap s.heap [] := va_S.rf
  have hl := lv_entry ([.ref (ar 71), .int (Int32.ofInt (d0)), .int (Int32.ofInt (w0))]) (n := 4) (Nat.le_of_ble_eq_true rfl)
  rw [lg_entry_eq]
  generalize (lg_sl ([.ref (ar 71), .int (Int32.ofInt (d0)), .int (Int32.ofInt (w0))]) ++ List.replicate (4 - (lg_sl ([.ref (ar 71), .int (Int32.ofInt (d0)), .int (Int32.ofInt (w0))])).length) Slot.unset).toArray = ls at hl ⊢
  have hl : lv_has ls 4 [(0, .ref (ar 71)), (1, .int (Int32.ofInt (d0))), (2, .int (Int32.ofInt (w0)))] := hl
  obtain ⟨H, eH⟩ : ∃ H, H = s.heap := ⟨_, rfl⟩
  rw [← eH] at hP
  have hS : va_S A s.heap H [] := by rw [eH]; exact hS
  have gW : s.heap = H := eH.symm
  refine iv_heap gW ?_
  have h0w := hts (.fieldLink RX10 327 "RopeTownModel" "bucket0" "I") (wz_at 21 13 rfl)
  have h1w : ∀ w ∈ wsX100, w ∈ wzX10_rideTrouble := fun w h => List.mem_cons_of_mem _ (inlX10 w h)
  have h2w := hts (.fieldLink RX10 87 "RopeTownModel" "place" "[I") (wz_at 6 17 rfl)
  have h3w := hts (.fieldLink RX10 330 "RopeTownModel" "moves" "I") (wz_at 21 14 rfl)
  refine lv_iload_n hx hb dX10_rideTrouble_0 rfl (lv_at hl 1 rfl) ?_
  refine lv_iconst (v := Int32.ofInt 0) hx hb dX10_rideTrouble_1 (by decide +kernel) ?_
  refine lv_aload_n hx hb dX10_rideTrouble_2 rfl (lv_at hl 0 rfl) ?_
  refine cr_i (va_runV (As := []) (rest := [.int (Int32.ofInt (0)), .int (Int32.ofInt (d0))]) ⟨hx, hb, hml, hown, hts⟩ (mX10_depths l G k ar fi fa fl H.size hR hRa) (cwV 0 hts (gz [.methodLink RX10 346 yX10_depths, .instanceMethod yX10_depths, .selects RX10 yX10_depths yX10_depths, .initialized RX10] (.code yX10_depths cX10_depths 1 (some .int)) [(24, 11), (24, 12), (24, 13), (0, 5), (24, 14)] rfl) rfl rfl rfl (by decide +kernel) ⟨Nat.le_of_ble_eq_true rfl, Nat.le_of_ble_eq_true rfl⟩) (cr_preV (EZ_ok k) hZ hS hX hP hD hA (ci := 7) (q0 := 0) rfl rfl) rfl rfl hl.1 rfl (lv_room (Nat.le_of_ble_eq_true rfl)) dX10_rideTrouble_3 ⟨Nat.le_of_ble_eq_true rfl, Nat.le_of_ble_eq_true rfl⟩) hD hS hA (fun r u H locs hp hP hD hS => ?_)
  obtain ⟨c1, rfl⟩ : ∃ z, z = u := ⟨_, rfl⟩
  obtain ⟨h9, rc1, hp1⟩ : r = Int32.ofInt c1 ∧ (inR c1) ∧ (c1 = (fa 3) 0) := hp
  subst h9
  refine c0_i (va_runS (As := [.int (Int32.ofInt (d0)), .int (Int32.ofInt (0)), .int (Int32.ofInt (c1))]) (rest := []) ⟨hx, hb, hml, hown, hts⟩ (mX10_isIn l G k d0 0 c1 H.size (by omega) (by omega) (by omega)) (cwS 3 hts (gz [.methodLink RX10 177 yX10_isIn, .static yX10_isIn, .initialized RX10] (.code yX10_isIn cX10_isIn 3 (some .boolean)) [(18, 16), (18, 17), (0, 5), (18, 18)] rfl) rfl rfl rfl (by decide +kernel) ⟨Nat.le_of_ble_eq_true rfl, Nat.le_of_ble_eq_true rfl⟩) (cr_pre0 (EZ_ok k) hZ hS hX hP hD hA) rfl rfl hl.1 rfl (lv_room (Nat.le_of_ble_eq_true rfl)) dX10_rideTrouble_6 ⟨Nat.le_of_ble_eq_true rfl, Nat.le_of_ble_eq_true rfl⟩) hP hD hS hA (fun r u H locs hp hP hD hS => ?_)
  obtain ⟨c2, rfl⟩ : ∃ z, z = u := ⟨_, rfl⟩
  obtain ⟨h9, rc2, hp2⟩ : r = Int32.ofInt c2 ∧ (inR c2) ∧ ((c2 = 1 ∧ 0 ≤ d0 ∧ d0 ≤ c1) ∨ (c2 = 0 ∧ (d0 < 0 ∨ c1 < d0))) := hp
  subst h9
  refine iv_if_eq (tgt := 21) hx hb (by omega) dX10_rideTrouble_9 (by decide) (fun q3 => ?_) (fun q3 => ?_)
  · refine lv_iconst (v := Int32.ofInt 1) hx hb dX10_rideTrouble_21 (by decide +kernel) ?_
    exact W.iret (v := Int32.ofInt (1)) hx hb hr (fun t ht hW => ⟨⟨Int32.ofInt (1), (1, fa 39, fa 40, fi 41, fi 42, fi 43), rfl, ⟨rfl, (show (inR 1) ∧ (∀ t, inR ((fa 39) t)) ∧ (∀ t, inR ((fa 40) t)) ∧ (inR (fi 41)) ∧ (inR (fi 42)) ∧ (inR (fi 43)) ∧ ((1 = 0 → ¬ fi 29 = 60) ∧ ∃ r0, RtP r0 (fa 3 0) (fi 28) (gs (lc (fa 32) (fa 5) 0) (fi 12)) (gs (lc (fa 32) (fa 5) 1) (fi 12)) (fa 3 2) (bkI (fun q => evR (fa 10) (vls (fa 32) (fa 4) (fa 5) 0 (fi 12) (fa 3 0) (fi 28)) (fa 8 q) (fa 9 q)) (fi 13) ∧ bkI (fun q => evR (fa 10) (vls (fa 32) (fa 4) (fa 5) 1 (fi 12) (fa 3 0) (fi 28)) (fa 8 q) (fa 9 q)) (fi 13)) (fa 3 3) (fa 3 4) (fa 3 5) (fa 3 6) d0 w0 ∧ 1 = jdg r0 (fi 29)) from ⟨(by omega), (hRa 39), (hRa 40), (hR 41), (hR 42), (hR 43), (by first | exact ⟨by omega, 1, rt_1 (by omega) rfl, by unfold jdg; omega⟩ | exact ⟨by omega, 3, rt_3 (by omega) (by omega) rfl, by unfold jdg; omega⟩ | exact ⟨by omega, 4, rt_4 (by omega) (by omega) (by omega) rfl, by unfold jdg; omega⟩ | exact ⟨by omega, 5, rt_5 (by omega) (by omega) (by omega) (kr_n hKr55 (by omega)) rfl, by unfold jdg; omega⟩ | exact ⟨by omega, _, rt_sw (by omega) (by omega) (by omega) (kr_y hKr55 (by omega)) hLm73 (by omega) hSw78, by unfold jdg; omega⟩)⟩)⟩, by rw [ht]; exact hP, hD⟩, hS.F ht⟩) hS.2.2 dX10_rideTrouble_22
  · refine lv_iload_n hx hb dX10_rideTrouble_12 rfl (lv_at hl 2 rfl) ?_
    refine lv_iconst (v := Int32.ofInt 0) hx hb dX10_rideTrouble_13 (by decide +kernel) ?_
    refine lv_iconst (v := Int32.ofInt 2) hx hb dX10_rideTrouble_14 (by decide +kernel) ?_
    refine c0_i (va_runS (As := [.int (Int32.ofInt (w0)), .int (Int32.ofInt (0)), .int (Int32.ofInt (2))]) (rest := []) ⟨hx, hb, hml, hown, hts⟩ (mX10_isIn l G k w0 0 2 H.size (by omega) (by omega) (by omega)) (cwS 3 hts (gz [.methodLink RX10 177 yX10_isIn, .static yX10_isIn, .initialized RX10] (.code yX10_isIn cX10_isIn 3 (some .boolean)) [(18, 16), (18, 17), (0, 5), (18, 18)] rfl) rfl rfl rfl (by decide +kernel) ⟨Nat.le_of_ble_eq_true rfl, Nat.le_of_ble_eq_true rfl⟩) (cr_pre0 (EZ_ok k) hZ hS hX hP hD hA) rfl rfl hl.1 rfl (lv_room (Nat.le_of_ble_eq_true rfl)) dX10_rideTrouble_15 ⟨Nat.le_of_ble_eq_true rfl, Nat.le_of_ble_eq_true rfl⟩) hP hD hS hA (fun r u H locs hp hP hD hS => ?_)
    obtain ⟨c4, rfl⟩ : ∃ z, z = u := ⟨_, rfl⟩
    obtain ⟨h9, rc4, hp4⟩ : r = Int32.ofInt c4 ∧ (inR c4) ∧ ((c4 = 1 ∧ 0 ≤ w0 ∧ w0 ≤ 2) ∨ (c4 = 0 ∧ (w0 < 0 ∨ 2 < w0))) := hp
    subst h9
    refine iv_if_ne (tgt := 23) hx hb (by omega) dX10_rideTrouble_18 (by decide) (fun q5 => ?_) (fun q5 => ?_)
    · refine lv_iload_n hx hb dX10_rideTrouble_23 rfl (lv_at hl 1 rfl) ?_
      refine lv_aload_n hx hb dX10_rideTrouble_24 rfl (lv_at hl 0 rfl) ?_
      refine va_get (D := G) (ci := 7) (v := .int (Int32.ofInt (fi 28))) (C := RX10) (T := TX10) (N := 71) (ref := RX10) hx hb hts h1w hown hX.1 hP 0 rfl rfl 28 (by decide) h0w (fun _ h9 => h9) rfl dX10_rideTrouble_25 ?_
      have rf28 := hR 28
      refine iv_icmp_ne (tgt := 33) hx hb (by omega) (by omega) dX10_rideTrouble_28 (by decide) (fun q6 => ?_) (fun q6 => ?_)
      · refine lv_aload_n hx hb dX10_rideTrouble_33 rfl (lv_at hl 0 rfl) ?_
        refine lv_aload_n hx hb dX10_rideTrouble_34 rfl (lv_at hl 0 rfl) ?_
        refine va_get (D := G) (ci := 7) (v := .ref (ar 32)) (C := RX10) (T := TX10) (N := 71) (ref := RX10) hx hb hts h1w hown hX.1 hP 0 rfl rfl 32 (by decide) h2w (fun _ h9 => h9) rfl dX10_rideTrouble_35 ?_
        refine cr_i (va_runV (As := [.ref (ar 32)]) (rest := []) ⟨hx, hb, hml, hown, hts⟩ (mX10_keepsCap_32 l G k ar fi fa fl H.size hR hRa (show 0 ≤ (fi 12) ∧ (fi 12) ≤ 7 from by omega)) (cwV 1 hts (gz [.methodLink RX10 397 yX10_keepsCap, .instanceMethod yX10_keepsCap, .selects RX10 yX10_keepsCap yX10_keepsCap, .initialized RX10] (.code yX10_keepsCap cX10_keepsCap 2 (some .boolean)) [(30, 11), (30, 12), (30, 13), (0, 5), (30, 14)] rfl) rfl rfl rfl (by decide +kernel) ⟨Nat.le_of_ble_eq_true rfl, Nat.le_of_ble_eq_true rfl⟩) (cr_preV (EZ_ok k) hZ hS hX hP hD hA (ci := 7) (q0 := 0) rfl rfl) rfl rfl hl.1 rfl (lv_room (Nat.le_of_ble_eq_true rfl)) dX10_rideTrouble_38 ⟨Nat.le_of_ble_eq_true rfl, Nat.le_of_ble_eq_true rfl⟩) hD hS hA (fun r u H locs hp hP hD hS => ?_)
        obtain ⟨c7, rfl⟩ : ∃ z, z = u := ⟨_, rfl⟩
        obtain ⟨h9, rc7, hp7⟩ : r = Int32.ofInt c7 ∧ (inR c7) ∧ ((c7 = 1 ∧ (gs (lc ((fa 32)) ((fa 5)) 0) ((fi 12))) ≤ (fa 3) 2 ∧ (gs (lc ((fa 32)) ((fa 5)) 1) ((fi 12))) ≤ (fa 3) 2) ∨ (c7 = 0 ∧ ¬ ((gs (lc ((fa 32)) ((fa 5)) 0) ((fi 12))) ≤ (fa 3) 2 ∧ (gs (lc ((fa 32)) ((fa 5)) 1) ((fi 12))) ≤ (fa 3) 2))) := hp
        subst h9
        refine iv_if_ne (tgt := 46) hx hb (by omega) dX10_rideTrouble_41 (by decide) (fun q8 => ?_) (fun q8 => ?_)
        · refine lv_aload_n hx hb dX10_rideTrouble_46 rfl (lv_at hl 0 rfl) ?_
          refine lv_aload_n hx hb dX10_rideTrouble_47 rfl (lv_at hl 0 rfl) ?_
          refine va_get (D := G) (ci := 7) (v := .ref (ar 32)) (C := RX10) (T := TX10) (N := 71) (ref := RX10) hx hb hts h1w hown hX.1 hP 0 rfl rfl 32 (by decide) h2w (fun _ h9 => h9) rfl dX10_rideTrouble_48 ?_
          refine lv_aload_n hx hb dX10_rideTrouble_51 rfl (lv_at hl 0 rfl) ?_
          refine va_get (D := G) (ci := 7) (v := .int (Int32.ofInt (fi 28))) (C := RX10) (T := TX10) (N := 71) (ref := RX10) hx hb hts h1w hown hX.1 hP 0 rfl rfl 28 (by decide) h0w (fun _ h9 => h9) rfl dX10_rideTrouble_52 ?_
          have rf28 := hR 28
          refine cr_i (va_runV (As := [.ref (ar 32), .int (Int32.ofInt (fi 28))]) (rest := []) ⟨hx, hb, hml, hown, hts⟩ (mX10_keepsRules_32 l G k ar fi fa fl (fi 28) H.size hR hRa (hR 28) (show 0 ≤ (fi 12) ∧ (fi 12) ≤ 7 from by omega) (show 0 ≤ (fi 13) ∧ (fi 13) ≤ 4 from by omega) (show ∀ q9, 0 ≤ q9 → q9 < (fi 13) → RWf ((fa 10)) ((fa 8) q9) ((fa 9) q9) from by first | exact hRW | omega)) (cwV 2 hts (gz [.methodLink RX10 401 yX10_keepsRules, .instanceMethod yX10_keepsRules, .selects RX10 yX10_keepsRules yX10_keepsRules, .initialized RX10] (.code yX10_keepsRules cX10_keepsRules 3 (some .boolean)) [(30, 15), (30, 16), (30, 17), (0, 5), (30, 18)] rfl) rfl rfl rfl (by decide +kernel) ⟨Nat.le_of_ble_eq_true rfl, Nat.le_of_ble_eq_true rfl⟩) (cr_preV (EZ_ok k) hZ hS hX hP hD hA (ci := 7) (q0 := 0) rfl rfl) rfl rfl hl.1 rfl (lv_room (Nat.le_of_ble_eq_true rfl)) dX10_rideTrouble_55 ⟨Nat.le_of_ble_eq_true rfl, Nat.le_of_ble_eq_true rfl⟩) hD hS hA (fun r u H locs hp hP hD hS => ?_)
          obtain ⟨c9, c10, c11⟩ := u
          obtain ⟨hP, hD⟩ : va_P G vwCl (wM k ar fi (uF (uF fa 39 (c10)) 40 (c11)) fl) H ∧ va_D A (wM k ar fi (uF (uF fa 39 (c10)) 40 (c11)) fl) := ⟨hP, hD⟩
          obtain ⟨h9, rc9, rc10, rc11, hp11⟩ : r = Int32.ofInt c9 ∧ (inR c9) ∧ (∀ t, inR (c10 t)) ∧ (∀ t, inR (c11 t)) ∧ (KrP c9 (bkI (fun q => evR ((fa 10)) (vls ((fa 32)) ((fa 4)) ((fa 5)) 0 ((fi 12)) ((fa 3) 0) (fi 28)) ((fa 8) q) ((fa 9) q)) ((fi 13))) (bkI (fun q => evR ((fa 10)) (vls ((fa 32)) ((fa 4)) ((fa 5)) 1 ((fi 12)) ((fa 3) 0) (fi 28)) ((fa 8) q) ((fa 9) q)) ((fi 13)))) := hp
          subst h9
          have hKr55 := hp11
          unfold KrP at hp11
          refine iv_if_ne (tgt := 63) hx hb (by omega) dX10_rideTrouble_58 (by decide) (fun q12 => ?_) (fun q12 => ?_)
          · refine lv_aload_n hx hb dX10_rideTrouble_63 rfl (lv_at hl 0 rfl) ?_
            refine lv_aload_n hx hb dX10_rideTrouble_64 rfl (lv_at hl 0 rfl) ?_
            refine va_get (D := G) (ci := 7) (v := .ref (ar 32)) (C := RX10) (T := TX10) (N := 71) (ref := RX10) hx hb hts h1w hown hX.1 hP 0 rfl rfl 32 (by decide) h2w (fun _ h9 => h9) rfl dX10_rideTrouble_65 ?_
            refine lv_aload_n hx hb dX10_rideTrouble_68 rfl (lv_at hl 0 rfl) ?_
            refine va_get (D := G) (ci := 7) (v := .int (Int32.ofInt (fi 28))) (C := RX10) (T := TX10) (N := 71) (ref := RX10) hx hb hts h1w hown hX.1 hP 0 rfl rfl 28 (by decide) h0w (fun _ h9 => h9) rfl dX10_rideTrouble_69 ?_
            have rf28 := hR 28
            refine lv_iload_n hx hb dX10_rideTrouble_72 rfl (lv_at hl 1 rfl) ?_
            refine cr_v (va_runV (As := [.ref (ar 32), .int (Int32.ofInt (fi 28)), .int (Int32.ofInt (d0))]) (rest := []) ⟨hx, hb, hml, hown, hts⟩ (mX10_tellRide_32 l G k ar fi (uF (uF fa 39 (c10)) 40 (c11)) fl (fi 28) d0 H.size hR (iG (iG hRa rc10) rc11) (hR 28) (by omega) (show 0 ≤ (fi 12) ∧ (fi 12) ≤ 7 from by omega)) (cwV 3 hts (gz [.methodLink RX10 405 yX10_tellRide, .instanceMethod yX10_tellRide, .selects RX10 yX10_tellRide yX10_tellRide, .initialized RX10] (.code yX10_tellRide cX10_tellRide 8 none) [(30, 19), (30, 20), (30, 21), (0, 5), (30, 22)] rfl) rfl rfl rfl (by decide +kernel) ⟨Nat.le_of_ble_eq_true rfl, Nat.le_of_ble_eq_true rfl⟩) (cr_preV (EZ_ok k) hZ hS hX hP hD hA (ci := 7) (q0 := 0) rfl rfl) rfl rfl hl.1 rfl (lv_room (Nat.le_of_ble_eq_true rfl)) dX10_rideTrouble_73 ⟨Nat.le_of_ble_eq_true rfl, Nat.le_of_ble_eq_true rfl⟩) hD hS hA (fun u H locs hp hP hD hS => ?_)
            obtain ⟨c13, c14, c15⟩ := u
            obtain ⟨hP, hD⟩ : va_P G vwCl (wM k ar (uF (uF (uF fi 41 (c13)) 42 (c14)) 43 (c15)) (uF (uF fa 39 (c10)) 40 (c11)) fl) H ∧ va_D A (wM k ar (uF (uF (uF fi 41 (c13)) 42 (c14)) 43 (c15)) (uF (uF fa 39 (c10)) 40 (c11)) fl) := ⟨hP, hD⟩
            obtain ⟨rc13, rc14, rc15, hp15⟩ : (inR c13) ∧ (inR c14) ∧ (inR c15) ∧ (LM c13 c14 (exM (gs (lc ((fa 32)) ((fa 5)) 0) ((fi 12))) (gs (lc ((fa 32)) ((fa 5)) 1) ((fi 12))) ((fa 3) 3) ((fa 3) 0) (stD (fi 28) d0)) (fi 28) d0) := hp
            have hLm73 := hp15
            refine lv_aload_n hx hb dX10_rideTrouble_76 rfl (lv_at hl 0 rfl) ?_
            refine lv_iload_n hx hb dX10_rideTrouble_77 rfl (lv_at hl 2 rfl) ?_
            refine cr_i (va_runV (As := [.int (Int32.ofInt (w0))]) (rest := []) ⟨hx, hb, hml, hown, hts⟩ (mX10_swing l G k ar (uF (uF (uF fi 41 (c13)) 42 (c14)) 43 (c15)) (uF (uF fa 39 (c10)) 40 (c11)) fl w0 H.size (iF (iF (iF hR (by omega)) (by omega)) (by omega)) (iG (iG hRa rc10) rc11) (by omega)) (cwV 1 hts (gz [.methodLink RX10 409 yX10_swing, .instanceMethod yX10_swing, .selects RX10 yX10_swing yX10_swing, .initialized RX10] (.code yX10_swing cX10_swing 2 (some .int)) [(31, 6), (31, 7), (31, 8), (0, 5), (31, 9)] rfl) rfl rfl rfl (by decide +kernel) ⟨Nat.le_of_ble_eq_true rfl, Nat.le_of_ble_eq_true rfl⟩) (cr_preV (EZ_ok k) hZ hS hX hP hD hA (ci := 7) (q0 := 0) rfl rfl) rfl rfl hl.1 rfl (lv_room (Nat.le_of_ble_eq_true rfl)) dX10_rideTrouble_78 ⟨Nat.le_of_ble_eq_true rfl, Nat.le_of_ble_eq_true rfl⟩) hD hS hA (fun r u H locs hp hP hD hS => ?_)
            obtain ⟨c16, rfl⟩ : ∃ z, z = u := ⟨_, rfl⟩
            obtain ⟨h9, rc16, hp16⟩ : r = Int32.ofInt c16 ∧ (inR c16) ∧ (c16 = swM w0 (c13) (c14) ((fa 3) 4) ((fa 3) 5) ((fa 3) 6)) := hp
            subst h9
            have hSw78 := hp16
            refine lv_istore_n (lv' := [(3, .int (Int32.ofInt (c16))), (0, .ref (ar 71)), (1, .int (Int32.ofInt (d0))), (2, .int (Int32.ofInt (w0)))]) hx hb dX10_rideTrouble_81 rfl hl (by decide) rfl (fun ls hl => ?_)
            refine lv_iload_n hx hb dX10_rideTrouble_82 rfl (lv_at hl 0 rfl) ?_
            refine iv_if_eq (tgt := 90) hx hb (by omega) dX10_rideTrouble_83 (by decide) (fun q17 => ?_) (fun q17 => ?_)
            · refine lv_aload_n hx hb dX10_rideTrouble_90 rfl (lv_at hl 1 rfl) ?_
              refine va_get (D := G) (ci := 7) (v := .int (Int32.ofInt (fi 29))) (C := RX10) (T := TX10) (N := 71) (ref := RX10) hx hb hts h1w hown hX.1 hP 0 rfl rfl 29 (by decide) h3w (fun _ h9 => h9) rfl dX10_rideTrouble_91 ?_
              have rf29 := hR 29
              refine lv_bipush (v := Int32.ofInt 60) hx hb dX10_rideTrouble_94 (by decide +kernel) ?_
              refine iv_icmp_ne (tgt := 104) hx hb (by omega) (by omega) dX10_rideTrouble_96 (by decide) (fun q18 => ?_) (fun q18 => ?_)
              · refine lv_iconst (v := Int32.ofInt 0) hx hb dX10_rideTrouble_104 (by decide +kernel) ?_
                exact W.iret (v := Int32.ofInt (0)) hx hb hr (fun t ht hW => ⟨⟨Int32.ofInt (0), (0, c10, c11, c13, c14, c15), rfl, ⟨rfl, (show (inR 0) ∧ (∀ t, inR (c10 t)) ∧ (∀ t, inR (c11 t)) ∧ (inR c13) ∧ (inR c14) ∧ (inR c15) ∧ ((0 = 0 → ¬ fi 29 = 60) ∧ ∃ r0, RtP r0 (fa 3 0) (fi 28) (gs (lc (fa 32) (fa 5) 0) (fi 12)) (gs (lc (fa 32) (fa 5) 1) (fi 12)) (fa 3 2) (bkI (fun q => evR (fa 10) (vls (fa 32) (fa 4) (fa 5) 0 (fi 12) (fa 3 0) (fi 28)) (fa 8 q) (fa 9 q)) (fi 13) ∧ bkI (fun q => evR (fa 10) (vls (fa 32) (fa 4) (fa 5) 1 (fi 12) (fa 3 0) (fi 28)) (fa 8 q) (fa 9 q)) (fi 13)) (fa 3 3) (fa 3 4) (fa 3 5) (fa 3 6) d0 w0 ∧ 0 = jdg r0 (fi 29)) from ⟨(by omega), rc10, rc11, (by omega), (by omega), (by omega), (by first | exact ⟨by omega, 1, rt_1 (by omega) rfl, by unfold jdg; omega⟩ | exact ⟨by omega, 3, rt_3 (by omega) (by omega) rfl, by unfold jdg; omega⟩ | exact ⟨by omega, 4, rt_4 (by omega) (by omega) (by omega) rfl, by unfold jdg; omega⟩ | exact ⟨by omega, 5, rt_5 (by omega) (by omega) (by omega) (kr_n hKr55 (by omega)) rfl, by unfold jdg; omega⟩ | exact ⟨by omega, _, rt_sw (by omega) (by omega) (by omega) (kr_y hKr55 (by omega)) hLm73 (by omega) hSw78, by unfold jdg; omega⟩)⟩)⟩, by rw [ht]; exact hP, hD⟩, hS.F ht⟩) hS.2.2 dX10_rideTrouble_105
              · refine lv_bipush (v := Int32.ofInt 8) hx hb dX10_rideTrouble_99 (by decide +kernel) ?_
                refine lv_goto (tgt := 105) hx hb dX10_rideTrouble_101 (by decide) ?_
                exact W.iret (v := Int32.ofInt (8)) hx hb hr (fun t ht hW => ⟨⟨Int32.ofInt (8), (8, c10, c11, c13, c14, c15), rfl, ⟨rfl, (show (inR 8) ∧ (∀ t, inR (c10 t)) ∧ (∀ t, inR (c11 t)) ∧ (inR c13) ∧ (inR c14) ∧ (inR c15) ∧ ((8 = 0 → ¬ fi 29 = 60) ∧ ∃ r0, RtP r0 (fa 3 0) (fi 28) (gs (lc (fa 32) (fa 5) 0) (fi 12)) (gs (lc (fa 32) (fa 5) 1) (fi 12)) (fa 3 2) (bkI (fun q => evR (fa 10) (vls (fa 32) (fa 4) (fa 5) 0 (fi 12) (fa 3 0) (fi 28)) (fa 8 q) (fa 9 q)) (fi 13) ∧ bkI (fun q => evR (fa 10) (vls (fa 32) (fa 4) (fa 5) 1 (fi 12) (fa 3 0) (fi 28)) (fa 8 q) (fa 9 q)) (fi 13)) (fa 3 3) (fa 3 4) (fa 3 5) (fa 3 6) d0 w0 ∧ 8 = jdg r0 (fi 29)) from ⟨(by omega), rc10, rc11, (by omega), (by omega), (by omega), (by first | exact ⟨by omega, 1, rt_1 (by omega) rfl, by unfold jdg; omega⟩ | exact ⟨by omega, 3, rt_3 (by omega) (by omega) rfl, by unfold jdg; omega⟩ | exact ⟨by omega, 4, rt_4 (by omega) (by omega) (by omega) rfl, by unfold jdg; omega⟩ | exact ⟨by omega, 5, rt_5 (by omega) (by omega) (by omega) (kr_n hKr55 (by omega)) rfl, by unfold jdg; omega⟩ | exact ⟨by omega, _, rt_sw (by omega) (by omega) (by omega) (kr_y hKr55 (by omega)) hLm73 (by omega) hSw78, by unfold jdg; omega⟩)⟩)⟩, by rw [ht]; exact hP, hD⟩, hS.F ht⟩) hS.2.2 dX10_rideTrouble_105
            · refine lv_iload_n hx hb dX10_rideTrouble_86 rfl (lv_at hl 0 rfl) ?_
              refine lv_goto (tgt := 105) hx hb dX10_rideTrouble_87 (by decide) ?_
              exact W.iret (v := Int32.ofInt (c16)) hx hb hr (fun t ht hW => ⟨⟨Int32.ofInt (c16), (c16, c10, c11, c13, c14, c15), rfl, ⟨rfl, (show (inR c16) ∧ (∀ t, inR (c10 t)) ∧ (∀ t, inR (c11 t)) ∧ (inR c13) ∧ (inR c14) ∧ (inR c15) ∧ ((c16 = 0 → ¬ fi 29 = 60) ∧ ∃ r0, RtP r0 (fa 3 0) (fi 28) (gs (lc (fa 32) (fa 5) 0) (fi 12)) (gs (lc (fa 32) (fa 5) 1) (fi 12)) (fa 3 2) (bkI (fun q => evR (fa 10) (vls (fa 32) (fa 4) (fa 5) 0 (fi 12) (fa 3 0) (fi 28)) (fa 8 q) (fa 9 q)) (fi 13) ∧ bkI (fun q => evR (fa 10) (vls (fa 32) (fa 4) (fa 5) 1 (fi 12) (fa 3 0) (fi 28)) (fa 8 q) (fa 9 q)) (fi 13)) (fa 3 3) (fa 3 4) (fa 3 5) (fa 3 6) d0 w0 ∧ c16 = jdg r0 (fi 29)) from ⟨(by omega), rc10, rc11, (by omega), (by omega), (by omega), (by first | exact ⟨by omega, 1, rt_1 (by omega) rfl, by unfold jdg; omega⟩ | exact ⟨by omega, 3, rt_3 (by omega) (by omega) rfl, by unfold jdg; omega⟩ | exact ⟨by omega, 4, rt_4 (by omega) (by omega) (by omega) rfl, by unfold jdg; omega⟩ | exact ⟨by omega, 5, rt_5 (by omega) (by omega) (by omega) (kr_n hKr55 (by omega)) rfl, by unfold jdg; omega⟩ | exact ⟨by omega, _, rt_sw (by omega) (by omega) (by omega) (kr_y hKr55 (by omega)) hLm73 (by omega) hSw78, by unfold jdg; omega⟩)⟩)⟩, by rw [ht]; exact hP, hD⟩, hS.F ht⟩) hS.2.2 dX10_rideTrouble_105
          · refine lv_iconst (v := Int32.ofInt 5) hx hb dX10_rideTrouble_61 (by decide +kernel) ?_
            exact W.iret (v := Int32.ofInt (5)) hx hb hr (fun t ht hW => ⟨⟨Int32.ofInt (5), (5, c10, c11, fi 41, fi 42, fi 43), rfl, ⟨rfl, (show (inR 5) ∧ (∀ t, inR (c10 t)) ∧ (∀ t, inR (c11 t)) ∧ (inR (fi 41)) ∧ (inR (fi 42)) ∧ (inR (fi 43)) ∧ ((5 = 0 → ¬ fi 29 = 60) ∧ ∃ r0, RtP r0 (fa 3 0) (fi 28) (gs (lc (fa 32) (fa 5) 0) (fi 12)) (gs (lc (fa 32) (fa 5) 1) (fi 12)) (fa 3 2) (bkI (fun q => evR (fa 10) (vls (fa 32) (fa 4) (fa 5) 0 (fi 12) (fa 3 0) (fi 28)) (fa 8 q) (fa 9 q)) (fi 13) ∧ bkI (fun q => evR (fa 10) (vls (fa 32) (fa 4) (fa 5) 1 (fi 12) (fa 3 0) (fi 28)) (fa 8 q) (fa 9 q)) (fi 13)) (fa 3 3) (fa 3 4) (fa 3 5) (fa 3 6) d0 w0 ∧ 5 = jdg r0 (fi 29)) from ⟨(by omega), rc10, rc11, (hR 41), (hR 42), (hR 43), (by first | exact ⟨by omega, 1, rt_1 (by omega) rfl, by unfold jdg; omega⟩ | exact ⟨by omega, 3, rt_3 (by omega) (by omega) rfl, by unfold jdg; omega⟩ | exact ⟨by omega, 4, rt_4 (by omega) (by omega) (by omega) rfl, by unfold jdg; omega⟩ | exact ⟨by omega, 5, rt_5 (by omega) (by omega) (by omega) (kr_n hKr55 (by omega)) rfl, by unfold jdg; omega⟩ | exact ⟨by omega, _, rt_sw (by omega) (by omega) (by omega) (kr_y hKr55 (by omega)) hLm73 (by omega) hSw78, by unfold jdg; omega⟩)⟩)⟩, by rw [ht]; exact hP, hD⟩, hS.F ht⟩) hS.2.2 dX10_rideTrouble_62
        · refine lv_iconst (v := Int32.ofInt 4) hx hb dX10_rideTrouble_44 (by decide +kernel) ?_
          exact W.iret (v := Int32.ofInt (4)) hx hb hr (fun t ht hW => ⟨⟨Int32.ofInt (4), (4, fa 39, fa 40, fi 41, fi 42, fi 43), rfl, ⟨rfl, (show (inR 4) ∧ (∀ t, inR ((fa 39) t)) ∧ (∀ t, inR ((fa 40) t)) ∧ (inR (fi 41)) ∧ (inR (fi 42)) ∧ (inR (fi 43)) ∧ ((4 = 0 → ¬ fi 29 = 60) ∧ ∃ r0, RtP r0 (fa 3 0) (fi 28) (gs (lc (fa 32) (fa 5) 0) (fi 12)) (gs (lc (fa 32) (fa 5) 1) (fi 12)) (fa 3 2) (bkI (fun q => evR (fa 10) (vls (fa 32) (fa 4) (fa 5) 0 (fi 12) (fa 3 0) (fi 28)) (fa 8 q) (fa 9 q)) (fi 13) ∧ bkI (fun q => evR (fa 10) (vls (fa 32) (fa 4) (fa 5) 1 (fi 12) (fa 3 0) (fi 28)) (fa 8 q) (fa 9 q)) (fi 13)) (fa 3 3) (fa 3 4) (fa 3 5) (fa 3 6) d0 w0 ∧ 4 = jdg r0 (fi 29)) from ⟨(by omega), (hRa 39), (hRa 40), (hR 41), (hR 42), (hR 43), (by first | exact ⟨by omega, 1, rt_1 (by omega) rfl, by unfold jdg; omega⟩ | exact ⟨by omega, 3, rt_3 (by omega) (by omega) rfl, by unfold jdg; omega⟩ | exact ⟨by omega, 4, rt_4 (by omega) (by omega) (by omega) rfl, by unfold jdg; omega⟩ | exact ⟨by omega, 5, rt_5 (by omega) (by omega) (by omega) (kr_n hKr55 (by omega)) rfl, by unfold jdg; omega⟩ | exact ⟨by omega, _, rt_sw (by omega) (by omega) (by omega) (kr_y hKr55 (by omega)) hLm73 (by omega) hSw78, by unfold jdg; omega⟩)⟩)⟩, by rw [ht]; exact hP, hD⟩, hS.F ht⟩) hS.2.2 dX10_rideTrouble_45
      · refine lv_iconst (v := Int32.ofInt 3) hx hb dX10_rideTrouble_31 (by decide +kernel) ?_
        exact W.iret (v := Int32.ofInt (3)) hx hb hr (fun t ht hW => ⟨⟨Int32.ofInt (3), (3, fa 39, fa 40, fi 41, fi 42, fi 43), rfl, ⟨rfl, (show (inR 3) ∧ (∀ t, inR ((fa 39) t)) ∧ (∀ t, inR ((fa 40) t)) ∧ (inR (fi 41)) ∧ (inR (fi 42)) ∧ (inR (fi 43)) ∧ ((3 = 0 → ¬ fi 29 = 60) ∧ ∃ r0, RtP r0 (fa 3 0) (fi 28) (gs (lc (fa 32) (fa 5) 0) (fi 12)) (gs (lc (fa 32) (fa 5) 1) (fi 12)) (fa 3 2) (bkI (fun q => evR (fa 10) (vls (fa 32) (fa 4) (fa 5) 0 (fi 12) (fa 3 0) (fi 28)) (fa 8 q) (fa 9 q)) (fi 13) ∧ bkI (fun q => evR (fa 10) (vls (fa 32) (fa 4) (fa 5) 1 (fi 12) (fa 3 0) (fi 28)) (fa 8 q) (fa 9 q)) (fi 13)) (fa 3 3) (fa 3 4) (fa 3 5) (fa 3 6) d0 w0 ∧ 3 = jdg r0 (fi 29)) from ⟨(by omega), (hRa 39), (hRa 40), (hR 41), (hR 42), (hR 43), (by first | exact ⟨by omega, 1, rt_1 (by omega) rfl, by unfold jdg; omega⟩ | exact ⟨by omega, 3, rt_3 (by omega) (by omega) rfl, by unfold jdg; omega⟩ | exact ⟨by omega, 4, rt_4 (by omega) (by omega) (by omega) rfl, by unfold jdg; omega⟩ | exact ⟨by omega, 5, rt_5 (by omega) (by omega) (by omega) (kr_n hKr55 (by omega)) rfl, by unfold jdg; omega⟩ | exact ⟨by omega, _, rt_sw (by omega) (by omega) (by omega) (kr_y hKr55 (by omega)) hLm73 (by omega) hSw78, by unfold jdg; omega⟩)⟩)⟩, by rw [ht]; exact hP, hD⟩, hS.F ht⟩) hS.2.2 dX10_rideTrouble_32
    · refine lv_iconst (v := Int32.ofInt 1) hx hb dX10_rideTrouble_21 (by decide +kernel) ?_
      exact W.iret (v := Int32.ofInt (1)) hx hb hr (fun t ht hW => ⟨⟨Int32.ofInt (1), (1, fa 39, fa 40, fi 41, fi 42, fi 43), rfl, ⟨rfl, (show (inR 1) ∧ (∀ t, inR ((fa 39) t)) ∧ (∀ t, inR ((fa 40) t)) ∧ (inR (fi 41)) ∧ (inR (fi 42)) ∧ (inR (fi 43)) ∧ ((1 = 0 → ¬ fi 29 = 60) ∧ ∃ r0, RtP r0 (fa 3 0) (fi 28) (gs (lc (fa 32) (fa 5) 0) (fi 12)) (gs (lc (fa 32) (fa 5) 1) (fi 12)) (fa 3 2) (bkI (fun q => evR (fa 10) (vls (fa 32) (fa 4) (fa 5) 0 (fi 12) (fa 3 0) (fi 28)) (fa 8 q) (fa 9 q)) (fi 13) ∧ bkI (fun q => evR (fa 10) (vls (fa 32) (fa 4) (fa 5) 1 (fi 12) (fa 3 0) (fi 28)) (fa 8 q) (fa 9 q)) (fi 13)) (fa 3 3) (fa 3 4) (fa 3 5) (fa 3 6) d0 w0 ∧ 1 = jdg r0 (fi 29)) from ⟨(by omega), (hRa 39), (hRa 40), (hR 41), (hR 42), (hR 43), (by first | exact ⟨by omega, 1, rt_1 (by omega) rfl, by unfold jdg; omega⟩ | exact ⟨by omega, 3, rt_3 (by omega) (by omega) rfl, by unfold jdg; omega⟩ | exact ⟨by omega, 4, rt_4 (by omega) (by omega) (by omega) rfl, by unfold jdg; omega⟩ | exact ⟨by omega, 5, rt_5 (by omega) (by omega) (by omega) (kr_n hKr55 (by omega)) rfl, by unfold jdg; omega⟩ | exact ⟨by omega, _, rt_sw (by omega) (by omega) (by omega) (kr_y hKr55 (by omega)) hLm73 (by omega) hSw78, by unfold jdg; omega⟩)⟩)⟩, by rw [ht]; exact hP, hD⟩, hS.F ht⟩) hS.2.2 dX10_rideTrouble_22

set_option maxHeartbeats 4000000 in
set_option maxRecDepth 100000 in
theorem mX10_refuse (l : Launch) (G : va_G) (k : Nat → ClassId) (ar : Nat → Nat) (fi : Nat → Int) (fa : Nat → Int → Int) (fl : Nat → Int64) (k0 : Int) (sz : Nat) (hR : ∀ j, inR (fi j)) (hRa : ∀ j t, inR (fa j t)) (hr_k0 : inR k0) : CNi l G k (EZ k) yX10_refuse wzX10_refuse ({ frames := 0, cells := 0, slots := 0, locals := 0 }) [.ref (ar 71), .int (Int32.ofInt (k0))] sz (wM k ar fi fa fl) (fun (r0 : Int32) (u : Int × (Int → Int)) => r0 = Int32.ofInt (u.1) ∧ (inR u.1) ∧ (∀ t, inR (u.2 t)) ∧ (u.1 = k0)) (fun (u : Int × (Int → Int)) => (wM k ar fi (uF fa 11 (u.2)) fl)) := by
  refine Met.ofW (cc := cX10_refuse) (maxL := 2) (ret := (some .int)) (by decide) rfl ?_
  intro p e s m args below meth c s₁ B hml hv
  obtain ⟨rfl, hsz, hP, hX, hD0, hZ0⟩ := hv
  have hx := B.exec
  have hb := B.bytes
  have hr := B.returns
  have hts := atoms_spec (ws := wzX10_refuse) B.pre
  have hown : s.vm.findClass RX10 = some m.cls := findClass_of_methodNamed B.named
  subst hsz
  have hD := hD0.self (sz := s.heap.size)
  have hZ := hZ0
  generalize hAe : va_A (wM k ar fi fa fl) s.heap.size = A at hD hZ ⊢
  have hA : ∀ q : Nat, s.heap.size ≤ q → A q := fun q h => by rw [← hAe]; exact Or.inr h
  have hS : va_S A s.heap s.heap [] := va_S.rf
  have hl := lv_entry ([.ref (ar 71), .int (Int32.ofInt (k0))]) (n := 2) (Nat.le_of_ble_eq_true rfl)
  rw [lg_entry_eq]
  generalize (lg_sl ([.ref (ar 71), .int (Int32.ofInt (k0))]) ++ List.replicate (2 - (lg_sl ([.ref (ar 71), .int (Int32.ofInt (k0))])).length) Slot.unset).toArray = ls at hl ⊢
  have hl : lv_has ls 2 [(0, .ref (ar 71)), (1, .int (Int32.ofInt (k0)))] := hl
  obtain ⟨H, eH⟩ : ∃ H, H = s.heap := ⟨_, rfl⟩
  rw [← eH] at hP
  have hS : va_S A s.heap H [] := by rw [eH]; exact hS
  have gW : s.heap = H := eH.symm
  refine iv_heap gW ?_
  have h0w := hts (.fieldLink RX10 77 "RopeTownModel" "status" "[I") (wz_at 6 14 rfl)
  have h1w : ∀ w ∈ wsX100, w ∈ wzX10_refuse := fun w h => List.mem_cons_of_mem _ (inlX10 w h)
  refine lv_aload_n hx hb dX10_refuse_0 rfl (lv_at hl 0 rfl) ?_
  refine va_get (D := G) (ci := 7) (v := .ref (ar 11)) (C := RX10) (T := TX10) (N := 71) (ref := RX10) hx hb hts h1w hown hX.1 hP 0 rfl rfl 11 (by decide) h0w (fun _ h9 => h9) rfl dX10_refuse_1 ?_
  refine lv_iconst (v := Int32.ofInt 1) hx hb dX10_refuse_4 (by decide +kernel) ?_
  refine lv_dup2_11 hx hb dX10_refuse_5 rfl rfl ?_
  refine iv_iald hx hb hX.1 hP 9 0 rfl rfl (by omega) (by omega) (by decide) dX10_refuse_6 ?_
  refine iv_top (fun z1 ez1 => ?_)
  have rz1 : inR z1 := ez1 ▸ (hRa 11) _
  have ez1 : z1 = (fa 11) 1 := ez1
  refine lv_iconst (v := Int32.ofInt 1) hx hb dX10_refuse_7 (by decide +kernel) ?_
  refine iv_add (x := z1) (y := 1) hx hb dX10_refuse_8 ?_
  refine iv_wr ?_
  refine iv_top (fun z2 ez2 => ?_)
  have rz2 : inR z2 := ez2 ▸ bWr_r _
  refine iv_iast hx hb hX.1 hP hD hS 9 0 rfl rfl (wM_A11 _ _ _ _ _) (by omega) (by omega) (by decide) dX10_refuse_9 (fun H locs hP hD hS => ?_)
  obtain ⟨g3, eg3, rg3⟩ : ∃ z, z = uA (fa 11) (1) (z2) ∧ ∀ t, inR (z t) := ⟨_, rfl, iU (hRa 11) (by omega)⟩
  rw [← eg3] at hP hD
  refine lv_iload_n hx hb dX10_refuse_10 rfl (lv_at hl 1 rfl) ?_
  exact W.iret (v := Int32.ofInt (k0)) hx hb hr (fun t ht hW => ⟨⟨Int32.ofInt (k0), (k0, g3), rfl, ⟨rfl, (show (inR k0) ∧ (∀ t, inR (g3 t)) ∧ (k0 = k0) from ⟨(by omega), rg3, (by omega)⟩)⟩, by rw [ht]; exact hP, hD⟩, hS.F ht⟩) hS.2.2 dX10_refuse_11

