set_option maxHeartbeats 4000000 in
set_option maxRecDepth 100000 in
theorem mX10_keepsCap_32 (l : Launch) (G : va_G) (k : Nat → ClassId) (ar : Nat → Nat) (fi : Nat → Int) (fa : Nat → Int → Int) (fl : Nat → Int64) (sz : Nat) (hR : ∀ j, inR (fi j)) (hRa : ∀ j t, inR (fa j t)) (hth : 0 ≤ fi 12 ∧ fi 12 ≤ 7) : CNi l G k (EZ k) yX10_keepsCap wsX10_keepsCap ({ frames := 2, cells := 0, slots := 0, locals := 45 }) [.ref (ar 71), .ref (ar 32)] sz (wM k ar fi fa fl) (fun (r0 : Int32) (u : Int) => r0 = Int32.ofInt (u) ∧ (inR u) ∧ ((u = 0 ∨ u = 1))) (fun (u : Int) => (wM k ar fi fa fl)) := by
  refine Met.ofW (cc := cX10_keepsCap) (maxL := 2) (ret := (some .boolean)) (by decide) rfl ?_
  intro p e s m args below meth c s₁ B hml hv
  obtain ⟨rfl, hsz, hP, hX, hD0, hZ0⟩ := hv
  have hx := B.exec
  have hb := B.bytes
  have hr := B.returns
  have hts := atoms_spec (ws := wsX10_keepsCap) B.pre
  have hown : s.vm.findClass RX10 = some m.cls := findClass_of_methodNamed B.named
  subst hsz
  have hD := hD0.self (sz := s.heap.size)
  have hZ := hZ0
  generalize hAe : va_A (wM k ar fi fa fl) s.heap.size = A at hD hZ ⊢
  have hA : ∀ q : Nat, s.heap.size ≤ q → A q := fun q h => by rw [← hAe]; exact Or.inr h
  have hS : va_S A s.heap s.heap [] := va_S.rf
  have hl := lv_entry ([.ref (ar 71), .ref (ar 32)]) (n := 2) (Nat.le_of_ble_eq_true rfl)
  rw [lg_entry_eq]
  generalize (lg_sl ([.ref (ar 71), .ref (ar 32)]) ++ List.replicate (2 - (lg_sl ([.ref (ar 71), .ref (ar 32)])).length) Slot.unset).toArray = ls at hl ⊢
  have hl : lv_has ls 2 [(0, .ref (ar 71)), (1, .ref (ar 32))] := hl
  obtain ⟨H, eH⟩ : ∃ H, H = s.heap := ⟨_, rfl⟩
  rw [← eH] at hP
  have hS : va_S A s.heap H [] := by rw [eH]; exact hS
  have gW : s.heap = H := eH.symm
  refine iv_heap gW ?_
  have h0w := hts (.fieldLink RX10 54 "RopeTownModel" "rule" "[I") (by decide +kernel)
  have h1w : ∀ w ∈ wsX100, w ∈ wsX10_keepsCap := by decide +kernel
  refine lv_aload_n hx hb dX10_keepsCap_0 rfl (lv_at hl 0 rfl) ?_
  refine lv_aload_n hx hb dX10_keepsCap_1 rfl (lv_at hl 1 rfl) ?_
  refine lv_iconst (v := Int32.ofInt 0) hx hb dX10_keepsCap_2 (by decide +kernel) ?_
  refine cr_i (va_runV (As := [.ref (ar 32), .int (Int32.ofInt (0))]) (rest := []) ⟨hx, hb, hml, hown, hts⟩ (mX10_loadOf_32 l G k ar fi fa fl 0 H.size hR hRa (by omega) (show 0 ≤ (fi 12) ∧ (fi 12) ≤ 7 from by omega)) (cwV 2 hts gX10_keepsCap_X10_loadOf rfl rfl rfl (by decide +kernel) ⟨Nat.le_of_ble_eq_true rfl, Nat.le_of_ble_eq_true rfl⟩) (cr_preV (EZ_ok k) hZ hS hX hP hD hA (ci := 7) (q0 := 0) rfl rfl) rfl rfl hl.1 rfl (lv_room (Nat.le_of_ble_eq_true rfl)) dX10_keepsCap_3 ⟨Nat.le_of_ble_eq_true rfl, Nat.le_of_ble_eq_true rfl⟩) hD hS hA (fun r u H locs hp hP hD hS => ?_)
  obtain ⟨c1, rfl⟩ : ∃ z, z = u := ⟨_, rfl⟩
  obtain ⟨h9, rc1, hp1⟩ : r = Int32.ofInt c1 ∧ (inR c1) ∧ (True) := hp
  subst h9
  refine lv_aload_n hx hb dX10_keepsCap_6 rfl (lv_at hl 0 rfl) ?_
  refine va_get (D := G) (ci := 7) (v := .ref (ar 3)) (C := RX10) (T := TX10) (N := 71) (ref := RX10) hx hb hts h1w hown hX.1 hP 0 rfl rfl 3 (by decide) h0w (fun _ h9 => h9) rfl dX10_keepsCap_7 ?_
  refine lv_iconst (v := Int32.ofInt 2) hx hb dX10_keepsCap_10 (by decide +kernel) ?_
  refine iv_iald hx hb hX.1 hP 1 0 rfl rfl (by omega) (by omega) (by decide) dX10_keepsCap_11 ?_
  refine iv_top (fun z2 ez2 => ?_)
  have rz2 : inR z2 := ez2 ▸ (hRa 3) _
  have ez2 : z2 = (fa 3) 2 := ez2
  refine iv_icmp_gt (tgt := 34) hx hb (by omega) (by omega) dX10_keepsCap_12 (by decide) (fun q3 => ?_) (fun q3 => ?_)
  · refine lv_iconst (v := Int32.ofInt 0) hx hb dX10_keepsCap_34 (by decide +kernel) ?_
    exact W.zret (v := Int32.ofInt (0)) hx hb hr (nz_bool (by omega)) (fun t ht hW => ⟨⟨Int32.ofInt (0), (0), rfl, ⟨rfl, (show (inR 0) ∧ ((0 = 0 ∨ 0 = 1)) from ⟨(by omega), (by omega)⟩)⟩, by rw [ht]; exact hP, hD⟩, hS.F ht⟩) hS.2.2 dX10_keepsCap_35
  · refine lv_aload_n hx hb dX10_keepsCap_15 rfl (lv_at hl 0 rfl) ?_
    refine lv_aload_n hx hb dX10_keepsCap_16 rfl (lv_at hl 1 rfl) ?_
    refine lv_iconst (v := Int32.ofInt 1) hx hb dX10_keepsCap_17 (by decide +kernel) ?_
    refine cr_i (va_runV (As := [.ref (ar 32), .int (Int32.ofInt (1))]) (rest := []) ⟨hx, hb, hml, hown, hts⟩ (mX10_loadOf_32 l G k ar fi fa fl 1 H.size hR hRa (by omega) (show 0 ≤ (fi 12) ∧ (fi 12) ≤ 7 from by omega)) (cwV 2 hts gX10_keepsCap_X10_loadOf rfl rfl rfl (by decide +kernel) ⟨Nat.le_of_ble_eq_true rfl, Nat.le_of_ble_eq_true rfl⟩) (cr_preV (EZ_ok k) hZ hS hX hP hD hA (ci := 7) (q0 := 0) rfl rfl) rfl rfl hl.1 rfl (lv_room (Nat.le_of_ble_eq_true rfl)) dX10_keepsCap_18 ⟨Nat.le_of_ble_eq_true rfl, Nat.le_of_ble_eq_true rfl⟩) hD hS hA (fun r u H locs hp hP hD hS => ?_)
    obtain ⟨c4, rfl⟩ : ∃ z, z = u := ⟨_, rfl⟩
    obtain ⟨h9, rc4, hp4⟩ : r = Int32.ofInt c4 ∧ (inR c4) ∧ (True) := hp
    subst h9
    refine lv_aload_n hx hb dX10_keepsCap_21 rfl (lv_at hl 0 rfl) ?_
    refine va_get (D := G) (ci := 7) (v := .ref (ar 3)) (C := RX10) (T := TX10) (N := 71) (ref := RX10) hx hb hts h1w hown hX.1 hP 0 rfl rfl 3 (by decide) h0w (fun _ h9 => h9) rfl dX10_keepsCap_22 ?_
    refine lv_iconst (v := Int32.ofInt 2) hx hb dX10_keepsCap_25 (by decide +kernel) ?_
    refine iv_iald hx hb hX.1 hP 1 0 rfl rfl (by omega) (by omega) (by decide) dX10_keepsCap_26 ?_
    refine iv_top (fun z5 ez5 => ?_)
    have rz5 : inR z5 := ez5 ▸ (hRa 3) _
    have ez5 : z5 = (fa 3) 2 := ez5
    refine iv_icmp_gt (tgt := 34) hx hb (by omega) (by omega) dX10_keepsCap_27 (by decide) (fun q6 => ?_) (fun q6 => ?_)
    · refine lv_iconst (v := Int32.ofInt 0) hx hb dX10_keepsCap_34 (by decide +kernel) ?_
      exact W.zret (v := Int32.ofInt (0)) hx hb hr (nz_bool (by omega)) (fun t ht hW => ⟨⟨Int32.ofInt (0), (0), rfl, ⟨rfl, (show (inR 0) ∧ ((0 = 0 ∨ 0 = 1)) from ⟨(by omega), (by omega)⟩)⟩, by rw [ht]; exact hP, hD⟩, hS.F ht⟩) hS.2.2 dX10_keepsCap_35
    · refine lv_iconst (v := Int32.ofInt 1) hx hb dX10_keepsCap_30 (by decide +kernel) ?_
      refine lv_goto (tgt := 35) hx hb dX10_keepsCap_31 (by decide) ?_
      exact W.zret (v := Int32.ofInt (1)) hx hb hr (nz_bool (by omega)) (fun t ht hW => ⟨⟨Int32.ofInt (1), (1), rfl, ⟨rfl, (show (inR 1) ∧ ((1 = 0 ∨ 1 = 1)) from ⟨(by omega), (by omega)⟩)⟩, by rw [ht]; exact hP, hD⟩, hS.F ht⟩) hS.2.2 dX10_keepsCap_35

set_option maxHeartbeats 4000000 in
set_option maxRecDepth 100000 in
theorem mX10_keepsRules_32 (l : Launch) (G : va_G) (k : Nat → ClassId) (ar : Nat → Nat) (fi : Nat → Int) (fa : Nat → Int → Int) (fl : Nat → Int64) (a0 : Int) (sz : Nat) (hR : ∀ j, inR (fi j)) (hRa : ∀ j t, inR (fa j t)) (hr_a0 : inR a0) (hth : 0 ≤ fi 12 ∧ fi 12 ≤ 7) (hru : 0 ≤ fi 13 ∧ fi 13 ≤ 4) (hRW : ∀ q9, 0 ≤ q9 → q9 < fi 13 → RWf (fa 10) (fa 8 q9) (fa 9 q9)) : CNi l G k (EZ k) yX10_keepsRules wsX10_keepsRules ({ frames := 3, cells := 0, slots := 0, locals := 70 }) [.ref (ar 71), .ref (ar 32), .int (Int32.ofInt (a0))] sz (wM k ar fi fa fl) (fun (r0 : Int32) (u : Int × (Int → Int) × (Int → Int)) => r0 = Int32.ofInt (u.1) ∧ (inR u.1) ∧ (∀ t, inR (u.2.1 t)) ∧ (∀ t, inR (u.2.2 t)) ∧ ((u.1 = 0 ∨ u.1 = 1))) (fun (u : Int × (Int → Int) × (Int → Int)) => (wM k ar fi (uF (uF fa 39 (u.2.1)) 40 (u.2.2)) fl)) := by
  refine Met.ofW (cc := cX10_keepsRules) (maxL := 3) (ret := (some .boolean)) (by decide) rfl ?_
  intro p e s m args below meth c s₁ B hml hv
  obtain ⟨rfl, hsz, hP, hX, hD0, hZ0⟩ := hv
  have hx := B.exec
  have hb := B.bytes
  have hr := B.returns
  have hts := atoms_spec (ws := wsX10_keepsRules) B.pre
  have hown : s.vm.findClass RX10 = some m.cls := findClass_of_methodNamed B.named
  subst hsz
  have hD := hD0.self (sz := s.heap.size)
  have hZ := hZ0
  generalize hAe : va_A (wM k ar fi fa fl) s.heap.size = A at hD hZ ⊢
  have hA : ∀ q : Nat, s.heap.size ≤ q → A q := fun q h => by rw [← hAe]; exact Or.inr h
  have hS : va_S A s.heap s.heap [] := va_S.rf
  have hl := lv_entry ([.ref (ar 71), .ref (ar 32), .int (Int32.ofInt (a0))]) (n := 3) (Nat.le_of_ble_eq_true rfl)
  rw [lg_entry_eq]
  generalize (lg_sl ([.ref (ar 71), .ref (ar 32), .int (Int32.ofInt (a0))]) ++ List.replicate (3 - (lg_sl ([.ref (ar 71), .ref (ar 32), .int (Int32.ofInt (a0))])).length) Slot.unset).toArray = ls at hl ⊢
  have hl : lv_has ls 3 [(0, .ref (ar 71)), (1, .ref (ar 32)), (2, .int (Int32.ofInt (a0)))] := hl
  obtain ⟨H, eH⟩ : ∃ H, H = s.heap := ⟨_, rfl⟩
  rw [← eH] at hP
  have hS : va_S A s.heap H [] := by rw [eH]; exact hS
  have gW : s.heap = H := eH.symm
  refine iv_heap gW ?_
  refine lv_aload_n hx hb dX10_keepsRules_0 rfl (lv_at hl 0 rfl) ?_
  refine lv_aload_n hx hb dX10_keepsRules_1 rfl (lv_at hl 1 rfl) ?_
  refine lv_iconst (v := Int32.ofInt 0) hx hb dX10_keepsRules_2 (by decide +kernel) ?_
  refine lv_iload_n hx hb dX10_keepsRules_3 rfl (lv_at hl 2 rfl) ?_
  refine cr_i (va_runV (As := [.ref (ar 32), .int (Int32.ofInt (0)), .int (Int32.ofInt (a0))]) (rest := []) ⟨hx, hb, hml, hown, hts⟩ (mX10_brokenBy_32 l G k ar fi fa fl 0 a0 H.size hR hRa (by omega) (by omega) (show 0 ≤ (fi 12) ∧ (fi 12) ≤ 7 from by omega) (show 0 ≤ (fi 13) ∧ (fi 13) ≤ 4 from by omega) (show ∀ q9, 0 ≤ q9 → q9 < (fi 13) → RWf ((fa 10)) ((fa 8) q9) ((fa 9) q9) from by first | exact hRW | omega)) (cwV 3 hts gX10_keepsRules_X10_brokenBy rfl rfl rfl (by decide +kernel) ⟨Nat.le_of_ble_eq_true rfl, Nat.le_of_ble_eq_true rfl⟩) (cr_preV (EZ_ok k) hZ hS hX hP hD hA (ci := 7) (q0 := 0) rfl rfl) rfl rfl hl.1 rfl (lv_room (Nat.le_of_ble_eq_true rfl)) dX10_keepsRules_4 ⟨Nat.le_of_ble_eq_true rfl, Nat.le_of_ble_eq_true rfl⟩) hD hS hA (fun r u H locs hp hP hD hS => ?_)
  obtain ⟨c1, c2, c3⟩ := u
  obtain ⟨hP, hD⟩ : va_P G vwCl (wM k ar fi (uF (uF fa 39 (c2)) 40 (c3)) fl) H ∧ va_D A (wM k ar fi (uF (uF fa 39 (c2)) 40 (c3)) fl) := ⟨hP, hD⟩
  obtain ⟨h9, rc1, rc2, rc3, hp3⟩ : r = Int32.ofInt c1 ∧ (inR c1) ∧ (∀ t, inR (c2 t)) ∧ (∀ t, inR (c3 t)) ∧ (True) := hp
  subst h9
  refine lv_iconst (v := Int32.ofInt (-1)) hx hb dX10_keepsRules_7 (by decide +kernel) ?_
  refine iv_icmp_ne (tgt := 26) hx hb (by omega) (by omega) dX10_keepsRules_8 (by decide) (fun q4 => ?_) (fun q4 => ?_)
  · refine lv_iconst (v := Int32.ofInt 0) hx hb dX10_keepsRules_26 (by decide +kernel) ?_
    exact W.zret (v := Int32.ofInt (0)) hx hb hr (nz_bool (by omega)) (fun t ht hW => ⟨⟨Int32.ofInt (0), (0, c2, c3), rfl, ⟨rfl, (show (inR 0) ∧ (∀ t, inR (c2 t)) ∧ (∀ t, inR (c3 t)) ∧ ((0 = 0 ∨ 0 = 1)) from ⟨(by omega), rc2, rc3, (by omega)⟩)⟩, by rw [ht]; exact hP, hD⟩, hS.F ht⟩) hS.2.2 dX10_keepsRules_27
  · refine lv_aload_n hx hb dX10_keepsRules_11 rfl (lv_at hl 0 rfl) ?_
    refine lv_aload_n hx hb dX10_keepsRules_12 rfl (lv_at hl 1 rfl) ?_
    refine lv_iconst (v := Int32.ofInt 1) hx hb dX10_keepsRules_13 (by decide +kernel) ?_
    refine lv_iload_n hx hb dX10_keepsRules_14 rfl (lv_at hl 2 rfl) ?_
    refine cr_i (va_runV (As := [.ref (ar 32), .int (Int32.ofInt (1)), .int (Int32.ofInt (a0))]) (rest := []) ⟨hx, hb, hml, hown, hts⟩ (mX10_brokenBy_32 l G k ar fi (uF (uF fa 39 (c2)) 40 (c3)) fl 1 a0 H.size hR (iG (iG hRa rc2) rc3) (by omega) (by omega) (show 0 ≤ (fi 12) ∧ (fi 12) ≤ 7 from by omega) (show 0 ≤ (fi 13) ∧ (fi 13) ≤ 4 from by omega) (show ∀ q9, 0 ≤ q9 → q9 < (fi 13) → RWf ((fa 10)) ((fa 8) q9) ((fa 9) q9) from by first | exact hRW | omega)) (cwV 3 hts gX10_keepsRules_X10_brokenBy rfl rfl rfl (by decide +kernel) ⟨Nat.le_of_ble_eq_true rfl, Nat.le_of_ble_eq_true rfl⟩) (cr_preV (EZ_ok k) hZ hS hX hP hD hA (ci := 7) (q0 := 0) rfl rfl) rfl rfl hl.1 rfl (lv_room (Nat.le_of_ble_eq_true rfl)) dX10_keepsRules_15 ⟨Nat.le_of_ble_eq_true rfl, Nat.le_of_ble_eq_true rfl⟩) hD hS hA (fun r u H locs hp hP hD hS => ?_)
    obtain ⟨c5, c6, c7⟩ := u
    obtain ⟨hP, hD⟩ : va_P G vwCl (wM k ar fi (uF (uF fa 39 (c6)) 40 (c7)) fl) H ∧ va_D A (wM k ar fi (uF (uF fa 39 (c6)) 40 (c7)) fl) := ⟨hP, hD⟩
    obtain ⟨h9, rc5, rc6, rc7, hp7⟩ : r = Int32.ofInt c5 ∧ (inR c5) ∧ (∀ t, inR (c6 t)) ∧ (∀ t, inR (c7 t)) ∧ (True) := hp
    subst h9
    refine lv_iconst (v := Int32.ofInt (-1)) hx hb dX10_keepsRules_18 (by decide +kernel) ?_
    refine iv_icmp_ne (tgt := 26) hx hb (by omega) (by omega) dX10_keepsRules_19 (by decide) (fun q8 => ?_) (fun q8 => ?_)
    · refine lv_iconst (v := Int32.ofInt 0) hx hb dX10_keepsRules_26 (by decide +kernel) ?_
      exact W.zret (v := Int32.ofInt (0)) hx hb hr (nz_bool (by omega)) (fun t ht hW => ⟨⟨Int32.ofInt (0), (0, c6, c7), rfl, ⟨rfl, (show (inR 0) ∧ (∀ t, inR (c6 t)) ∧ (∀ t, inR (c7 t)) ∧ ((0 = 0 ∨ 0 = 1)) from ⟨(by omega), rc6, rc7, (by omega)⟩)⟩, by rw [ht]; exact hP, hD⟩, hS.F ht⟩) hS.2.2 dX10_keepsRules_27
    · refine lv_iconst (v := Int32.ofInt 1) hx hb dX10_keepsRules_22 (by decide +kernel) ?_
      refine lv_goto (tgt := 27) hx hb dX10_keepsRules_23 (by decide) ?_
      exact W.zret (v := Int32.ofInt (1)) hx hb hr (nz_bool (by omega)) (fun t ht hW => ⟨⟨Int32.ofInt (1), (1, c6, c7), rfl, ⟨rfl, (show (inR 1) ∧ (∀ t, inR (c6 t)) ∧ (∀ t, inR (c7 t)) ∧ ((1 = 0 ∨ 1 = 1)) from ⟨(by omega), rc6, rc7, (by omega)⟩)⟩, by rw [ht]; exact hP, hD⟩, hS.F ht⟩) hS.2.2 dX10_keepsRules_27

set_option maxHeartbeats 4000000 in
set_option maxRecDepth 100000 in
theorem mX10_tellRide_44 (l : Launch) (G : va_G) (k : Nat → ClassId) (ar : Nat → Nat) (fi : Nat → Int) (fa : Nat → Int → Int) (fl : Nat → Int64) (f0 : Int) (t0 : Int) (sz : Nat) (hR : ∀ j, inR (fi j)) (hRa : ∀ j t, inR (fa j t)) (hr_f0 : inR f0) (hr_t0 : inR t0) (hth : 0 ≤ fi 12 ∧ fi 12 ≤ 7) : CNv l G k (EZ k) yX10_tellRide wsX10_tellRide ({ frames := 3, cells := 0, slots := 0, locals := 68 }) [.ref (ar 71), .ref (ar 44), .int (Int32.ofInt (f0)), .int (Int32.ofInt (t0))] sz (wM k ar fi fa fl) (fun (u : Int × Int × Int) => (inR u.1) ∧ (inR u.2.1) ∧ (inR u.2.2) ∧ (True)) (fun (u : Int × Int × Int) => (wM k ar (uF (uF (uF fi 41 (u.1)) 42 (u.2.1)) 43 (u.2.2)) fa fl)) := by
  refine Met.ofW (cc := cX10_tellRide) (maxL := 8) (ret := none) (by decide) rfl ?_
  intro p e s m args below meth c s₁ B hml hv
  obtain ⟨rfl, hsz, hP, hX, hD0, hZ0⟩ := hv
  have hx := B.exec
  have hb := B.bytes
  have hr := B.returns
  have hts := atoms_spec (ws := wsX10_tellRide) B.pre
  have hown : s.vm.findClass RX10 = some m.cls := findClass_of_methodNamed B.named
  subst hsz
  have hD := hD0.self (sz := s.heap.size)
  have hZ := hZ0
  generalize hAe : va_A (wM k ar fi fa fl) s.heap.size = A at hD hZ ⊢
  have hA : ∀ q : Nat, s.heap.size ≤ q → A q := fun q h => by rw [← hAe]; exact Or.inr h
  have hS : va_S A s.heap s.heap [] := va_S.rf
  have hl := lv_entry ([.ref (ar 71), .ref (ar 44), .int (Int32.ofInt (f0)), .int (Int32.ofInt (t0))]) (n := 8) (Nat.le_of_ble_eq_true rfl)
  rw [lg_entry_eq]
  generalize (lg_sl ([.ref (ar 71), .ref (ar 44), .int (Int32.ofInt (f0)), .int (Int32.ofInt (t0))]) ++ List.replicate (8 - (lg_sl ([.ref (ar 71), .ref (ar 44), .int (Int32.ofInt (f0)), .int (Int32.ofInt (t0))])).length) Slot.unset).toArray = ls at hl ⊢
  have hl : lv_has ls 8 [(0, .ref (ar 71)), (1, .ref (ar 44)), (2, .int (Int32.ofInt (f0))), (3, .int (Int32.ofInt (t0)))] := hl
  obtain ⟨H, eH⟩ : ∃ H, H = s.heap := ⟨_, rfl⟩
  rw [← eH] at hP
  have hS : va_S A s.heap H [] := by rw [eH]; exact hS
  have gW : s.heap = H := eH.symm
  refine iv_heap gW ?_
  have h0w := hts (.constant RX10 383 (1000000000)) (by decide +kernel)
  have h1w := hts (.fieldLink RX10 384 "RopeTownModel" "leastExcess" "I") (by decide +kernel)
  have h2w : ∀ w ∈ wsX100, w ∈ wsX10_tellRide := by decide +kernel
  have h3w := hts (.constant RX10 387 (-1000000000)) (by decide +kernel)
  have h4w := hts (.fieldLink RX10 388 "RopeTownModel" "mostExcess" "I") (by decide +kernel)
  have h5w := hts (.fieldLink RX10 391 "RopeTownModel" "wound" "I") (by decide +kernel)
  have h6w := hts (.methodLink RX10 211 Lib.Math.min.name) (by decide +kernel)
  have h7w := hts (.static Lib.Math.min.name) (by decide +kernel)
  have h8w := hts (.initialized "java/lang/Math") (by decide +kernel)
  have h9w := hts (.code Lib.Math.min.name Lib.Math.min.code 2 (some .int)) (by decide +kernel)
  have h10w := hts (.methodLink RX10 394 Lib.Math.max.name) (by decide +kernel)
  have h11w := hts (.static Lib.Math.max.name) (by decide +kernel)
  have h12w := hts (.code Lib.Math.max.name Lib.Math.max.code 2 (some .int)) (by decide +kernel)
  have h13w := hts (.fieldLink RX10 54 "RopeTownModel" "rule" "[I") (by decide +kernel)
  refine lv_aload_n hx hb dX10_tellRide_0 rfl (lv_at hl 0 rfl) ?_
  refine lv_ldcw (v := Int32.ofInt 1000000000) hx hb hown h0w dX10_tellRide_1 ?_
  refine iv_put (ci := 7) (v := .int (Int32.ofInt (1000000000))) (ty := .int) (C := RX10) (T := TX10) (N := 71) (ref := RX10) hx hb hts h2w tyX10 tyX10_ok nmX10 hown hX.1 hP hD hS 0 rfl rfl 41 (by decide) h1w (fun _ h9 => h9) rfl (by decide +kernel) rfl rfl (Nat.le_of_ble_eq_true rfl) (wM_F41 _ _ _ _ _) dX10_tellRide_4 (fun H locs hP hD hS => ?_)
  refine lv_aload_n hx hb dX10_tellRide_7 rfl (lv_at hl 0 rfl) ?_
  refine lv_ldcw (v := Int32.ofInt (-1000000000)) hx hb hown h3w dX10_tellRide_8 ?_
  refine iv_put (ci := 7) (v := .int (Int32.ofInt ((-1000000000)))) (ty := .int) (C := RX10) (T := TX10) (N := 71) (ref := RX10) hx hb hts h2w tyX10 tyX10_ok nmX10 hown hX.1 hP hD hS 0 rfl rfl 42 (by decide) h4w (fun _ h9 => h9) rfl (by decide +kernel) rfl rfl (Nat.le_of_ble_eq_true rfl) (wM_F42 _ _ _ _ _) dX10_tellRide_11 (fun H locs hP hD hS => ?_)
  refine lv_aload_n hx hb dX10_tellRide_14 rfl (lv_at hl 0 rfl) ?_
  refine lv_iconst (v := Int32.ofInt 0) hx hb dX10_tellRide_15 (by decide +kernel) ?_
  refine iv_put (ci := 7) (v := .int (Int32.ofInt (0))) (ty := .int) (C := RX10) (T := TX10) (N := 71) (ref := RX10) hx hb hts h2w tyX10 tyX10_ok nmX10 hown hX.1 hP hD hS 0 rfl rfl 43 (by decide) h5w (fun _ h9 => h9) rfl (by decide +kernel) rfl rfl (Nat.le_of_ble_eq_true rfl) (wM_F43 _ _ _ _ _) dX10_tellRide_16 (fun H locs hP hD hS => ?_)
  refine lv_iload_n hx hb dX10_tellRide_19 rfl (lv_at hl 3 rfl) ?_
  refine lv_iload_n hx hb dX10_tellRide_20 rfl (lv_at hl 2 rfl) ?_
  refine iv_icmp_le (tgt := 28) hx hb (by omega) (by omega) dX10_tellRide_21 (by decide) (fun q1 => ?_) (fun q1 => ?_)
  · refine lv_iconst (v := Int32.ofInt (-1)) hx hb dX10_tellRide_28 (by decide +kernel) ?_
    refine lv_istore (lv' := [(4, .int (Int32.ofInt ((-1)))), (0, .ref (ar 71)), (1, .ref (ar 44)), (2, .int (Int32.ofInt (f0))), (3, .int (Int32.ofInt (t0)))]) hx hb dX10_tellRide_29 hl (by decide) rfl (fun ls hl => ?_)
    refine iv_join (G := G) (A := A) (H0 := s.heap) (α := Int × Int) (nL := 8) 41 (fun b9 => [.int (Int32.ofInt (b9.2))]) (fun b9 => (wM k ar (uF (uF (uF fi 41 (1000000000)) 42 ((-1000000000))) 43 (0)) fa fl)) (fun b9 => [(4, .int (Int32.ofInt (b9.1))), (0, .ref (ar 71)), (1, .ref (ar 44)), (2, .int (Int32.ofInt (f0))), (3, .int (Int32.ofInt (t0)))]) (fun b9 => inR b9.1 ∧ inR b9.2 ∧ (True)) ?_ (fun J41 => ?_)
    · rintro ⟨x4_2, s0_3⟩ hi9 H locs ls hP hD hS hl
      obtain ⟨r_x4_2, r_s0_3, hinv⟩ : inR x4_2 ∧ inR s0_3 ∧ (True) := hi9
      obtain ⟨hP, hD⟩ : va_P G vwCl (wM k ar (uF (uF (uF fi 41 (1000000000)) 42 ((-1000000000))) 43 (0)) fa fl) H ∧ va_D A (wM k ar (uF (uF (uF fi 41 (1000000000)) 42 ((-1000000000))) 43 (0)) fa fl) := ⟨hP, hD⟩
      have hl : lv_has ls 8 [(4, .int (Int32.ofInt (x4_2))), (0, .ref (ar 71)), (1, .ref (ar 44)), (2, .int (Int32.ofInt (f0))), (3, .int (Int32.ofInt (t0)))] := hl
      refine lv_istore (lv' := [(5, .int (Int32.ofInt (s0_3))), (4, .int (Int32.ofInt (x4_2))), (0, .ref (ar 71)), (1, .ref (ar 44)), (2, .int (Int32.ofInt (f0))), (3, .int (Int32.ofInt (t0)))]) hx hb dX10_tellRide_41 hl (by decide) rfl (fun ls hl => ?_)
      refine lv_iload_n hx hb dX10_tellRide_43 rfl (lv_at hl 4 rfl) ?_
      refine lv_istore (lv' := [(6, .int (Int32.ofInt (f0))), (5, .int (Int32.ofInt (s0_3))), (4, .int (Int32.ofInt (x4_2))), (0, .ref (ar 71)), (1, .ref (ar 44)), (2, .int (Int32.ofInt (f0))), (3, .int (Int32.ofInt (t0)))]) hx hb dX10_tellRide_44 hl (by decide) rfl (fun ls hl => ?_)
      refine iv_loop (α := Int × Int × Int × Int) (nL := 8) (fun b9 => (wM k ar (uF (uF (uF fi 41 (b9.2.1)) 42 (b9.2.2.1)) 43 (b9.2.2.2)) fa fl)) (fun b9 => [(6, .int (Int32.ofInt (b9.1))), (5, .int (Int32.ofInt (s0_3))), (4, .int (Int32.ofInt (x4_2))), (0, .ref (ar 71)), (1, .ref (ar 44)), (2, .int (Int32.ofInt (f0))), (3, .int (Int32.ofInt (t0)))]) (fun b9 => (x4_2 * (t0 - b9.1)).toNat) (fun b9 => inR b9.1 ∧ inR b9.2.1 ∧ inR b9.2.2.1 ∧ inR b9.2.2.2 ∧ (0 ≤ x4_2 * (t0 - b9.1))) ?_ (f0, 1000000000, (-1000000000), 0) (show inR f0 ∧ inR 1000000000 ∧ inR (-1000000000) ∧ inR 0 ∧ (0 ≤ x4_2 * (t0 - f0)) from ⟨(by omega), (by omega), (by omega), (by omega), (by omega)⟩) hP hD hS hl
      rintro ⟨x6_4, n41_5, n42_6, n43_7⟩ ih hi9 H locs ls hP hD hS hl
      obtain ⟨r_x6_4, r_n41_5, r_n42_6, r_n43_7, hinv⟩ : inR x6_4 ∧ inR n41_5 ∧ inR n42_6 ∧ inR n43_7 ∧ (0 ≤ x4_2 * (t0 - x6_4)) := hi9
      obtain ⟨hP, hD⟩ : va_P G vwCl (wM k ar (uF (uF (uF fi 41 (n41_5)) 42 (n42_6)) 43 (n43_7)) fa fl) H ∧ va_D A (wM k ar (uF (uF (uF fi 41 (n41_5)) 42 (n42_6)) 43 (n43_7)) fa fl) := ⟨hP, hD⟩
      have hl : lv_has ls 8 [(6, .int (Int32.ofInt (x6_4))), (5, .int (Int32.ofInt (s0_3))), (4, .int (Int32.ofInt (x4_2))), (0, .ref (ar 71)), (1, .ref (ar 44)), (2, .int (Int32.ofInt (f0))), (3, .int (Int32.ofInt (t0)))] := hl
      refine lv_iload hx hb dX10_tellRide_46 (lv_at hl 0 rfl) ?_
      refine lv_iload_n hx hb dX10_tellRide_48 rfl (lv_at hl 6 rfl) ?_
      refine iv_icmp_eq (tgt := 155) hx hb (by omega) (by omega) dX10_tellRide_49 (by decide) (fun q8 => ?_) (fun q8 => ?_)
      · exact W.vret hx hb hr (fun t ht hW => ⟨⟨(n41_5, n42_6, n43_7), rfl, (show (inR n41_5) ∧ (inR n42_6) ∧ (inR n43_7) ∧ (True) from ⟨(by omega), (by omega), (by omega), trivial⟩), by rw [ht]; exact hP, hD⟩, hS.F ht⟩) hS.2.2 dX10_tellRide_155
      · refine lv_aload_n hx hb dX10_tellRide_52 rfl (lv_at hl 3 rfl) ?_
        refine lv_aload_n hx hb dX10_tellRide_53 rfl (lv_at hl 4 rfl) ?_
        refine lv_iload hx hb dX10_tellRide_54 (lv_at hl 1 rfl) ?_
        refine lv_iload hx hb dX10_tellRide_56 (lv_at hl 0 rfl) ?_
        refine cr_i (va_runV (As := [.ref (ar 44), .int (Int32.ofInt (s0_3)), .int (Int32.ofInt (x6_4))]) (rest := []) ⟨hx, hb, hml, hown, hts⟩ (mX10_sideOf_44 l G k ar (uF (uF (uF fi 41 (n41_5)) 42 (n42_6)) 43 (n43_7)) fa fl s0_3 x6_4 H.size (iF (iF (iF hR (by omega)) (by omega)) (by omega)) hRa (by omega) (by omega) (show 0 ≤ (fi 12) ∧ (fi 12) ≤ 7 from by omega)) (cwV 3 hts gX10_tellRide_X10_sideOf rfl rfl rfl (by decide +kernel) ⟨Nat.le_of_ble_eq_true rfl, Nat.le_of_ble_eq_true rfl⟩) (cr_preV (EZ_ok k) hZ hS hX hP hD hA (ci := 7) (q0 := 0) rfl rfl) rfl rfl hl.1 rfl (lv_room (Nat.le_of_ble_eq_true rfl)) dX10_tellRide_58 ⟨Nat.le_of_ble_eq_true rfl, Nat.le_of_ble_eq_true rfl⟩) hD hS hA (fun r u H locs hp hP hD hS => ?_)
        obtain ⟨c9, rfl⟩ : ∃ z, z = u := ⟨_, rfl⟩
        obtain ⟨h9, rc9, hp9⟩ : r = Int32.ofInt c9 ∧ (inR c9) ∧ (True) := hp
        subst h9
        refine lv_aload_n hx hb dX10_tellRide_61 rfl (lv_at hl 3 rfl) ?_
        refine lv_aload_n hx hb dX10_tellRide_62 rfl (lv_at hl 4 rfl) ?_
        refine lv_iconst (v := Int32.ofInt 1) hx hb dX10_tellRide_63 (by decide +kernel) ?_
        refine lv_iload hx hb dX10_tellRide_64 (lv_at hl 1 rfl) ?_
        refine iv_sub (x := 1) (y := s0_3) hx hb dX10_tellRide_66 ?_
        refine iv_wr ?_
        refine iv_top (fun z10 ez10 => ?_)
        have rz10 : inR z10 := ez10 ▸ bWr_r _
        refine lv_iload hx hb dX10_tellRide_67 (lv_at hl 0 rfl) ?_
        refine cr_i (va_runV (As := [.ref (ar 44), .int (Int32.ofInt (z10)), .int (Int32.ofInt (x6_4))]) (rest := [.int (Int32.ofInt (c9))]) ⟨hx, hb, hml, hown, hts⟩ (mX10_sideOf_44 l G k ar (uF (uF (uF fi 41 (n41_5)) 42 (n42_6)) 43 (n43_7)) fa fl z10 x6_4 H.size (iF (iF (iF hR (by omega)) (by omega)) (by omega)) hRa (by omega) (by omega) (show 0 ≤ (fi 12) ∧ (fi 12) ≤ 7 from by omega)) (cwV 3 hts gX10_tellRide_X10_sideOf rfl rfl rfl (by decide +kernel) ⟨Nat.le_of_ble_eq_true rfl, Nat.le_of_ble_eq_true rfl⟩) (cr_preV (EZ_ok k) hZ hS hX hP hD hA (ci := 7) (q0 := 0) rfl rfl) rfl rfl hl.1 rfl (lv_room (Nat.le_of_ble_eq_true rfl)) dX10_tellRide_69 ⟨Nat.le_of_ble_eq_true rfl, Nat.le_of_ble_eq_true rfl⟩) hD hS hA (fun r u H locs hp hP hD hS => ?_)
        obtain ⟨c11, rfl⟩ : ∃ z, z = u := ⟨_, rfl⟩
        obtain ⟨h9, rc11, hp11⟩ : r = Int32.ofInt c11 ∧ (inR c11) ∧ (True) := hp
        subst h9
        refine iv_sub (x := c9) (y := c11) hx hb dX10_tellRide_72 ?_
        refine iv_wr ?_
        refine iv_top (fun z12 ez12 => ?_)
        have rz12 : inR z12 := ez12 ▸ bWr_r _
        refine lv_istore (lv' := [(7, .int (Int32.ofInt (z12))), (6, .int (Int32.ofInt (x6_4))), (5, .int (Int32.ofInt (s0_3))), (4, .int (Int32.ofInt (x4_2))), (0, .ref (ar 71)), (1, .ref (ar 44)), (2, .int (Int32.ofInt (f0))), (3, .int (Int32.ofInt (t0)))]) hx hb dX10_tellRide_73 hl (by decide) rfl (fun ls hl => ?_)
        refine lv_aload_n hx hb dX10_tellRide_75 rfl (lv_at hl 4 rfl) ?_
        refine lv_aload_n hx hb dX10_tellRide_76 rfl (lv_at hl 4 rfl) ?_
        refine va_get (D := G) (ci := 7) (v := .int (Int32.ofInt (n41_5))) (C := RX10) (T := TX10) (N := 71) (ref := RX10) hx hb hts h2w hown hX.1 hP 0 rfl rfl 41 (by decide) h1w (fun _ h9 => h9) rfl dX10_tellRide_77 ?_
        refine lv_iload hx hb dX10_tellRide_80 (lv_at hl 0 rfl) ?_
        refine iv_mmin hx hb (hml.trans hl.1.symm) hown h6w h7w h8w h9w (Nat.le_of_ble_eq_true rfl) (Nat.le_of_ble_eq_true rfl) (Nat.le_of_ble_eq_true rfl) (Nat.le_of_ble_eq_true rfl) (by omega) (by omega) dX10_tellRide_82 (fun z13 ez13 => ?_)
        have rz13 : inR z13 := by omega
        refine iv_put (ci := 7) (v := .int (Int32.ofInt (z13))) (ty := .int) (C := RX10) (T := TX10) (N := 71) (ref := RX10) hx hb hts h2w tyX10 tyX10_ok nmX10 hown hX.1 hP hD hS 0 rfl rfl 41 (by decide) h1w (fun _ h9 => h9) rfl (by decide +kernel) rfl rfl (Nat.le_of_ble_eq_true rfl) (wM_F41 _ _ _ _ _) dX10_tellRide_85 (fun H locs hP hD hS => ?_)
        obtain ⟨hP, hD⟩ : va_P G vwCl (wM k ar (uF (uF (uF fi 41 (z13)) 42 (n42_6)) 43 (n43_7)) fa fl) H ∧ va_D A (wM k ar (uF (uF (uF fi 41 (z13)) 42 (n42_6)) 43 (n43_7)) fa fl) := ⟨hP, hD⟩
        refine lv_aload_n hx hb dX10_tellRide_88 rfl (lv_at hl 4 rfl) ?_
        refine lv_aload_n hx hb dX10_tellRide_89 rfl (lv_at hl 4 rfl) ?_
        refine va_get (D := G) (ci := 7) (v := .int (Int32.ofInt (n42_6))) (C := RX10) (T := TX10) (N := 71) (ref := RX10) hx hb hts h2w hown hX.1 hP 0 rfl rfl 42 (by decide) h4w (fun _ h9 => h9) rfl dX10_tellRide_90 ?_
        refine lv_iload hx hb dX10_tellRide_93 (lv_at hl 0 rfl) ?_
        refine iv_mmax hx hb (hml.trans hl.1.symm) hown h10w h11w h8w h12w (Nat.le_of_ble_eq_true rfl) (Nat.le_of_ble_eq_true rfl) (Nat.le_of_ble_eq_true rfl) (Nat.le_of_ble_eq_true rfl) (by omega) (by omega) dX10_tellRide_95 (fun z14 ez14 => ?_)
        have rz14 : inR z14 := by omega
        refine iv_put (ci := 7) (v := .int (Int32.ofInt (z14))) (ty := .int) (C := RX10) (T := TX10) (N := 71) (ref := RX10) hx hb hts h2w tyX10 tyX10_ok nmX10 hown hX.1 hP hD hS 0 rfl rfl 42 (by decide) h4w (fun _ h9 => h9) rfl (by decide +kernel) rfl rfl (Nat.le_of_ble_eq_true rfl) (wM_F42 _ _ _ _ _) dX10_tellRide_98 (fun H locs hP hD hS => ?_)
        obtain ⟨hP, hD⟩ : va_P G vwCl (wM k ar (uF (uF (uF fi 41 (z13)) 42 (z14)) 43 (n43_7)) fa fl) H ∧ va_D A (wM k ar (uF (uF (uF fi 41 (z13)) 42 (z14)) 43 (n43_7)) fa fl) := ⟨hP, hD⟩
        refine lv_aload_n hx hb dX10_tellRide_101 rfl (lv_at hl 4 rfl) ?_
        refine lv_dup hx hb dX10_tellRide_102 rfl ?_
        refine va_get (D := G) (ci := 7) (v := .int (Int32.ofInt (n43_7))) (C := RX10) (T := TX10) (N := 71) (ref := RX10) hx hb hts h2w hown hX.1 hP 0 rfl rfl 43 (by decide) h5w (fun _ h9 => h9) rfl dX10_tellRide_103 ?_
        refine lv_iconst (v := Int32.ofInt 0) hx hb dX10_tellRide_106 (by decide +kernel) ?_
        refine lv_aload_n hx hb dX10_tellRide_107 rfl (lv_at hl 4 rfl) ?_
        refine va_get (D := G) (ci := 7) (v := .ref (ar 3)) (C := RX10) (T := TX10) (N := 71) (ref := RX10) hx hb hts h2w hown hX.1 hP 0 rfl rfl 3 (by decide) h13w (fun _ h9 => h9) rfl dX10_tellRide_108 ?_
        refine lv_iconst (v := Int32.ofInt 4) hx hb dX10_tellRide_111 (by decide +kernel) ?_
        refine iv_iald hx hb hX.1 hP 1 0 rfl rfl (by omega) (by omega) (by decide) dX10_tellRide_112 ?_
        refine iv_top (fun z15 ez15 => ?_)
        have rz15 : inR z15 := ez15 ▸ (hRa 3) _
        have ez15 : z15 = (fa 3) 4 := ez15
        refine lv_iload hx hb dX10_tellRide_113 (lv_at hl 0 rfl) ?_
        refine iv_sub (x := z15) (y := z12) hx hb dX10_tellRide_115 ?_
        refine iv_wr ?_
        refine iv_top (fun z16 ez16 => ?_)
        have rz16 : inR z16 := ez16 ▸ bWr_r _
        refine iv_mmax hx hb (hml.trans hl.1.symm) hown h10w h11w h8w h12w (Nat.le_of_ble_eq_true rfl) (Nat.le_of_ble_eq_true rfl) (Nat.le_of_ble_eq_true rfl) (Nat.le_of_ble_eq_true rfl) (by omega) (by omega) dX10_tellRide_116 (fun z17 ez17 => ?_)
        have rz17 : inR z17 := by omega
        refine lv_iconst (v := Int32.ofInt 0) hx hb dX10_tellRide_119 (by decide +kernel) ?_
        refine lv_iload hx hb dX10_tellRide_120 (lv_at hl 0 rfl) ?_
        refine lv_aload_n hx hb dX10_tellRide_122 rfl (lv_at hl 4 rfl) ?_
        refine va_get (D := G) (ci := 7) (v := .ref (ar 3)) (C := RX10) (T := TX10) (N := 71) (ref := RX10) hx hb hts h2w hown hX.1 hP 0 rfl rfl 3 (by decide) h13w (fun _ h9 => h9) rfl dX10_tellRide_123 ?_
        refine lv_iconst (v := Int32.ofInt 5) hx hb dX10_tellRide_126 (by decide +kernel) ?_
        refine iv_iald hx hb hX.1 hP 1 0 rfl rfl (by omega) (by omega) (by decide) dX10_tellRide_127 ?_
        refine iv_top (fun z18 ez18 => ?_)
        have rz18 : inR z18 := ez18 ▸ (hRa 3) _
        have ez18 : z18 = (fa 3) 5 := ez18
        refine iv_sub (x := z12) (y := z18) hx hb dX10_tellRide_128 ?_
        refine iv_wr ?_
        refine iv_top (fun z19 ez19 => ?_)
        have rz19 : inR z19 := ez19 ▸ bWr_r _
        refine lv_aload_n hx hb dX10_tellRide_129 rfl (lv_at hl 4 rfl) ?_
        refine va_get (D := G) (ci := 7) (v := .ref (ar 3)) (C := RX10) (T := TX10) (N := 71) (ref := RX10) hx hb hts h2w hown hX.1 hP 0 rfl rfl 3 (by decide) h13w (fun _ h9 => h9) rfl dX10_tellRide_130 ?_
        refine lv_bipush (v := Int32.ofInt 6) hx hb dX10_tellRide_133 (by decide +kernel) ?_
        refine iv_iald hx hb hX.1 hP 1 0 rfl rfl (by omega) (by omega) (by decide) dX10_tellRide_135 ?_
        refine iv_top (fun z20 ez20 => ?_)
        have rz20 : inR z20 := ez20 ▸ (hRa 3) _
        have ez20 : z20 = (fa 3) 6 := ez20
        refine iv_sub (x := z19) (y := z20) hx hb dX10_tellRide_136 ?_
        refine iv_wr ?_
        refine iv_top (fun z21 ez21 => ?_)
        have rz21 : inR z21 := ez21 ▸ bWr_r _
        refine iv_mmax hx hb (hml.trans hl.1.symm) hown h10w h11w h8w h12w (Nat.le_of_ble_eq_true rfl) (Nat.le_of_ble_eq_true rfl) (Nat.le_of_ble_eq_true rfl) (Nat.le_of_ble_eq_true rfl) (by omega) (by omega) dX10_tellRide_137 (fun z22 ez22 => ?_)
        have rz22 : inR z22 := by omega
        refine iv_add (x := z17) (y := z22) hx hb dX10_tellRide_140 ?_
        refine iv_wr ?_
        refine iv_top (fun z23 ez23 => ?_)
        have rz23 : inR z23 := ez23 ▸ bWr_r _
        refine iv_add (x := n43_7) (y := z23) hx hb dX10_tellRide_141 ?_
        refine iv_wr ?_
        refine iv_top (fun z24 ez24 => ?_)
        have rz24 : inR z24 := ez24 ▸ bWr_r _
        refine iv_put (ci := 7) (v := .int (Int32.ofInt (z24))) (ty := .int) (C := RX10) (T := TX10) (N := 71) (ref := RX10) hx hb hts h2w tyX10 tyX10_ok nmX10 hown hX.1 hP hD hS 0 rfl rfl 43 (by decide) h5w (fun _ h9 => h9) rfl (by decide +kernel) rfl rfl (Nat.le_of_ble_eq_true rfl) (wM_F43 _ _ _ _ _) dX10_tellRide_142 (fun H locs hP hD hS => ?_)
        obtain ⟨hP, hD⟩ : va_P G vwCl (wM k ar (uF (uF (uF fi 41 (z13)) 42 (z14)) 43 (z24)) fa fl) H ∧ va_D A (wM k ar (uF (uF (uF fi 41 (z13)) 42 (z14)) 43 (z24)) fa fl) := ⟨hP, hD⟩
        refine lv_iload hx hb dX10_tellRide_145 (lv_at hl 1 rfl) ?_
        refine lv_iload hx hb dX10_tellRide_147 (lv_at hl 3 rfl) ?_
        refine iv_add (x := x6_4) (y := x4_2) hx hb dX10_tellRide_149 ?_
        refine lv_istore (lv' := [(6, .int (Int32.ofInt ((x6_4 + x4_2)))), (7, .int (Int32.ofInt (z12))), (5, .int (Int32.ofInt (s0_3))), (4, .int (Int32.ofInt (x4_2))), (0, .ref (ar 71)), (1, .ref (ar 44)), (2, .int (Int32.ofInt (f0))), (3, .int (Int32.ofInt (t0)))]) hx hb dX10_tellRide_150 hl (by decide) rfl (fun ls hl => ?_)
        refine lv_goto (tgt := 46) hx hb dX10_tellRide_152 (by decide) ?_
        have hl : lv_has ls 8 [(6, .int (Int32.ofInt ((x6_4 + x4_2)))), (5, .int (Int32.ofInt (s0_3))), (4, .int (Int32.ofInt (x4_2))), (0, .ref (ar 71)), (1, .ref (ar 44)), (2, .int (Int32.ofInt (f0))), (3, .int (Int32.ofInt (t0)))] := lv_sub hl [0, 2, 3, 4, 5, 6, 7] rfl
        exact ih ((x6_4 + x4_2), z13, z14, z24) (show (x4_2 * (t0 - (x6_4 + x4_2))).toNat < (x4_2 * (t0 - x6_4)).toNat from by omega) (show inR (x6_4 + x4_2) ∧ inR z13 ∧ inR z14 ∧ inR z24 ∧ (0 ≤ x4_2 * (t0 - (x6_4 + x4_2))) from ⟨(by omega), (by omega), (by omega), (by omega), (by omega)⟩) _ _ _ hP hD hS hl
    · refine lv_iload_n hx hb dX10_tellRide_31 rfl (lv_at hl 4 rfl) ?_
      refine lv_iload_n hx hb dX10_tellRide_32 rfl (lv_at hl 3 rfl) ?_
      refine iv_icmp_le (tgt := 40) hx hb (by omega) (by omega) dX10_tellRide_33 (by decide) (fun q25 => ?_) (fun q25 => ?_)
      · refine lv_iconst (v := Int32.ofInt 1) hx hb dX10_tellRide_40 (by decide +kernel) ?_
        have hl : lv_has ls 8 [(4, .int (Int32.ofInt ((-1)))), (0, .ref (ar 71)), (1, .ref (ar 44)), (2, .int (Int32.ofInt (f0))), (3, .int (Int32.ofInt (t0)))] := lv_sub hl [0, 1, 2, 3, 4] rfl
        exact J41 ((-1), 1) (show inR (-1) ∧ inR 1 ∧ (True) from ⟨(by omega), (by omega), (by trivial)⟩) _ _ _ hP hD hS hl
      · refine lv_iconst (v := Int32.ofInt 0) hx hb dX10_tellRide_36 (by decide +kernel) ?_
        refine lv_goto (tgt := 41) hx hb dX10_tellRide_37 (by decide) ?_
        have hl : lv_has ls 8 [(4, .int (Int32.ofInt ((-1)))), (0, .ref (ar 71)), (1, .ref (ar 44)), (2, .int (Int32.ofInt (f0))), (3, .int (Int32.ofInt (t0)))] := lv_sub hl [0, 1, 2, 3, 4] rfl
        exact J41 ((-1), 0) (show inR (-1) ∧ inR 0 ∧ (True) from ⟨(by omega), (by omega), (by trivial)⟩) _ _ _ hP hD hS hl
  · refine lv_iconst (v := Int32.ofInt 1) hx hb dX10_tellRide_24 (by decide +kernel) ?_
    refine lv_goto (tgt := 29) hx hb dX10_tellRide_25 (by decide) ?_
    refine lv_istore (lv' := [(4, .int (Int32.ofInt (1))), (0, .ref (ar 71)), (1, .ref (ar 44)), (2, .int (Int32.ofInt (f0))), (3, .int (Int32.ofInt (t0)))]) hx hb dX10_tellRide_29 hl (by decide) rfl (fun ls hl => ?_)
    refine iv_join (G := G) (A := A) (H0 := s.heap) (α := Int × Int) (nL := 8) 41 (fun b9 => [.int (Int32.ofInt (b9.2))]) (fun b9 => (wM k ar (uF (uF (uF fi 41 (1000000000)) 42 ((-1000000000))) 43 (0)) fa fl)) (fun b9 => [(4, .int (Int32.ofInt (b9.1))), (0, .ref (ar 71)), (1, .ref (ar 44)), (2, .int (Int32.ofInt (f0))), (3, .int (Int32.ofInt (t0)))]) (fun b9 => inR b9.1 ∧ inR b9.2 ∧ (True)) ?_ (fun J41 => ?_)
    · rintro ⟨x4_26, s0_27⟩ hi9 H locs ls hP hD hS hl
      obtain ⟨r_x4_26, r_s0_27, hinv⟩ : inR x4_26 ∧ inR s0_27 ∧ (True) := hi9
      obtain ⟨hP, hD⟩ : va_P G vwCl (wM k ar (uF (uF (uF fi 41 (1000000000)) 42 ((-1000000000))) 43 (0)) fa fl) H ∧ va_D A (wM k ar (uF (uF (uF fi 41 (1000000000)) 42 ((-1000000000))) 43 (0)) fa fl) := ⟨hP, hD⟩
      have hl : lv_has ls 8 [(4, .int (Int32.ofInt (x4_26))), (0, .ref (ar 71)), (1, .ref (ar 44)), (2, .int (Int32.ofInt (f0))), (3, .int (Int32.ofInt (t0)))] := hl
      refine lv_istore (lv' := [(5, .int (Int32.ofInt (s0_27))), (4, .int (Int32.ofInt (x4_26))), (0, .ref (ar 71)), (1, .ref (ar 44)), (2, .int (Int32.ofInt (f0))), (3, .int (Int32.ofInt (t0)))]) hx hb dX10_tellRide_41 hl (by decide) rfl (fun ls hl => ?_)
      refine lv_iload_n hx hb dX10_tellRide_43 rfl (lv_at hl 4 rfl) ?_
      refine lv_istore (lv' := [(6, .int (Int32.ofInt (f0))), (5, .int (Int32.ofInt (s0_27))), (4, .int (Int32.ofInt (x4_26))), (0, .ref (ar 71)), (1, .ref (ar 44)), (2, .int (Int32.ofInt (f0))), (3, .int (Int32.ofInt (t0)))]) hx hb dX10_tellRide_44 hl (by decide) rfl (fun ls hl => ?_)
      refine iv_loop (α := Int × Int × Int × Int) (nL := 8) (fun b9 => (wM k ar (uF (uF (uF fi 41 (b9.2.1)) 42 (b9.2.2.1)) 43 (b9.2.2.2)) fa fl)) (fun b9 => [(6, .int (Int32.ofInt (b9.1))), (5, .int (Int32.ofInt (s0_27))), (4, .int (Int32.ofInt (x4_26))), (0, .ref (ar 71)), (1, .ref (ar 44)), (2, .int (Int32.ofInt (f0))), (3, .int (Int32.ofInt (t0)))]) (fun b9 => (x4_26 * (t0 - b9.1)).toNat) (fun b9 => inR b9.1 ∧ inR b9.2.1 ∧ inR b9.2.2.1 ∧ inR b9.2.2.2 ∧ (0 ≤ x4_26 * (t0 - b9.1))) ?_ (f0, 1000000000, (-1000000000), 0) (show inR f0 ∧ inR 1000000000 ∧ inR (-1000000000) ∧ inR 0 ∧ (0 ≤ x4_26 * (t0 - f0)) from ⟨(by omega), (by omega), (by omega), (by omega), (by omega)⟩) hP hD hS hl
      rintro ⟨x6_28, n41_29, n42_30, n43_31⟩ ih hi9 H locs ls hP hD hS hl
      obtain ⟨r_x6_28, r_n41_29, r_n42_30, r_n43_31, hinv⟩ : inR x6_28 ∧ inR n41_29 ∧ inR n42_30 ∧ inR n43_31 ∧ (0 ≤ x4_26 * (t0 - x6_28)) := hi9
      obtain ⟨hP, hD⟩ : va_P G vwCl (wM k ar (uF (uF (uF fi 41 (n41_29)) 42 (n42_30)) 43 (n43_31)) fa fl) H ∧ va_D A (wM k ar (uF (uF (uF fi 41 (n41_29)) 42 (n42_30)) 43 (n43_31)) fa fl) := ⟨hP, hD⟩
      have hl : lv_has ls 8 [(6, .int (Int32.ofInt (x6_28))), (5, .int (Int32.ofInt (s0_27))), (4, .int (Int32.ofInt (x4_26))), (0, .ref (ar 71)), (1, .ref (ar 44)), (2, .int (Int32.ofInt (f0))), (3, .int (Int32.ofInt (t0)))] := hl
      refine lv_iload hx hb dX10_tellRide_46 (lv_at hl 0 rfl) ?_
      refine lv_iload_n hx hb dX10_tellRide_48 rfl (lv_at hl 6 rfl) ?_
      refine iv_icmp_eq (tgt := 155) hx hb (by omega) (by omega) dX10_tellRide_49 (by decide) (fun q32 => ?_) (fun q32 => ?_)
      · exact W.vret hx hb hr (fun t ht hW => ⟨⟨(n41_29, n42_30, n43_31), rfl, (show (inR n41_29) ∧ (inR n42_30) ∧ (inR n43_31) ∧ (True) from ⟨(by omega), (by omega), (by omega), trivial⟩), by rw [ht]; exact hP, hD⟩, hS.F ht⟩) hS.2.2 dX10_tellRide_155
      · refine lv_aload_n hx hb dX10_tellRide_52 rfl (lv_at hl 3 rfl) ?_
        refine lv_aload_n hx hb dX10_tellRide_53 rfl (lv_at hl 4 rfl) ?_
        refine lv_iload hx hb dX10_tellRide_54 (lv_at hl 1 rfl) ?_
        refine lv_iload hx hb dX10_tellRide_56 (lv_at hl 0 rfl) ?_
        refine cr_i (va_runV (As := [.ref (ar 44), .int (Int32.ofInt (s0_27)), .int (Int32.ofInt (x6_28))]) (rest := []) ⟨hx, hb, hml, hown, hts⟩ (mX10_sideOf_44 l G k ar (uF (uF (uF fi 41 (n41_29)) 42 (n42_30)) 43 (n43_31)) fa fl s0_27 x6_28 H.size (iF (iF (iF hR (by omega)) (by omega)) (by omega)) hRa (by omega) (by omega) (show 0 ≤ (fi 12) ∧ (fi 12) ≤ 7 from by omega)) (cwV 3 hts gX10_tellRide_X10_sideOf rfl rfl rfl (by decide +kernel) ⟨Nat.le_of_ble_eq_true rfl, Nat.le_of_ble_eq_true rfl⟩) (cr_preV (EZ_ok k) hZ hS hX hP hD hA (ci := 7) (q0 := 0) rfl rfl) rfl rfl hl.1 rfl (lv_room (Nat.le_of_ble_eq_true rfl)) dX10_tellRide_58 ⟨Nat.le_of_ble_eq_true rfl, Nat.le_of_ble_eq_true rfl⟩) hD hS hA (fun r u H locs hp hP hD hS => ?_)
        obtain ⟨c33, rfl⟩ : ∃ z, z = u := ⟨_, rfl⟩
        obtain ⟨h9, rc33, hp33⟩ : r = Int32.ofInt c33 ∧ (inR c33) ∧ (True) := hp
        subst h9
        refine lv_aload_n hx hb dX10_tellRide_61 rfl (lv_at hl 3 rfl) ?_
        refine lv_aload_n hx hb dX10_tellRide_62 rfl (lv_at hl 4 rfl) ?_
        refine lv_iconst (v := Int32.ofInt 1) hx hb dX10_tellRide_63 (by decide +kernel) ?_
        refine lv_iload hx hb dX10_tellRide_64 (lv_at hl 1 rfl) ?_
        refine iv_sub (x := 1) (y := s0_27) hx hb dX10_tellRide_66 ?_
        refine iv_wr ?_
        refine iv_top (fun z34 ez34 => ?_)
        have rz34 : inR z34 := ez34 ▸ bWr_r _
        refine lv_iload hx hb dX10_tellRide_67 (lv_at hl 0 rfl) ?_
        refine cr_i (va_runV (As := [.ref (ar 44), .int (Int32.ofInt (z34)), .int (Int32.ofInt (x6_28))]) (rest := [.int (Int32.ofInt (c33))]) ⟨hx, hb, hml, hown, hts⟩ (mX10_sideOf_44 l G k ar (uF (uF (uF fi 41 (n41_29)) 42 (n42_30)) 43 (n43_31)) fa fl z34 x6_28 H.size (iF (iF (iF hR (by omega)) (by omega)) (by omega)) hRa (by omega) (by omega) (show 0 ≤ (fi 12) ∧ (fi 12) ≤ 7 from by omega)) (cwV 3 hts gX10_tellRide_X10_sideOf rfl rfl rfl (by decide +kernel) ⟨Nat.le_of_ble_eq_true rfl, Nat.le_of_ble_eq_true rfl⟩) (cr_preV (EZ_ok k) hZ hS hX hP hD hA (ci := 7) (q0 := 0) rfl rfl) rfl rfl hl.1 rfl (lv_room (Nat.le_of_ble_eq_true rfl)) dX10_tellRide_69 ⟨Nat.le_of_ble_eq_true rfl, Nat.le_of_ble_eq_true rfl⟩) hD hS hA (fun r u H locs hp hP hD hS => ?_)
        obtain ⟨c35, rfl⟩ : ∃ z, z = u := ⟨_, rfl⟩
        obtain ⟨h9, rc35, hp35⟩ : r = Int32.ofInt c35 ∧ (inR c35) ∧ (True) := hp
        subst h9
        refine iv_sub (x := c33) (y := c35) hx hb dX10_tellRide_72 ?_
        refine iv_wr ?_
        refine iv_top (fun z36 ez36 => ?_)
        have rz36 : inR z36 := ez36 ▸ bWr_r _
        refine lv_istore (lv' := [(7, .int (Int32.ofInt (z36))), (6, .int (Int32.ofInt (x6_28))), (5, .int (Int32.ofInt (s0_27))), (4, .int (Int32.ofInt (x4_26))), (0, .ref (ar 71)), (1, .ref (ar 44)), (2, .int (Int32.ofInt (f0))), (3, .int (Int32.ofInt (t0)))]) hx hb dX10_tellRide_73 hl (by decide) rfl (fun ls hl => ?_)
        refine lv_aload_n hx hb dX10_tellRide_75 rfl (lv_at hl 4 rfl) ?_
        refine lv_aload_n hx hb dX10_tellRide_76 rfl (lv_at hl 4 rfl) ?_
        refine va_get (D := G) (ci := 7) (v := .int (Int32.ofInt (n41_29))) (C := RX10) (T := TX10) (N := 71) (ref := RX10) hx hb hts h2w hown hX.1 hP 0 rfl rfl 41 (by decide) h1w (fun _ h9 => h9) rfl dX10_tellRide_77 ?_
        refine lv_iload hx hb dX10_tellRide_80 (lv_at hl 0 rfl) ?_
        refine iv_mmin hx hb (hml.trans hl.1.symm) hown h6w h7w h8w h9w (Nat.le_of_ble_eq_true rfl) (Nat.le_of_ble_eq_true rfl) (Nat.le_of_ble_eq_true rfl) (Nat.le_of_ble_eq_true rfl) (by omega) (by omega) dX10_tellRide_82 (fun z37 ez37 => ?_)
        have rz37 : inR z37 := by omega
        refine iv_put (ci := 7) (v := .int (Int32.ofInt (z37))) (ty := .int) (C := RX10) (T := TX10) (N := 71) (ref := RX10) hx hb hts h2w tyX10 tyX10_ok nmX10 hown hX.1 hP hD hS 0 rfl rfl 41 (by decide) h1w (fun _ h9 => h9) rfl (by decide +kernel) rfl rfl (Nat.le_of_ble_eq_true rfl) (wM_F41 _ _ _ _ _) dX10_tellRide_85 (fun H locs hP hD hS => ?_)
        obtain ⟨hP, hD⟩ : va_P G vwCl (wM k ar (uF (uF (uF fi 41 (z37)) 42 (n42_30)) 43 (n43_31)) fa fl) H ∧ va_D A (wM k ar (uF (uF (uF fi 41 (z37)) 42 (n42_30)) 43 (n43_31)) fa fl) := ⟨hP, hD⟩
        refine lv_aload_n hx hb dX10_tellRide_88 rfl (lv_at hl 4 rfl) ?_
        refine lv_aload_n hx hb dX10_tellRide_89 rfl (lv_at hl 4 rfl) ?_
        refine va_get (D := G) (ci := 7) (v := .int (Int32.ofInt (n42_30))) (C := RX10) (T := TX10) (N := 71) (ref := RX10) hx hb hts h2w hown hX.1 hP 0 rfl rfl 42 (by decide) h4w (fun _ h9 => h9) rfl dX10_tellRide_90 ?_
        refine lv_iload hx hb dX10_tellRide_93 (lv_at hl 0 rfl) ?_
        refine iv_mmax hx hb (hml.trans hl.1.symm) hown h10w h11w h8w h12w (Nat.le_of_ble_eq_true rfl) (Nat.le_of_ble_eq_true rfl) (Nat.le_of_ble_eq_true rfl) (Nat.le_of_ble_eq_true rfl) (by omega) (by omega) dX10_tellRide_95 (fun z38 ez38 => ?_)
        have rz38 : inR z38 := by omega
        refine iv_put (ci := 7) (v := .int (Int32.ofInt (z38))) (ty := .int) (C := RX10) (T := TX10) (N := 71) (ref := RX10) hx hb hts h2w tyX10 tyX10_ok nmX10 hown hX.1 hP hD hS 0 rfl rfl 42 (by decide) h4w (fun _ h9 => h9) rfl (by decide +kernel) rfl rfl (Nat.le_of_ble_eq_true rfl) (wM_F42 _ _ _ _ _) dX10_tellRide_98 (fun H locs hP hD hS => ?_)
        obtain ⟨hP, hD⟩ : va_P G vwCl (wM k ar (uF (uF (uF fi 41 (z37)) 42 (z38)) 43 (n43_31)) fa fl) H ∧ va_D A (wM k ar (uF (uF (uF fi 41 (z37)) 42 (z38)) 43 (n43_31)) fa fl) := ⟨hP, hD⟩
        refine lv_aload_n hx hb dX10_tellRide_101 rfl (lv_at hl 4 rfl) ?_
        refine lv_dup hx hb dX10_tellRide_102 rfl ?_
        refine va_get (D := G) (ci := 7) (v := .int (Int32.ofInt (n43_31))) (C := RX10) (T := TX10) (N := 71) (ref := RX10) hx hb hts h2w hown hX.1 hP 0 rfl rfl 43 (by decide) h5w (fun _ h9 => h9) rfl dX10_tellRide_103 ?_
        refine lv_iconst (v := Int32.ofInt 0) hx hb dX10_tellRide_106 (by decide +kernel) ?_
        refine lv_aload_n hx hb dX10_tellRide_107 rfl (lv_at hl 4 rfl) ?_
        refine va_get (D := G) (ci := 7) (v := .ref (ar 3)) (C := RX10) (T := TX10) (N := 71) (ref := RX10) hx hb hts h2w hown hX.1 hP 0 rfl rfl 3 (by decide) h13w (fun _ h9 => h9) rfl dX10_tellRide_108 ?_
        refine lv_iconst (v := Int32.ofInt 4) hx hb dX10_tellRide_111 (by decide +kernel) ?_
        refine iv_iald hx hb hX.1 hP 1 0 rfl rfl (by omega) (by omega) (by decide) dX10_tellRide_112 ?_
        refine iv_top (fun z39 ez39 => ?_)
        have rz39 : inR z39 := ez39 ▸ (hRa 3) _
        have ez39 : z39 = (fa 3) 4 := ez39
        refine lv_iload hx hb dX10_tellRide_113 (lv_at hl 0 rfl) ?_
        refine iv_sub (x := z39) (y := z36) hx hb dX10_tellRide_115 ?_
        refine iv_wr ?_
        refine iv_top (fun z40 ez40 => ?_)
        have rz40 : inR z40 := ez40 ▸ bWr_r _
        refine iv_mmax hx hb (hml.trans hl.1.symm) hown h10w h11w h8w h12w (Nat.le_of_ble_eq_true rfl) (Nat.le_of_ble_eq_true rfl) (Nat.le_of_ble_eq_true rfl) (Nat.le_of_ble_eq_true rfl) (by omega) (by omega) dX10_tellRide_116 (fun z41 ez41 => ?_)
        have rz41 : inR z41 := by omega
        refine lv_iconst (v := Int32.ofInt 0) hx hb dX10_tellRide_119 (by decide +kernel) ?_
        refine lv_iload hx hb dX10_tellRide_120 (lv_at hl 0 rfl) ?_
        refine lv_aload_n hx hb dX10_tellRide_122 rfl (lv_at hl 4 rfl) ?_
        refine va_get (D := G) (ci := 7) (v := .ref (ar 3)) (C := RX10) (T := TX10) (N := 71) (ref := RX10) hx hb hts h2w hown hX.1 hP 0 rfl rfl 3 (by decide) h13w (fun _ h9 => h9) rfl dX10_tellRide_123 ?_
        refine lv_iconst (v := Int32.ofInt 5) hx hb dX10_tellRide_126 (by decide +kernel) ?_
        refine iv_iald hx hb hX.1 hP 1 0 rfl rfl (by omega) (by omega) (by decide) dX10_tellRide_127 ?_
        refine iv_top (fun z42 ez42 => ?_)
        have rz42 : inR z42 := ez42 ▸ (hRa 3) _
        have ez42 : z42 = (fa 3) 5 := ez42
        refine iv_sub (x := z36) (y := z42) hx hb dX10_tellRide_128 ?_
        refine iv_wr ?_
        refine iv_top (fun z43 ez43 => ?_)
        have rz43 : inR z43 := ez43 ▸ bWr_r _
        refine lv_aload_n hx hb dX10_tellRide_129 rfl (lv_at hl 4 rfl) ?_
        refine va_get (D := G) (ci := 7) (v := .ref (ar 3)) (C := RX10) (T := TX10) (N := 71) (ref := RX10) hx hb hts h2w hown hX.1 hP 0 rfl rfl 3 (by decide) h13w (fun _ h9 => h9) rfl dX10_tellRide_130 ?_
        refine lv_bipush (v := Int32.ofInt 6) hx hb dX10_tellRide_133 (by decide +kernel) ?_
        refine iv_iald hx hb hX.1 hP 1 0 rfl rfl (by omega) (by omega) (by decide) dX10_tellRide_135 ?_
        refine iv_top (fun z44 ez44 => ?_)
        have rz44 : inR z44 := ez44 ▸ (hRa 3) _
        have ez44 : z44 = (fa 3) 6 := ez44
        refine iv_sub (x := z43) (y := z44) hx hb dX10_tellRide_136 ?_
        refine iv_wr ?_
        refine iv_top (fun z45 ez45 => ?_)
        have rz45 : inR z45 := ez45 ▸ bWr_r _
        refine iv_mmax hx hb (hml.trans hl.1.symm) hown h10w h11w h8w h12w (Nat.le_of_ble_eq_true rfl) (Nat.le_of_ble_eq_true rfl) (Nat.le_of_ble_eq_true rfl) (Nat.le_of_ble_eq_true rfl) (by omega) (by omega) dX10_tellRide_137 (fun z46 ez46 => ?_)
        have rz46 : inR z46 := by omega
        refine iv_add (x := z41) (y := z46) hx hb dX10_tellRide_140 ?_
        refine iv_wr ?_
        refine iv_top (fun z47 ez47 => ?_)
        have rz47 : inR z47 := ez47 ▸ bWr_r _
        refine iv_add (x := n43_31) (y := z47) hx hb dX10_tellRide_141 ?_
        refine iv_wr ?_
        refine iv_top (fun z48 ez48 => ?_)
        have rz48 : inR z48 := ez48 ▸ bWr_r _
        refine iv_put (ci := 7) (v := .int (Int32.ofInt (z48))) (ty := .int) (C := RX10) (T := TX10) (N := 71) (ref := RX10) hx hb hts h2w tyX10 tyX10_ok nmX10 hown hX.1 hP hD hS 0 rfl rfl 43 (by decide) h5w (fun _ h9 => h9) rfl (by decide +kernel) rfl rfl (Nat.le_of_ble_eq_true rfl) (wM_F43 _ _ _ _ _) dX10_tellRide_142 (fun H locs hP hD hS => ?_)
        obtain ⟨hP, hD⟩ : va_P G vwCl (wM k ar (uF (uF (uF fi 41 (z37)) 42 (z38)) 43 (z48)) fa fl) H ∧ va_D A (wM k ar (uF (uF (uF fi 41 (z37)) 42 (z38)) 43 (z48)) fa fl) := ⟨hP, hD⟩
        refine lv_iload hx hb dX10_tellRide_145 (lv_at hl 1 rfl) ?_
        refine lv_iload hx hb dX10_tellRide_147 (lv_at hl 3 rfl) ?_
        refine iv_add (x := x6_28) (y := x4_26) hx hb dX10_tellRide_149 ?_
        refine lv_istore (lv' := [(6, .int (Int32.ofInt ((x6_28 + x4_26)))), (7, .int (Int32.ofInt (z36))), (5, .int (Int32.ofInt (s0_27))), (4, .int (Int32.ofInt (x4_26))), (0, .ref (ar 71)), (1, .ref (ar 44)), (2, .int (Int32.ofInt (f0))), (3, .int (Int32.ofInt (t0)))]) hx hb dX10_tellRide_150 hl (by decide) rfl (fun ls hl => ?_)
        refine lv_goto (tgt := 46) hx hb dX10_tellRide_152 (by decide) ?_
        have hl : lv_has ls 8 [(6, .int (Int32.ofInt ((x6_28 + x4_26)))), (5, .int (Int32.ofInt (s0_27))), (4, .int (Int32.ofInt (x4_26))), (0, .ref (ar 71)), (1, .ref (ar 44)), (2, .int (Int32.ofInt (f0))), (3, .int (Int32.ofInt (t0)))] := lv_sub hl [0, 2, 3, 4, 5, 6, 7] rfl
        exact ih ((x6_28 + x4_26), z37, z38, z48) (show (x4_26 * (t0 - (x6_28 + x4_26))).toNat < (x4_26 * (t0 - x6_28)).toNat from by omega) (show inR (x6_28 + x4_26) ∧ inR z37 ∧ inR z38 ∧ inR z48 ∧ (0 ≤ x4_26 * (t0 - (x6_28 + x4_26))) from ⟨(by omega), (by omega), (by omega), (by omega), (by omega)⟩) _ _ _ hP hD hS hl
    · refine lv_iload_n hx hb dX10_tellRide_31 rfl (lv_at hl 4 rfl) ?_
      refine lv_iload_n hx hb dX10_tellRide_32 rfl (lv_at hl 3 rfl) ?_
      refine iv_icmp_le (tgt := 40) hx hb (by omega) (by omega) dX10_tellRide_33 (by decide) (fun q49 => ?_) (fun q49 => ?_)
      · refine lv_iconst (v := Int32.ofInt 1) hx hb dX10_tellRide_40 (by decide +kernel) ?_
        have hl : lv_has ls 8 [(4, .int (Int32.ofInt (1))), (0, .ref (ar 71)), (1, .ref (ar 44)), (2, .int (Int32.ofInt (f0))), (3, .int (Int32.ofInt (t0)))] := lv_sub hl [0, 1, 2, 3, 4] rfl
        exact J41 (1, 1) (show inR 1 ∧ inR 1 ∧ (True) from ⟨(by omega), (by omega), (by trivial)⟩) _ _ _ hP hD hS hl
      · refine lv_iconst (v := Int32.ofInt 0) hx hb dX10_tellRide_36 (by decide +kernel) ?_
        refine lv_goto (tgt := 41) hx hb dX10_tellRide_37 (by decide) ?_
        have hl : lv_has ls 8 [(4, .int (Int32.ofInt (1))), (0, .ref (ar 71)), (1, .ref (ar 44)), (2, .int (Int32.ofInt (f0))), (3, .int (Int32.ofInt (t0)))] := lv_sub hl [0, 1, 2, 3, 4] rfl
        exact J41 (1, 0) (show inR 1 ∧ inR 0 ∧ (True) from ⟨(by omega), (by omega), (by trivial)⟩) _ _ _ hP hD hS hl

set_option maxHeartbeats 4000000 in
set_option maxRecDepth 100000 in
theorem mX10_keepsCap_44 (l : Launch) (G : va_G) (k : Nat → ClassId) (ar : Nat → Nat) (fi : Nat → Int) (fa : Nat → Int → Int) (fl : Nat → Int64) (sz : Nat) (hR : ∀ j, inR (fi j)) (hRa : ∀ j t, inR (fa j t)) (hth : 0 ≤ fi 12 ∧ fi 12 ≤ 7) : CNi l G k (EZ k) yX10_keepsCap wsX10_keepsCap ({ frames := 2, cells := 0, slots := 0, locals := 45 }) [.ref (ar 71), .ref (ar 44)] sz (wM k ar fi fa fl) (fun (r0 : Int32) (u : Int) => r0 = Int32.ofInt (u) ∧ (inR u) ∧ ((u = 0 ∨ u = 1))) (fun (u : Int) => (wM k ar fi fa fl)) := by
  refine Met.ofW (cc := cX10_keepsCap) (maxL := 2) (ret := (some .boolean)) (by decide) rfl ?_
  intro p e s m args below meth c s₁ B hml hv
  obtain ⟨rfl, hsz, hP, hX, hD0, hZ0⟩ := hv
  have hx := B.exec
  have hb := B.bytes
  have hr := B.returns
  have hts := atoms_spec (ws := wsX10_keepsCap) B.pre
  have hown : s.vm.findClass RX10 = some m.cls := findClass_of_methodNamed B.named
  subst hsz
  have hD := hD0.self (sz := s.heap.size)
  have hZ := hZ0
  generalize hAe : va_A (wM k ar fi fa fl) s.heap.size = A at hD hZ ⊢
  have hA : ∀ q : Nat, s.heap.size ≤ q → A q := fun q h => by rw [← hAe]; exact Or.inr h
  have hS : va_S A s.heap s.heap [] := va_S.rf
  have hl := lv_entry ([.ref (ar 71), .ref (ar 44)]) (n := 2) (Nat.le_of_ble_eq_true rfl)
  rw [lg_entry_eq]
  generalize (lg_sl ([.ref (ar 71), .ref (ar 44)]) ++ List.replicate (2 - (lg_sl ([.ref (ar 71), .ref (ar 44)])).length) Slot.unset).toArray = ls at hl ⊢
  have hl : lv_has ls 2 [(0, .ref (ar 71)), (1, .ref (ar 44))] := hl
  obtain ⟨H, eH⟩ : ∃ H, H = s.heap := ⟨_, rfl⟩
  rw [← eH] at hP
  have hS : va_S A s.heap H [] := by rw [eH]; exact hS
  have gW : s.heap = H := eH.symm
  refine iv_heap gW ?_
  have h0w := hts (.fieldLink RX10 54 "RopeTownModel" "rule" "[I") (by decide +kernel)
  have h1w : ∀ w ∈ wsX100, w ∈ wsX10_keepsCap := by decide +kernel
  refine lv_aload_n hx hb dX10_keepsCap_0 rfl (lv_at hl 0 rfl) ?_
  refine lv_aload_n hx hb dX10_keepsCap_1 rfl (lv_at hl 1 rfl) ?_
  refine lv_iconst (v := Int32.ofInt 0) hx hb dX10_keepsCap_2 (by decide +kernel) ?_
  refine cr_i (va_runV (As := [.ref (ar 44), .int (Int32.ofInt (0))]) (rest := []) ⟨hx, hb, hml, hown, hts⟩ (mX10_loadOf_44 l G k ar fi fa fl 0 H.size hR hRa (by omega) (show 0 ≤ (fi 12) ∧ (fi 12) ≤ 7 from by omega)) (cwV 2 hts gX10_keepsCap_X10_loadOf rfl rfl rfl (by decide +kernel) ⟨Nat.le_of_ble_eq_true rfl, Nat.le_of_ble_eq_true rfl⟩) (cr_preV (EZ_ok k) hZ hS hX hP hD hA (ci := 7) (q0 := 0) rfl rfl) rfl rfl hl.1 rfl (lv_room (Nat.le_of_ble_eq_true rfl)) dX10_keepsCap_3 ⟨Nat.le_of_ble_eq_true rfl, Nat.le_of_ble_eq_true rfl⟩) hD hS hA (fun r u H locs hp hP hD hS => ?_)
  obtain ⟨c1, rfl⟩ : ∃ z, z = u := ⟨_, rfl⟩
  obtain ⟨h9, rc1, hp1⟩ : r = Int32.ofInt c1 ∧ (inR c1) ∧ (True) := hp
  subst h9
  refine lv_aload_n hx hb dX10_keepsCap_6 rfl (lv_at hl 0 rfl) ?_
  refine va_get (D := G) (ci := 7) (v := .ref (ar 3)) (C := RX10) (T := TX10) (N := 71) (ref := RX10) hx hb hts h1w hown hX.1 hP 0 rfl rfl 3 (by decide) h0w (fun _ h9 => h9) rfl dX10_keepsCap_7 ?_
  refine lv_iconst (v := Int32.ofInt 2) hx hb dX10_keepsCap_10 (by decide +kernel) ?_
  refine iv_iald hx hb hX.1 hP 1 0 rfl rfl (by omega) (by omega) (by decide) dX10_keepsCap_11 ?_
  refine iv_top (fun z2 ez2 => ?_)
  have rz2 : inR z2 := ez2 ▸ (hRa 3) _
  have ez2 : z2 = (fa 3) 2 := ez2
  refine iv_icmp_gt (tgt := 34) hx hb (by omega) (by omega) dX10_keepsCap_12 (by decide) (fun q3 => ?_) (fun q3 => ?_)
  · refine lv_iconst (v := Int32.ofInt 0) hx hb dX10_keepsCap_34 (by decide +kernel) ?_
    exact W.zret (v := Int32.ofInt (0)) hx hb hr (nz_bool (by omega)) (fun t ht hW => ⟨⟨Int32.ofInt (0), (0), rfl, ⟨rfl, (show (inR 0) ∧ ((0 = 0 ∨ 0 = 1)) from ⟨(by omega), (by omega)⟩)⟩, by rw [ht]; exact hP, hD⟩, hS.F ht⟩) hS.2.2 dX10_keepsCap_35
  · refine lv_aload_n hx hb dX10_keepsCap_15 rfl (lv_at hl 0 rfl) ?_
    refine lv_aload_n hx hb dX10_keepsCap_16 rfl (lv_at hl 1 rfl) ?_
    refine lv_iconst (v := Int32.ofInt 1) hx hb dX10_keepsCap_17 (by decide +kernel) ?_
    refine cr_i (va_runV (As := [.ref (ar 44), .int (Int32.ofInt (1))]) (rest := []) ⟨hx, hb, hml, hown, hts⟩ (mX10_loadOf_44 l G k ar fi fa fl 1 H.size hR hRa (by omega) (show 0 ≤ (fi 12) ∧ (fi 12) ≤ 7 from by omega)) (cwV 2 hts gX10_keepsCap_X10_loadOf rfl rfl rfl (by decide +kernel) ⟨Nat.le_of_ble_eq_true rfl, Nat.le_of_ble_eq_true rfl⟩) (cr_preV (EZ_ok k) hZ hS hX hP hD hA (ci := 7) (q0 := 0) rfl rfl) rfl rfl hl.1 rfl (lv_room (Nat.le_of_ble_eq_true rfl)) dX10_keepsCap_18 ⟨Nat.le_of_ble_eq_true rfl, Nat.le_of_ble_eq_true rfl⟩) hD hS hA (fun r u H locs hp hP hD hS => ?_)
    obtain ⟨c4, rfl⟩ : ∃ z, z = u := ⟨_, rfl⟩
    obtain ⟨h9, rc4, hp4⟩ : r = Int32.ofInt c4 ∧ (inR c4) ∧ (True) := hp
    subst h9
    refine lv_aload_n hx hb dX10_keepsCap_21 rfl (lv_at hl 0 rfl) ?_
    refine va_get (D := G) (ci := 7) (v := .ref (ar 3)) (C := RX10) (T := TX10) (N := 71) (ref := RX10) hx hb hts h1w hown hX.1 hP 0 rfl rfl 3 (by decide) h0w (fun _ h9 => h9) rfl dX10_keepsCap_22 ?_
    refine lv_iconst (v := Int32.ofInt 2) hx hb dX10_keepsCap_25 (by decide +kernel) ?_
    refine iv_iald hx hb hX.1 hP 1 0 rfl rfl (by omega) (by omega) (by decide) dX10_keepsCap_26 ?_
    refine iv_top (fun z5 ez5 => ?_)
    have rz5 : inR z5 := ez5 ▸ (hRa 3) _
    have ez5 : z5 = (fa 3) 2 := ez5
    refine iv_icmp_gt (tgt := 34) hx hb (by omega) (by omega) dX10_keepsCap_27 (by decide) (fun q6 => ?_) (fun q6 => ?_)
    · refine lv_iconst (v := Int32.ofInt 0) hx hb dX10_keepsCap_34 (by decide +kernel) ?_
      exact W.zret (v := Int32.ofInt (0)) hx hb hr (nz_bool (by omega)) (fun t ht hW => ⟨⟨Int32.ofInt (0), (0), rfl, ⟨rfl, (show (inR 0) ∧ ((0 = 0 ∨ 0 = 1)) from ⟨(by omega), (by omega)⟩)⟩, by rw [ht]; exact hP, hD⟩, hS.F ht⟩) hS.2.2 dX10_keepsCap_35
    · refine lv_iconst (v := Int32.ofInt 1) hx hb dX10_keepsCap_30 (by decide +kernel) ?_
      refine lv_goto (tgt := 35) hx hb dX10_keepsCap_31 (by decide) ?_
      exact W.zret (v := Int32.ofInt (1)) hx hb hr (nz_bool (by omega)) (fun t ht hW => ⟨⟨Int32.ofInt (1), (1), rfl, ⟨rfl, (show (inR 1) ∧ ((1 = 0 ∨ 1 = 1)) from ⟨(by omega), (by omega)⟩)⟩, by rw [ht]; exact hP, hD⟩, hS.F ht⟩) hS.2.2 dX10_keepsCap_35

