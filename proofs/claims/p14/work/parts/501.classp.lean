set_option maxHeartbeats 4000000 in
set_option maxRecDepth 100000 in
theorem mX5_addNumber (l : Launch) (G : va_G) (k : Nat → ClassId) (ar : Nat → Nat) (fi : Nat → Int) (fa : Nat → Int → Int) (i0 : Int) (sz : Nat) (hR : ∀ j, inR (fi j)) (hRa : ∀ j t, inR (fa j t)) (hB8 : bnd (fa 8) 7 0 4) (hB20 : bnd (fa 20) 600 (-1000) 10000) (hB21 : bnd (fa 21) 4 0 601) (hr_i0 : inR i0) (hln : 0 ≤ fi 23 ∧ fi 23 ≤ 600) (hi0 : 0 ≤ i0 ∧ i0 ≤ 9999) : CNv l G k (EZ k) yX5_addNumber wzX5_addNumber ({ frames := 1, cells := 0, slots := 0, locals := 21 }) [.ref (ar 98), .int (Int32.ofInt (i0))] sz (wP k ar fi fa) (fun (u : (Int → Int) × Int) => (∀ t, inR (u.1 t)) ∧ (bnd u.1 600 (-1000) 10000) ∧ (inR u.2) ∧ ((0 ≤ u.2 ∧ u.2 ≤ 600) ∧ AdP (fa 20) u.1 (fi 23) u.2 i0)) (fun (u : (Int → Int) × Int) => (wP k ar (uF fi 23 (u.2)) (uF fa 20 (u.1)))) := by
  refine Met.ofW (cc := cX5_addNumber) (maxL := 2) (ret := none) (by decide) rfl ?_
  intro p e s m args below meth c s₁ B hml hv
  obtain ⟨rfl, hsz, hP, hX, hD0, hZ0⟩ := hv
  have hx := B.exec
  have hb := B.bytes
  have hr := B.returns
  have hts := atoms_spec (ws := wzX5_addNumber) B.pre
  have hown : s.vm.findClass RX5 = some m.cls := findClass_of_methodNamed B.named
  subst hsz
  have hD := hD0.self (sz := s.heap.size)
  have hZ := hZ0
  generalize hAe : va_A (wP k ar fi fa) s.heap.size = A at hD hZ ⊢
  have hA : ∀ q : Nat, s.heap.size ≤ q → A q := fun q h => by rw [← hAe]; exact Or.inr h
  have hS : va_S A s.heap s.heap [] := va_S.rf
  have hl := lv_entry ([.ref (ar 98), .int (Int32.ofInt (i0))]) (n := 2) (Nat.le_of_ble_eq_true rfl)
  rw [lg_entry_eq]
  generalize (lg_sl ([.ref (ar 98), .int (Int32.ofInt (i0))]) ++ List.replicate (2 - (lg_sl ([.ref (ar 98), .int (Int32.ofInt (i0))])).length) Slot.unset).toArray = ls at hl ⊢
  have hl : lv_has ls 2 [(0, .ref (ar 98)), (1, .int (Int32.ofInt (i0)))] := hl
  obtain ⟨H, eH⟩ : ∃ H, H = s.heap := ⟨_, rfl⟩
  rw [← eH] at hP
  have hS : va_S A s.heap H [] := by rw [eH]; exact hS
  have gW : s.heap = H := eH.symm
  refine iv_heap gW ?_
  refine lv_aload_n hx hb dX5_addNumber_0 rfl (lv_at hl 0 rfl) ?_
  refine lv_iload_n hx hb dX5_addNumber_1 rfl (lv_at hl 1 rfl) ?_
  refine cr_v (va_runV (As := [.int (Int32.ofInt (i0))]) (rest := []) ⟨hx, hb, hml, hown, hts⟩ (mX5_add l G k ar fi fa i0 H.size hR hRa hB8 hB20 hB21 (by omega) (show 0 ≤ (fi 23) ∧ (fi 23) ≤ 600 from by omega) (show -1000 ≤ i0 ∧ i0 < 10000 from by omega)) (cwV 1 hts (gz [.methodLink RX5 31 yX5_add, .instanceMethod yX5_add, .selects RX5 yX5_add yX5_add, .initialized RX5] (.code yX5_add cX5_add 2 none) [(14, 14), (14, 15), (14, 16), (1, 23), (14, 17)] rfl) rfl rfl rfl (by decide +kernel) ⟨Nat.le_of_ble_eq_true rfl, Nat.le_of_ble_eq_true rfl⟩) (cr_preV (EZ_ok k) hZ hS hX hP hD hA (ci := 4) (q0 := 1) rfl rfl) rfl rfl hl.1 rfl (lv_room (Nat.le_of_ble_eq_true rfl)) dX5_addNumber_2 ⟨Nat.le_of_ble_eq_true rfl, Nat.le_of_ble_eq_true rfl⟩) hD hS hA (fun u H locs hp hP hD hS => ?_)
  obtain ⟨c1, c2⟩ := u
  obtain ⟨hP, hD⟩ : va_P G vwCl (wP k ar (uF fi 23 (c2)) (uF fa 20 (c1))) H ∧ va_D A (wP k ar (uF fi 23 (c2)) (uF fa 20 (c1))) := ⟨hP, hD⟩
  obtain ⟨rc1, bc1, rc2, hp2⟩ : (∀ t, inR (c1 t)) ∧ (bnd c1 600 (-1000) 10000) ∧ (inR c2) ∧ ((0 ≤ c2 ∧ c2 ≤ 600) ∧ AdP ((fa 20)) c1 ((fi 23)) c2 i0) := hp
  obtain ⟨hp2, hAd2⟩ := hp2
  exact W.vret hx hb hr (fun t ht hW => ⟨⟨(c1, c2), rfl, (show (∀ t, inR (c1 t)) ∧ (bnd c1 600 (-1000) 10000) ∧ (inR c2) ∧ ((0 ≤ c2 ∧ c2 ≤ 600) ∧ AdP (fa 20) c1 (fi 23) c2 i0) from ⟨rc1, bc1, (by omega), (by exact ⟨by omega, hAd2⟩)⟩), by rw [ht]; exact hP, hD⟩, hS.F ht⟩) hS.2.2 dX5_addNumber_5

set_option maxHeartbeats 4000000 in
set_option maxRecDepth 100000 in
theorem mX5_addValue (l : Launch) (G : va_G) (k : Nat → ClassId) (ar : Nat → Nat) (fi : Nat → Int) (fa : Nat → Int → Int) (i0 : Int) (sz : Nat) (hR : ∀ j, inR (fi j)) (hRa : ∀ j t, inR (fa j t)) (hB8 : bnd (fa 8) 7 0 4) (hB20 : bnd (fa 20) 600 (-1000) 10000) (hB21 : bnd (fa 21) 4 0 601) (hr_i0 : inR i0) (hln : 0 ≤ fi 23 ∧ fi 23 ≤ 600) (hi0 : -1 ≤ i0 ∧ i0 ≤ 6) : CNv l G k (EZ k) yX5_addValue wzX5_addValue ({ frames := 1, cells := 0, slots := 0, locals := 21 }) [.ref (ar 98), .int (Int32.ofInt (i0))] sz (wP k ar fi fa) (fun (u : (Int → Int) × Int) => (∀ t, inR (u.1 t)) ∧ (bnd u.1 600 (-1000) 10000) ∧ (inR u.2) ∧ ((0 ≤ u.2 ∧ u.2 ≤ 600) ∧ AdP (fa 20) u.1 (fi 23) u.2 (-1 - i0))) (fun (u : (Int → Int) × Int) => (wP k ar (uF fi 23 (u.2)) (uF fa 20 (u.1)))) := by
  refine Met.ofW (cc := cX5_addValue) (maxL := 2) (ret := none) (by decide) rfl ?_
  intro p e s m args below meth c s₁ B hml hv
  obtain ⟨rfl, hsz, hP, hX, hD0, hZ0⟩ := hv
  have hx := B.exec
  have hb := B.bytes
  have hr := B.returns
  have hts := atoms_spec (ws := wzX5_addValue) B.pre
  have hown : s.vm.findClass RX5 = some m.cls := findClass_of_methodNamed B.named
  subst hsz
  have hD := hD0.self (sz := s.heap.size)
  have hZ := hZ0
  generalize hAe : va_A (wP k ar fi fa) s.heap.size = A at hD hZ ⊢
  have hA : ∀ q : Nat, s.heap.size ≤ q → A q := fun q h => by rw [← hAe]; exact Or.inr h
  have hS : va_S A s.heap s.heap [] := va_S.rf
  have hl := lv_entry ([.ref (ar 98), .int (Int32.ofInt (i0))]) (n := 2) (Nat.le_of_ble_eq_true rfl)
  rw [lg_entry_eq]
  generalize (lg_sl ([.ref (ar 98), .int (Int32.ofInt (i0))]) ++ List.replicate (2 - (lg_sl ([.ref (ar 98), .int (Int32.ofInt (i0))])).length) Slot.unset).toArray = ls at hl ⊢
  have hl : lv_has ls 2 [(0, .ref (ar 98)), (1, .int (Int32.ofInt (i0)))] := hl
  obtain ⟨H, eH⟩ : ∃ H, H = s.heap := ⟨_, rfl⟩
  rw [← eH] at hP
  have hS : va_S A s.heap H [] := by rw [eH]; exact hS
  have gW : s.heap = H := eH.symm
  refine iv_heap gW ?_
  refine lv_aload_n hx hb dX5_addValue_0 rfl (lv_at hl 0 rfl) ?_
  refine lv_iconst (v := Int32.ofInt (-1)) hx hb dX5_addValue_1 (by decide +kernel) ?_
  refine lv_iload_n hx hb dX5_addValue_2 rfl (lv_at hl 1 rfl) ?_
  refine iv_sub (x := (-1)) (y := i0) hx hb dX5_addValue_3 ?_
  refine cr_v (va_runV (As := [.int (Int32.ofInt (((-1) - i0)))]) (rest := []) ⟨hx, hb, hml, hown, hts⟩ (mX5_add l G k ar fi fa ((-1) - i0) H.size hR hRa hB8 hB20 hB21 (by omega) (show 0 ≤ (fi 23) ∧ (fi 23) ≤ 600 from by omega) (show -1000 ≤ ((-1) - i0) ∧ ((-1) - i0) < 10000 from by omega)) (cwV 1 hts (gz [.methodLink RX5 31 yX5_add, .instanceMethod yX5_add, .selects RX5 yX5_add yX5_add, .initialized RX5] (.code yX5_add cX5_add 2 none) [(14, 14), (14, 15), (14, 16), (1, 23), (14, 17)] rfl) rfl rfl rfl (by decide +kernel) ⟨Nat.le_of_ble_eq_true rfl, Nat.le_of_ble_eq_true rfl⟩) (cr_preV (EZ_ok k) hZ hS hX hP hD hA (ci := 4) (q0 := 1) rfl rfl) rfl rfl hl.1 rfl (lv_room (Nat.le_of_ble_eq_true rfl)) dX5_addValue_4 ⟨Nat.le_of_ble_eq_true rfl, Nat.le_of_ble_eq_true rfl⟩) hD hS hA (fun u H locs hp hP hD hS => ?_)
  obtain ⟨c1, c2⟩ := u
  obtain ⟨hP, hD⟩ : va_P G vwCl (wP k ar (uF fi 23 (c2)) (uF fa 20 (c1))) H ∧ va_D A (wP k ar (uF fi 23 (c2)) (uF fa 20 (c1))) := ⟨hP, hD⟩
  obtain ⟨rc1, bc1, rc2, hp2⟩ : (∀ t, inR (c1 t)) ∧ (bnd c1 600 (-1000) 10000) ∧ (inR c2) ∧ ((0 ≤ c2 ∧ c2 ≤ 600) ∧ AdP ((fa 20)) c1 ((fi 23)) c2 ((-1) - i0)) := hp
  obtain ⟨hp2, hAd4⟩ := hp2
  exact W.vret hx hb hr (fun t ht hW => ⟨⟨(c1, c2), rfl, (show (∀ t, inR (c1 t)) ∧ (bnd c1 600 (-1000) 10000) ∧ (inR c2) ∧ ((0 ≤ c2 ∧ c2 ≤ 600) ∧ AdP (fa 20) c1 (fi 23) c2 (-1 - i0)) from ⟨rc1, bc1, (by omega), (by exact ⟨by omega, hAd4⟩)⟩), by rw [ht]; exact hP, hD⟩, hS.F ht⟩) hS.2.2 dX5_addValue_7

set_option maxHeartbeats 4000000 in
set_option maxRecDepth 100000 in
theorem mX5_addOperator (l : Launch) (G : va_G) (k : Nat → ClassId) (ar : Nat → Nat) (fi : Nat → Int) (fa : Nat → Int → Int) (i0 : Int) (sz : Nat) (hR : ∀ j, inR (fi j)) (hRa : ∀ j t, inR (fa j t)) (hB8 : bnd (fa 8) 7 0 4) (hB20 : bnd (fa 20) 600 (-1000) 10000) (hB21 : bnd (fa 21) 4 0 601) (hr_i0 : inR i0) (hln : 0 ≤ fi 23 ∧ fi 23 ≤ 600) (hi0 : -1000 ≤ i0 ∧ i0 ≤ 1000) : CNv l G k (EZ k) yX5_addOperator wzX5_addOperator ({ frames := 1, cells := 0, slots := 0, locals := 21 }) [.ref (ar 98), .int (Int32.ofInt (i0))] sz (wP k ar fi fa) (fun (u : (Int → Int) × Int) => (∀ t, inR (u.1 t)) ∧ (bnd u.1 600 (-1000) 10000) ∧ (inR u.2) ∧ ((0 ≤ u.2 ∧ u.2 ≤ 600) ∧ AdP (fa 20) u.1 (fi 23) u.2 (-i0))) (fun (u : (Int → Int) × Int) => (wP k ar (uF fi 23 (u.2)) (uF fa 20 (u.1)))) := by
  refine Met.ofW (cc := cX5_addOperator) (maxL := 2) (ret := none) (by decide) rfl ?_
  intro p e s m args below meth c s₁ B hml hv
  obtain ⟨rfl, hsz, hP, hX, hD0, hZ0⟩ := hv
  have hx := B.exec
  have hb := B.bytes
  have hr := B.returns
  have hts := atoms_spec (ws := wzX5_addOperator) B.pre
  have hown : s.vm.findClass RX5 = some m.cls := findClass_of_methodNamed B.named
  subst hsz
  have hD := hD0.self (sz := s.heap.size)
  have hZ := hZ0
  generalize hAe : va_A (wP k ar fi fa) s.heap.size = A at hD hZ ⊢
  have hA : ∀ q : Nat, s.heap.size ≤ q → A q := fun q h => by rw [← hAe]; exact Or.inr h
  have hS : va_S A s.heap s.heap [] := va_S.rf
  have hl := lv_entry ([.ref (ar 98), .int (Int32.ofInt (i0))]) (n := 2) (Nat.le_of_ble_eq_true rfl)
  rw [lg_entry_eq]
  generalize (lg_sl ([.ref (ar 98), .int (Int32.ofInt (i0))]) ++ List.replicate (2 - (lg_sl ([.ref (ar 98), .int (Int32.ofInt (i0))])).length) Slot.unset).toArray = ls at hl ⊢
  have hl : lv_has ls 2 [(0, .ref (ar 98)), (1, .int (Int32.ofInt (i0)))] := hl
  obtain ⟨H, eH⟩ : ∃ H, H = s.heap := ⟨_, rfl⟩
  rw [← eH] at hP
  have hS : va_S A s.heap H [] := by rw [eH]; exact hS
  have gW : s.heap = H := eH.symm
  refine iv_heap gW ?_
  refine lv_aload_n hx hb dX5_addOperator_0 rfl (lv_at hl 0 rfl) ?_
  refine lv_iload_n hx hb dX5_addOperator_1 rfl (lv_at hl 1 rfl) ?_
  refine iv_neg hx hb dX5_addOperator_2 ?_
  refine cr_v (va_runV (As := [.int (Int32.ofInt ((-i0)))]) (rest := []) ⟨hx, hb, hml, hown, hts⟩ (mX5_add l G k ar fi fa (-i0) H.size hR hRa hB8 hB20 hB21 (by omega) (show 0 ≤ (fi 23) ∧ (fi 23) ≤ 600 from by omega) (show -1000 ≤ (-i0) ∧ (-i0) < 10000 from by omega)) (cwV 1 hts (gz [.methodLink RX5 31 yX5_add, .instanceMethod yX5_add, .selects RX5 yX5_add yX5_add, .initialized RX5] (.code yX5_add cX5_add 2 none) [(14, 14), (14, 15), (14, 16), (1, 23), (14, 17)] rfl) rfl rfl rfl (by decide +kernel) ⟨Nat.le_of_ble_eq_true rfl, Nat.le_of_ble_eq_true rfl⟩) (cr_preV (EZ_ok k) hZ hS hX hP hD hA (ci := 4) (q0 := 1) rfl rfl) rfl rfl hl.1 rfl (lv_room (Nat.le_of_ble_eq_true rfl)) dX5_addOperator_3 ⟨Nat.le_of_ble_eq_true rfl, Nat.le_of_ble_eq_true rfl⟩) hD hS hA (fun u H locs hp hP hD hS => ?_)
  obtain ⟨c1, c2⟩ := u
  obtain ⟨hP, hD⟩ : va_P G vwCl (wP k ar (uF fi 23 (c2)) (uF fa 20 (c1))) H ∧ va_D A (wP k ar (uF fi 23 (c2)) (uF fa 20 (c1))) := ⟨hP, hD⟩
  obtain ⟨rc1, bc1, rc2, hp2⟩ : (∀ t, inR (c1 t)) ∧ (bnd c1 600 (-1000) 10000) ∧ (inR c2) ∧ ((0 ≤ c2 ∧ c2 ≤ 600) ∧ AdP ((fa 20)) c1 ((fi 23)) c2 (-i0)) := hp
  obtain ⟨hp2, hAd3⟩ := hp2
  exact W.vret hx hb hr (fun t ht hW => ⟨⟨(c1, c2), rfl, (show (∀ t, inR (c1 t)) ∧ (bnd c1 600 (-1000) 10000) ∧ (inR c2) ∧ ((0 ≤ c2 ∧ c2 ≤ 600) ∧ AdP (fa 20) c1 (fi 23) c2 (-i0)) from ⟨rc1, bc1, (by omega), (by exact ⟨by omega, hAd3⟩)⟩), by rw [ht]; exact hP, hD⟩, hS.F ht⟩) hS.2.2 dX5_addOperator_6

