set_option maxHeartbeats 4000000 in
set_option maxRecDepth 100000 in
theorem mX7_depth (l : Launch) (G : va_G) (k : Nat → ClassId) (s0 : Int) (sz : Nat) (hr_s0 : inR s0) : CNi l G k (EZ k) yX7_depth wzX7_depth ({ frames := 0, cells := 0, slots := 0, locals := 0 }) [.int (Int32.ofInt (s0))] sz [] (fun (r0 : Int32) (u : Int) => r0 = Int32.ofInt (u) ∧ (inR u) ∧ (u = dp s0 ∧ 0 ≤ u ∧ u ≤ 15)) (fun (u : Int) => []) := by
  refine Met.ofW (cc := cX7_depth) (maxL := 1) (ret := (some .int)) (by decide) rfl ?_
  intro p e s m args below meth c s₁ B hml hv
  obtain ⟨rfl, hsz, hP, hX, hD0, hZ0⟩ := hv
  have hx := B.exec
  have hb := B.bytes
  have hr := B.returns
  have hts := atoms_spec (ws := wzX7_depth) B.pre
  have hown : s.vm.findClass RX7 = some m.cls := findClass_of_methodNamed B.named
  subst hsz
  have hD := hD0.self (sz := s.heap.size)
  have hZ := hZ0
  generalize hAe : va_A [] s.heap.size = A at hD hZ ⊢
  have hA : ∀ q : Nat, s.heap.size ≤ q → A q := fun q h => by rw [← hAe]; exact Or.inr h
  have hS : va_S A s.heap s.heap [] := va_S.rf
  have hl := lv_entry ([.int (Int32.ofInt (s0))]) (n := 1) (Nat.le_of_ble_eq_true rfl)
  rw [lg_entry_eq]
  generalize (lg_sl ([.int (Int32.ofInt (s0))]) ++ List.replicate (1 - (lg_sl ([.int (Int32.ofInt (s0))])).length) Slot.unset).toArray = ls at hl ⊢
  have hl : lv_has ls 1 [(0, .int (Int32.ofInt (s0)))] := hl
  obtain ⟨H, eH⟩ : ∃ H, H = s.heap := ⟨_, rfl⟩
  rw [← eH] at hP
  have hS : va_S A s.heap H [] := by rw [eH]; exact hS
  have gW : s.heap = H := eH.symm
  refine iv_heap gW ?_
  refine lv_iload_n hx hb dX7_depth_0 rfl (lv_at hl 0 rfl) ?_
  refine lv_bipush (v := Int32.ofInt 28) hx hb dX7_depth_1 (by decide +kernel) ?_
  refine iv_ushr hx hb dX7_depth_3 ?_
  refine iv_top (fun z1 ez1 => ?_)
  have rz1 : inR z1 := ez1 ▸ bUshr_r _ _
  exact W.iret (v := Int32.ofInt (z1)) hx hb hr (fun t ht hW => ⟨⟨Int32.ofInt (z1), (z1), rfl, ⟨rfl, (show (inR z1) ∧ (z1 = dp s0 ∧ 0 ≤ z1 ∧ z1 ≤ 15) from ⟨(by omega), (by refine ⟨by subst_vars; rfl, ?_⟩; have h := ush28 s0; omega)⟩)⟩, by rw [ht]; exact hP, hD⟩, hS.F ht⟩) hS.2.2 dX7_depth_4

set_option maxHeartbeats 4000000 in
set_option maxRecDepth 100000 in
theorem mX7_move (l : Launch) (G : va_G) (k : Nat → ClassId) (s0 : Int) (d0 : Int) (sz : Nat) (hr_s0 : inR s0) (hr_d0 : inR d0) : CNi l G k (EZ k) yX7_move wzX7_move ({ frames := 0, cells := 0, slots := 0, locals := 0 }) [.int (Int32.ofInt (s0)), .int (Int32.ofInt (d0))] sz [] (fun (r0 : Int32) (u : Int) => r0 = Int32.ofInt (u) ∧ (inR u) ∧ (u = mvS s0 d0)) (fun (u : Int) => []) := by
  refine Met.ofW (cc := cX7_move) (maxL := 2) (ret := (some .int)) (by decide) rfl ?_
  intro p e s m args below meth c s₁ B hml hv
  obtain ⟨rfl, hsz, hP, hX, hD0, hZ0⟩ := hv
  have hx := B.exec
  have hb := B.bytes
  have hr := B.returns
  have hts := atoms_spec (ws := wzX7_move) B.pre
  have hown : s.vm.findClass RX7 = some m.cls := findClass_of_methodNamed B.named
  subst hsz
  have hD := hD0.self (sz := s.heap.size)
  have hZ := hZ0
  generalize hAe : va_A [] s.heap.size = A at hD hZ ⊢
  have hA : ∀ q : Nat, s.heap.size ≤ q → A q := fun q h => by rw [← hAe]; exact Or.inr h
  have hS : va_S A s.heap s.heap [] := va_S.rf
  have hl := lv_entry ([.int (Int32.ofInt (s0)), .int (Int32.ofInt (d0))]) (n := 2) (Nat.le_of_ble_eq_true rfl)
  rw [lg_entry_eq]
  generalize (lg_sl ([.int (Int32.ofInt (s0)), .int (Int32.ofInt (d0))]) ++ List.replicate (2 - (lg_sl ([.int (Int32.ofInt (s0)), .int (Int32.ofInt (d0))])).length) Slot.unset).toArray = ls at hl ⊢
  have hl : lv_has ls 2 [(0, .int (Int32.ofInt (s0))), (1, .int (Int32.ofInt (d0)))] := hl
  obtain ⟨H, eH⟩ : ∃ H, H = s.heap := ⟨_, rfl⟩
  rw [← eH] at hP
  have hS : va_S A s.heap H [] := by rw [eH]; exact hS
  have gW : s.heap = H := eH.symm
  refine iv_heap gW ?_
  have h0w := hts (.constant RX7 11 (268435455)) (wz_at 5 12 rfl)
  refine lv_iload_n hx hb dX7_move_0 rfl (lv_at hl 0 rfl) ?_
  refine lv_ldc (v := Int32.ofInt 268435455) hx hb hown h0w dX7_move_1 ?_
  refine iv_and hx hb dX7_move_3 ?_
  refine iv_top (fun z1 ez1 => ?_)
  have rz1 : inR z1 := ez1 ▸ bAnd_r _ _
  refine lv_iload_n hx hb dX7_move_4 rfl (lv_at hl 1 rfl) ?_
  refine lv_bipush (v := Int32.ofInt 28) hx hb dX7_move_5 (by decide +kernel) ?_
  refine iv_shl hx hb dX7_move_7 ?_
  refine iv_top (fun z2 ez2 => ?_)
  have rz2 : inR z2 := ez2 ▸ bShl_r _ _
  refine iv_or hx hb dX7_move_8 ?_
  refine iv_top (fun z3 ez3 => ?_)
  have rz3 : inR z3 := ez3 ▸ bOr_r _ _
  exact W.iret (v := Int32.ofInt (z3)) hx hb hr (fun t ht hW => ⟨⟨Int32.ofInt (z3), (z3), rfl, ⟨rfl, (show (inR z3) ∧ (z3 = mvS s0 d0) from ⟨(by omega), (by subst_vars; rfl)⟩)⟩, by rw [ht]; exact hP, hD⟩, hS.F ht⟩) hS.2.2 dX7_move_9

set_option maxHeartbeats 4000000 in
set_option maxRecDepth 100000 in
theorem mX7_place (l : Launch) (G : va_G) (k : Nat → ClassId) (s0 : Int) (t0 : Int) (sz : Nat) (hr_s0 : inR s0) (hr_t0 : inR t0) : CNi l G k (EZ k) yX7_place wzX7_place ({ frames := 0, cells := 0, slots := 0, locals := 0 }) [.int (Int32.ofInt (s0)), .int (Int32.ofInt (t0))] sz [] (fun (r0 : Int32) (u : Int) => r0 = Int32.ofInt (u) ∧ (inR u) ∧ (u = nb s0 t0 ∧ 0 ≤ u ∧ u ≤ 15)) (fun (u : Int) => []) := by
  refine Met.ofW (cc := cX7_place) (maxL := 2) (ret := (some .int)) (by decide) rfl ?_
  intro p e s m args below meth c s₁ B hml hv
  obtain ⟨rfl, hsz, hP, hX, hD0, hZ0⟩ := hv
  have hx := B.exec
  have hb := B.bytes
  have hr := B.returns
  have hts := atoms_spec (ws := wzX7_place) B.pre
  have hown : s.vm.findClass RX7 = some m.cls := findClass_of_methodNamed B.named
  subst hsz
  have hD := hD0.self (sz := s.heap.size)
  have hZ := hZ0
  generalize hAe : va_A [] s.heap.size = A at hD hZ ⊢
  have hA : ∀ q : Nat, s.heap.size ≤ q → A q := fun q h => by rw [← hAe]; exact Or.inr h
  have hS : va_S A s.heap s.heap [] := va_S.rf
  have hl := lv_entry ([.int (Int32.ofInt (s0)), .int (Int32.ofInt (t0))]) (n := 2) (Nat.le_of_ble_eq_true rfl)
  rw [lg_entry_eq]
  generalize (lg_sl ([.int (Int32.ofInt (s0)), .int (Int32.ofInt (t0))]) ++ List.replicate (2 - (lg_sl ([.int (Int32.ofInt (s0)), .int (Int32.ofInt (t0))])).length) Slot.unset).toArray = ls at hl ⊢
  have hl : lv_has ls 2 [(0, .int (Int32.ofInt (s0))), (1, .int (Int32.ofInt (t0)))] := hl
  obtain ⟨H, eH⟩ : ∃ H, H = s.heap := ⟨_, rfl⟩
  rw [← eH] at hP
  have hS : va_S A s.heap H [] := by rw [eH]; exact hS
  have gW : s.heap = H := eH.symm
  refine iv_heap gW ?_
  refine lv_iload_n hx hb dX7_place_0 rfl (lv_at hl 0 rfl) ?_
  refine lv_iconst (v := Int32.ofInt 4) hx hb dX7_place_1 (by decide +kernel) ?_
  refine lv_iload_n hx hb dX7_place_2 rfl (lv_at hl 1 rfl) ?_
  refine iv_mul (x := 4) (y := t0) hx hb dX7_place_3 ?_
  refine iv_ushr hx hb dX7_place_4 ?_
  refine iv_top (fun z1 ez1 => ?_)
  have rz1 : inR z1 := ez1 ▸ bUshr_r _ _
  refine lv_bipush (v := Int32.ofInt 15) hx hb dX7_place_5 (by decide +kernel) ?_
  refine iv_and hx hb dX7_place_7 ?_
  refine iv_top (fun z2 ez2 => ?_)
  have rz2 : inR z2 := ez2 ▸ bAnd_r _ _
  exact W.iret (v := Int32.ofInt (z2)) hx hb hr (fun t ht hW => ⟨⟨Int32.ofInt (z2), (z2), rfl, ⟨rfl, (show (inR z2) ∧ (z2 = nb s0 t0 ∧ 0 ≤ z2 ∧ z2 ≤ 15) from ⟨(by omega), (by refine ⟨by subst_vars; rfl, ?_⟩; have h := band15 (bUshr s0 (4 * t0)); subst_vars; exact h)⟩)⟩, by rw [ht]; exact hP, hD⟩, hS.F ht⟩) hS.2.2 dX7_place_8

set_option maxHeartbeats 4000000 in
set_option maxRecDepth 100000 in
theorem mX7_put (l : Launch) (G : va_G) (k : Nat → ClassId) (s0 : Int) (t0 : Int) (p0 : Int) (sz : Nat) (hr_s0 : inR s0) (hr_t0 : inR t0) (hr_p0 : inR p0) : CNi l G k (EZ k) yX7_put wzX7_put ({ frames := 0, cells := 0, slots := 0, locals := 0 }) [.int (Int32.ofInt (s0)), .int (Int32.ofInt (t0)), .int (Int32.ofInt (p0))] sz [] (fun (r0 : Int32) (u : Int) => r0 = Int32.ofInt (u) ∧ (inR u) ∧ (u = putS s0 t0 p0)) (fun (u : Int) => []) := by
  refine Met.ofW (cc := cX7_put) (maxL := 3) (ret := (some .int)) (by decide) rfl ?_
  intro p e s m args below meth c s₁ B hml hv
  obtain ⟨rfl, hsz, hP, hX, hD0, hZ0⟩ := hv
  have hx := B.exec
  have hb := B.bytes
  have hr := B.returns
  have hts := atoms_spec (ws := wzX7_put) B.pre
  have hown : s.vm.findClass RX7 = some m.cls := findClass_of_methodNamed B.named
  subst hsz
  have hD := hD0.self (sz := s.heap.size)
  have hZ := hZ0
  generalize hAe : va_A [] s.heap.size = A at hD hZ ⊢
  have hA : ∀ q : Nat, s.heap.size ≤ q → A q := fun q h => by rw [← hAe]; exact Or.inr h
  have hS : va_S A s.heap s.heap [] := va_S.rf
  have hl := lv_entry ([.int (Int32.ofInt (s0)), .int (Int32.ofInt (t0)), .int (Int32.ofInt (p0))]) (n := 3) (Nat.le_of_ble_eq_true rfl)
  rw [lg_entry_eq]
  generalize (lg_sl ([.int (Int32.ofInt (s0)), .int (Int32.ofInt (t0)), .int (Int32.ofInt (p0))]) ++ List.replicate (3 - (lg_sl ([.int (Int32.ofInt (s0)), .int (Int32.ofInt (t0)), .int (Int32.ofInt (p0))])).length) Slot.unset).toArray = ls at hl ⊢
  have hl : lv_has ls 3 [(0, .int (Int32.ofInt (s0))), (1, .int (Int32.ofInt (t0))), (2, .int (Int32.ofInt (p0)))] := hl
  obtain ⟨H, eH⟩ : ∃ H, H = s.heap := ⟨_, rfl⟩
  rw [← eH] at hP
  have hS : va_S A s.heap H [] := by rw [eH]; exact hS
  have gW : s.heap = H := eH.symm
  refine iv_heap gW ?_
  refine lv_iload_n hx hb dX7_put_0 rfl (lv_at hl 0 rfl) ?_
  refine lv_bipush (v := Int32.ofInt 15) hx hb dX7_put_1 (by decide +kernel) ?_
  refine lv_iconst (v := Int32.ofInt 4) hx hb dX7_put_3 (by decide +kernel) ?_
  refine lv_iload_n hx hb dX7_put_4 rfl (lv_at hl 1 rfl) ?_
  refine iv_mul (x := 4) (y := t0) hx hb dX7_put_5 ?_
  refine iv_shl hx hb dX7_put_6 ?_
  refine iv_top (fun z1 ez1 => ?_)
  have rz1 : inR z1 := ez1 ▸ bShl_r _ _
  refine lv_iconst (v := Int32.ofInt (-1)) hx hb dX7_put_7 (by decide +kernel) ?_
  refine iv_xor hx hb dX7_put_8 ?_
  refine iv_top (fun z2 ez2 => ?_)
  have rz2 : inR z2 := ez2 ▸ bXor_r _ _
  refine iv_and hx hb dX7_put_9 ?_
  refine iv_top (fun z3 ez3 => ?_)
  have rz3 : inR z3 := ez3 ▸ bAnd_r _ _
  refine lv_iload_n hx hb dX7_put_10 rfl (lv_at hl 2 rfl) ?_
  refine lv_iconst (v := Int32.ofInt 4) hx hb dX7_put_11 (by decide +kernel) ?_
  refine lv_iload_n hx hb dX7_put_12 rfl (lv_at hl 1 rfl) ?_
  refine iv_mul (x := 4) (y := t0) hx hb dX7_put_13 ?_
  refine iv_shl hx hb dX7_put_14 ?_
  refine iv_top (fun z4 ez4 => ?_)
  have rz4 : inR z4 := ez4 ▸ bShl_r _ _
  refine iv_or hx hb dX7_put_15 ?_
  refine iv_top (fun z5 ez5 => ?_)
  have rz5 : inR z5 := ez5 ▸ bOr_r _ _
  exact W.iret (v := Int32.ofInt (z5)) hx hb hr (fun t ht hW => ⟨⟨Int32.ofInt (z5), (z5), rfl, ⟨rfl, (show (inR z5) ∧ (z5 = putS s0 t0 p0) from ⟨(by omega), (by subst_vars; rfl)⟩)⟩, by rw [ht]; exact hP, hD⟩, hS.F ht⟩) hS.2.2 dX7_put_16

set_option maxHeartbeats 4000000 in
set_option maxRecDepth 100000 in
theorem mX7_bucketOf (l : Launch) (G : va_G) (k : Nat → ClassId) (s0 : Int) (t0 : Int) (sz : Nat) (hr_s0 : inR s0) (hr_t0 : inR t0) : CNi l G k (EZ k) yX7_bucketOf wzX7_bucketOf ({ frames := 1, cells := 0, slots := 0, locals := 21 }) [.int (Int32.ofInt (s0)), .int (Int32.ofInt (t0))] sz [] (fun (r0 : Int32) (u : Int) => r0 = Int32.ofInt (u) ∧ (inR u) ∧ (u = bkO (nb s0 t0) ∧ -1 ≤ u ∧ u ≤ 1)) (fun (u : Int) => []) := by
  refine Met.ofW (cc := cX7_bucketOf) (maxL := 3) (ret := (some .int)) (by decide) rfl ?_
  intro p e s m args below meth c s₁ B hml hv
  obtain ⟨rfl, hsz, hP, hX, hD0, hZ0⟩ := hv
  have hx := B.exec
  have hb := B.bytes
  have hr := B.returns
  have hts := atoms_spec (ws := wzX7_bucketOf) B.pre
  have hown : s.vm.findClass RX7 = some m.cls := findClass_of_methodNamed B.named
  subst hsz
  have hD := hD0.self (sz := s.heap.size)
  have hZ := hZ0
  generalize hAe : va_A [] s.heap.size = A at hD hZ ⊢
  have hA : ∀ q : Nat, s.heap.size ≤ q → A q := fun q h => by rw [← hAe]; exact Or.inr h
  have hS : va_S A s.heap s.heap [] := va_S.rf
  have hl := lv_entry ([.int (Int32.ofInt (s0)), .int (Int32.ofInt (t0))]) (n := 3) (Nat.le_of_ble_eq_true rfl)
  rw [lg_entry_eq]
  generalize (lg_sl ([.int (Int32.ofInt (s0)), .int (Int32.ofInt (t0))]) ++ List.replicate (3 - (lg_sl ([.int (Int32.ofInt (s0)), .int (Int32.ofInt (t0))])).length) Slot.unset).toArray = ls at hl ⊢
  have hl : lv_has ls 3 [(0, .int (Int32.ofInt (s0))), (1, .int (Int32.ofInt (t0)))] := hl
  obtain ⟨H, eH⟩ : ∃ H, H = s.heap := ⟨_, rfl⟩
  rw [← eH] at hP
  have hS : va_S A s.heap H [] := by rw [eH]; exact hS
  have gW : s.heap = H := eH.symm
  refine iv_heap gW ?_
  refine lv_iload_n hx hb dX7_bucketOf_0 rfl (lv_at hl 0 rfl) ?_
  refine lv_iload_n hx hb dX7_bucketOf_1 rfl (lv_at hl 1 rfl) ?_
  refine c0_i (va_runS (As := [.int (Int32.ofInt (s0)), .int (Int32.ofInt (t0))]) (rest := []) ⟨hx, hb, hml, hown, hts⟩ (mX7_place l G k s0 t0 H.size (by omega) (by omega)) (cwS 2 hts (gz [.methodLink RX7 12 yX7_place, .static yX7_place, .initialized RX7] (.code yX7_place cX7_place 2 (some .int)) [(23, 19), (23, 11), (5, 10), (23, 12)] rfl) rfl rfl rfl (by decide +kernel) ⟨Nat.le_of_ble_eq_true rfl, Nat.le_of_ble_eq_true rfl⟩) (cr_pre0 (EZ_ok k) hZ hS hX hP hD hA) rfl rfl hl.1 rfl (lv_room (Nat.le_of_ble_eq_true rfl)) dX7_bucketOf_2 ⟨Nat.le_of_ble_eq_true rfl, Nat.le_of_ble_eq_true rfl⟩) hP hD hS hA (fun r u H locs hp hP hD hS => ?_)
  obtain ⟨c1, rfl⟩ : ∃ z, z = u := ⟨_, rfl⟩
  obtain ⟨h9, rc1, hp1⟩ : r = Int32.ofInt c1 ∧ (inR c1) ∧ (c1 = nb s0 t0 ∧ 0 ≤ c1 ∧ c1 ≤ 15) := hp
  subst h9
  have hPl2 := hp1.1
  refine lv_istore_n (lv' := [(2, .int (Int32.ofInt (c1))), (0, .int (Int32.ofInt (s0))), (1, .int (Int32.ofInt (t0)))]) hx hb dX7_bucketOf_5 rfl hl (by decide) rfl (fun ls hl => ?_)
  refine lv_iload_n hx hb dX7_bucketOf_6 rfl (lv_at hl 0 rfl) ?_
  refine lv_bipush (v := Int32.ofInt 12) hx hb dX7_bucketOf_7 (by decide +kernel) ?_
  refine iv_icmp_eq (tgt := 18) hx hb (by omega) (by omega) dX7_bucketOf_9 (by decide) (fun q2 => ?_) (fun q2 => ?_)
  · refine lv_iload_n hx hb dX7_bucketOf_18 rfl (lv_at hl 0 rfl) ?_
    refine lv_bipush (v := Int32.ofInt 12) hx hb dX7_bucketOf_19 (by decide +kernel) ?_
    refine iv_sub (x := c1) (y := 12) hx hb dX7_bucketOf_21 ?_
    refine lv_goto (tgt := 26) hx hb dX7_bucketOf_22 (by decide) ?_
    exact W.iret (v := Int32.ofInt ((c1 - 12))) hx hb hr (fun t ht hW => ⟨⟨Int32.ofInt ((c1 - 12)), ((c1 - 12)), rfl, ⟨rfl, (show (inR (c1 - 12)) ∧ ((c1 - 12) = bkO (nb s0 t0) ∧ -1 ≤ (c1 - 12) ∧ (c1 - 12) ≤ 1) from ⟨(by omega), (by unfold bkO; omega)⟩)⟩, by rw [ht]; exact hP, hD⟩, hS.F ht⟩) hS.2.2 dX7_bucketOf_26
  · refine lv_iload_n hx hb dX7_bucketOf_12 rfl (lv_at hl 0 rfl) ?_
    refine lv_bipush (v := Int32.ofInt 13) hx hb dX7_bucketOf_13 (by decide +kernel) ?_
    refine iv_icmp_ne (tgt := 25) hx hb (by omega) (by omega) dX7_bucketOf_15 (by decide) (fun q3 => ?_) (fun q3 => ?_)
    · refine lv_iconst (v := Int32.ofInt (-1)) hx hb dX7_bucketOf_25 (by decide +kernel) ?_
      exact W.iret (v := Int32.ofInt ((-1))) hx hb hr (fun t ht hW => ⟨⟨Int32.ofInt ((-1)), ((-1)), rfl, ⟨rfl, (show (inR (-1)) ∧ ((-1) = bkO (nb s0 t0) ∧ -1 ≤ (-1) ∧ (-1) ≤ 1) from ⟨(by omega), (by unfold bkO; omega)⟩)⟩, by rw [ht]; exact hP, hD⟩, hS.F ht⟩) hS.2.2 dX7_bucketOf_26
    · refine lv_iload_n hx hb dX7_bucketOf_18 rfl (lv_at hl 0 rfl) ?_
      refine lv_bipush (v := Int32.ofInt 12) hx hb dX7_bucketOf_19 (by decide +kernel) ?_
      refine iv_sub (x := c1) (y := 12) hx hb dX7_bucketOf_21 ?_
      refine lv_goto (tgt := 26) hx hb dX7_bucketOf_22 (by decide) ?_
      exact W.iret (v := Int32.ofInt ((c1 - 12))) hx hb hr (fun t ht hW => ⟨⟨Int32.ofInt ((c1 - 12)), ((c1 - 12)), rfl, ⟨rfl, (show (inR (c1 - 12)) ∧ ((c1 - 12) = bkO (nb s0 t0) ∧ -1 ≤ (c1 - 12) ∧ (c1 - 12) ≤ 1) from ⟨(by omega), (by unfold bkO; omega)⟩)⟩, by rw [ht]; exact hP, hD⟩, hS.F ht⟩) hS.2.2 dX7_bucketOf_26

set_option maxHeartbeats 4000000 in
set_option maxRecDepth 100000 in
theorem mX7_thingsIn (l : Launch) (G : va_G) (k : Nat → ClassId) (s0 : Int) (b0 : Int) (sz : Nat) (hr_s0 : inR s0) (hr_b0 : inR b0) (hb : b0 = 0 ∨ b0 = 1) : CNi l G k (EZ k) yX7_thingsIn wzX7_thingsIn ({ frames := 1, cells := 0, slots := 0, locals := 21 }) [.int (Int32.ofInt (s0)), .int (Int32.ofInt (b0))] sz [] (fun (r0 : Int32) (u : Int) => r0 = Int32.ofInt (u) ∧ (inR u) ∧ (u = og (bs (nb s0) b0) 7)) (fun (u : Int) => []) := by
  refine Met.ofW (cc := cX7_thingsIn) (maxL := 4) (ret := (some .int)) (by decide) rfl ?_
  intro p e s m args below meth c s₁ B hml hv
  obtain ⟨rfl, hsz, hP, hX, hD0, hZ0⟩ := hv
  have hx := B.exec
  have hb := B.bytes
  have hr := B.returns
  have hts := atoms_spec (ws := wzX7_thingsIn) B.pre
  have hown : s.vm.findClass RX7 = some m.cls := findClass_of_methodNamed B.named
  subst hsz
  have hD := hD0.self (sz := s.heap.size)
  have hZ := hZ0
  generalize hAe : va_A [] s.heap.size = A at hD hZ ⊢
  have hA : ∀ q : Nat, s.heap.size ≤ q → A q := fun q h => by rw [← hAe]; exact Or.inr h
  have hS : va_S A s.heap s.heap [] := va_S.rf
  have hl := lv_entry ([.int (Int32.ofInt (s0)), .int (Int32.ofInt (b0))]) (n := 4) (Nat.le_of_ble_eq_true rfl)
  rw [lg_entry_eq]
  generalize (lg_sl ([.int (Int32.ofInt (s0)), .int (Int32.ofInt (b0))]) ++ List.replicate (4 - (lg_sl ([.int (Int32.ofInt (s0)), .int (Int32.ofInt (b0))])).length) Slot.unset).toArray = ls at hl ⊢
  have hl : lv_has ls 4 [(0, .int (Int32.ofInt (s0))), (1, .int (Int32.ofInt (b0)))] := hl
  obtain ⟨H, eH⟩ : ∃ H, H = s.heap := ⟨_, rfl⟩
  rw [← eH] at hP
  have hS : va_S A s.heap H [] := by rw [eH]; exact hS
  have gW : s.heap = H := eH.symm
  refine iv_heap gW ?_
  refine lv_iconst (v := Int32.ofInt 0) hx hb dX7_thingsIn_0 (by decide +kernel) ?_
  refine lv_istore_n (lv' := [(2, .int (Int32.ofInt (0))), (0, .int (Int32.ofInt (s0))), (1, .int (Int32.ofInt (b0)))]) hx hb dX7_thingsIn_1 rfl hl (by decide) rfl (fun ls hl => ?_)
  refine lv_iconst (v := Int32.ofInt 0) hx hb dX7_thingsIn_2 (by decide +kernel) ?_
  refine lv_istore_n (lv' := [(3, .int (Int32.ofInt (0))), (2, .int (Int32.ofInt (0))), (0, .int (Int32.ofInt (s0))), (1, .int (Int32.ofInt (b0)))]) hx hb dX7_thingsIn_3 rfl hl (by decide) rfl (fun ls hl => ?_)
  refine iv_loop (α := Int × Int) (nL := 4) (fun b9 => []) (fun b9 => [(3, .int (Int32.ofInt (b9.1))), (2, .int (Int32.ofInt (b9.2))), (0, .int (Int32.ofInt (s0))), (1, .int (Int32.ofInt (b0)))]) (fun b9 => (7 - b9.1).toNat) (fun b9 => inR b9.1 ∧ inR b9.2 ∧ ((0 ≤ b9.1 ∧ b9.1 ≤ 7) ∧ b9.2 = og (bs (nb s0) b0) b9.1)) ?_ (0, 0) (show inR 0 ∧ inR 0 ∧ ((0 ≤ 0 ∧ 0 ≤ 7) ∧ 0 = og (bs (nb s0) b0) 0) from ⟨(by omega), (by omega), (by exact ⟨by omega, og_0 rfl (by omega)⟩)⟩) hP hD hS hl
  rintro ⟨x3_1, x2_2⟩ ih hi9 H locs ls hP hD hS hl
  obtain ⟨r_x3_1, r_x2_2, hinv⟩ : inR x3_1 ∧ inR x2_2 ∧ ((0 ≤ x3_1 ∧ x3_1 ≤ 7) ∧ x2_2 = og (bs (nb s0) b0) x3_1) := hi9
  obtain ⟨hJ1, hJ2⟩ := hinv
  obtain ⟨hP, hD⟩ : va_P G vwCl [] H ∧ va_D A [] := ⟨hP, hD⟩
  have hl : lv_has ls 4 [(3, .int (Int32.ofInt (x3_1))), (2, .int (Int32.ofInt (x2_2))), (0, .int (Int32.ofInt (s0))), (1, .int (Int32.ofInt (b0)))] := hl
  refine lv_iload_n hx hb dX7_thingsIn_4 rfl (lv_at hl 0 rfl) ?_
  refine lv_bipush (v := Int32.ofInt 7) hx hb dX7_thingsIn_5 (by decide +kernel) ?_
  refine iv_icmp_ge (tgt := 34) hx hb (by omega) (by omega) dX7_thingsIn_7 (by decide) (fun q3 => ?_) (fun q3 => ?_)
  · refine lv_iload_n hx hb dX7_thingsIn_34 rfl (lv_at hl 1 rfl) ?_
    exact W.iret (v := Int32.ofInt (x2_2)) hx hb hr (fun t ht hW => ⟨⟨Int32.ofInt (x2_2), (x2_2), rfl, ⟨rfl, (show (inR x2_2) ∧ (x2_2 = og (bs (nb s0) b0) 7) from ⟨(by omega), (by rw [show (7 : Int) = x3_1 by omega]; exact hJ2)⟩)⟩, by rw [ht]; exact hP, hD⟩, hS.F ht⟩) hS.2.2 dX7_thingsIn_35
  · refine lv_iload_n hx hb dX7_thingsIn_10 rfl (lv_at hl 2 rfl) ?_
    refine lv_iload_n hx hb dX7_thingsIn_11 rfl (lv_at hl 0 rfl) ?_
    refine c0_i (va_runS (As := [.int (Int32.ofInt (s0)), .int (Int32.ofInt (x3_1))]) (rest := []) ⟨hx, hb, hml, hown, hts⟩ (mX7_place l G k s0 x3_1 H.size (by omega) (by omega)) (cwS 2 hts (gz [.methodLink RX7 12 yX7_place, .static yX7_place, .initialized RX7] (.code yX7_place cX7_place 2 (some .int)) [(23, 19), (23, 11), (5, 10), (23, 12)] rfl) rfl rfl rfl (by decide +kernel) ⟨Nat.le_of_ble_eq_true rfl, Nat.le_of_ble_eq_true rfl⟩) (cr_pre0 (EZ_ok k) hZ hS hX hP hD hA) rfl rfl hl.1 rfl (lv_room (Nat.le_of_ble_eq_true rfl)) dX7_thingsIn_12 ⟨Nat.le_of_ble_eq_true rfl, Nat.le_of_ble_eq_true rfl⟩) hP hD hS hA (fun r u H locs hp hP hD hS => ?_)
    obtain ⟨c4, rfl⟩ : ∃ z, z = u := ⟨_, rfl⟩
    obtain ⟨h9, rc4, hp4⟩ : r = Int32.ofInt c4 ∧ (inR c4) ∧ (c4 = nb s0 x3_1 ∧ 0 ≤ c4 ∧ c4 ≤ 15) := hp
    subst h9
    have hPl12 := hp4.1
    refine lv_bipush (v := Int32.ofInt 12) hx hb dX7_thingsIn_15 (by decide +kernel) ?_
    refine lv_iload_n hx hb dX7_thingsIn_17 rfl (lv_at hl 3 rfl) ?_
    refine iv_add (x := 12) (y := b0) hx hb dX7_thingsIn_18 ?_
    refine iv_icmp_ne (tgt := 28) hx hb (by omega) (by omega) dX7_thingsIn_19 (by decide) (fun q5 => ?_) (fun q5 => ?_)
    · refine lv_iinc (v := Int32.ofInt (x3_1 + 1)) (lv' := [(3, .int (Int32.ofInt ((x3_1 + 1)))), (2, .int (Int32.ofInt (x2_2))), (0, .int (Int32.ofInt (s0))), (1, .int (Int32.ofInt (b0)))]) hx hb dX7_thingsIn_28 hl (k := 0) rfl (Int32.ofInt_add _ _).symm (by decide) rfl (fun ls hl => ?_)
      refine lv_goto (tgt := 4) hx hb dX7_thingsIn_31 (by decide) ?_
      have hl : lv_has ls 4 [(3, .int (Int32.ofInt ((x3_1 + 1)))), (2, .int (Int32.ofInt (x2_2))), (0, .int (Int32.ofInt (s0))), (1, .int (Int32.ofInt (b0)))] := lv_sub hl [0, 1, 2, 3] rfl
      exact ih ((x3_1 + 1), x2_2) (show (7 - (x3_1 + 1)).toNat < (7 - x3_1).toNat from by omega) (show inR (x3_1 + 1) ∧ inR x2_2 ∧ ((0 ≤ (x3_1 + 1) ∧ (x3_1 + 1) ≤ 7) ∧ x2_2 = og (bs (nb s0) b0) (x3_1 + 1)) from ⟨(by omega), (by omega), (by first | exact ⟨by omega, og_s hJ2 (by omega) (bs_y (p := nb s0) (b := b0) (by omega) hsh9) hO9 rfl⟩ | exact ⟨by omega, og_z hJ2 (by omega) (bs_n (p := nb s0) (b := b0) (by omega) rfl).symm rfl⟩)⟩) _ _ _ hP hD hS hl
    · refine lv_iload_n hx hb dX7_thingsIn_22 rfl (lv_at hl 1 rfl) ?_
      refine lv_iconst (v := Int32.ofInt 1) hx hb dX7_thingsIn_23 (by decide +kernel) ?_
      refine lv_iload_n hx hb dX7_thingsIn_24 rfl (lv_at hl 0 rfl) ?_
      refine iv_shl hx hb dX7_thingsIn_25 ?_
      refine iv_top (fun z6 ez6 => ?_)
      have rz6 : inR z6 := ez6 ▸ bShl_r _ _
      have hsh9 := ez6
      refine iv_or hx hb dX7_thingsIn_26 ?_
      refine iv_top (fun z7 ez7 => ?_)
      have rz7 : inR z7 := ez7 ▸ bOr_r _ _
      have hO9 := ez7
      refine lv_istore_n (lv' := [(2, .int (Int32.ofInt (z7))), (3, .int (Int32.ofInt (x3_1))), (0, .int (Int32.ofInt (s0))), (1, .int (Int32.ofInt (b0)))]) hx hb dX7_thingsIn_27 rfl hl (by decide) rfl (fun ls hl => ?_)
      refine lv_iinc (v := Int32.ofInt (x3_1 + 1)) (lv' := [(3, .int (Int32.ofInt ((x3_1 + 1)))), (2, .int (Int32.ofInt (z7))), (0, .int (Int32.ofInt (s0))), (1, .int (Int32.ofInt (b0)))]) hx hb dX7_thingsIn_28 hl (k := 1) rfl (Int32.ofInt_add _ _).symm (by decide) rfl (fun ls hl => ?_)
      refine lv_goto (tgt := 4) hx hb dX7_thingsIn_31 (by decide) ?_
      have hl : lv_has ls 4 [(3, .int (Int32.ofInt ((x3_1 + 1)))), (2, .int (Int32.ofInt (z7))), (0, .int (Int32.ofInt (s0))), (1, .int (Int32.ofInt (b0)))] := lv_sub hl [0, 1, 2, 3] rfl
      exact ih ((x3_1 + 1), z7) (show (7 - (x3_1 + 1)).toNat < (7 - x3_1).toNat from by omega) (show inR (x3_1 + 1) ∧ inR z7 ∧ ((0 ≤ (x3_1 + 1) ∧ (x3_1 + 1) ≤ 7) ∧ z7 = og (bs (nb s0) b0) (x3_1 + 1)) from ⟨(by omega), (by omega), (by first | exact ⟨by omega, og_s hJ2 (by omega) (bs_y (p := nb s0) (b := b0) (by omega) hsh9) hO9 rfl⟩ | exact ⟨by omega, og_z hJ2 (by omega) (bs_n (p := nb s0) (b := b0) (by omega) rfl).symm rfl⟩)⟩) _ _ _ hP hD hS hl

set_option maxHeartbeats 4000000 in
set_option maxRecDepth 100000 in
theorem mX7_without (l : Launch) (G : va_G) (k : Nat → ClassId) (s0 : Int) (w0 : Int) (sz : Nat) (hr_s0 : inR s0) (hr_w0 : inR w0) : CNi l G k (EZ k) yX7_without wzX7_without ({ frames := 1, cells := 0, slots := 0, locals := 22 }) [.int (Int32.ofInt (s0)), .int (Int32.ofInt (w0))] sz [] (fun (r0 : Int32) (u : Int) => r0 = Int32.ofInt (u) ∧ (inR u) ∧ (True)) (fun (u : Int) => []) := by
  refine Met.ofW (cc := cX7_without) (maxL := 4) (ret := (some .int)) (by decide) rfl ?_
  intro p e s m args below meth c s₁ B hml hv
  obtain ⟨rfl, hsz, hP, hX, hD0, hZ0⟩ := hv
  have hx := B.exec
  have hb := B.bytes
  have hr := B.returns
  have hts := atoms_spec (ws := wzX7_without) B.pre
  have hown : s.vm.findClass RX7 = some m.cls := findClass_of_methodNamed B.named
  subst hsz
  have hD := hD0.self (sz := s.heap.size)
  have hZ := hZ0
  generalize hAe : va_A [] s.heap.size = A at hD hZ ⊢
  have hA : ∀ q : Nat, s.heap.size ≤ q → A q := fun q h => by rw [← hAe]; exact Or.inr h
  have hS : va_S A s.heap s.heap [] := va_S.rf
  have hl := lv_entry ([.int (Int32.ofInt (s0)), .int (Int32.ofInt (w0))]) (n := 4) (Nat.le_of_ble_eq_true rfl)
  rw [lg_entry_eq]
  generalize (lg_sl ([.int (Int32.ofInt (s0)), .int (Int32.ofInt (w0))]) ++ List.replicate (4 - (lg_sl ([.int (Int32.ofInt (s0)), .int (Int32.ofInt (w0))])).length) Slot.unset).toArray = ls at hl ⊢
  have hl : lv_has ls 4 [(0, .int (Int32.ofInt (s0))), (1, .int (Int32.ofInt (w0)))] := hl
  obtain ⟨H, eH⟩ : ∃ H, H = s.heap := ⟨_, rfl⟩
  rw [← eH] at hP
  have hS : va_S A s.heap H [] := by rw [eH]; exact hS
  have gW : s.heap = H := eH.symm
  refine iv_heap gW ?_
  refine lv_iload_n hx hb dX7_without_0 rfl (lv_at hl 0 rfl) ?_
  refine lv_istore_n (lv' := [(2, .int (Int32.ofInt (s0))), (0, .int (Int32.ofInt (s0))), (1, .int (Int32.ofInt (w0)))]) hx hb dX7_without_1 rfl hl (by decide) rfl (fun ls hl => ?_)
  refine lv_iconst (v := Int32.ofInt 0) hx hb dX7_without_2 (by decide +kernel) ?_
  refine lv_istore_n (lv' := [(3, .int (Int32.ofInt (0))), (2, .int (Int32.ofInt (s0))), (0, .int (Int32.ofInt (s0))), (1, .int (Int32.ofInt (w0)))]) hx hb dX7_without_3 rfl hl (by decide) rfl (fun ls hl => ?_)
  refine iv_loop (α := Int × Int) (nL := 4) (fun b9 => []) (fun b9 => [(3, .int (Int32.ofInt (b9.1))), (2, .int (Int32.ofInt (b9.2))), (0, .int (Int32.ofInt (s0))), (1, .int (Int32.ofInt (w0)))]) (fun b9 => (7 - b9.1).toNat) (fun b9 => inR b9.1 ∧ inR b9.2 ∧ (0 ≤ b9.1 ∧ b9.1 ≤ 7)) ?_ (0, s0) (show inR 0 ∧ inR s0 ∧ (0 ≤ 0 ∧ 0 ≤ 7) from ⟨(by omega), (by omega), (by omega)⟩) hP hD hS hl
  rintro ⟨x3_1, x2_2⟩ ih hi9 H locs ls hP hD hS hl
  obtain ⟨r_x3_1, r_x2_2, hinv⟩ : inR x3_1 ∧ inR x2_2 ∧ (0 ≤ x3_1 ∧ x3_1 ≤ 7) := hi9
  obtain ⟨hP, hD⟩ : va_P G vwCl [] H ∧ va_D A [] := ⟨hP, hD⟩
  have hl : lv_has ls 4 [(3, .int (Int32.ofInt (x3_1))), (2, .int (Int32.ofInt (x2_2))), (0, .int (Int32.ofInt (s0))), (1, .int (Int32.ofInt (w0)))] := hl
  refine lv_iload_n hx hb dX7_without_4 rfl (lv_at hl 0 rfl) ?_
  refine lv_bipush (v := Int32.ofInt 7) hx hb dX7_without_5 (by decide +kernel) ?_
  refine iv_icmp_ge (tgt := 32) hx hb (by omega) (by omega) dX7_without_7 (by decide) (fun q3 => ?_) (fun q3 => ?_)
  · refine lv_iload_n hx hb dX7_without_32 rfl (lv_at hl 1 rfl) ?_
    exact W.iret (v := Int32.ofInt (x2_2)) hx hb hr (fun t ht hW => ⟨⟨Int32.ofInt (x2_2), (x2_2), rfl, ⟨rfl, (show (inR x2_2) ∧ (True) from ⟨(by omega), trivial⟩)⟩, by rw [ht]; exact hP, hD⟩, hS.F ht⟩) hS.2.2 dX7_without_33
  · refine lv_iload_n hx hb dX7_without_10 rfl (lv_at hl 3 rfl) ?_
    refine lv_iload_n hx hb dX7_without_11 rfl (lv_at hl 0 rfl) ?_
    refine iv_shr hx hb dX7_without_12 ?_
    refine iv_top (fun z4 ez4 => ?_)
    have rz4 : inR z4 := ez4 ▸ bShr_r _ _
    refine lv_iconst (v := Int32.ofInt 1) hx hb dX7_without_13 (by decide +kernel) ?_
    refine iv_and hx hb dX7_without_14 ?_
    refine iv_top (fun z5 ez5 => ?_)
    have rz5 : inR z5 := ez5 ▸ bAnd_r _ _
    refine iv_if_eq (tgt := 26) hx hb (by omega) dX7_without_15 (by decide) (fun q6 => ?_) (fun q6 => ?_)
    · refine lv_iinc (v := Int32.ofInt (x3_1 + 1)) (lv' := [(3, .int (Int32.ofInt ((x3_1 + 1)))), (2, .int (Int32.ofInt (x2_2))), (0, .int (Int32.ofInt (s0))), (1, .int (Int32.ofInt (w0)))]) hx hb dX7_without_26 hl (k := 0) rfl (Int32.ofInt_add _ _).symm (by decide) rfl (fun ls hl => ?_)
      refine lv_goto (tgt := 4) hx hb dX7_without_29 (by decide) ?_
      have hl : lv_has ls 4 [(3, .int (Int32.ofInt ((x3_1 + 1)))), (2, .int (Int32.ofInt (x2_2))), (0, .int (Int32.ofInt (s0))), (1, .int (Int32.ofInt (w0)))] := lv_sub hl [0, 1, 2, 3] rfl
      exact ih ((x3_1 + 1), x2_2) (show (7 - (x3_1 + 1)).toNat < (7 - x3_1).toNat from by omega) (show inR (x3_1 + 1) ∧ inR x2_2 ∧ (0 ≤ (x3_1 + 1) ∧ (x3_1 + 1) ≤ 7) from ⟨(by omega), (by omega), (by omega)⟩) _ _ _ hP hD hS hl
    · refine lv_iload_n hx hb dX7_without_18 rfl (lv_at hl 1 rfl) ?_
      refine lv_iload_n hx hb dX7_without_19 rfl (lv_at hl 0 rfl) ?_
      refine lv_bipush (v := Int32.ofInt 15) hx hb dX7_without_20 (by decide +kernel) ?_
      refine c0_i (va_runS (As := [.int (Int32.ofInt (x2_2)), .int (Int32.ofInt (x3_1)), .int (Int32.ofInt (15))]) (rest := []) ⟨hx, hb, hml, hown, hts⟩ (mX7_put l G k x2_2 x3_1 15 H.size (by omega) (by omega) (by omega)) (cwS 3 hts (gz [.methodLink RX7 16 yX7_put, .static yX7_put, .initialized RX7] (.code yX7_put cX7_put 3 (some .int)) [(39, 4), (5, 13), (5, 10), (5, 14)] rfl) rfl rfl rfl (by decide +kernel) ⟨Nat.le_of_ble_eq_true rfl, Nat.le_of_ble_eq_true rfl⟩) (cr_pre0 (EZ_ok k) hZ hS hX hP hD hA) rfl rfl hl.1 rfl (lv_room (Nat.le_of_ble_eq_true rfl)) dX7_without_22 ⟨Nat.le_of_ble_eq_true rfl, Nat.le_of_ble_eq_true rfl⟩) hP hD hS hA (fun r u H locs hp hP hD hS => ?_)
      obtain ⟨c7, rfl⟩ : ∃ z, z = u := ⟨_, rfl⟩
      obtain ⟨h9, rc7, hp7⟩ : r = Int32.ofInt c7 ∧ (inR c7) ∧ (c7 = putS x2_2 x3_1 15) := hp
      subst h9
      have hPu22 := hp7
      refine lv_istore_n (lv' := [(2, .int (Int32.ofInt (c7))), (3, .int (Int32.ofInt (x3_1))), (0, .int (Int32.ofInt (s0))), (1, .int (Int32.ofInt (w0)))]) hx hb dX7_without_25 rfl hl (by decide) rfl (fun ls hl => ?_)
      refine lv_iinc (v := Int32.ofInt (x3_1 + 1)) (lv' := [(3, .int (Int32.ofInt ((x3_1 + 1)))), (2, .int (Int32.ofInt (c7))), (0, .int (Int32.ofInt (s0))), (1, .int (Int32.ofInt (w0)))]) hx hb dX7_without_26 hl (k := 1) rfl (Int32.ofInt_add _ _).symm (by decide) rfl (fun ls hl => ?_)
      refine lv_goto (tgt := 4) hx hb dX7_without_29 (by decide) ?_
      have hl : lv_has ls 4 [(3, .int (Int32.ofInt ((x3_1 + 1)))), (2, .int (Int32.ofInt (c7))), (0, .int (Int32.ofInt (s0))), (1, .int (Int32.ofInt (w0)))] := lv_sub hl [0, 1, 2, 3] rfl
      exact ih ((x3_1 + 1), c7) (show (7 - (x3_1 + 1)).toNat < (7 - x3_1).toNat from by omega) (show inR (x3_1 + 1) ∧ inR c7 ∧ (0 ≤ (x3_1 + 1) ∧ (x3_1 + 1) ≤ 7) from ⟨(by omega), (by omega), (by omega)⟩) _ _ _ hP hD hS hl

