set_option maxHeartbeats 4000000 in
set_option maxRecDepth 100000 in
theorem mX10_isIn (l : Launch) (G : va_G) (k : Nat → ClassId) (v : Int) (a : Int) (b : Int) (sz : Nat) (hr_v : inR v) (hr_a : inR a) (hr_b : inR b) : CNi l G k (EZ k) yX10_isIn wzX10_isIn ({ frames := 0, cells := 0, slots := 0, locals := 0 }) [.int (Int32.ofInt (v)), .int (Int32.ofInt (a)), .int (Int32.ofInt (b))] sz [] (fun (r0 : Int32) (u : Int) => r0 = Int32.ofInt (u) ∧ (inR u) ∧ ((u = 1 ∧ a ≤ v ∧ v ≤ b) ∨ (u = 0 ∧ (v < a ∨ b < v)))) (fun (u : Int) => []) := by
  refine Met.ofW (cc := cX10_isIn) (maxL := 3) (ret := (some .boolean)) (by decide) rfl ?_
  intro p e s m args below meth c s₁ B hml hv
  obtain ⟨rfl, hsz, hP, hX, hD0, hZ0⟩ := hv
  have hx := B.exec
  have hb := B.bytes
  have hr := B.returns
  have hts := atoms_spec (ws := wzX10_isIn) B.pre
  have hown : s.vm.findClass RX10 = some m.cls := findClass_of_methodNamed B.named
  subst hsz
  have hD := hD0.self (sz := s.heap.size)
  have hZ := hZ0
  generalize hAe : va_A [] s.heap.size = A at hD hZ ⊢
  have hA : ∀ q : Nat, s.heap.size ≤ q → A q := fun q h => by rw [← hAe]; exact Or.inr h
  have hS : va_S A s.heap s.heap [] := va_S.rf
  have hl := lv_entry ([.int (Int32.ofInt (v)), .int (Int32.ofInt (a)), .int (Int32.ofInt (b))]) (n := 3) (Nat.le_of_ble_eq_true rfl)
  rw [lg_entry_eq]
  generalize (lg_sl ([.int (Int32.ofInt (v)), .int (Int32.ofInt (a)), .int (Int32.ofInt (b))]) ++ List.replicate (3 - (lg_sl ([.int (Int32.ofInt (v)), .int (Int32.ofInt (a)), .int (Int32.ofInt (b))])).length) Slot.unset).toArray = ls at hl ⊢
  have hl : lv_has ls 3 [(0, .int (Int32.ofInt (v))), (1, .int (Int32.ofInt (a))), (2, .int (Int32.ofInt (b)))] := hl
  obtain ⟨H, eH⟩ : ∃ H, H = s.heap := ⟨_, rfl⟩
  rw [← eH] at hP
  have hS : va_S A s.heap H [] := by rw [eH]; exact hS
  have gW : s.heap = H := eH.symm
  refine iv_heap gW ?_
  refine lv_iload_n hx hb dX10_isIn_0 rfl (lv_at hl 0 rfl) ?_
  refine lv_iload_n hx hb dX10_isIn_1 rfl (lv_at hl 1 rfl) ?_
  refine iv_icmp_lt (tgt := 14) hx hb (by omega) (by omega) dX10_isIn_2 (by decide) (fun q1 => ?_) (fun q1 => ?_)
  · refine lv_iconst (v := Int32.ofInt 0) hx hb dX10_isIn_14 (by decide +kernel) ?_
    exact W.zret (v := Int32.ofInt (0)) hx hb hr (nz_bool (by omega)) (fun t ht hW => ⟨⟨Int32.ofInt (0), (0), rfl, ⟨rfl, (show (inR 0) ∧ ((0 = 1 ∧ a ≤ v ∧ v ≤ b) ∨ (0 = 0 ∧ (v < a ∨ b < v))) from ⟨(by omega), (by omega)⟩)⟩, by rw [ht]; exact hP, hD⟩, hS.F ht⟩) hS.2.2 dX10_isIn_15
  · refine lv_iload_n hx hb dX10_isIn_5 rfl (lv_at hl 0 rfl) ?_
    refine lv_iload_n hx hb dX10_isIn_6 rfl (lv_at hl 2 rfl) ?_
    refine iv_icmp_gt (tgt := 14) hx hb (by omega) (by omega) dX10_isIn_7 (by decide) (fun q2 => ?_) (fun q2 => ?_)
    · refine lv_iconst (v := Int32.ofInt 0) hx hb dX10_isIn_14 (by decide +kernel) ?_
      exact W.zret (v := Int32.ofInt (0)) hx hb hr (nz_bool (by omega)) (fun t ht hW => ⟨⟨Int32.ofInt (0), (0), rfl, ⟨rfl, (show (inR 0) ∧ ((0 = 1 ∧ a ≤ v ∧ v ≤ b) ∨ (0 = 0 ∧ (v < a ∨ b < v))) from ⟨(by omega), (by omega)⟩)⟩, by rw [ht]; exact hP, hD⟩, hS.F ht⟩) hS.2.2 dX10_isIn_15
    · refine lv_iconst (v := Int32.ofInt 1) hx hb dX10_isIn_10 (by decide +kernel) ?_
      refine lv_goto (tgt := 15) hx hb dX10_isIn_11 (by decide) ?_
      exact W.zret (v := Int32.ofInt (1)) hx hb hr (nz_bool (by omega)) (fun t ht hW => ⟨⟨Int32.ofInt (1), (1), rfl, ⟨rfl, (show (inR 1) ∧ ((1 = 1 ∧ a ≤ v ∧ v ≤ b) ∨ (1 = 0 ∧ (v < a ∨ b < v))) from ⟨(by omega), (by omega)⟩)⟩, by rw [ht]; exact hP, hD⟩, hS.F ht⟩) hS.2.2 dX10_isIn_15

set_option maxHeartbeats 4000000 in
set_option maxRecDepth 100000 in
theorem mX10_isLetter (l : Launch) (G : va_G) (k : Nat → ClassId) (c0 : Int) (sz : Nat) (hr_c0 : inR c0) : CNi l G k (EZ k) yX10_isLetter wzX10_isLetter ({ frames := 0, cells := 0, slots := 0, locals := 0 }) [.int (Int32.ofInt (c0))] sz [] (fun (r0 : Int32) (u : Int) => r0 = Int32.ofInt (u) ∧ (inR u) ∧ ((u = 1 ∧ 97 ≤ c0 ∧ c0 ≤ 122) ∨ (u = 0 ∧ (c0 < 97 ∨ 122 < c0)))) (fun (u : Int) => []) := by
  refine Met.ofW (cc := cX10_isLetter) (maxL := 1) (ret := (some .boolean)) (by decide) rfl ?_
  intro p e s m args below meth c s₁ B hml hv
  obtain ⟨rfl, hsz, hP, hX, hD0, hZ0⟩ := hv
  have hx := B.exec
  have hb := B.bytes
  have hr := B.returns
  have hts := atoms_spec (ws := wzX10_isLetter) B.pre
  have hown : s.vm.findClass RX10 = some m.cls := findClass_of_methodNamed B.named
  subst hsz
  have hD := hD0.self (sz := s.heap.size)
  have hZ := hZ0
  generalize hAe : va_A [] s.heap.size = A at hD hZ ⊢
  have hA : ∀ q : Nat, s.heap.size ≤ q → A q := fun q h => by rw [← hAe]; exact Or.inr h
  have hS : va_S A s.heap s.heap [] := va_S.rf
  have hl := lv_entry ([.int (Int32.ofInt (c0))]) (n := 1) (Nat.le_of_ble_eq_true rfl)
  rw [lg_entry_eq]
  generalize (lg_sl ([.int (Int32.ofInt (c0))]) ++ List.replicate (1 - (lg_sl ([.int (Int32.ofInt (c0))])).length) Slot.unset).toArray = ls at hl ⊢
  have hl : lv_has ls 1 [(0, .int (Int32.ofInt (c0)))] := hl
  obtain ⟨H, eH⟩ : ∃ H, H = s.heap := ⟨_, rfl⟩
  rw [← eH] at hP
  have hS : va_S A s.heap H [] := by rw [eH]; exact hS
  have gW : s.heap = H := eH.symm
  refine iv_heap gW ?_
  refine lv_iload_n hx hb dX10_isLetter_0 rfl (lv_at hl 0 rfl) ?_
  refine lv_bipush (v := Int32.ofInt 97) hx hb dX10_isLetter_1 (by decide +kernel) ?_
  refine iv_icmp_lt (tgt := 16) hx hb (by omega) (by omega) dX10_isLetter_3 (by decide) (fun q1 => ?_) (fun q1 => ?_)
  · refine lv_iconst (v := Int32.ofInt 0) hx hb dX10_isLetter_16 (by decide +kernel) ?_
    exact W.zret (v := Int32.ofInt (0)) hx hb hr (nz_bool (by omega)) (fun t ht hW => ⟨⟨Int32.ofInt (0), (0), rfl, ⟨rfl, (show (inR 0) ∧ ((0 = 1 ∧ 97 ≤ c0 ∧ c0 ≤ 122) ∨ (0 = 0 ∧ (c0 < 97 ∨ 122 < c0))) from ⟨(by omega), (by omega)⟩)⟩, by rw [ht]; exact hP, hD⟩, hS.F ht⟩) hS.2.2 dX10_isLetter_17
  · refine lv_iload_n hx hb dX10_isLetter_6 rfl (lv_at hl 0 rfl) ?_
    refine lv_bipush (v := Int32.ofInt 122) hx hb dX10_isLetter_7 (by decide +kernel) ?_
    refine iv_icmp_gt (tgt := 16) hx hb (by omega) (by omega) dX10_isLetter_9 (by decide) (fun q2 => ?_) (fun q2 => ?_)
    · refine lv_iconst (v := Int32.ofInt 0) hx hb dX10_isLetter_16 (by decide +kernel) ?_
      exact W.zret (v := Int32.ofInt (0)) hx hb hr (nz_bool (by omega)) (fun t ht hW => ⟨⟨Int32.ofInt (0), (0), rfl, ⟨rfl, (show (inR 0) ∧ ((0 = 1 ∧ 97 ≤ c0 ∧ c0 ≤ 122) ∨ (0 = 0 ∧ (c0 < 97 ∨ 122 < c0))) from ⟨(by omega), (by omega)⟩)⟩, by rw [ht]; exact hP, hD⟩, hS.F ht⟩) hS.2.2 dX10_isLetter_17
    · refine lv_iconst (v := Int32.ofInt 1) hx hb dX10_isLetter_12 (by decide +kernel) ?_
      refine lv_goto (tgt := 17) hx hb dX10_isLetter_13 (by decide) ?_
      exact W.zret (v := Int32.ofInt (1)) hx hb hr (nz_bool (by omega)) (fun t ht hW => ⟨⟨Int32.ofInt (1), (1), rfl, ⟨rfl, (show (inR 1) ∧ ((1 = 1 ∧ 97 ≤ c0 ∧ c0 ≤ 122) ∨ (1 = 0 ∧ (c0 < 97 ∨ 122 < c0))) from ⟨(by omega), (by omega)⟩)⟩, by rw [ht]; exact hP, hD⟩, hS.F ht⟩) hS.2.2 dX10_isLetter_17

set_option maxHeartbeats 4000000 in
set_option maxRecDepth 100000 in
theorem mX10_isDigit (l : Launch) (G : va_G) (k : Nat → ClassId) (c0 : Int) (sz : Nat) (hr_c0 : inR c0) : CNi l G k (EZ k) yX10_isDigit wzX10_isDigit ({ frames := 0, cells := 0, slots := 0, locals := 0 }) [.int (Int32.ofInt (c0))] sz [] (fun (r0 : Int32) (u : Int) => r0 = Int32.ofInt (u) ∧ (inR u) ∧ ((u = 1 ∧ 48 ≤ c0 ∧ c0 ≤ 57) ∨ (u = 0 ∧ (c0 < 48 ∨ 57 < c0)))) (fun (u : Int) => []) := by
  refine Met.ofW (cc := cX10_isDigit) (maxL := 1) (ret := (some .boolean)) (by decide) rfl ?_
  intro p e s m args below meth c s₁ B hml hv
  obtain ⟨rfl, hsz, hP, hX, hD0, hZ0⟩ := hv
  have hx := B.exec
  have hb := B.bytes
  have hr := B.returns
  have hts := atoms_spec (ws := wzX10_isDigit) B.pre
  have hown : s.vm.findClass RX10 = some m.cls := findClass_of_methodNamed B.named
  subst hsz
  have hD := hD0.self (sz := s.heap.size)
  have hZ := hZ0
  generalize hAe : va_A [] s.heap.size = A at hD hZ ⊢
  have hA : ∀ q : Nat, s.heap.size ≤ q → A q := fun q h => by rw [← hAe]; exact Or.inr h
  have hS : va_S A s.heap s.heap [] := va_S.rf
  have hl := lv_entry ([.int (Int32.ofInt (c0))]) (n := 1) (Nat.le_of_ble_eq_true rfl)
  rw [lg_entry_eq]
  generalize (lg_sl ([.int (Int32.ofInt (c0))]) ++ List.replicate (1 - (lg_sl ([.int (Int32.ofInt (c0))])).length) Slot.unset).toArray = ls at hl ⊢
  have hl : lv_has ls 1 [(0, .int (Int32.ofInt (c0)))] := hl
  obtain ⟨H, eH⟩ : ∃ H, H = s.heap := ⟨_, rfl⟩
  rw [← eH] at hP
  have hS : va_S A s.heap H [] := by rw [eH]; exact hS
  have gW : s.heap = H := eH.symm
  refine iv_heap gW ?_
  refine lv_iload_n hx hb dX10_isDigit_0 rfl (lv_at hl 0 rfl) ?_
  refine lv_bipush (v := Int32.ofInt 48) hx hb dX10_isDigit_1 (by decide +kernel) ?_
  refine iv_icmp_lt (tgt := 16) hx hb (by omega) (by omega) dX10_isDigit_3 (by decide) (fun q1 => ?_) (fun q1 => ?_)
  · refine lv_iconst (v := Int32.ofInt 0) hx hb dX10_isDigit_16 (by decide +kernel) ?_
    exact W.zret (v := Int32.ofInt (0)) hx hb hr (nz_bool (by omega)) (fun t ht hW => ⟨⟨Int32.ofInt (0), (0), rfl, ⟨rfl, (show (inR 0) ∧ ((0 = 1 ∧ 48 ≤ c0 ∧ c0 ≤ 57) ∨ (0 = 0 ∧ (c0 < 48 ∨ 57 < c0))) from ⟨(by omega), (by omega)⟩)⟩, by rw [ht]; exact hP, hD⟩, hS.F ht⟩) hS.2.2 dX10_isDigit_17
  · refine lv_iload_n hx hb dX10_isDigit_6 rfl (lv_at hl 0 rfl) ?_
    refine lv_bipush (v := Int32.ofInt 57) hx hb dX10_isDigit_7 (by decide +kernel) ?_
    refine iv_icmp_gt (tgt := 16) hx hb (by omega) (by omega) dX10_isDigit_9 (by decide) (fun q2 => ?_) (fun q2 => ?_)
    · refine lv_iconst (v := Int32.ofInt 0) hx hb dX10_isDigit_16 (by decide +kernel) ?_
      exact W.zret (v := Int32.ofInt (0)) hx hb hr (nz_bool (by omega)) (fun t ht hW => ⟨⟨Int32.ofInt (0), (0), rfl, ⟨rfl, (show (inR 0) ∧ ((0 = 1 ∧ 48 ≤ c0 ∧ c0 ≤ 57) ∨ (0 = 0 ∧ (c0 < 48 ∨ 57 < c0))) from ⟨(by omega), (by omega)⟩)⟩, by rw [ht]; exact hP, hD⟩, hS.F ht⟩) hS.2.2 dX10_isDigit_17
    · refine lv_iconst (v := Int32.ofInt 1) hx hb dX10_isDigit_12 (by decide +kernel) ?_
      refine lv_goto (tgt := 17) hx hb dX10_isDigit_13 (by decide) ?_
      exact W.zret (v := Int32.ofInt (1)) hx hb hr (nz_bool (by omega)) (fun t ht hW => ⟨⟨Int32.ofInt (1), (1), rfl, ⟨rfl, (show (inR 1) ∧ ((1 = 1 ∧ 48 ≤ c0 ∧ c0 ≤ 57) ∨ (1 = 0 ∧ (c0 < 48 ∨ 57 < c0))) from ⟨(by omega), (by omega)⟩)⟩, by rw [ht]; exact hP, hD⟩, hS.F ht⟩) hS.2.2 dX10_isDigit_17

