set_option maxHeartbeats 4000000 in
set_option maxRecDepth 100000 in
theorem mX10_isLetter (l : Launch) (G : va_G) (k : Nat → ClassId) (c0 : Int) (sz : Nat) (hr_c0 : inR c0) : CNi l G k (EZ k) yX10_isLetter wzX10_isLetter ({ frames := 0, cells := 0, slots := 0, locals := 0 }) [.int (Int32.ofInt (c0))] sz [] (fun (r0 : Int32) (u : Int) => r0 = Int32.ofInt (u) ∧ (inR u) ∧ ((u = 1 ∧ 97 ≤ c0 ∧ c0 ≤ 122) ∨ (u = 0 ∧ (c0 < 97 ∨ 122 < c0)))) (fun (u : Int) => []) := by
  refine Met.ofW (cc := cX10_isLetter) (maxL := 1) (ret := (some .boolean)) (by decide) rfl ?_
  intro p e s m args below meth c s₁ B hml hv
  obtain ⟨rfl, hsz, hP, hX, hD0, hZ0⟩ := hv
  have hx := B.exec
  have hb := B.bytes
  have hr := B.returns
  have hts := atoms_spec (ws := wzX10_isLetter) B.pre
  have hown : s.vm.findClass RX10 = some m.cls := findClass_of_methodNamed B.named
  subst hsz
  have hD := hD0.self (sz := s.heap.size)
  have hZ := hZ0
  generalize hAe : va_A [] s.heap.size = A at hD hZ ⊢
  have hA : ∀ q : Nat, s.heap.size ≤ q → A q := fun q h => by rw [← hAe]; exact Or.inr h
  have hS : va_S A s.heap s.heap [] := va_S.rf
  have hl := lv_entry ([.int (Int32.ofInt (c0))]) (n := 1) (Nat.le_of_ble_eq_true rfl)
  rw [lg_entry_eq]
  generalize (lg_sl ([.int (Int32.ofInt (c0))]) ++ List.replicate (1 - (lg_sl ([.int (Int32.ofInt (c0))])).length) Slot.unset).toArray = ls at hl ⊢
  have hl : lv_has ls 1 [(0, .int (Int32.ofInt (c0)))] := hl
  obtain ⟨H, eH⟩ : ∃ H, H = s.heap := ⟨_, rfl⟩
  rw [← eH] at hP
  have hS : va_S A s.heap H [] := by rw [eH]; exact hS
  have gW : s.heap = H := eH.symm
  refine iv_heap gW ?_
  refine lv_iload_n hx hb dX10_isLetter_0 rfl (lv_at hl 0 rfl) ?_
  refine lv_bipush (v := Int32.ofInt 97) hx hb dX10_isLetter_1 (by decide +kernel) ?_
  refine iv_icmp_lt (tgt := 16) hx hb (by omega) (by omega) dX10_isLetter_3 (by decide) (fun q1 => ?_) (fun q1 => ?_)
  · refine lv_iconst (v := Int32.ofInt 0) hx hb dX10_isLetter_16 (by decide +kernel) ?_
    exact W.zret (v := Int32.ofInt (0)) hx hb hr (nz_bool (by omega)) (fun t ht hW => ⟨⟨Int32.ofInt (0), (0), rfl, ⟨rfl, (show (inR 0) ∧ ((0 = 1 ∧ 97 ≤ c0 ∧ c0 ≤ 122) ∨ (0 = 0 ∧ (c0 < 97 ∨ 122 < c0))) from ⟨(by omega), (by omega)⟩)⟩, by rw [ht]; exact hP, hD⟩, hS.F ht⟩) hS.2.2 dX10_isLetter_17
  · refine lv_iload_n hx hb dX10_isLetter_6 rfl (lv_at hl 0 rfl) ?_
    refine lv_bipush (v := Int32.ofInt 122) hx hb dX10_isLetter_7 (by decide +kernel) ?_
    refine iv_icmp_gt (tgt := 16) hx hb (by omega) (by omega) dX10_isLetter_9 (by decide) (fun q2 => ?_) (fun q2 => ?_)
    · refine lv_iconst (v := Int32.ofInt 0) hx hb dX10_isLetter_16 (by decide +kernel) ?_
      exact W.zret (v := Int32.ofInt (0)) hx hb hr (nz_bool (by omega)) (fun t ht hW => ⟨⟨Int32.ofInt (0), (0), rfl, ⟨rfl, (show (inR 0) ∧ ((0 = 1 ∧ 97 ≤ c0 ∧ c0 ≤ 122) ∨ (0 = 0 ∧ (c0 < 97 ∨ 122 < c0))) from ⟨(by omega), (by omega)⟩)⟩, by rw [ht]; exact hP, hD⟩, hS.F ht⟩) hS.2.2 dX10_isLetter_17
    · refine lv_iconst (v := Int32.ofInt 1) hx hb dX10_isLetter_12 (by decide +kernel) ?_
      refine lv_goto (tgt := 17) hx hb dX10_isLetter_13 (by decide) ?_
      exact W.zret (v := Int32.ofInt (1)) hx hb hr (nz_bool (by omega)) (fun t ht hW => ⟨⟨Int32.ofInt (1), (1), rfl, ⟨rfl, (show (inR 1) ∧ ((1 = 1 ∧ 97 ≤ c0 ∧ c0 ≤ 122) ∨ (1 = 0 ∧ (c0 < 97 ∨ 122 < c0))) from ⟨(by omega), (by omega)⟩)⟩, by rw [ht]; exact hP, hD⟩, hS.F ht⟩) hS.2.2 dX10_isLetter_17

set_option maxHeartbeats 4000000 in
set_option maxRecDepth 100000 in
theorem mX10_isDigit (l : Launch) (G : va_G) (k : Nat → ClassId) (c0 : Int) (sz : Nat) (hr_c0 : inR c0) : CNi l G k (EZ k) yX10_isDigit wzX10_isDigit ({ frames := 0, cells := 0, slots := 0, locals := 0 }) [.int (Int32.ofInt (c0))] sz [] (fun (r0 : Int32) (u : Int) => r0 = Int32.ofInt (u) ∧ (inR u) ∧ ((u = 1 ∧ 48 ≤ c0 ∧ c0 ≤ 57) ∨ (u = 0 ∧ (c0 < 48 ∨ 57 < c0)))) (fun (u : Int) => []) := by
  refine Met.ofW (cc := cX10_isDigit) (maxL := 1) (ret := (some .boolean)) (by decide) rfl ?_
  intro p e s m args below meth c s₁ B hml hv
  obtain ⟨rfl, hsz, hP, hX, hD0, hZ0⟩ := hv
  have hx := B.exec
  have hb := B.bytes
  have hr := B.returns
  have hts := atoms_spec (ws := wzX10_isDigit) B.pre
  have hown : s.vm.findClass RX10 = some m.cls := findClass_of_methodNamed B.named
  subst hsz
  have hD := hD0.self (sz := s.heap.size)
  have hZ := hZ0
  generalize hAe : va_A [] s.heap.size = A at hD hZ ⊢
  have hA : ∀ q : Nat, s.heap.size ≤ q → A q := fun q h => by rw [← hAe]; exact Or.inr h
  have hS : va_S A s.heap s.heap [] := va_S.rf
  have hl := lv_entry ([.int (Int32.ofInt (c0))]) (n := 1) (Nat.le_of_ble_eq_true rfl)
  rw [lg_entry_eq]
  generalize (lg_sl ([.int (Int32.ofInt (c0))]) ++ List.replicate (1 - (lg_sl ([.int (Int32.ofInt (c0))])).length) Slot.unset).toArray = ls at hl ⊢
  have hl : lv_has ls 1 [(0, .int (Int32.ofInt (c0)))] := hl
  obtain ⟨H, eH⟩ : ∃ H, H = s.heap := ⟨_, rfl⟩
  rw [← eH] at hP
  have hS : va_S A s.heap H [] := by rw [eH]; exact hS
  have gW : s.heap = H := eH.symm
  refine iv_heap gW ?_
  refine lv_iload_n hx hb dX10_isDigit_0 rfl (lv_at hl 0 rfl) ?_
  refine lv_bipush (v := Int32.ofInt 48) hx hb dX10_isDigit_1 (by decide +kernel) ?_
  refine iv_icmp_lt (tgt := 16) hx hb (by omega) (by omega) dX10_isDigit_3 (by decide) (fun q1 => ?_) (fun q1 => ?_)
  · refine lv_iconst (v := Int32.ofInt 0) hx hb dX10_isDigit_16 (by decide +kernel) ?_
    exact W.zret (v := Int32.ofInt (0)) hx hb hr (nz_bool (by omega)) (fun t ht hW => ⟨⟨Int32.ofInt (0), (0), rfl, ⟨rfl, (show (inR 0) ∧ ((0 = 1 ∧ 48 ≤ c0 ∧ c0 ≤ 57) ∨ (0 = 0 ∧ (c0 < 48 ∨ 57 < c0))) from ⟨(by omega), (by omega)⟩)⟩, by rw [ht]; exact hP, hD⟩, hS.F ht⟩) hS.2.2 dX10_isDigit_17
  · refine lv_iload_n hx hb dX10_isDigit_6 rfl (lv_at hl 0 rfl) ?_
    refine lv_bipush (v := Int32.ofInt 57) hx hb dX10_isDigit_7 (by decide +kernel) ?_
    refine iv_icmp_gt (tgt := 16) hx hb (by omega) (by omega) dX10_isDigit_9 (by decide) (fun q2 => ?_) (fun q2 => ?_)
    · refine lv_iconst (v := Int32.ofInt 0) hx hb dX10_isDigit_16 (by decide +kernel) ?_
      exact W.zret (v := Int32.ofInt (0)) hx hb hr (nz_bool (by omega)) (fun t ht hW => ⟨⟨Int32.ofInt (0), (0), rfl, ⟨rfl, (show (inR 0) ∧ ((0 = 1 ∧ 48 ≤ c0 ∧ c0 ≤ 57) ∨ (0 = 0 ∧ (c0 < 48 ∨ 57 < c0))) from ⟨(by omega), (by omega)⟩)⟩, by rw [ht]; exact hP, hD⟩, hS.F ht⟩) hS.2.2 dX10_isDigit_17
    · refine lv_iconst (v := Int32.ofInt 1) hx hb dX10_isDigit_12 (by decide +kernel) ?_
      refine lv_goto (tgt := 17) hx hb dX10_isDigit_13 (by decide) ?_
      exact W.zret (v := Int32.ofInt (1)) hx hb hr (nz_bool (by omega)) (fun t ht hW => ⟨⟨Int32.ofInt (1), (1), rfl, ⟨rfl, (show (inR 1) ∧ ((1 = 1 ∧ 48 ≤ c0 ∧ c0 ≤ 57) ∨ (1 = 0 ∧ (c0 < 48 ∨ 57 < c0))) from ⟨(by omega), (by omega)⟩)⟩, by rw [ht]; exact hP, hD⟩, hS.F ht⟩) hS.2.2 dX10_isDigit_17

set_option maxHeartbeats 4000000 in
set_option maxRecDepth 100000 in
theorem mX10_isMark (l : Launch) (G : va_G) (k : Nat → ClassId) (c0 : Int) (sz : Nat) (hr_c0 : inR c0) : CNi l G k (EZ k) yX10_isMark wzX10_isMark ({ frames := 0, cells := 0, slots := 0, locals := 0 }) [.int (Int32.ofInt (c0))] sz [] (fun (r0 : Int32) (u : Int) => r0 = Int32.ofInt (u) ∧ (inR u) ∧ (Mkr u c0)) (fun (u : Int) => []) := by
  refine Met.ofW (cc := cX10_isMark) (maxL := 1) (ret := (some .boolean)) (by decide) rfl ?_
  intro p e s m args below meth c s₁ B hml hv
  obtain ⟨rfl, hsz, hP, hX, hD0, hZ0⟩ := hv
  have hx := B.exec
  have hb := B.bytes
  have hr := B.returns
  have hts := atoms_spec (ws := wzX10_isMark) B.pre
  have hown : s.vm.findClass RX10 = some m.cls := findClass_of_methodNamed B.named
  subst hsz
  have hD := hD0.self (sz := s.heap.size)
  have hZ := hZ0
  generalize hAe : va_A [] s.heap.size = A at hD hZ ⊢
  have hA : ∀ q : Nat, s.heap.size ≤ q → A q := fun q h => by rw [← hAe]; exact Or.inr h
  have hS : va_S A s.heap s.heap [] := va_S.rf
  have hl := lv_entry ([.int (Int32.ofInt (c0))]) (n := 1) (Nat.le_of_ble_eq_true rfl)
  rw [lg_entry_eq]
  generalize (lg_sl ([.int (Int32.ofInt (c0))]) ++ List.replicate (1 - (lg_sl ([.int (Int32.ofInt (c0))])).length) Slot.unset).toArray = ls at hl ⊢
  have hl : lv_has ls 1 [(0, .int (Int32.ofInt (c0)))] := hl
  obtain ⟨H, eH⟩ : ∃ H, H = s.heap := ⟨_, rfl⟩
  rw [← eH] at hP
  have hS : va_S A s.heap H [] := by rw [eH]; exact hS
  have gW : s.heap = H := eH.symm
  refine iv_heap gW ?_
  refine lv_iload_n hx hb dX10_isMark_0 rfl (lv_at hl 0 rfl) ?_
  refine lv_bipush (v := Int32.ofInt 59) hx hb dX10_isMark_1 (by decide +kernel) ?_
  refine iv_icmp_eq (tgt := 54) hx hb (by omega) (by omega) dX10_isMark_3 (by decide) (fun q1 => ?_) (fun q1 => ?_)
  · refine lv_iconst (v := Int32.ofInt 1) hx hb dX10_isMark_54 (by decide +kernel) ?_
    refine lv_goto (tgt := 59) hx hb dX10_isMark_55 (by decide) ?_
    exact W.zret (v := Int32.ofInt (1)) hx hb hr (nz_bool (by omega)) (fun t ht hW => ⟨⟨Int32.ofInt (1), (1), rfl, ⟨rfl, (show (inR 1) ∧ (Mkr 1 c0) from ⟨(by omega), (by first | exact Or.inl ⟨by omega, by unfold isMk; omega⟩ | exact Or.inr ⟨by omega, by unfold isMk; omega⟩)⟩)⟩, by rw [ht]; exact hP, hD⟩, hS.F ht⟩) hS.2.2 dX10_isMark_59
  · refine lv_iload_n hx hb dX10_isMark_6 rfl (lv_at hl 0 rfl) ?_
    refine lv_bipush (v := Int32.ofInt 40) hx hb dX10_isMark_7 (by decide +kernel) ?_
    refine iv_icmp_eq (tgt := 54) hx hb (by omega) (by omega) dX10_isMark_9 (by decide) (fun q2 => ?_) (fun q2 => ?_)
    · refine lv_iconst (v := Int32.ofInt 1) hx hb dX10_isMark_54 (by decide +kernel) ?_
      refine lv_goto (tgt := 59) hx hb dX10_isMark_55 (by decide) ?_
      exact W.zret (v := Int32.ofInt (1)) hx hb hr (nz_bool (by omega)) (fun t ht hW => ⟨⟨Int32.ofInt (1), (1), rfl, ⟨rfl, (show (inR 1) ∧ (Mkr 1 c0) from ⟨(by omega), (by first | exact Or.inl ⟨by omega, by unfold isMk; omega⟩ | exact Or.inr ⟨by omega, by unfold isMk; omega⟩)⟩)⟩, by rw [ht]; exact hP, hD⟩, hS.F ht⟩) hS.2.2 dX10_isMark_59
    · refine lv_iload_n hx hb dX10_isMark_12 rfl (lv_at hl 0 rfl) ?_
      refine lv_bipush (v := Int32.ofInt 41) hx hb dX10_isMark_13 (by decide +kernel) ?_
      refine iv_icmp_eq (tgt := 54) hx hb (by omega) (by omega) dX10_isMark_15 (by decide) (fun q3 => ?_) (fun q3 => ?_)
      · refine lv_iconst (v := Int32.ofInt 1) hx hb dX10_isMark_54 (by decide +kernel) ?_
        refine lv_goto (tgt := 59) hx hb dX10_isMark_55 (by decide) ?_
        exact W.zret (v := Int32.ofInt (1)) hx hb hr (nz_bool (by omega)) (fun t ht hW => ⟨⟨Int32.ofInt (1), (1), rfl, ⟨rfl, (show (inR 1) ∧ (Mkr 1 c0) from ⟨(by omega), (by first | exact Or.inl ⟨by omega, by unfold isMk; omega⟩ | exact Or.inr ⟨by omega, by unfold isMk; omega⟩)⟩)⟩, by rw [ht]; exact hP, hD⟩, hS.F ht⟩) hS.2.2 dX10_isMark_59
      · refine lv_iload_n hx hb dX10_isMark_18 rfl (lv_at hl 0 rfl) ?_
        refine lv_bipush (v := Int32.ofInt 43) hx hb dX10_isMark_19 (by decide +kernel) ?_
        refine iv_icmp_eq (tgt := 54) hx hb (by omega) (by omega) dX10_isMark_21 (by decide) (fun q4 => ?_) (fun q4 => ?_)
        · refine lv_iconst (v := Int32.ofInt 1) hx hb dX10_isMark_54 (by decide +kernel) ?_
          refine lv_goto (tgt := 59) hx hb dX10_isMark_55 (by decide) ?_
          exact W.zret (v := Int32.ofInt (1)) hx hb hr (nz_bool (by omega)) (fun t ht hW => ⟨⟨Int32.ofInt (1), (1), rfl, ⟨rfl, (show (inR 1) ∧ (Mkr 1 c0) from ⟨(by omega), (by first | exact Or.inl ⟨by omega, by unfold isMk; omega⟩ | exact Or.inr ⟨by omega, by unfold isMk; omega⟩)⟩)⟩, by rw [ht]; exact hP, hD⟩, hS.F ht⟩) hS.2.2 dX10_isMark_59
        · refine lv_iload_n hx hb dX10_isMark_24 rfl (lv_at hl 0 rfl) ?_
          refine lv_bipush (v := Int32.ofInt 45) hx hb dX10_isMark_25 (by decide +kernel) ?_
          refine iv_icmp_eq (tgt := 54) hx hb (by omega) (by omega) dX10_isMark_27 (by decide) (fun q5 => ?_) (fun q5 => ?_)
          · refine lv_iconst (v := Int32.ofInt 1) hx hb dX10_isMark_54 (by decide +kernel) ?_
            refine lv_goto (tgt := 59) hx hb dX10_isMark_55 (by decide) ?_
            exact W.zret (v := Int32.ofInt (1)) hx hb hr (nz_bool (by omega)) (fun t ht hW => ⟨⟨Int32.ofInt (1), (1), rfl, ⟨rfl, (show (inR 1) ∧ (Mkr 1 c0) from ⟨(by omega), (by first | exact Or.inl ⟨by omega, by unfold isMk; omega⟩ | exact Or.inr ⟨by omega, by unfold isMk; omega⟩)⟩)⟩, by rw [ht]; exact hP, hD⟩, hS.F ht⟩) hS.2.2 dX10_isMark_59
          · refine lv_iload_n hx hb dX10_isMark_30 rfl (lv_at hl 0 rfl) ?_
            refine lv_bipush (v := Int32.ofInt 42) hx hb dX10_isMark_31 (by decide +kernel) ?_
            refine iv_icmp_eq (tgt := 54) hx hb (by omega) (by omega) dX10_isMark_33 (by decide) (fun q6 => ?_) (fun q6 => ?_)
            · refine lv_iconst (v := Int32.ofInt 1) hx hb dX10_isMark_54 (by decide +kernel) ?_
              refine lv_goto (tgt := 59) hx hb dX10_isMark_55 (by decide) ?_
              exact W.zret (v := Int32.ofInt (1)) hx hb hr (nz_bool (by omega)) (fun t ht hW => ⟨⟨Int32.ofInt (1), (1), rfl, ⟨rfl, (show (inR 1) ∧ (Mkr 1 c0) from ⟨(by omega), (by first | exact Or.inl ⟨by omega, by unfold isMk; omega⟩ | exact Or.inr ⟨by omega, by unfold isMk; omega⟩)⟩)⟩, by rw [ht]; exact hP, hD⟩, hS.F ht⟩) hS.2.2 dX10_isMark_59
            · refine lv_iload_n hx hb dX10_isMark_36 rfl (lv_at hl 0 rfl) ?_
              refine lv_bipush (v := Int32.ofInt 47) hx hb dX10_isMark_37 (by decide +kernel) ?_
              refine iv_icmp_eq (tgt := 54) hx hb (by omega) (by omega) dX10_isMark_39 (by decide) (fun q7 => ?_) (fun q7 => ?_)
              · refine lv_iconst (v := Int32.ofInt 1) hx hb dX10_isMark_54 (by decide +kernel) ?_
                refine lv_goto (tgt := 59) hx hb dX10_isMark_55 (by decide) ?_
                exact W.zret (v := Int32.ofInt (1)) hx hb hr (nz_bool (by omega)) (fun t ht hW => ⟨⟨Int32.ofInt (1), (1), rfl, ⟨rfl, (show (inR 1) ∧ (Mkr 1 c0) from ⟨(by omega), (by first | exact Or.inl ⟨by omega, by unfold isMk; omega⟩ | exact Or.inr ⟨by omega, by unfold isMk; omega⟩)⟩)⟩, by rw [ht]; exact hP, hD⟩, hS.F ht⟩) hS.2.2 dX10_isMark_59
              · refine lv_iload_n hx hb dX10_isMark_42 rfl (lv_at hl 0 rfl) ?_
                refine lv_bipush (v := Int32.ofInt 60) hx hb dX10_isMark_43 (by decide +kernel) ?_
                refine iv_icmp_eq (tgt := 54) hx hb (by omega) (by omega) dX10_isMark_45 (by decide) (fun q8 => ?_) (fun q8 => ?_)
                · refine lv_iconst (v := Int32.ofInt 1) hx hb dX10_isMark_54 (by decide +kernel) ?_
                  refine lv_goto (tgt := 59) hx hb dX10_isMark_55 (by decide) ?_
                  exact W.zret (v := Int32.ofInt (1)) hx hb hr (nz_bool (by omega)) (fun t ht hW => ⟨⟨Int32.ofInt (1), (1), rfl, ⟨rfl, (show (inR 1) ∧ (Mkr 1 c0) from ⟨(by omega), (by first | exact Or.inl ⟨by omega, by unfold isMk; omega⟩ | exact Or.inr ⟨by omega, by unfold isMk; omega⟩)⟩)⟩, by rw [ht]; exact hP, hD⟩, hS.F ht⟩) hS.2.2 dX10_isMark_59
                · refine lv_iload_n hx hb dX10_isMark_48 rfl (lv_at hl 0 rfl) ?_
                  refine lv_bipush (v := Int32.ofInt 61) hx hb dX10_isMark_49 (by decide +kernel) ?_
                  refine iv_icmp_ne (tgt := 58) hx hb (by omega) (by omega) dX10_isMark_51 (by decide) (fun q9 => ?_) (fun q9 => ?_)
                  · refine lv_iconst (v := Int32.ofInt 0) hx hb dX10_isMark_58 (by decide +kernel) ?_
                    exact W.zret (v := Int32.ofInt (0)) hx hb hr (nz_bool (by omega)) (fun t ht hW => ⟨⟨Int32.ofInt (0), (0), rfl, ⟨rfl, (show (inR 0) ∧ (Mkr 0 c0) from ⟨(by omega), (by first | exact Or.inl ⟨by omega, by unfold isMk; omega⟩ | exact Or.inr ⟨by omega, by unfold isMk; omega⟩)⟩)⟩, by rw [ht]; exact hP, hD⟩, hS.F ht⟩) hS.2.2 dX10_isMark_59
                  · refine lv_iconst (v := Int32.ofInt 1) hx hb dX10_isMark_54 (by decide +kernel) ?_
                    refine lv_goto (tgt := 59) hx hb dX10_isMark_55 (by decide) ?_
                    exact W.zret (v := Int32.ofInt (1)) hx hb hr (nz_bool (by omega)) (fun t ht hW => ⟨⟨Int32.ofInt (1), (1), rfl, ⟨rfl, (show (inR 1) ∧ (Mkr 1 c0) from ⟨(by omega), (by first | exact Or.inl ⟨by omega, by unfold isMk; omega⟩ | exact Or.inr ⟨by omega, by unfold isMk; omega⟩)⟩)⟩, by rw [ht]; exact hP, hD⟩, hS.F ht⟩) hS.2.2 dX10_isMark_59

set_option maxHeartbeats 4000000 in
set_option maxRecDepth 100000 in
theorem mX10_byteAt (l : Launch) (G : va_G) (k : Nat → ClassId) (ar : Nat → Nat) (fi : Nat → Int) (fa : Nat → Int → Int) (fl : Nat → Int64) (k0 : Int) (sz : Nat) (hR : ∀ j, inR (fi j)) (hRa : ∀ j t, inR (fa j t)) (hr_k0 : inR k0) (hk : 0 ≤ k0) (hn : fi 19 ≤ 600) : CNi l G k (EZ k) yX10_byteAt wzX10_byteAt ({ frames := 0, cells := 0, slots := 0, locals := 0 }) [.ref (ar 71), .int (Int32.ofInt (k0))] sz (wM k ar fi fa fl) (fun (r0 : Int32) (u : Int) => r0 = Int32.ofInt (u) ∧ (inR u) ∧ ((k0 < fi 19 ∧ u = fa 16 k0) ∨ (fi 19 ≤ k0 ∧ u = -1))) (fun (u : Int) => (wM k ar fi fa fl)) := by
  refine Met.ofW (cc := cX10_byteAt) (maxL := 2) (ret := (some .int)) (by decide) rfl ?_
  intro p e s m args below meth c s₁ B hml hv
  obtain ⟨rfl, hsz, hP, hX, hD0, hZ0⟩ := hv
  have hx := B.exec
  have hb := B.bytes
  have hr := B.returns
  have hts := atoms_spec (ws := wzX10_byteAt) B.pre
  have hown : s.vm.findClass RX10 = some m.cls := findClass_of_methodNamed B.named
  subst hsz
  have hD := hD0.self (sz := s.heap.size)
  have hZ := hZ0
  generalize hAe : va_A (wM k ar fi fa fl) s.heap.size = A at hD hZ ⊢
  have hA : ∀ q : Nat, s.heap.size ≤ q → A q := fun q h => by rw [← hAe]; exact Or.inr h
  have hS : va_S A s.heap s.heap [] := va_S.rf
  have hl := lv_entry ([.ref (ar 71), .int (Int32.ofInt (k0))]) (n := 2) (Nat.le_of_ble_eq_true rfl)
  rw [lg_entry_eq]
  generalize (lg_sl ([.ref (ar 71), .int (Int32.ofInt (k0))]) ++ List.replicate (2 - (lg_sl ([.ref (ar 71), .int (Int32.ofInt (k0))])).length) Slot.unset).toArray = ls at hl ⊢
  have hl : lv_has ls 2 [(0, .ref (ar 71)), (1, .int (Int32.ofInt (k0)))] := hl
  obtain ⟨H, eH⟩ : ∃ H, H = s.heap := ⟨_, rfl⟩
  rw [← eH] at hP
  have hS : va_S A s.heap H [] := by rw [eH]; exact hS
  have gW : s.heap = H := eH.symm
  refine iv_heap gW ?_
  have h0w := hts (.fieldLink RX10 184 "RopeTownModel" "size" "I") (wz_at 16 9 rfl)
  have h1w : ∀ w ∈ wsX100, w ∈ wzX10_byteAt := fun w h => List.mem_cons_of_mem _ (inlX10 w h)
  have h2w := hts (.fieldLink RX10 80 "RopeTownModel" "tape" "[I") (wz_at 6 15 rfl)
  refine lv_iload_n hx hb dX10_byteAt_0 rfl (lv_at hl 1 rfl) ?_
  refine lv_aload_n hx hb dX10_byteAt_1 rfl (lv_at hl 0 rfl) ?_
  refine va_get (D := G) (ci := 7) (v := .int (Int32.ofInt (fi 19))) (C := RX10) (T := TX10) (N := 71) (ref := RX10) hx hb hts h1w hown hX.1 hP 0 rfl rfl 19 (by decide) h0w (fun _ h9 => h9) rfl dX10_byteAt_2 ?_
  have rf19 := hR 19
  refine iv_icmp_ge (tgt := 17) hx hb (by omega) (by omega) dX10_byteAt_5 (by decide) (fun q1 => ?_) (fun q1 => ?_)
  · refine lv_iconst (v := Int32.ofInt (-1)) hx hb dX10_byteAt_17 (by decide +kernel) ?_
    exact W.iret (v := Int32.ofInt ((-1))) hx hb hr (fun t ht hW => ⟨⟨Int32.ofInt ((-1)), ((-1)), rfl, ⟨rfl, (show (inR (-1)) ∧ ((k0 < fi 19 ∧ (-1) = fa 16 k0) ∨ (fi 19 ≤ k0 ∧ (-1) = -1)) from ⟨(by omega), (by omega)⟩)⟩, by rw [ht]; exact hP, hD⟩, hS.F ht⟩) hS.2.2 dX10_byteAt_18
  · refine lv_aload_n hx hb dX10_byteAt_8 rfl (lv_at hl 0 rfl) ?_
    refine va_get (D := G) (ci := 7) (v := .ref (ar 16)) (C := RX10) (T := TX10) (N := 71) (ref := RX10) hx hb hts h1w hown hX.1 hP 0 rfl rfl 16 (by decide) h2w (fun _ h9 => h9) rfl dX10_byteAt_9 ?_
    refine lv_iload_n hx hb dX10_byteAt_12 rfl (lv_at hl 1 rfl) ?_
    refine iv_iald hx hb hX.1 hP 10 0 rfl rfl (by omega) (by omega) (by decide) dX10_byteAt_13 ?_
    refine iv_top (fun z2 ez2 => ?_)
    have rz2 : inR z2 := ez2 ▸ (hRa 16) _
    have ez2 : z2 = (fa 16) k0 := ez2
    refine lv_goto (tgt := 18) hx hb dX10_byteAt_14 (by decide) ?_
    exact W.iret (v := Int32.ofInt (z2)) hx hb hr (fun t ht hW => ⟨⟨Int32.ofInt (z2), (z2), rfl, ⟨rfl, (show (inR z2) ∧ ((k0 < fi 19 ∧ z2 = fa 16 k0) ∨ (fi 19 ≤ k0 ∧ z2 = -1)) from ⟨(by omega), (by omega)⟩)⟩, by rw [ht]; exact hP, hD⟩, hS.F ht⟩) hS.2.2 dX10_byteAt_18

set_option maxHeartbeats 4000000 in
set_option maxRecDepth 100000 in
theorem mX10_stepOn (l : Launch) (G : va_G) (k : Nat → ClassId) (ar : Nat → Nat) (fi : Nat → Int) (fa : Nat → Int → Int) (fl : Nat → Int64) (sz : Nat) (hR : ∀ j, inR (fi j)) (hRa : ∀ j t, inR (fa j t)) (h1 : 0 ≤ fi 18) (h2 : fi 18 ≤ fi 19) (h3 : fi 19 ≤ 600) (hT : ∀ t, 0 ≤ t → t < fi 19 → 0 ≤ fa 16 t ∧ fa 16 t ≤ 255) : CNv l G k (EZ k) yX10_stepOn wzX10_stepOn ({ frames := 1, cells := 0, slots := 0, locals := 24 }) [.ref (ar 71)] sz (wM k ar fi fa fl) (fun (u : Int × Int × Int × Int × Int) => (inR u.1) ∧ (inR u.2.1) ∧ (inR u.2.2.1) ∧ (inR u.2.2.2.1) ∧ (inR u.2.2.2.2) ∧ ((fi 18 ≤ u.2.2.2.1 ∧ u.2.2.2.1 ≤ u.2.2.2.2 ∧ u.2.2.2.2 ≤ fi 19 ∧ u.1 = u.2.2.2.2 ∧ 0 ≤ u.2.1 ∧ u.2.1 ≤ 4 ∧ (¬ u.2.1 = 0 → u.2.2.2.1 < u.2.2.2.2)) ∧ u.2.2.2.1 = sk (fa 16) (fi 19) (fi 18) ∧ TS (fa 16) (fi 19) 0 u.2.2.2.1 u.2.2.2.2 u.2.1 u.2.2.1)) (fun (u : Int × Int × Int × Int × Int) => (wM k ar (uF (uF (uF (uF (uF fi 18 (u.1)) 20 (u.2.1)) 21 (u.2.2.1)) 22 (u.2.2.2.1)) 23 (u.2.2.2.2)) fa fl)) := by
  refine Met.ofW (cc := cX10_stepOn) (maxL := 2) (ret := none) (by decide) rfl ?_
  intro p e s m args below meth c s₁ B hml hv
  obtain ⟨rfl, hsz, hP, hX, hD0, hZ0⟩ := hv
  have hx := B.exec
  have hb := B.bytes
  have hr := B.returns
  have hts := atoms_spec (ws := wzX10_stepOn) B.pre
  have hown : s.vm.findClass RX10 = some m.cls := findClass_of_methodNamed B.named
  subst hsz
  have hD := hD0.self (sz := s.heap.size)
  have hZ := hZ0
  generalize hAe : va_A (wM k ar fi fa fl) s.heap.size = A at hD hZ ⊢
  have hA : ∀ q : Nat, s.heap.size ≤ q → A q := fun q h => by rw [← hAe]; exact Or.inr h
  have hS : va_S A s.heap s.heap [] := va_S.rf
  have hl := lv_entry ([.ref (ar 71)]) (n := 2) (Nat.le_of_ble_eq_true rfl)
  rw [lg_entry_eq]
  generalize (lg_sl ([.ref (ar 71)]) ++ List.replicate (2 - (lg_sl ([.ref (ar 71)])).length) Slot.unset).toArray = ls at hl ⊢
  have hl : lv_has ls 2 [(0, .ref (ar 71))] := hl
  obtain ⟨H, eH⟩ : ∃ H, H = s.heap := ⟨_, rfl⟩
  rw [← eH] at hP
  have hS : va_S A s.heap H [] := by rw [eH]; exact hS
  have gW : s.heap = H := eH.symm
  refine iv_heap gW ?_
  have h0w := hts (.fieldLink RX10 187 "RopeTownModel" "at" "I") (wz_at 16 10 rfl)
  have h1w : ∀ w ∈ wsX100, w ∈ wzX10_stepOn := fun w h => List.mem_cons_of_mem _ (inlX10 w h)
  have h2w := hts (.fieldLink RX10 194 "RopeTownModel" "begins" "I") (wz_at 17 1 rfl)
  have h3w := hts (.fieldLink RX10 197 "RopeTownModel" "token" "I") (wz_at 16 15 rfl)
  have h4w := hts (.fieldLink RX10 220 "RopeTownModel" "ends" "I") (wz_at 17 8 rfl)
  have h5w := hts (.fieldLink RX10 207 "RopeTownModel" "number" "I") (wz_at 17 2 rfl)
  have h6w := hts (.constant RX10 210 (100000)) (wz_at 17 3 rfl)
  have h7w := hts (.methodLink RX10 211 Lib.Math.min.name) (wz_at 17 4 rfl)
  have h8w := hts (.static Lib.Math.min.name) (wz_at 17 5 rfl)
  have h9w := hts (.initialized "java/lang/Math") (wz_at 17 6 rfl)
  have h10w := hts (.code Lib.Math.min.name Lib.Math.min.code 2 (some .int)) (wz_at 17 7 rfl)
  refine iv_loop (α := Int) (nL := 2) (fun b9 => (wM k ar (uF fi 18 (b9)) fa fl)) (fun b9 => [(0, .ref (ar 71))]) (fun b9 => (fi 19 - b9).toNat) (fun b9 => inR b9 ∧ ((fi 18 ≤ b9 ∧ b9 ≤ fi 19) ∧ sk (fa 16) (fi 19) b9 = sk (fa 16) (fi 19) (fi 18))) ?_ (fi 18) (show inR (fi 18) ∧ ((fi 18 ≤ (fi 18) ∧ (fi 18) ≤ fi 19) ∧ sk (fa 16) (fi 19) (fi 18) = sk (fa 16) (fi 19) (fi 18)) from ⟨(hR 18), (by exact ⟨by omega, rfl⟩)⟩) hP hD hS hl
  intro n18_1 ih hi9 H locs ls hP hD hS hl
  obtain ⟨r_n18_1, hinv⟩ : inR n18_1 ∧ ((fi 18 ≤ n18_1 ∧ n18_1 ≤ fi 19) ∧ sk (fa 16) (fi 19) n18_1 = sk (fa 16) (fi 19) (fi 18)) := hi9
  obtain ⟨hJ1, hJ2⟩ := hinv
  obtain ⟨hP, hD⟩ : va_P G vwCl (wM k ar (uF fi 18 (n18_1)) fa fl) H ∧ va_D A (wM k ar (uF fi 18 (n18_1)) fa fl) := ⟨hP, hD⟩
  have hl : lv_has ls 2 [(0, .ref (ar 71))] := hl
  refine lv_aload_n hx hb dX10_stepOn_0 rfl (lv_at hl 0 rfl) ?_
  refine lv_aload_n hx hb dX10_stepOn_1 rfl (lv_at hl 0 rfl) ?_
  refine va_get (D := G) (ci := 7) (v := .int (Int32.ofInt (n18_1))) (C := RX10) (T := TX10) (N := 71) (ref := RX10) hx hb hts h1w hown hX.1 hP 0 rfl rfl 18 (by decide) h0w (fun _ h9 => h9) rfl dX10_stepOn_2 ?_
  refine cr_i (va_runV (As := [.int (Int32.ofInt (n18_1))]) (rest := []) ⟨hx, hb, hml, hown, hts⟩ (mX10_byteAt l G k ar (uF fi 18 (n18_1)) fa fl n18_1 H.size (iF hR (by omega)) hRa (by omega) (show 0 ≤ n18_1 from by omega) (show (fi 19) ≤ 600 from by omega)) (cwV 1 hts (gz [.methodLink RX10 190 yX10_byteAt, .instanceMethod yX10_byteAt, .selects RX10 yX10_byteAt yX10_byteAt, .initialized RX10] (.code yX10_byteAt cX10_byteAt 2 (some .int)) [(17, 9), (17, 10), (17, 11), (0, 5), (17, 12)] rfl) rfl rfl rfl (by decide +kernel) ⟨Nat.le_of_ble_eq_true rfl, Nat.le_of_ble_eq_true rfl⟩) (cr_preV (EZ_ok k) hZ hS hX hP hD hA (ci := 7) (q0 := 0) rfl rfl) rfl rfl hl.1 rfl (lv_room (Nat.le_of_ble_eq_true rfl)) dX10_stepOn_5 ⟨Nat.le_of_ble_eq_true rfl, Nat.le_of_ble_eq_true rfl⟩) hD hS hA (fun r u H locs hp hP hD hS => ?_)
  obtain ⟨c2, rfl⟩ : ∃ z, z = u := ⟨_, rfl⟩
  obtain ⟨h9, rc2, hp2⟩ : r = Int32.ofInt c2 ∧ (inR c2) ∧ ((n18_1 < (fi 19) ∧ c2 = (fa 16) n18_1) ∨ ((fi 19) ≤ n18_1 ∧ c2 = -1)) := hp
  subst h9
  refine lv_bipush (v := Int32.ofInt 32) hx hb dX10_stepOn_8 (by decide +kernel) ?_
  refine iv_icmp_eq (tgt := 26) hx hb (by omega) (by omega) dX10_stepOn_10 (by decide) (fun q3 => ?_) (fun q3 => ?_)
  · refine lv_aload_n hx hb dX10_stepOn_26 rfl (lv_at hl 0 rfl) ?_
    refine lv_dup hx hb dX10_stepOn_27 rfl ?_
    refine va_get (D := G) (ci := 7) (v := .int (Int32.ofInt (n18_1))) (C := RX10) (T := TX10) (N := 71) (ref := RX10) hx hb hts h1w hown hX.1 hP 0 rfl rfl 18 (by decide) h0w (fun _ h9 => h9) rfl dX10_stepOn_28 ?_
    refine lv_iconst (v := Int32.ofInt 1) hx hb dX10_stepOn_31 (by decide +kernel) ?_
    refine iv_add (x := n18_1) (y := 1) hx hb dX10_stepOn_32 ?_
    refine iv_put (ci := 7) (v := .int (Int32.ofInt ((n18_1 + 1)))) (ty := .int) (C := RX10) (T := TX10) (N := 71) (ref := RX10) hx hb hts h1w tyX10 tyX10_ok nmX10 hown hX.1 hP hD hS 0 rfl rfl 18 (by decide) h0w (fun _ h9 => h9) rfl (by decide +kernel) rfl rfl (Nat.le_of_ble_eq_true rfl) (wM_F18 _ _ _ _ _) dX10_stepOn_33 (fun H locs hP hD hS => ?_)
    obtain ⟨hP, hD⟩ : va_P G vwCl (wM k ar (uF fi 18 ((n18_1 + 1))) fa fl) H ∧ va_D A (wM k ar (uF fi 18 ((n18_1 + 1))) fa fl) := ⟨hP, hD⟩
    refine lv_goto (tgt := 0) hx hb dX10_stepOn_36 (by decide) ?_
    have hl : lv_has ls 2 [(0, .ref (ar 71))] := lv_sub hl [0] rfl
    exact ih ((n18_1 + 1)) (show (fi 19 - (n18_1 + 1)).toNat < (fi 19 - n18_1).toNat from by omega) (show inR (n18_1 + 1) ∧ ((fi 18 ≤ (n18_1 + 1) ∧ (n18_1 + 1) ≤ fi 19) ∧ sk (fa 16) (fi 19) (n18_1 + 1) = sk (fa 16) (fi 19) (fi 18)) from ⟨(by omega), (by exact ⟨by omega, (sk_step (by omega) (by omega)).symm.trans hJ2⟩)⟩) _ _ _ hP hD hS hl
  · refine lv_aload_n hx hb dX10_stepOn_13 rfl (lv_at hl 0 rfl) ?_
    refine lv_aload_n hx hb dX10_stepOn_14 rfl (lv_at hl 0 rfl) ?_
    refine va_get (D := G) (ci := 7) (v := .int (Int32.ofInt (n18_1))) (C := RX10) (T := TX10) (N := 71) (ref := RX10) hx hb hts h1w hown hX.1 hP 0 rfl rfl 18 (by decide) h0w (fun _ h9 => h9) rfl dX10_stepOn_15 ?_
    refine cr_i (va_runV (As := [.int (Int32.ofInt (n18_1))]) (rest := []) ⟨hx, hb, hml, hown, hts⟩ (mX10_byteAt l G k ar (uF fi 18 (n18_1)) fa fl n18_1 H.size (iF hR (by omega)) hRa (by omega) (show 0 ≤ n18_1 from by omega) (show (fi 19) ≤ 600 from by omega)) (cwV 1 hts (gz [.methodLink RX10 190 yX10_byteAt, .instanceMethod yX10_byteAt, .selects RX10 yX10_byteAt yX10_byteAt, .initialized RX10] (.code yX10_byteAt cX10_byteAt 2 (some .int)) [(17, 9), (17, 10), (17, 11), (0, 5), (17, 12)] rfl) rfl rfl rfl (by decide +kernel) ⟨Nat.le_of_ble_eq_true rfl, Nat.le_of_ble_eq_true rfl⟩) (cr_preV (EZ_ok k) hZ hS hX hP hD hA (ci := 7) (q0 := 0) rfl rfl) rfl rfl hl.1 rfl (lv_room (Nat.le_of_ble_eq_true rfl)) dX10_stepOn_18 ⟨Nat.le_of_ble_eq_true rfl, Nat.le_of_ble_eq_true rfl⟩) hD hS hA (fun r u H locs hp hP hD hS => ?_)
    obtain ⟨c4, rfl⟩ : ∃ z, z = u := ⟨_, rfl⟩
    obtain ⟨h9, rc4, hp4⟩ : r = Int32.ofInt c4 ∧ (inR c4) ∧ ((n18_1 < (fi 19) ∧ c4 = (fa 16) n18_1) ∨ ((fi 19) ≤ n18_1 ∧ c4 = -1)) := hp
    subst h9
    refine lv_bipush (v := Int32.ofInt 10) hx hb dX10_stepOn_21 (by decide +kernel) ?_
    refine iv_icmp_ne (tgt := 39) hx hb (by omega) (by omega) dX10_stepOn_23 (by decide) (fun q5 => ?_) (fun q5 => ?_)
    · have hK : n18_1 = sk (fa 16) (fi 19) (fi 18) := (sk_stop (by omega)).symm.trans hJ2
      refine lv_aload_n hx hb dX10_stepOn_39 rfl (lv_at hl 0 rfl) ?_
      refine lv_aload_n hx hb dX10_stepOn_40 rfl (lv_at hl 0 rfl) ?_
      refine va_get (D := G) (ci := 7) (v := .int (Int32.ofInt (n18_1))) (C := RX10) (T := TX10) (N := 71) (ref := RX10) hx hb hts h1w hown hX.1 hP 0 rfl rfl 18 (by decide) h0w (fun _ h9 => h9) rfl dX10_stepOn_41 ?_
      refine iv_put (ci := 7) (v := .int (Int32.ofInt (n18_1))) (ty := .int) (C := RX10) (T := TX10) (N := 71) (ref := RX10) hx hb hts h1w tyX10 tyX10_ok nmX10 hown hX.1 hP hD hS 0 rfl rfl 22 (by decide) h2w (fun _ h9 => h9) rfl (by decide +kernel) rfl rfl (Nat.le_of_ble_eq_true rfl) (wM_F22 _ _ _ _ _) dX10_stepOn_44 (fun H locs hP hD hS => ?_)
      refine lv_aload_n hx hb dX10_stepOn_47 rfl (lv_at hl 0 rfl) ?_
      refine lv_aload_n hx hb dX10_stepOn_48 rfl (lv_at hl 0 rfl) ?_
      refine va_get (D := G) (ci := 7) (v := .int (Int32.ofInt (n18_1))) (C := RX10) (T := TX10) (N := 71) (ref := RX10) hx hb hts h1w hown hX.1 hP 0 rfl rfl 18 (by decide) h0w (fun _ h9 => h9) rfl dX10_stepOn_49 ?_
      refine cr_i (va_runV (As := [.int (Int32.ofInt (n18_1))]) (rest := []) ⟨hx, hb, hml, hown, hts⟩ (mX10_byteAt l G k ar (uF (uF fi 18 (n18_1)) 22 (n18_1)) fa fl n18_1 H.size (iF (iF hR (by omega)) (by omega)) hRa (by omega) (show 0 ≤ n18_1 from by omega) (show (fi 19) ≤ 600 from by omega)) (cwV 1 hts (gz [.methodLink RX10 190 yX10_byteAt, .instanceMethod yX10_byteAt, .selects RX10 yX10_byteAt yX10_byteAt, .initialized RX10] (.code yX10_byteAt cX10_byteAt 2 (some .int)) [(17, 9), (17, 10), (17, 11), (0, 5), (17, 12)] rfl) rfl rfl rfl (by decide +kernel) ⟨Nat.le_of_ble_eq_true rfl, Nat.le_of_ble_eq_true rfl⟩) (cr_preV (EZ_ok k) hZ hS hX hP hD hA (ci := 7) (q0 := 0) rfl rfl) rfl rfl hl.1 rfl (lv_room (Nat.le_of_ble_eq_true rfl)) dX10_stepOn_52 ⟨Nat.le_of_ble_eq_true rfl, Nat.le_of_ble_eq_true rfl⟩) hD hS hA (fun r u H locs hp hP hD hS => ?_)
      obtain ⟨c6, rfl⟩ : ∃ z, z = u := ⟨_, rfl⟩
      obtain ⟨h9, rc6, hp6⟩ : r = Int32.ofInt c6 ∧ (inR c6) ∧ ((n18_1 < (fi 19) ∧ c6 = (fa 16) n18_1) ∨ ((fi 19) ≤ n18_1 ∧ c6 = -1)) := hp
      subst h9
      refine lv_istore_n (lv' := [(1, .int (Int32.ofInt (c6))), (0, .ref (ar 71))]) hx hb dX10_stepOn_55 rfl hl (by decide) rfl (fun ls hl => ?_)
      have hTb := hT n18_1
      refine lv_iload_n hx hb dX10_stepOn_56 rfl (lv_at hl 0 rfl) ?_
      refine lv_iconst (v := Int32.ofInt (-1)) hx hb dX10_stepOn_57 (by decide +kernel) ?_
      refine iv_icmp_ne (tgt := 69) hx hb (by omega) (by omega) dX10_stepOn_58 (by decide) (fun q7 => ?_) (fun q7 => ?_)
      · refine lv_iload_n hx hb dX10_stepOn_69 rfl (lv_at hl 0 rfl) ?_
        refine c0_i (va_runS (As := [.int (Int32.ofInt (c6))]) (rest := []) ⟨hx, hb, hml, hown, hts⟩ (mX10_isLetter l G k c6 H.size (by omega)) (cwS 1 hts (gz [.methodLink RX10 200 yX10_isLetter, .static yX10_isLetter, .initialized RX10] (.code yX10_isLetter cX10_isLetter 1 (some .boolean)) [(17, 13), (17, 14), (0, 5), (17, 15)] rfl) rfl rfl rfl (by decide +kernel) ⟨Nat.le_of_ble_eq_true rfl, Nat.le_of_ble_eq_true rfl⟩) (cr_pre0 (EZ_ok k) hZ hS hX hP hD hA) rfl rfl hl.1 rfl (lv_room (Nat.le_of_ble_eq_true rfl)) dX10_stepOn_70 ⟨Nat.le_of_ble_eq_true rfl, Nat.le_of_ble_eq_true rfl⟩) hP hD hS hA (fun r u H locs hp hP hD hS => ?_)
        obtain ⟨c8, rfl⟩ : ∃ z, z = u := ⟨_, rfl⟩
        obtain ⟨h9, rc8, hp8⟩ : r = Int32.ofInt c8 ∧ (inR c8) ∧ ((c8 = 1 ∧ 97 ≤ c6 ∧ c6 ≤ 122) ∨ (c8 = 0 ∧ (c6 < 97 ∨ 122 < c6))) := hp
        subst h9
        refine iv_if_eq (tgt := 111) hx hb (by omega) dX10_stepOn_73 (by decide) (fun q9 => ?_) (fun q9 => ?_)
        · refine lv_iload_n hx hb dX10_stepOn_111 rfl (lv_at hl 0 rfl) ?_
          refine c0_i (va_runS (As := [.int (Int32.ofInt (c6))]) (rest := []) ⟨hx, hb, hml, hown, hts⟩ (mX10_isDigit l G k c6 H.size (by omega)) (cwS 1 hts (gz [.methodLink RX10 204 yX10_isDigit, .static yX10_isDigit, .initialized RX10] (.code yX10_isDigit cX10_isDigit 1 (some .boolean)) [(17, 16), (17, 17), (0, 5), (17, 18)] rfl) rfl rfl rfl (by decide +kernel) ⟨Nat.le_of_ble_eq_true rfl, Nat.le_of_ble_eq_true rfl⟩) (cr_pre0 (EZ_ok k) hZ hS hX hP hD hA) rfl rfl hl.1 rfl (lv_room (Nat.le_of_ble_eq_true rfl)) dX10_stepOn_112 ⟨Nat.le_of_ble_eq_true rfl, Nat.le_of_ble_eq_true rfl⟩) hP hD hS hA (fun r u H locs hp hP hD hS => ?_)
          obtain ⟨c10, rfl⟩ : ∃ z, z = u := ⟨_, rfl⟩
          obtain ⟨h9, rc10, hp10⟩ : r = Int32.ofInt c10 ∧ (inR c10) ∧ ((c10 = 1 ∧ 48 ≤ c6 ∧ c6 ≤ 57) ∨ (c10 = 0 ∧ (c6 < 48 ∨ 57 < c6))) := hp
          subst h9
          refine iv_if_eq (tgt := 186) hx hb (by omega) dX10_stepOn_115 (by decide) (fun q11 => ?_) (fun q11 => ?_)
          · refine lv_aload_n hx hb dX10_stepOn_186 rfl (lv_at hl 1 rfl) ?_
            refine lv_dup hx hb dX10_stepOn_187 rfl ?_
            refine va_get (D := G) (ci := 7) (v := .int (Int32.ofInt (n18_1))) (C := RX10) (T := TX10) (N := 71) (ref := RX10) hx hb hts h1w hown hX.1 hP 0 rfl rfl 18 (by decide) h0w (fun _ h9 => h9) rfl dX10_stepOn_188 ?_
            refine lv_iconst (v := Int32.ofInt 1) hx hb dX10_stepOn_191 (by decide +kernel) ?_
            refine iv_add (x := n18_1) (y := 1) hx hb dX10_stepOn_192 ?_
            refine iv_put (ci := 7) (v := .int (Int32.ofInt ((n18_1 + 1)))) (ty := .int) (C := RX10) (T := TX10) (N := 71) (ref := RX10) hx hb hts h1w tyX10 tyX10_ok nmX10 hown hX.1 hP hD hS 0 rfl rfl 18 (by decide) h0w (fun _ h9 => h9) rfl (by decide +kernel) rfl rfl (Nat.le_of_ble_eq_true rfl) (wM_F18 _ _ _ _ _) dX10_stepOn_193 (fun H locs hP hD hS => ?_)
            obtain ⟨hP, hD⟩ : va_P G vwCl (wM k ar (uF (uF fi 18 ((n18_1 + 1))) 22 (n18_1)) fa fl) H ∧ va_D A (wM k ar (uF (uF fi 18 ((n18_1 + 1))) 22 (n18_1)) fa fl) := ⟨hP, hD⟩
            refine lv_aload_n hx hb dX10_stepOn_196 rfl (lv_at hl 1 rfl) ?_
            refine lv_iload_n hx hb dX10_stepOn_197 rfl (lv_at hl 0 rfl) ?_
            refine c0_i (va_runS (As := [.int (Int32.ofInt (c6))]) (rest := [.ref (ar 71)]) ⟨hx, hb, hml, hown, hts⟩ (mX10_isMark l G k c6 H.size (by omega)) (cwS 1 hts (gz [.methodLink RX10 217 yX10_isMark, .static yX10_isMark, .initialized RX10] (.code yX10_isMark cX10_isMark 1 (some .boolean)) [(17, 19), (17, 20), (0, 5), (17, 21)] rfl) rfl rfl rfl (by decide +kernel) ⟨Nat.le_of_ble_eq_true rfl, Nat.le_of_ble_eq_true rfl⟩) (cr_pre0 (EZ_ok k) hZ hS hX hP hD hA) rfl rfl hl.1 rfl (lv_room (Nat.le_of_ble_eq_true rfl)) dX10_stepOn_198 ⟨Nat.le_of_ble_eq_true rfl, Nat.le_of_ble_eq_true rfl⟩) hP hD hS hA (fun r u H locs hp hP hD hS => ?_)
            obtain ⟨c12, rfl⟩ : ∃ z, z = u := ⟨_, rfl⟩
            obtain ⟨h9, rc12, hp12⟩ : r = Int32.ofInt c12 ∧ (inR c12) ∧ (Mkr c12 c6) := hp
            subst h9
            have hM := hp12
            refine iv_if_eq (tgt := 208) hx hb (by omega) dX10_stepOn_201 (by decide) (fun q13 => ?_) (fun q13 => ?_)
            · refine lv_iconst (v := Int32.ofInt 4) hx hb dX10_stepOn_208 (by decide +kernel) ?_
              refine iv_put (ci := 7) (v := .int (Int32.ofInt (4))) (ty := .int) (C := RX10) (T := TX10) (N := 71) (ref := RX10) hx hb hts h1w tyX10 tyX10_ok nmX10 hown hX.1 hP hD hS 0 rfl rfl 20 (by decide) h3w (fun _ h9 => h9) rfl (by decide +kernel) rfl rfl (Nat.le_of_ble_eq_true rfl) (wM_F20 _ _ _ _ _) dX10_stepOn_209 (fun H locs hP hD hS => ?_)
              obtain ⟨hP, hD⟩ : va_P G vwCl (wM k ar (uF (uF (uF fi 18 ((n18_1 + 1))) 20 (4)) 22 (n18_1)) fa fl) H ∧ va_D A (wM k ar (uF (uF (uF fi 18 ((n18_1 + 1))) 20 (4)) 22 (n18_1)) fa fl) := ⟨hP, hD⟩
              refine lv_aload_n hx hb dX10_stepOn_212 rfl (lv_at hl 1 rfl) ?_
              refine lv_aload_n hx hb dX10_stepOn_213 rfl (lv_at hl 1 rfl) ?_
              refine va_get (D := G) (ci := 7) (v := .int (Int32.ofInt ((n18_1 + 1)))) (C := RX10) (T := TX10) (N := 71) (ref := RX10) hx hb hts h1w hown hX.1 hP 0 rfl rfl 18 (by decide) h0w (fun _ h9 => h9) rfl dX10_stepOn_214 ?_
              refine iv_put (ci := 7) (v := .int (Int32.ofInt ((n18_1 + 1)))) (ty := .int) (C := RX10) (T := TX10) (N := 71) (ref := RX10) hx hb hts h1w tyX10 tyX10_ok nmX10 hown hX.1 hP hD hS 0 rfl rfl 23 (by decide) h4w (fun _ h9 => h9) rfl (by decide +kernel) rfl rfl (Nat.le_of_ble_eq_true rfl) (wM_F23 _ _ _ _ _) dX10_stepOn_217 (fun H locs hP hD hS => ?_)
              exact W.vret hx hb hr (fun t ht hW => ⟨⟨((n18_1 + 1), 4, fi 21, n18_1, (n18_1 + 1)), rfl, (show (inR (n18_1 + 1)) ∧ (inR 4) ∧ (inR (fi 21)) ∧ (inR n18_1) ∧ (inR (n18_1 + 1)) ∧ ((fi 18 ≤ n18_1 ∧ n18_1 ≤ (n18_1 + 1) ∧ (n18_1 + 1) ≤ fi 19 ∧ (n18_1 + 1) = (n18_1 + 1) ∧ 0 ≤ 4 ∧ 4 ≤ 4 ∧ (¬ 4 = 0 → n18_1 < (n18_1 + 1))) ∧ n18_1 = sk (fa 16) (fi 19) (fi 18) ∧ TS (fa 16) (fi 19) 0 n18_1 (n18_1 + 1) 4 (fi 21)) from ⟨(by omega), (by omega), (hR 21), (by omega), (by omega), (by first | exact ⟨by omega, hK, ts_num (by omega) (by omega) hJ3 (by omega) (by omega) hJ4⟩ | exact ⟨by omega, hK, ts_word (by omega) (by omega) hJ3 (by omega) (by omega)⟩ | exact ⟨by omega, hK, ts_sign (c := c6) (by omega) (by omega) (by omega) (by omega) hM (by omega) (by omega)⟩ | exact ⟨by omega, hK, ts_end (by omega) (by omega) (by omega)⟩)⟩), by rw [ht]; exact hP, hD⟩, hS.F ht⟩) hS.2.2 dX10_stepOn_220
            · refine lv_iconst (v := Int32.ofInt 3) hx hb dX10_stepOn_204 (by decide +kernel) ?_
              refine lv_goto (tgt := 209) hx hb dX10_stepOn_205 (by decide) ?_
              refine iv_put (ci := 7) (v := .int (Int32.ofInt (3))) (ty := .int) (C := RX10) (T := TX10) (N := 71) (ref := RX10) hx hb hts h1w tyX10 tyX10_ok nmX10 hown hX.1 hP hD hS 0 rfl rfl 20 (by decide) h3w (fun _ h9 => h9) rfl (by decide +kernel) rfl rfl (Nat.le_of_ble_eq_true rfl) (wM_F20 _ _ _ _ _) dX10_stepOn_209 (fun H locs hP hD hS => ?_)
              obtain ⟨hP, hD⟩ : va_P G vwCl (wM k ar (uF (uF (uF fi 18 ((n18_1 + 1))) 20 (3)) 22 (n18_1)) fa fl) H ∧ va_D A (wM k ar (uF (uF (uF fi 18 ((n18_1 + 1))) 20 (3)) 22 (n18_1)) fa fl) := ⟨hP, hD⟩
              refine lv_aload_n hx hb dX10_stepOn_212 rfl (lv_at hl 1 rfl) ?_
              refine lv_aload_n hx hb dX10_stepOn_213 rfl (lv_at hl 1 rfl) ?_
              refine va_get (D := G) (ci := 7) (v := .int (Int32.ofInt ((n18_1 + 1)))) (C := RX10) (T := TX10) (N := 71) (ref := RX10) hx hb hts h1w hown hX.1 hP 0 rfl rfl 18 (by decide) h0w (fun _ h9 => h9) rfl dX10_stepOn_214 ?_
              refine iv_put (ci := 7) (v := .int (Int32.ofInt ((n18_1 + 1)))) (ty := .int) (C := RX10) (T := TX10) (N := 71) (ref := RX10) hx hb hts h1w tyX10 tyX10_ok nmX10 hown hX.1 hP hD hS 0 rfl rfl 23 (by decide) h4w (fun _ h9 => h9) rfl (by decide +kernel) rfl rfl (Nat.le_of_ble_eq_true rfl) (wM_F23 _ _ _ _ _) dX10_stepOn_217 (fun H locs hP hD hS => ?_)
              exact W.vret hx hb hr (fun t ht hW => ⟨⟨((n18_1 + 1), 3, fi 21, n18_1, (n18_1 + 1)), rfl, (show (inR (n18_1 + 1)) ∧ (inR 3) ∧ (inR (fi 21)) ∧ (inR n18_1) ∧ (inR (n18_1 + 1)) ∧ ((fi 18 ≤ n18_1 ∧ n18_1 ≤ (n18_1 + 1) ∧ (n18_1 + 1) ≤ fi 19 ∧ (n18_1 + 1) = (n18_1 + 1) ∧ 0 ≤ 3 ∧ 3 ≤ 4 ∧ (¬ 3 = 0 → n18_1 < (n18_1 + 1))) ∧ n18_1 = sk (fa 16) (fi 19) (fi 18) ∧ TS (fa 16) (fi 19) 0 n18_1 (n18_1 + 1) 3 (fi 21)) from ⟨(by omega), (by omega), (hR 21), (by omega), (by omega), (by first | exact ⟨by omega, hK, ts_num (by omega) (by omega) hJ3 (by omega) (by omega) hJ4⟩ | exact ⟨by omega, hK, ts_word (by omega) (by omega) hJ3 (by omega) (by omega)⟩ | exact ⟨by omega, hK, ts_sign (c := c6) (by omega) (by omega) (by omega) (by omega) hM (by omega) (by omega)⟩ | exact ⟨by omega, hK, ts_end (by omega) (by omega) (by omega)⟩)⟩), by rw [ht]; exact hP, hD⟩, hS.F ht⟩) hS.2.2 dX10_stepOn_220
          · refine lv_aload_n hx hb dX10_stepOn_118 rfl (lv_at hl 1 rfl) ?_
            refine lv_iconst (v := Int32.ofInt 0) hx hb dX10_stepOn_119 (by decide +kernel) ?_
            refine iv_put (ci := 7) (v := .int (Int32.ofInt (0))) (ty := .int) (C := RX10) (T := TX10) (N := 71) (ref := RX10) hx hb hts h1w tyX10 tyX10_ok nmX10 hown hX.1 hP hD hS 0 rfl rfl 21 (by decide) h5w (fun _ h9 => h9) rfl (by decide +kernel) rfl rfl (Nat.le_of_ble_eq_true rfl) (wM_F21 _ _ _ _ _) dX10_stepOn_120 (fun H locs hP hD hS => ?_)
            obtain ⟨hP, hD⟩ : va_P G vwCl (wM k ar (uF (uF (uF fi 18 (n18_1)) 21 (0)) 22 (n18_1)) fa fl) H ∧ va_D A (wM k ar (uF (uF (uF fi 18 (n18_1)) 21 (0)) 22 (n18_1)) fa fl) := ⟨hP, hD⟩
            refine iv_loop (α := Int × Int) (nL := 2) (fun b9 => (wM k ar (uF (uF (uF fi 18 (b9.1)) 21 (b9.2)) 22 (n18_1)) fa fl)) (fun b9 => [(1, .int (Int32.ofInt (c6))), (0, .ref (ar 71))]) (fun b9 => (fi 19 - b9.1).toNat) (fun b9 => inR b9.1 ∧ inR b9.2 ∧ ((n18_1 ≤ b9.1 ∧ b9.1 ≤ fi 19 ∧ 0 ≤ b9.2 ∧ b9.2 ≤ 100000 ∧ (n18_1 < b9.1 ∨ fa 16 b9.1 = fa 16 n18_1)) ∧ rE (fa 16) (fi 19) 48 57 b9.1 = rE (fa 16) (fi 19) 48 57 n18_1 ∧ b9.2 = dM (fa 16) n18_1 (b9.1 - n18_1).toNat)) ?_ (n18_1, 0) (show inR n18_1 ∧ inR 0 ∧ ((n18_1 ≤ n18_1 ∧ n18_1 ≤ fi 19 ∧ 0 ≤ 0 ∧ 0 ≤ 100000 ∧ (n18_1 < n18_1 ∨ fa 16 n18_1 = fa 16 n18_1)) ∧ rE (fa 16) (fi 19) 48 57 n18_1 = rE (fa 16) (fi 19) 48 57 n18_1 ∧ 0 = dM (fa 16) n18_1 (n18_1 - n18_1).toNat) from ⟨(by omega), (by omega), (by exact ⟨by omega, rfl, by rw [Int.sub_self]; rfl⟩)⟩) hP hD hS hl
            rintro ⟨n18_14, n21_15⟩ ih hi9 H locs ls hP hD hS hl
            obtain ⟨r_n18_14, r_n21_15, hinv⟩ : inR n18_14 ∧ inR n21_15 ∧ ((n18_1 ≤ n18_14 ∧ n18_14 ≤ fi 19 ∧ 0 ≤ n21_15 ∧ n21_15 ≤ 100000 ∧ (n18_1 < n18_14 ∨ fa 16 n18_14 = fa 16 n18_1)) ∧ rE (fa 16) (fi 19) 48 57 n18_14 = rE (fa 16) (fi 19) 48 57 n18_1 ∧ n21_15 = dM (fa 16) n18_1 (n18_14 - n18_1).toNat) := hi9
            obtain ⟨hJ5, hJ3, hJ4⟩ := hinv
            obtain ⟨hP, hD⟩ : va_P G vwCl (wM k ar (uF (uF (uF fi 18 (n18_14)) 21 (n21_15)) 22 (n18_1)) fa fl) H ∧ va_D A (wM k ar (uF (uF (uF fi 18 (n18_14)) 21 (n21_15)) 22 (n18_1)) fa fl) := ⟨hP, hD⟩
            have hl : lv_has ls 2 [(1, .int (Int32.ofInt (c6))), (0, .ref (ar 71))] := hl
            refine lv_aload_n hx hb dX10_stepOn_123 rfl (lv_at hl 1 rfl) ?_
            refine lv_aload_n hx hb dX10_stepOn_124 rfl (lv_at hl 1 rfl) ?_
            refine va_get (D := G) (ci := 7) (v := .int (Int32.ofInt (n18_14))) (C := RX10) (T := TX10) (N := 71) (ref := RX10) hx hb hts h1w hown hX.1 hP 0 rfl rfl 18 (by decide) h0w (fun _ h9 => h9) rfl dX10_stepOn_125 ?_
            refine cr_i (va_runV (As := [.int (Int32.ofInt (n18_14))]) (rest := []) ⟨hx, hb, hml, hown, hts⟩ (mX10_byteAt l G k ar (uF (uF (uF fi 18 (n18_14)) 21 (n21_15)) 22 (n18_1)) fa fl n18_14 H.size (iF (iF (iF hR (by omega)) (by omega)) (by omega)) hRa (by omega) (show 0 ≤ n18_14 from by omega) (show (fi 19) ≤ 600 from by omega)) (cwV 1 hts (gz [.methodLink RX10 190 yX10_byteAt, .instanceMethod yX10_byteAt, .selects RX10 yX10_byteAt yX10_byteAt, .initialized RX10] (.code yX10_byteAt cX10_byteAt 2 (some .int)) [(17, 9), (17, 10), (17, 11), (0, 5), (17, 12)] rfl) rfl rfl rfl (by decide +kernel) ⟨Nat.le_of_ble_eq_true rfl, Nat.le_of_ble_eq_true rfl⟩) (cr_preV (EZ_ok k) hZ hS hX hP hD hA (ci := 7) (q0 := 0) rfl rfl) rfl rfl hl.1 rfl (lv_room (Nat.le_of_ble_eq_true rfl)) dX10_stepOn_128 ⟨Nat.le_of_ble_eq_true rfl, Nat.le_of_ble_eq_true rfl⟩) hD hS hA (fun r u H locs hp hP hD hS => ?_)
            obtain ⟨c16, rfl⟩ : ∃ z, z = u := ⟨_, rfl⟩
            obtain ⟨h9, rc16, hp16⟩ : r = Int32.ofInt c16 ∧ (inR c16) ∧ ((n18_14 < (fi 19) ∧ c16 = (fa 16) n18_14) ∨ ((fi 19) ≤ n18_14 ∧ c16 = -1)) := hp
            subst h9
            refine c0_i (va_runS (As := [.int (Int32.ofInt (c16))]) (rest := []) ⟨hx, hb, hml, hown, hts⟩ (mX10_isDigit l G k c16 H.size (by omega)) (cwS 1 hts (gz [.methodLink RX10 204 yX10_isDigit, .static yX10_isDigit, .initialized RX10] (.code yX10_isDigit cX10_isDigit 1 (some .boolean)) [(17, 16), (17, 17), (0, 5), (17, 18)] rfl) rfl rfl rfl (by decide +kernel) ⟨Nat.le_of_ble_eq_true rfl, Nat.le_of_ble_eq_true rfl⟩) (cr_pre0 (EZ_ok k) hZ hS hX hP hD hA) rfl rfl hl.1 rfl (lv_room (Nat.le_of_ble_eq_true rfl)) dX10_stepOn_131 ⟨Nat.le_of_ble_eq_true rfl, Nat.le_of_ble_eq_true rfl⟩) hP hD hS hA (fun r u H locs hp hP hD hS => ?_)
            obtain ⟨c17, rfl⟩ : ∃ z, z = u := ⟨_, rfl⟩
            obtain ⟨h9, rc17, hp17⟩ : r = Int32.ofInt c17 ∧ (inR c17) ∧ ((c17 = 1 ∧ 48 ≤ c16 ∧ c16 ≤ 57) ∨ (c17 = 0 ∧ (c16 < 48 ∨ 57 < c16))) := hp
            subst h9
            refine iv_if_eq (tgt := 178) hx hb (by omega) dX10_stepOn_134 (by decide) (fun q18 => ?_) (fun q18 => ?_)
            · refine lv_aload_n hx hb dX10_stepOn_178 rfl (lv_at hl 1 rfl) ?_
              refine lv_iconst (v := Int32.ofInt 2) hx hb dX10_stepOn_179 (by decide +kernel) ?_
              refine iv_put (ci := 7) (v := .int (Int32.ofInt (2))) (ty := .int) (C := RX10) (T := TX10) (N := 71) (ref := RX10) hx hb hts h1w tyX10 tyX10_ok nmX10 hown hX.1 hP hD hS 0 rfl rfl 20 (by decide) h3w (fun _ h9 => h9) rfl (by decide +kernel) rfl rfl (Nat.le_of_ble_eq_true rfl) (wM_F20 _ _ _ _ _) dX10_stepOn_180 (fun H locs hP hD hS => ?_)
              obtain ⟨hP, hD⟩ : va_P G vwCl (wM k ar (uF (uF (uF (uF fi 18 (n18_14)) 20 (2)) 21 (n21_15)) 22 (n18_1)) fa fl) H ∧ va_D A (wM k ar (uF (uF (uF (uF fi 18 (n18_14)) 20 (2)) 21 (n21_15)) 22 (n18_1)) fa fl) := ⟨hP, hD⟩
              refine lv_goto (tgt := 212) hx hb dX10_stepOn_183 (by decide) ?_
              refine lv_aload_n hx hb dX10_stepOn_212 rfl (lv_at hl 1 rfl) ?_
              refine lv_aload_n hx hb dX10_stepOn_213 rfl (lv_at hl 1 rfl) ?_
              refine va_get (D := G) (ci := 7) (v := .int (Int32.ofInt (n18_14))) (C := RX10) (T := TX10) (N := 71) (ref := RX10) hx hb hts h1w hown hX.1 hP 0 rfl rfl 18 (by decide) h0w (fun _ h9 => h9) rfl dX10_stepOn_214 ?_
              refine iv_put (ci := 7) (v := .int (Int32.ofInt (n18_14))) (ty := .int) (C := RX10) (T := TX10) (N := 71) (ref := RX10) hx hb hts h1w tyX10 tyX10_ok nmX10 hown hX.1 hP hD hS 0 rfl rfl 23 (by decide) h4w (fun _ h9 => h9) rfl (by decide +kernel) rfl rfl (Nat.le_of_ble_eq_true rfl) (wM_F23 _ _ _ _ _) dX10_stepOn_217 (fun H locs hP hD hS => ?_)
              exact W.vret hx hb hr (fun t ht hW => ⟨⟨(n18_14, 2, n21_15, n18_1, n18_14), rfl, (show (inR n18_14) ∧ (inR 2) ∧ (inR n21_15) ∧ (inR n18_1) ∧ (inR n18_14) ∧ ((fi 18 ≤ n18_1 ∧ n18_1 ≤ n18_14 ∧ n18_14 ≤ fi 19 ∧ n18_14 = n18_14 ∧ 0 ≤ 2 ∧ 2 ≤ 4 ∧ (¬ 2 = 0 → n18_1 < n18_14)) ∧ n18_1 = sk (fa 16) (fi 19) (fi 18) ∧ TS (fa 16) (fi 19) 0 n18_1 n18_14 2 n21_15) from ⟨(by omega), (by omega), (by omega), (by omega), (by omega), (by first | exact ⟨by omega, hK, ts_num (by omega) (by omega) hJ3 (by omega) (by omega) hJ4⟩ | exact ⟨by omega, hK, ts_word (by omega) (by omega) hJ3 (by omega) (by omega)⟩ | exact ⟨by omega, hK, ts_sign (c := c6) (by omega) (by omega) (by omega) (by omega) hM (by omega) (by omega)⟩ | exact ⟨by omega, hK, ts_end (by omega) (by omega) (by omega)⟩)⟩), by rw [ht]; exact hP, hD⟩, hS.F ht⟩) hS.2.2 dX10_stepOn_220
            · refine lv_aload_n hx hb dX10_stepOn_137 rfl (lv_at hl 1 rfl) ?_
              refine lv_ldc (v := Int32.ofInt 100000) hx hb hown h6w dX10_stepOn_138 ?_
              refine lv_bipush (v := Int32.ofInt 10) hx hb dX10_stepOn_140 (by decide +kernel) ?_
              refine lv_aload_n hx hb dX10_stepOn_142 rfl (lv_at hl 1 rfl) ?_
              refine va_get (D := G) (ci := 7) (v := .int (Int32.ofInt (n21_15))) (C := RX10) (T := TX10) (N := 71) (ref := RX10) hx hb hts h1w hown hX.1 hP 0 rfl rfl 21 (by decide) h5w (fun _ h9 => h9) rfl dX10_stepOn_143 ?_
              refine iv_mul (x := 10) (y := n21_15) hx hb dX10_stepOn_146 ?_
              refine lv_aload_n hx hb dX10_stepOn_147 rfl (lv_at hl 1 rfl) ?_
              refine lv_aload_n hx hb dX10_stepOn_148 rfl (lv_at hl 1 rfl) ?_
              refine va_get (D := G) (ci := 7) (v := .int (Int32.ofInt (n18_14))) (C := RX10) (T := TX10) (N := 71) (ref := RX10) hx hb hts h1w hown hX.1 hP 0 rfl rfl 18 (by decide) h0w (fun _ h9 => h9) rfl dX10_stepOn_149 ?_
              refine cr_i (va_runV (As := [.int (Int32.ofInt (n18_14))]) (rest := [.int (Int32.ofInt ((10 * n21_15))), .int (Int32.ofInt (100000)), .ref (ar 71)]) ⟨hx, hb, hml, hown, hts⟩ (mX10_byteAt l G k ar (uF (uF (uF fi 18 (n18_14)) 21 (n21_15)) 22 (n18_1)) fa fl n18_14 H.size (iF (iF (iF hR (by omega)) (by omega)) (by omega)) hRa (by omega) (show 0 ≤ n18_14 from by omega) (show (fi 19) ≤ 600 from by omega)) (cwV 1 hts (gz [.methodLink RX10 190 yX10_byteAt, .instanceMethod yX10_byteAt, .selects RX10 yX10_byteAt yX10_byteAt, .initialized RX10] (.code yX10_byteAt cX10_byteAt 2 (some .int)) [(17, 9), (17, 10), (17, 11), (0, 5), (17, 12)] rfl) rfl rfl rfl (by decide +kernel) ⟨Nat.le_of_ble_eq_true rfl, Nat.le_of_ble_eq_true rfl⟩) (cr_preV (EZ_ok k) hZ hS hX hP hD hA (ci := 7) (q0 := 0) rfl rfl) rfl rfl hl.1 rfl (lv_room (Nat.le_of_ble_eq_true rfl)) dX10_stepOn_152 ⟨Nat.le_of_ble_eq_true rfl, Nat.le_of_ble_eq_true rfl⟩) hD hS hA (fun r u H locs hp hP hD hS => ?_)
              obtain ⟨c19, rfl⟩ : ∃ z, z = u := ⟨_, rfl⟩
              obtain ⟨h9, rc19, hp19⟩ : r = Int32.ofInt c19 ∧ (inR c19) ∧ ((n18_14 < (fi 19) ∧ c19 = (fa 16) n18_14) ∨ ((fi 19) ≤ n18_14 ∧ c19 = -1)) := hp
              subst h9
              refine iv_add (x := (10 * n21_15)) (y := c19) hx hb dX10_stepOn_155 ?_
              refine lv_bipush (v := Int32.ofInt 48) hx hb dX10_stepOn_156 (by decide +kernel) ?_
              refine iv_sub (x := ((10 * n21_15) + c19)) (y := 48) hx hb dX10_stepOn_158 ?_
              refine iv_mmin hx hb (hml.trans hl.1.symm) hown h7w h8w h9w h10w (Nat.le_of_ble_eq_true rfl) (Nat.le_of_ble_eq_true rfl) (Nat.le_of_ble_eq_true rfl) (Nat.le_of_ble_eq_true rfl) (by omega) (by omega) dX10_stepOn_159 (fun z20 ez20 => ?_)
              have rz20 : inR z20 := by omega
              refine iv_put (ci := 7) (v := .int (Int32.ofInt (z20))) (ty := .int) (C := RX10) (T := TX10) (N := 71) (ref := RX10) hx hb hts h1w tyX10 tyX10_ok nmX10 hown hX.1 hP hD hS 0 rfl rfl 21 (by decide) h5w (fun _ h9 => h9) rfl (by decide +kernel) rfl rfl (Nat.le_of_ble_eq_true rfl) (wM_F21 _ _ _ _ _) dX10_stepOn_162 (fun H locs hP hD hS => ?_)
              obtain ⟨hP, hD⟩ : va_P G vwCl (wM k ar (uF (uF (uF fi 18 (n18_14)) 21 (z20)) 22 (n18_1)) fa fl) H ∧ va_D A (wM k ar (uF (uF (uF fi 18 (n18_14)) 21 (z20)) 22 (n18_1)) fa fl) := ⟨hP, hD⟩
              refine lv_aload_n hx hb dX10_stepOn_165 rfl (lv_at hl 1 rfl) ?_
              refine lv_dup hx hb dX10_stepOn_166 rfl ?_
              refine va_get (D := G) (ci := 7) (v := .int (Int32.ofInt (n18_14))) (C := RX10) (T := TX10) (N := 71) (ref := RX10) hx hb hts h1w hown hX.1 hP 0 rfl rfl 18 (by decide) h0w (fun _ h9 => h9) rfl dX10_stepOn_167 ?_
              refine lv_iconst (v := Int32.ofInt 1) hx hb dX10_stepOn_170 (by decide +kernel) ?_
              refine iv_add (x := n18_14) (y := 1) hx hb dX10_stepOn_171 ?_
              refine iv_put (ci := 7) (v := .int (Int32.ofInt ((n18_14 + 1)))) (ty := .int) (C := RX10) (T := TX10) (N := 71) (ref := RX10) hx hb hts h1w tyX10 tyX10_ok nmX10 hown hX.1 hP hD hS 0 rfl rfl 18 (by decide) h0w (fun _ h9 => h9) rfl (by decide +kernel) rfl rfl (Nat.le_of_ble_eq_true rfl) (wM_F18 _ _ _ _ _) dX10_stepOn_172 (fun H locs hP hD hS => ?_)
              obtain ⟨hP, hD⟩ : va_P G vwCl (wM k ar (uF (uF (uF fi 18 ((n18_14 + 1))) 21 (z20)) 22 (n18_1)) fa fl) H ∧ va_D A (wM k ar (uF (uF (uF fi 18 ((n18_14 + 1))) 21 (z20)) 22 (n18_1)) fa fl) := ⟨hP, hD⟩
              refine lv_goto (tgt := 123) hx hb dX10_stepOn_175 (by decide) ?_
              have hl : lv_has ls 2 [(1, .int (Int32.ofInt (c6))), (0, .ref (ar 71))] := lv_sub hl [0, 1] rfl
              exact ih ((n18_14 + 1), z20) (show (fi 19 - (n18_14 + 1)).toNat < (fi 19 - n18_14).toNat from by omega) (show inR (n18_14 + 1) ∧ inR z20 ∧ ((n18_1 ≤ (n18_14 + 1) ∧ (n18_14 + 1) ≤ fi 19 ∧ 0 ≤ z20 ∧ z20 ≤ 100000 ∧ (n18_1 < (n18_14 + 1) ∨ fa 16 (n18_14 + 1) = fa 16 n18_1)) ∧ rE (fa 16) (fi 19) 48 57 (n18_14 + 1) = rE (fa 16) (fi 19) 48 57 n18_1 ∧ z20 = dM (fa 16) n18_1 ((n18_14 + 1) - n18_1).toNat) from ⟨(by omega), (by omega), (by exact ⟨by omega, (rE_step (by omega) (by omega)).symm.trans hJ3, dM_step (by omega) hJ4 (by omega)⟩)⟩) _ _ _ hP hD hS hl
        · refine iv_loop (α := Int) (nL := 2) (fun b9 => (wM k ar (uF (uF fi 18 (b9)) 22 (n18_1)) fa fl)) (fun b9 => [(1, .int (Int32.ofInt (c6))), (0, .ref (ar 71))]) (fun b9 => (fi 19 - b9).toNat) (fun b9 => inR b9 ∧ ((n18_1 ≤ b9 ∧ b9 ≤ fi 19 ∧ (n18_1 < b9 ∨ fa 16 b9 = fa 16 n18_1)) ∧ rE (fa 16) (fi 19) 97 122 b9 = rE (fa 16) (fi 19) 97 122 n18_1)) ?_ (n18_1) (show inR n18_1 ∧ ((n18_1 ≤ n18_1 ∧ n18_1 ≤ fi 19 ∧ (n18_1 < n18_1 ∨ fa 16 n18_1 = fa 16 n18_1)) ∧ rE (fa 16) (fi 19) 97 122 n18_1 = rE (fa 16) (fi 19) 97 122 n18_1) from ⟨(by omega), (by exact ⟨by omega, rfl⟩)⟩) hP hD hS hl
          intro n18_21 ih hi9 H locs ls hP hD hS hl
          obtain ⟨r_n18_21, hinv⟩ : inR n18_21 ∧ ((n18_1 ≤ n18_21 ∧ n18_21 ≤ fi 19 ∧ (n18_1 < n18_21 ∨ fa 16 n18_21 = fa 16 n18_1)) ∧ rE (fa 16) (fi 19) 97 122 n18_21 = rE (fa 16) (fi 19) 97 122 n18_1) := hi9
          obtain ⟨hJ5, hJ3⟩ := hinv
          obtain ⟨hP, hD⟩ : va_P G vwCl (wM k ar (uF (uF fi 18 (n18_21)) 22 (n18_1)) fa fl) H ∧ va_D A (wM k ar (uF (uF fi 18 (n18_21)) 22 (n18_1)) fa fl) := ⟨hP, hD⟩
          have hl : lv_has ls 2 [(1, .int (Int32.ofInt (c6))), (0, .ref (ar 71))] := hl
          refine lv_aload_n hx hb dX10_stepOn_76 rfl (lv_at hl 1 rfl) ?_
          refine lv_aload_n hx hb dX10_stepOn_77 rfl (lv_at hl 1 rfl) ?_
          refine va_get (D := G) (ci := 7) (v := .int (Int32.ofInt (n18_21))) (C := RX10) (T := TX10) (N := 71) (ref := RX10) hx hb hts h1w hown hX.1 hP 0 rfl rfl 18 (by decide) h0w (fun _ h9 => h9) rfl dX10_stepOn_78 ?_
          refine cr_i (va_runV (As := [.int (Int32.ofInt (n18_21))]) (rest := []) ⟨hx, hb, hml, hown, hts⟩ (mX10_byteAt l G k ar (uF (uF fi 18 (n18_21)) 22 (n18_1)) fa fl n18_21 H.size (iF (iF hR (by omega)) (by omega)) hRa (by omega) (show 0 ≤ n18_21 from by omega) (show (fi 19) ≤ 600 from by omega)) (cwV 1 hts (gz [.methodLink RX10 190 yX10_byteAt, .instanceMethod yX10_byteAt, .selects RX10 yX10_byteAt yX10_byteAt, .initialized RX10] (.code yX10_byteAt cX10_byteAt 2 (some .int)) [(17, 9), (17, 10), (17, 11), (0, 5), (17, 12)] rfl) rfl rfl rfl (by decide +kernel) ⟨Nat.le_of_ble_eq_true rfl, Nat.le_of_ble_eq_true rfl⟩) (cr_preV (EZ_ok k) hZ hS hX hP hD hA (ci := 7) (q0 := 0) rfl rfl) rfl rfl hl.1 rfl (lv_room (Nat.le_of_ble_eq_true rfl)) dX10_stepOn_81 ⟨Nat.le_of_ble_eq_true rfl, Nat.le_of_ble_eq_true rfl⟩) hD hS hA (fun r u H locs hp hP hD hS => ?_)
          obtain ⟨c22, rfl⟩ : ∃ z, z = u := ⟨_, rfl⟩
          obtain ⟨h9, rc22, hp22⟩ : r = Int32.ofInt c22 ∧ (inR c22) ∧ ((n18_21 < (fi 19) ∧ c22 = (fa 16) n18_21) ∨ ((fi 19) ≤ n18_21 ∧ c22 = -1)) := hp
          subst h9
          refine c0_i (va_runS (As := [.int (Int32.ofInt (c22))]) (rest := []) ⟨hx, hb, hml, hown, hts⟩ (mX10_isLetter l G k c22 H.size (by omega)) (cwS 1 hts (gz [.methodLink RX10 200 yX10_isLetter, .static yX10_isLetter, .initialized RX10] (.code yX10_isLetter cX10_isLetter 1 (some .boolean)) [(17, 13), (17, 14), (0, 5), (17, 15)] rfl) rfl rfl rfl (by decide +kernel) ⟨Nat.le_of_ble_eq_true rfl, Nat.le_of_ble_eq_true rfl⟩) (cr_pre0 (EZ_ok k) hZ hS hX hP hD hA) rfl rfl hl.1 rfl (lv_room (Nat.le_of_ble_eq_true rfl)) dX10_stepOn_84 ⟨Nat.le_of_ble_eq_true rfl, Nat.le_of_ble_eq_true rfl⟩) hP hD hS hA (fun r u H locs hp hP hD hS => ?_)
          obtain ⟨c23, rfl⟩ : ∃ z, z = u := ⟨_, rfl⟩
          obtain ⟨h9, rc23, hp23⟩ : r = Int32.ofInt c23 ∧ (inR c23) ∧ ((c23 = 1 ∧ 97 ≤ c22 ∧ c22 ≤ 122) ∨ (c23 = 0 ∧ (c22 < 97 ∨ 122 < c22))) := hp
          subst h9
          refine iv_if_eq (tgt := 103) hx hb (by omega) dX10_stepOn_87 (by decide) (fun q24 => ?_) (fun q24 => ?_)
          · refine lv_aload_n hx hb dX10_stepOn_103 rfl (lv_at hl 1 rfl) ?_
            refine lv_iconst (v := Int32.ofInt 1) hx hb dX10_stepOn_104 (by decide +kernel) ?_
            refine iv_put (ci := 7) (v := .int (Int32.ofInt (1))) (ty := .int) (C := RX10) (T := TX10) (N := 71) (ref := RX10) hx hb hts h1w tyX10 tyX10_ok nmX10 hown hX.1 hP hD hS 0 rfl rfl 20 (by decide) h3w (fun _ h9 => h9) rfl (by decide +kernel) rfl rfl (Nat.le_of_ble_eq_true rfl) (wM_F20 _ _ _ _ _) dX10_stepOn_105 (fun H locs hP hD hS => ?_)
            obtain ⟨hP, hD⟩ : va_P G vwCl (wM k ar (uF (uF (uF fi 18 (n18_21)) 20 (1)) 22 (n18_1)) fa fl) H ∧ va_D A (wM k ar (uF (uF (uF fi 18 (n18_21)) 20 (1)) 22 (n18_1)) fa fl) := ⟨hP, hD⟩
            refine lv_goto (tgt := 212) hx hb dX10_stepOn_108 (by decide) ?_
            refine lv_aload_n hx hb dX10_stepOn_212 rfl (lv_at hl 1 rfl) ?_
            refine lv_aload_n hx hb dX10_stepOn_213 rfl (lv_at hl 1 rfl) ?_
            refine va_get (D := G) (ci := 7) (v := .int (Int32.ofInt (n18_21))) (C := RX10) (T := TX10) (N := 71) (ref := RX10) hx hb hts h1w hown hX.1 hP 0 rfl rfl 18 (by decide) h0w (fun _ h9 => h9) rfl dX10_stepOn_214 ?_
            refine iv_put (ci := 7) (v := .int (Int32.ofInt (n18_21))) (ty := .int) (C := RX10) (T := TX10) (N := 71) (ref := RX10) hx hb hts h1w tyX10 tyX10_ok nmX10 hown hX.1 hP hD hS 0 rfl rfl 23 (by decide) h4w (fun _ h9 => h9) rfl (by decide +kernel) rfl rfl (Nat.le_of_ble_eq_true rfl) (wM_F23 _ _ _ _ _) dX10_stepOn_217 (fun H locs hP hD hS => ?_)
            exact W.vret hx hb hr (fun t ht hW => ⟨⟨(n18_21, 1, fi 21, n18_1, n18_21), rfl, (show (inR n18_21) ∧ (inR 1) ∧ (inR (fi 21)) ∧ (inR n18_1) ∧ (inR n18_21) ∧ ((fi 18 ≤ n18_1 ∧ n18_1 ≤ n18_21 ∧ n18_21 ≤ fi 19 ∧ n18_21 = n18_21 ∧ 0 ≤ 1 ∧ 1 ≤ 4 ∧ (¬ 1 = 0 → n18_1 < n18_21)) ∧ n18_1 = sk (fa 16) (fi 19) (fi 18) ∧ TS (fa 16) (fi 19) 0 n18_1 n18_21 1 (fi 21)) from ⟨(by omega), (by omega), (hR 21), (by omega), (by omega), (by first | exact ⟨by omega, hK, ts_num (by omega) (by omega) hJ3 (by omega) (by omega) hJ4⟩ | exact ⟨by omega, hK, ts_word (by omega) (by omega) hJ3 (by omega) (by omega)⟩ | exact ⟨by omega, hK, ts_sign (c := c6) (by omega) (by omega) (by omega) (by omega) hM (by omega) (by omega)⟩ | exact ⟨by omega, hK, ts_end (by omega) (by omega) (by omega)⟩)⟩), by rw [ht]; exact hP, hD⟩, hS.F ht⟩) hS.2.2 dX10_stepOn_220
          · refine lv_aload_n hx hb dX10_stepOn_90 rfl (lv_at hl 1 rfl) ?_
            refine lv_dup hx hb dX10_stepOn_91 rfl ?_
            refine va_get (D := G) (ci := 7) (v := .int (Int32.ofInt (n18_21))) (C := RX10) (T := TX10) (N := 71) (ref := RX10) hx hb hts h1w hown hX.1 hP 0 rfl rfl 18 (by decide) h0w (fun _ h9 => h9) rfl dX10_stepOn_92 ?_
            refine lv_iconst (v := Int32.ofInt 1) hx hb dX10_stepOn_95 (by decide +kernel) ?_
            refine iv_add (x := n18_21) (y := 1) hx hb dX10_stepOn_96 ?_
            refine iv_put (ci := 7) (v := .int (Int32.ofInt ((n18_21 + 1)))) (ty := .int) (C := RX10) (T := TX10) (N := 71) (ref := RX10) hx hb hts h1w tyX10 tyX10_ok nmX10 hown hX.1 hP hD hS 0 rfl rfl 18 (by decide) h0w (fun _ h9 => h9) rfl (by decide +kernel) rfl rfl (Nat.le_of_ble_eq_true rfl) (wM_F18 _ _ _ _ _) dX10_stepOn_97 (fun H locs hP hD hS => ?_)
            obtain ⟨hP, hD⟩ : va_P G vwCl (wM k ar (uF (uF fi 18 ((n18_21 + 1))) 22 (n18_1)) fa fl) H ∧ va_D A (wM k ar (uF (uF fi 18 ((n18_21 + 1))) 22 (n18_1)) fa fl) := ⟨hP, hD⟩
            refine lv_goto (tgt := 76) hx hb dX10_stepOn_100 (by decide) ?_
            have hl : lv_has ls 2 [(1, .int (Int32.ofInt (c6))), (0, .ref (ar 71))] := lv_sub hl [0, 1] rfl
            exact ih ((n18_21 + 1)) (show (fi 19 - (n18_21 + 1)).toNat < (fi 19 - n18_21).toNat from by omega) (show inR (n18_21 + 1) ∧ ((n18_1 ≤ (n18_21 + 1) ∧ (n18_21 + 1) ≤ fi 19 ∧ (n18_1 < (n18_21 + 1) ∨ fa 16 (n18_21 + 1) = fa 16 n18_1)) ∧ rE (fa 16) (fi 19) 97 122 (n18_21 + 1) = rE (fa 16) (fi 19) 97 122 n18_1) from ⟨(by omega), (by exact ⟨by omega, (rE_step (by omega) (by omega)).symm.trans hJ3⟩)⟩) _ _ _ hP hD hS hl
      · refine lv_aload_n hx hb dX10_stepOn_61 rfl (lv_at hl 1 rfl) ?_
        refine lv_iconst (v := Int32.ofInt 0) hx hb dX10_stepOn_62 (by decide +kernel) ?_
        refine iv_put (ci := 7) (v := .int (Int32.ofInt (0))) (ty := .int) (C := RX10) (T := TX10) (N := 71) (ref := RX10) hx hb hts h1w tyX10 tyX10_ok nmX10 hown hX.1 hP hD hS 0 rfl rfl 20 (by decide) h3w (fun _ h9 => h9) rfl (by decide +kernel) rfl rfl (Nat.le_of_ble_eq_true rfl) (wM_F20 _ _ _ _ _) dX10_stepOn_63 (fun H locs hP hD hS => ?_)
        obtain ⟨hP, hD⟩ : va_P G vwCl (wM k ar (uF (uF (uF fi 18 (n18_1)) 20 (0)) 22 (n18_1)) fa fl) H ∧ va_D A (wM k ar (uF (uF (uF fi 18 (n18_1)) 20 (0)) 22 (n18_1)) fa fl) := ⟨hP, hD⟩
        refine lv_goto (tgt := 212) hx hb dX10_stepOn_66 (by decide) ?_
        refine lv_aload_n hx hb dX10_stepOn_212 rfl (lv_at hl 1 rfl) ?_
        refine lv_aload_n hx hb dX10_stepOn_213 rfl (lv_at hl 1 rfl) ?_
        refine va_get (D := G) (ci := 7) (v := .int (Int32.ofInt (n18_1))) (C := RX10) (T := TX10) (N := 71) (ref := RX10) hx hb hts h1w hown hX.1 hP 0 rfl rfl 18 (by decide) h0w (fun _ h9 => h9) rfl dX10_stepOn_214 ?_
        refine iv_put (ci := 7) (v := .int (Int32.ofInt (n18_1))) (ty := .int) (C := RX10) (T := TX10) (N := 71) (ref := RX10) hx hb hts h1w tyX10 tyX10_ok nmX10 hown hX.1 hP hD hS 0 rfl rfl 23 (by decide) h4w (fun _ h9 => h9) rfl (by decide +kernel) rfl rfl (Nat.le_of_ble_eq_true rfl) (wM_F23 _ _ _ _ _) dX10_stepOn_217 (fun H locs hP hD hS => ?_)
        exact W.vret hx hb hr (fun t ht hW => ⟨⟨(n18_1, 0, fi 21, n18_1, n18_1), rfl, (show (inR n18_1) ∧ (inR 0) ∧ (inR (fi 21)) ∧ (inR n18_1) ∧ (inR n18_1) ∧ ((fi 18 ≤ n18_1 ∧ n18_1 ≤ n18_1 ∧ n18_1 ≤ fi 19 ∧ n18_1 = n18_1 ∧ 0 ≤ 0 ∧ 0 ≤ 4 ∧ (¬ 0 = 0 → n18_1 < n18_1)) ∧ n18_1 = sk (fa 16) (fi 19) (fi 18) ∧ TS (fa 16) (fi 19) 0 n18_1 n18_1 0 (fi 21)) from ⟨(by omega), (by omega), (hR 21), (by omega), (by omega), (by first | exact ⟨by omega, hK, ts_num (by omega) (by omega) hJ3 (by omega) (by omega) hJ4⟩ | exact ⟨by omega, hK, ts_word (by omega) (by omega) hJ3 (by omega) (by omega)⟩ | exact ⟨by omega, hK, ts_sign (c := c6) (by omega) (by omega) (by omega) (by omega) hM (by omega) (by omega)⟩ | exact ⟨by omega, hK, ts_end (by omega) (by omega) (by omega)⟩)⟩), by rw [ht]; exact hP, hD⟩, hS.F ht⟩) hS.2.2 dX10_stepOn_220
    · refine lv_aload_n hx hb dX10_stepOn_26 rfl (lv_at hl 0 rfl) ?_
      refine lv_dup hx hb dX10_stepOn_27 rfl ?_
      refine va_get (D := G) (ci := 7) (v := .int (Int32.ofInt (n18_1))) (C := RX10) (T := TX10) (N := 71) (ref := RX10) hx hb hts h1w hown hX.1 hP 0 rfl rfl 18 (by decide) h0w (fun _ h9 => h9) rfl dX10_stepOn_28 ?_
      refine lv_iconst (v := Int32.ofInt 1) hx hb dX10_stepOn_31 (by decide +kernel) ?_
      refine iv_add (x := n18_1) (y := 1) hx hb dX10_stepOn_32 ?_
      refine iv_put (ci := 7) (v := .int (Int32.ofInt ((n18_1 + 1)))) (ty := .int) (C := RX10) (T := TX10) (N := 71) (ref := RX10) hx hb hts h1w tyX10 tyX10_ok nmX10 hown hX.1 hP hD hS 0 rfl rfl 18 (by decide) h0w (fun _ h9 => h9) rfl (by decide +kernel) rfl rfl (Nat.le_of_ble_eq_true rfl) (wM_F18 _ _ _ _ _) dX10_stepOn_33 (fun H locs hP hD hS => ?_)
      obtain ⟨hP, hD⟩ : va_P G vwCl (wM k ar (uF fi 18 ((n18_1 + 1))) fa fl) H ∧ va_D A (wM k ar (uF fi 18 ((n18_1 + 1))) fa fl) := ⟨hP, hD⟩
      refine lv_goto (tgt := 0) hx hb dX10_stepOn_36 (by decide) ?_
      have hl : lv_has ls 2 [(0, .ref (ar 71))] := lv_sub hl [0] rfl
      exact ih ((n18_1 + 1)) (show (fi 19 - (n18_1 + 1)).toNat < (fi 19 - n18_1).toNat from by omega) (show inR (n18_1 + 1) ∧ ((fi 18 ≤ (n18_1 + 1) ∧ (n18_1 + 1) ≤ fi 19) ∧ sk (fa 16) (fi 19) (n18_1 + 1) = sk (fa 16) (fi 19) (fi 18)) from ⟨(by omega), (by exact ⟨by omega, (sk_step (by omega) (by omega)).symm.trans hJ2⟩)⟩) _ _ _ hP hD hS hl

set_option maxHeartbeats 4000000 in
set_option maxRecDepth 100000 in
theorem mX10_wrong (l : Launch) (G : va_G) (k : Nat → ClassId) (ar : Nat → Nat) (fi : Nat → Int) (fa : Nat → Int → Int) (fl : Nat → Int64) (k0 : Int) (sz : Nat) (hR : ∀ j, inR (fi j)) (hRa : ∀ j t, inR (fa j t)) (hr_k0 : inR k0) (hk0 : ¬ k0 = 0) : CNv l G k (EZ k) yX10_wrong wzX10_wrong ({ frames := 0, cells := 0, slots := 0, locals := 0 }) [.ref (ar 71), .int (Int32.ofInt (k0))] sz (wM k ar fi fa fl) (fun (u : Int × Int) => (inR u.1) ∧ (inR u.2) ∧ (((¬ fi 24 = 0 → u.1 = fi 24) ∧ (fi 24 = 0 → u.1 = k0)) ∧ val u.1 u.2 (fi 22) = bd (val (fi 24) (fi 25) (fi 22)) (fun s => (k0, s)))) (fun (u : Int × Int) => (wM k ar (uF (uF fi 24 (u.1)) 25 (u.2)) fa fl)) := by
  refine Met.ofW (cc := cX10_wrong) (maxL := 2) (ret := none) (by decide) rfl ?_
  intro p e s m args below meth c s₁ B hml hv
  obtain ⟨rfl, hsz, hP, hX, hD0, hZ0⟩ := hv
  have hx := B.exec
  have hb := B.bytes
  have hr := B.returns
  have hts := atoms_spec (ws := wzX10_wrong) B.pre
  have hown : s.vm.findClass RX10 = some m.cls := findClass_of_methodNamed B.named
  subst hsz
  have hD := hD0.self (sz := s.heap.size)
  have hZ := hZ0
  generalize hAe : va_A (wM k ar fi fa fl) s.heap.size = A at hD hZ ⊢
  have hA : ∀ q : Nat, s.heap.size ≤ q → A q := fun q h => by rw [← hAe]; exact Or.inr h
  have hS : va_S A s.heap s.heap [] := va_S.rf
  have hl := lv_entry ([.ref (ar 71), .int (Int32.ofInt (k0))]) (n := 2) (Nat.le_of_ble_eq_true rfl)
  rw [lg_entry_eq]
  generalize (lg_sl ([.ref (ar 71), .int (Int32.ofInt (k0))]) ++ List.replicate (2 - (lg_sl ([.ref (ar 71), .int (Int32.ofInt (k0))])).length) Slot.unset).toArray = ls at hl ⊢
  have hl : lv_has ls 2 [(0, .ref (ar 71)), (1, .int (Int32.ofInt (k0)))] := hl
  obtain ⟨H, eH⟩ : ∃ H, H = s.heap := ⟨_, rfl⟩
  rw [← eH] at hP
  have hS : va_S A s.heap H [] := by rw [eH]; exact hS
  have gW : s.heap = H := eH.symm
  refine iv_heap gW ?_
  have h0w := hts (.fieldLink RX10 223 "RopeTownModel" "bad" "I") (wz_at 16 11 rfl)
  have h1w : ∀ w ∈ wsX100, w ∈ wzX10_wrong := fun w h => List.mem_cons_of_mem _ (inlX10 w h)
  have h2w := hts (.fieldLink RX10 194 "RopeTownModel" "begins" "I") (wz_at 17 1 rfl)
  have h3w := hts (.fieldLink RX10 226 "RopeTownModel" "badPlace" "I") (wz_at 16 16 rfl)
  refine lv_aload_n hx hb dX10_wrong_0 rfl (lv_at hl 0 rfl) ?_
  refine va_get (D := G) (ci := 7) (v := .int (Int32.ofInt (fi 24))) (C := RX10) (T := TX10) (N := 71) (ref := RX10) hx hb hts h1w hown hX.1 hP 0 rfl rfl 24 (by decide) h0w (fun _ h9 => h9) rfl dX10_wrong_1 ?_
  have rf24 := hR 24
  refine iv_if_eq (tgt := 8) hx hb (by omega) dX10_wrong_4 (by decide) (fun q1 => ?_) (fun q1 => ?_)
  · refine lv_aload_n hx hb dX10_wrong_8 rfl (lv_at hl 0 rfl) ?_
    refine lv_iload_n hx hb dX10_wrong_9 rfl (lv_at hl 1 rfl) ?_
    refine iv_put (ci := 7) (v := .int (Int32.ofInt (k0))) (ty := .int) (C := RX10) (T := TX10) (N := 71) (ref := RX10) hx hb hts h1w tyX10 tyX10_ok nmX10 hown hX.1 hP hD hS 0 rfl rfl 24 (by decide) h0w (fun _ h9 => h9) rfl (by decide +kernel) rfl rfl (Nat.le_of_ble_eq_true rfl) (wM_F24 _ _ _ _ _) dX10_wrong_10 (fun H locs hP hD hS => ?_)
    refine lv_aload_n hx hb dX10_wrong_13 rfl (lv_at hl 0 rfl) ?_
    refine lv_aload_n hx hb dX10_wrong_14 rfl (lv_at hl 0 rfl) ?_
    refine va_get (D := G) (ci := 7) (v := .int (Int32.ofInt (fi 22))) (C := RX10) (T := TX10) (N := 71) (ref := RX10) hx hb hts h1w hown hX.1 hP 0 rfl rfl 22 (by decide) h2w (fun _ h9 => h9) rfl dX10_wrong_15 ?_
    have rf22 := hR 22
    refine iv_put (ci := 7) (v := .int (Int32.ofInt (fi 22))) (ty := .int) (C := RX10) (T := TX10) (N := 71) (ref := RX10) hx hb hts h1w tyX10 tyX10_ok nmX10 hown hX.1 hP hD hS 0 rfl rfl 25 (by decide) h3w (fun _ h9 => h9) rfl (by decide +kernel) rfl rfl (Nat.le_of_ble_eq_true rfl) (wM_F25 _ _ _ _ _) dX10_wrong_18 (fun H locs hP hD hS => ?_)
    exact W.vret hx hb hr (fun t ht hW => ⟨⟨(k0, fi 22), rfl, (show (inR k0) ∧ (inR (fi 22)) ∧ (((¬ fi 24 = 0 → k0 = fi 24) ∧ (fi 24 = 0 → k0 = k0)) ∧ val k0 (fi 22) (fi 22) = bd (val (fi 24) (fi 25) (fi 22)) (fun s => (k0, s))) from ⟨(by omega), (hR 22), (by exact ⟨by omega, fv_wrong (by omega) (by omega) hk0⟩)⟩), by rw [ht]; exact hP, hD⟩, hS.F ht⟩) hS.2.2 dX10_wrong_21
  · exact W.vret hx hb hr (fun t ht hW => ⟨⟨(fi 24, fi 25), rfl, (show (inR (fi 24)) ∧ (inR (fi 25)) ∧ (((¬ fi 24 = 0 → (fi 24) = fi 24) ∧ (fi 24 = 0 → (fi 24) = k0)) ∧ val (fi 24) (fi 25) (fi 22) = bd (val (fi 24) (fi 25) (fi 22)) (fun s => (k0, s))) from ⟨(hR 24), (hR 25), (by exact ⟨by omega, fv_wrong (by omega) (by omega) hk0⟩)⟩), by rw [ht]; exact hP, hD⟩, hS.F ht⟩) hS.2.2 dX10_wrong_7

set_option maxHeartbeats 4000000 in
set_option maxRecDepth 100000 in
theorem mX10_isMarked (l : Launch) (G : va_G) (k : Nat → ClassId) (ar : Nat → Nat) (fi : Nat → Int) (fa : Nat → Int → Int) (fl : Nat → Int64) (c0 : Int) (sz : Nat) (hR : ∀ j, inR (fi j)) (hRa : ∀ j t, inR (fa j t)) (hr_c0 : inR c0) (ht : fi 20 = 3 → 0 ≤ fi 22 ∧ fi 22 < 600) (hty : TS (fa 16) (fi 19) (fi 24) (fi 22) (fi 23) (fi 20) (fi 21)) : CNi l G k (EZ k) yX10_isMarked wzX10_isMarked ({ frames := 0, cells := 0, slots := 0, locals := 0 }) [.ref (ar 71), .int (Int32.ofInt (c0))] sz (wM k ar fi fa fl) (fun (r0 : Int32) (u : Int) => r0 = Int32.ofInt (u) ∧ (inR u) ∧ (((u = 0 ∨ u = 1) ∧ (u = 1 → fi 24 = 0 ∧ fi 20 = 3)) ∧ Isr u (fi 24) (isM (fa 16) (fi 19) c0 (fi 22)))) (fun (u : Int) => (wM k ar fi fa fl)) := by
  refine Met.ofW (cc := cX10_isMarked) (maxL := 2) (ret := (some .boolean)) (by decide) rfl ?_
  intro p e s m args below meth c s₁ B hml hv
  obtain ⟨rfl, hsz, hP, hX, hD0, hZ0⟩ := hv
  have hx := B.exec
  have hb := B.bytes
  have hr := B.returns
  have hts := atoms_spec (ws := wzX10_isMarked) B.pre
  have hown : s.vm.findClass RX10 = some m.cls := findClass_of_methodNamed B.named
  subst hsz
  have hD := hD0.self (sz := s.heap.size)
  have hZ := hZ0
  generalize hAe : va_A (wM k ar fi fa fl) s.heap.size = A at hD hZ ⊢
  have hA : ∀ q : Nat, s.heap.size ≤ q → A q := fun q h => by rw [← hAe]; exact Or.inr h
  have hS : va_S A s.heap s.heap [] := va_S.rf
  have hl := lv_entry ([.ref (ar 71), .int (Int32.ofInt (c0))]) (n := 2) (Nat.le_of_ble_eq_true rfl)
  rw [lg_entry_eq]
  generalize (lg_sl ([.ref (ar 71), .int (Int32.ofInt (c0))]) ++ List.replicate (2 - (lg_sl ([.ref (ar 71), .int (Int32.ofInt (c0))])).length) Slot.unset).toArray = ls at hl ⊢
  have hl : lv_has ls 2 [(0, .ref (ar 71)), (1, .int (Int32.ofInt (c0)))] := hl
  obtain ⟨H, eH⟩ : ∃ H, H = s.heap := ⟨_, rfl⟩
  rw [← eH] at hP
  have hS : va_S A s.heap H [] := by rw [eH]; exact hS
  have gW : s.heap = H := eH.symm
  refine iv_heap gW ?_
  have h0w := hts (.fieldLink RX10 223 "RopeTownModel" "bad" "I") (wz_at 16 11 rfl)
  have h1w : ∀ w ∈ wsX100, w ∈ wzX10_isMarked := fun w h => List.mem_cons_of_mem _ (inlX10 w h)
  have h2w := hts (.fieldLink RX10 197 "RopeTownModel" "token" "I") (wz_at 16 15 rfl)
  have h3w := hts (.fieldLink RX10 80 "RopeTownModel" "tape" "[I") (wz_at 6 15 rfl)
  have h4w := hts (.fieldLink RX10 194 "RopeTownModel" "begins" "I") (wz_at 17 1 rfl)
  refine lv_aload_n hx hb dX10_isMarked_0 rfl (lv_at hl 0 rfl) ?_
  refine va_get (D := G) (ci := 7) (v := .int (Int32.ofInt (fi 24))) (C := RX10) (T := TX10) (N := 71) (ref := RX10) hx hb hts h1w hown hX.1 hP 0 rfl rfl 24 (by decide) h0w (fun _ h9 => h9) rfl dX10_isMarked_1 ?_
  have rf24 := hR 24
  refine iv_if_ne (tgt := 32) hx hb (by omega) dX10_isMarked_4 (by decide) (fun q1 => ?_) (fun q1 => ?_)
  · refine lv_iconst (v := Int32.ofInt 0) hx hb dX10_isMarked_32 (by decide +kernel) ?_
    exact W.zret (v := Int32.ofInt (0)) hx hb hr (nz_bool (by omega)) (fun t ht hW => ⟨⟨Int32.ofInt (0), (0), rfl, ⟨rfl, (show (inR 0) ∧ (((0 = 0 ∨ 0 = 1) ∧ (0 = 1 → fi 24 = 0 ∧ fi 20 = 3)) ∧ Isr 0 (fi 24) (isM (fa 16) (fi 19) c0 (fi 22))) from ⟨(by omega), (by exact ⟨by omega, isr_mark hty (by omega)⟩)⟩)⟩, by rw [ht]; exact hP, hD⟩, hS.F ht⟩) hS.2.2 dX10_isMarked_33
  · refine lv_aload_n hx hb dX10_isMarked_7 rfl (lv_at hl 0 rfl) ?_
    refine va_get (D := G) (ci := 7) (v := .int (Int32.ofInt (fi 20))) (C := RX10) (T := TX10) (N := 71) (ref := RX10) hx hb hts h1w hown hX.1 hP 0 rfl rfl 20 (by decide) h2w (fun _ h9 => h9) rfl dX10_isMarked_8 ?_
    have rf20 := hR 20
    refine lv_iconst (v := Int32.ofInt 3) hx hb dX10_isMarked_11 (by decide +kernel) ?_
    refine iv_icmp_ne (tgt := 32) hx hb (by omega) (by omega) dX10_isMarked_12 (by decide) (fun q2 => ?_) (fun q2 => ?_)
    · refine lv_iconst (v := Int32.ofInt 0) hx hb dX10_isMarked_32 (by decide +kernel) ?_
      exact W.zret (v := Int32.ofInt (0)) hx hb hr (nz_bool (by omega)) (fun t ht hW => ⟨⟨Int32.ofInt (0), (0), rfl, ⟨rfl, (show (inR 0) ∧ (((0 = 0 ∨ 0 = 1) ∧ (0 = 1 → fi 24 = 0 ∧ fi 20 = 3)) ∧ Isr 0 (fi 24) (isM (fa 16) (fi 19) c0 (fi 22))) from ⟨(by omega), (by exact ⟨by omega, isr_mark hty (by omega)⟩)⟩)⟩, by rw [ht]; exact hP, hD⟩, hS.F ht⟩) hS.2.2 dX10_isMarked_33
    · refine lv_aload_n hx hb dX10_isMarked_15 rfl (lv_at hl 0 rfl) ?_
      refine va_get (D := G) (ci := 7) (v := .ref (ar 16)) (C := RX10) (T := TX10) (N := 71) (ref := RX10) hx hb hts h1w hown hX.1 hP 0 rfl rfl 16 (by decide) h3w (fun _ h9 => h9) rfl dX10_isMarked_16 ?_
      refine lv_aload_n hx hb dX10_isMarked_19 rfl (lv_at hl 0 rfl) ?_
      refine va_get (D := G) (ci := 7) (v := .int (Int32.ofInt (fi 22))) (C := RX10) (T := TX10) (N := 71) (ref := RX10) hx hb hts h1w hown hX.1 hP 0 rfl rfl 22 (by decide) h4w (fun _ h9 => h9) rfl dX10_isMarked_20 ?_
      have rf22 := hR 22
      refine iv_iald hx hb hX.1 hP 10 0 rfl rfl (by omega) (by omega) (by decide) dX10_isMarked_23 ?_
      refine iv_top (fun z3 ez3 => ?_)
      have rz3 : inR z3 := ez3 ▸ (hRa 16) _
      have ez3 : z3 = (fa 16) (fi 22) := ez3
      refine lv_iload_n hx hb dX10_isMarked_24 rfl (lv_at hl 1 rfl) ?_
      refine iv_icmp_ne (tgt := 32) hx hb (by omega) (by omega) dX10_isMarked_25 (by decide) (fun q4 => ?_) (fun q4 => ?_)
      · refine lv_iconst (v := Int32.ofInt 0) hx hb dX10_isMarked_32 (by decide +kernel) ?_
        exact W.zret (v := Int32.ofInt (0)) hx hb hr (nz_bool (by omega)) (fun t ht hW => ⟨⟨Int32.ofInt (0), (0), rfl, ⟨rfl, (show (inR 0) ∧ (((0 = 0 ∨ 0 = 1) ∧ (0 = 1 → fi 24 = 0 ∧ fi 20 = 3)) ∧ Isr 0 (fi 24) (isM (fa 16) (fi 19) c0 (fi 22))) from ⟨(by omega), (by exact ⟨by omega, isr_mark hty (by omega)⟩)⟩)⟩, by rw [ht]; exact hP, hD⟩, hS.F ht⟩) hS.2.2 dX10_isMarked_33
      · refine lv_iconst (v := Int32.ofInt 1) hx hb dX10_isMarked_28 (by decide +kernel) ?_
        refine lv_goto (tgt := 33) hx hb dX10_isMarked_29 (by decide) ?_
        exact W.zret (v := Int32.ofInt (1)) hx hb hr (nz_bool (by omega)) (fun t ht hW => ⟨⟨Int32.ofInt (1), (1), rfl, ⟨rfl, (show (inR 1) ∧ (((1 = 0 ∨ 1 = 1) ∧ (1 = 1 → fi 24 = 0 ∧ fi 20 = 3)) ∧ Isr 1 (fi 24) (isM (fa 16) (fi 19) c0 (fi 22))) from ⟨(by omega), (by exact ⟨by omega, isr_mark hty (by omega)⟩)⟩)⟩, by rw [ht]; exact hP, hD⟩, hS.F ht⟩) hS.2.2 dX10_isMarked_33
