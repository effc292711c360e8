set_option maxHeartbeats 4000000 in
set_option maxRecDepth 100000 in
theorem mX5_joined (l : Launch) (G : va_G) (k : Nat → ClassId) (o0 : Int) (l0 : Int) (r0 : Int) (sz : Nat) (hr_o0 : inR o0) (hr_l0 : inR l0) (hr_r0 : inR r0) : CNi l G k (EZ k) yX5_joined wzX5_joined ({ frames := 0, cells := 0, slots := 0, locals := 0 }) [.int (Int32.ofInt (o0)), .int (Int32.ofInt (l0)), .int (Int32.ofInt (r0))] sz [] (fun (r0 : Int32) (u : Int) => r0 = Int32.ofInt (u) ∧ (inR u) ∧ (True)) (fun (u : Int) => []) := by
  refine Met.ofW (cc := cX5_joined) (maxL := 3) (ret := (some .int)) (by decide) rfl ?_
  intro p e s m args below meth c s₁ B hml hv
  obtain ⟨rfl, hsz, hP, hX, hD0, hZ0⟩ := hv
  have hx := B.exec
  have hb := B.bytes
  have hr := B.returns
  have hts := atoms_spec (ws := wzX5_joined) B.pre
  have hown : s.vm.findClass RX5 = some m.cls := findClass_of_methodNamed B.named
  subst hsz
  have hD := hD0.self (sz := s.heap.size)
  have hZ := hZ0
  generalize hAe : va_A [] s.heap.size = A at hD hZ ⊢
  have hA : ∀ q : Nat, s.heap.size ≤ q → A q := fun q h => by rw [← hAe]; exact Or.inr h
  have hS : va_S A s.heap s.heap [] := va_S.rf
  have hl := lv_entry ([.int (Int32.ofInt (o0)), .int (Int32.ofInt (l0)), .int (Int32.ofInt (r0))]) (n := 3) (Nat.le_of_ble_eq_true rfl)
  rw [lg_entry_eq]
  generalize (lg_sl ([.int (Int32.ofInt (o0)), .int (Int32.ofInt (l0)), .int (Int32.ofInt (r0))]) ++ List.replicate (3 - (lg_sl ([.int (Int32.ofInt (o0)), .int (Int32.ofInt (l0)), .int (Int32.ofInt (r0))])).length) Slot.unset).toArray = ls at hl ⊢
  have hl : lv_has ls 3 [(0, .int (Int32.ofInt (o0))), (1, .int (Int32.ofInt (l0))), (2, .int (Int32.ofInt (r0)))] := hl
  obtain ⟨H, eH⟩ : ∃ H, H = s.heap := ⟨_, rfl⟩
  rw [← eH] at hP
  have hS : va_S A s.heap H [] := by rw [eH]; exact hS
  have gW : s.heap = H := eH.symm
  refine iv_heap gW ?_
  refine lv_iload_n hx hb dX5_joined_0 rfl (lv_at hl 0 rfl) ?_
  obtain q1 | q1 | q1 | q1 | q1 | q1 | q1 | q1 | q1 | q1 | q1 | q1 | q1 | q1 | q1 | q1 | q1 | q1 | q1 | q1 | q1 | q1 | q1 | q1 | q1 : (o0 < 38 ∨ 61 < o0) ∨ o0 = 38 ∨ o0 = 39 ∨ o0 = 40 ∨ o0 = 41 ∨ o0 = 42 ∨ o0 = 43 ∨ o0 = 44 ∨ o0 = 45 ∨ o0 = 46 ∨ o0 = 47 ∨ o0 = 48 ∨ o0 = 49 ∨ o0 = 50 ∨ o0 = 51 ∨ o0 = 52 ∨ o0 = 53 ∨ o0 = 54 ∨ o0 = 55 ∨ o0 = 56 ∨ o0 = 57 ∨ o0 = 58 ∨ o0 = 59 ∨ o0 = 60 ∨ o0 = 61 := by omega
  · refine lv_tableOut (tgt := 172) hx hb dX5_joined_1 (by rw [iz_toInt (by omega)]; exact q1) (by decide) ?_
    refine lv_iload_n hx hb dX5_joined_172 rfl (lv_at hl 1 rfl) ?_
    refine iv_if_ne (tgt := 180) hx hb (by omega) dX5_joined_173 (by decide) (fun q2 => ?_) (fun q2 => ?_)
    · refine lv_iconst (v := Int32.ofInt 1) hx hb dX5_joined_180 (by decide +kernel) ?_
      refine lv_goto (tgt := 185) hx hb dX5_joined_181 (by decide) ?_
      exact W.iret (v := Int32.ofInt (1)) hx hb hr (fun t ht hW => ⟨⟨Int32.ofInt (1), (1), rfl, ⟨rfl, (show (inR 1) ∧ (True) from ⟨(by omega), trivial⟩)⟩, by rw [ht]; exact hP, hD⟩, hS.F ht⟩) hS.2.2 dX5_joined_185
    · refine lv_iload_n hx hb dX5_joined_176 rfl (lv_at hl 2 rfl) ?_
      refine iv_if_eq (tgt := 184) hx hb (by omega) dX5_joined_177 (by decide) (fun q3 => ?_) (fun q3 => ?_)
      · refine lv_iconst (v := Int32.ofInt 0) hx hb dX5_joined_184 (by decide +kernel) ?_
        exact W.iret (v := Int32.ofInt (0)) hx hb hr (fun t ht hW => ⟨⟨Int32.ofInt (0), (0), rfl, ⟨rfl, (show (inR 0) ∧ (True) from ⟨(by omega), trivial⟩)⟩, by rw [ht]; exact hP, hD⟩, hS.F ht⟩) hS.2.2 dX5_joined_185
      · refine lv_iconst (v := Int32.ofInt 1) hx hb dX5_joined_180 (by decide +kernel) ?_
        refine lv_goto (tgt := 185) hx hb dX5_joined_181 (by decide) ?_
        exact W.iret (v := Int32.ofInt (1)) hx hb hr (fun t ht hW => ⟨⟨Int32.ofInt (1), (1), rfl, ⟨rfl, (show (inR 1) ∧ (True) from ⟨(by omega), trivial⟩)⟩, by rw [ht]; exact hP, hD⟩, hS.F ht⟩) hS.2.2 dX5_joined_185
  · refine lv_tableIn (tgt := 158) hx hb dX5_joined_1 (by rw [iz_toInt (by omega)]; omega) (by rw [iz_toInt (by omega)]; omega) (off := 157) (by rw [iz_toInt (by omega), q1]; decide +kernel) (by decide) ?_
    refine lv_iload_n hx hb dX5_joined_158 rfl (lv_at hl 1 rfl) ?_
    refine iv_if_eq (tgt := 170) hx hb (by omega) dX5_joined_159 (by decide) (fun q4 => ?_) (fun q4 => ?_)
    · refine lv_iconst (v := Int32.ofInt 0) hx hb dX5_joined_170 (by decide +kernel) ?_
      exact W.iret (v := Int32.ofInt (0)) hx hb hr (fun t ht hW => ⟨⟨Int32.ofInt (0), (0), rfl, ⟨rfl, (show (inR 0) ∧ (True) from ⟨(by omega), trivial⟩)⟩, by rw [ht]; exact hP, hD⟩, hS.F ht⟩) hS.2.2 dX5_joined_171
    · refine lv_iload_n hx hb dX5_joined_162 rfl (lv_at hl 2 rfl) ?_
      refine iv_if_eq (tgt := 170) hx hb (by omega) dX5_joined_163 (by decide) (fun q5 => ?_) (fun q5 => ?_)
      · refine lv_iconst (v := Int32.ofInt 0) hx hb dX5_joined_170 (by decide +kernel) ?_
        exact W.iret (v := Int32.ofInt (0)) hx hb hr (fun t ht hW => ⟨⟨Int32.ofInt (0), (0), rfl, ⟨rfl, (show (inR 0) ∧ (True) from ⟨(by omega), trivial⟩)⟩, by rw [ht]; exact hP, hD⟩, hS.F ht⟩) hS.2.2 dX5_joined_171
      · refine lv_iconst (v := Int32.ofInt 1) hx hb dX5_joined_166 (by decide +kernel) ?_
        refine lv_goto (tgt := 171) hx hb dX5_joined_167 (by decide) ?_
        exact W.iret (v := Int32.ofInt (1)) hx hb hr (fun t ht hW => ⟨⟨Int32.ofInt (1), (1), rfl, ⟨rfl, (show (inR 1) ∧ (True) from ⟨(by omega), trivial⟩)⟩, by rw [ht]; exact hP, hD⟩, hS.F ht⟩) hS.2.2 dX5_joined_171
  · refine lv_tableIn (tgt := 172) hx hb dX5_joined_1 (by rw [iz_toInt (by omega)]; omega) (by rw [iz_toInt (by omega)]; omega) (off := 171) (by rw [iz_toInt (by omega), q1]; decide +kernel) (by decide) ?_
    refine lv_iload_n hx hb dX5_joined_172 rfl (lv_at hl 1 rfl) ?_
    refine iv_if_ne (tgt := 180) hx hb (by omega) dX5_joined_173 (by decide) (fun q6 => ?_) (fun q6 => ?_)
    · refine lv_iconst (v := Int32.ofInt 1) hx hb dX5_joined_180 (by decide +kernel) ?_
      refine lv_goto (tgt := 185) hx hb dX5_joined_181 (by decide) ?_
      exact W.iret (v := Int32.ofInt (1)) hx hb hr (fun t ht hW => ⟨⟨Int32.ofInt (1), (1), rfl, ⟨rfl, (show (inR 1) ∧ (True) from ⟨(by omega), trivial⟩)⟩, by rw [ht]; exact hP, hD⟩, hS.F ht⟩) hS.2.2 dX5_joined_185
    · refine lv_iload_n hx hb dX5_joined_176 rfl (lv_at hl 2 rfl) ?_
      refine iv_if_eq (tgt := 184) hx hb (by omega) dX5_joined_177 (by decide) (fun q7 => ?_) (fun q7 => ?_)
      · refine lv_iconst (v := Int32.ofInt 0) hx hb dX5_joined_184 (by decide +kernel) ?_
        exact W.iret (v := Int32.ofInt (0)) hx hb hr (fun t ht hW => ⟨⟨Int32.ofInt (0), (0), rfl, ⟨rfl, (show (inR 0) ∧ (True) from ⟨(by omega), trivial⟩)⟩, by rw [ht]; exact hP, hD⟩, hS.F ht⟩) hS.2.2 dX5_joined_185
      · refine lv_iconst (v := Int32.ofInt 1) hx hb dX5_joined_180 (by decide +kernel) ?_
        refine lv_goto (tgt := 185) hx hb dX5_joined_181 (by decide) ?_
        exact W.iret (v := Int32.ofInt (1)) hx hb hr (fun t ht hW => ⟨⟨Int32.ofInt (1), (1), rfl, ⟨rfl, (show (inR 1) ∧ (True) from ⟨(by omega), trivial⟩)⟩, by rw [ht]; exact hP, hD⟩, hS.F ht⟩) hS.2.2 dX5_joined_185
  · refine lv_tableIn (tgt := 172) hx hb dX5_joined_1 (by rw [iz_toInt (by omega)]; omega) (by rw [iz_toInt (by omega)]; omega) (off := 171) (by rw [iz_toInt (by omega), q1]; decide +kernel) (by decide) ?_
    refine lv_iload_n hx hb dX5_joined_172 rfl (lv_at hl 1 rfl) ?_
    refine iv_if_ne (tgt := 180) hx hb (by omega) dX5_joined_173 (by decide) (fun q8 => ?_) (fun q8 => ?_)
    · refine lv_iconst (v := Int32.ofInt 1) hx hb dX5_joined_180 (by decide +kernel) ?_
      refine lv_goto (tgt := 185) hx hb dX5_joined_181 (by decide) ?_
      exact W.iret (v := Int32.ofInt (1)) hx hb hr (fun t ht hW => ⟨⟨Int32.ofInt (1), (1), rfl, ⟨rfl, (show (inR 1) ∧ (True) from ⟨(by omega), trivial⟩)⟩, by rw [ht]; exact hP, hD⟩, hS.F ht⟩) hS.2.2 dX5_joined_185
    · refine lv_iload_n hx hb dX5_joined_176 rfl (lv_at hl 2 rfl) ?_
      refine iv_if_eq (tgt := 184) hx hb (by omega) dX5_joined_177 (by decide) (fun q9 => ?_) (fun q9 => ?_)
      · refine lv_iconst (v := Int32.ofInt 0) hx hb dX5_joined_184 (by decide +kernel) ?_
        exact W.iret (v := Int32.ofInt (0)) hx hb hr (fun t ht hW => ⟨⟨Int32.ofInt (0), (0), rfl, ⟨rfl, (show (inR 0) ∧ (True) from ⟨(by omega), trivial⟩)⟩, by rw [ht]; exact hP, hD⟩, hS.F ht⟩) hS.2.2 dX5_joined_185
      · refine lv_iconst (v := Int32.ofInt 1) hx hb dX5_joined_180 (by decide +kernel) ?_
        refine lv_goto (tgt := 185) hx hb dX5_joined_181 (by decide) ?_
        exact W.iret (v := Int32.ofInt (1)) hx hb hr (fun t ht hW => ⟨⟨Int32.ofInt (1), (1), rfl, ⟨rfl, (show (inR 1) ∧ (True) from ⟨(by omega), trivial⟩)⟩, by rw [ht]; exact hP, hD⟩, hS.F ht⟩) hS.2.2 dX5_joined_185
  · refine lv_tableIn (tgt := 172) hx hb dX5_joined_1 (by rw [iz_toInt (by omega)]; omega) (by rw [iz_toInt (by omega)]; omega) (off := 171) (by rw [iz_toInt (by omega), q1]; decide +kernel) (by decide) ?_
    refine lv_iload_n hx hb dX5_joined_172 rfl (lv_at hl 1 rfl) ?_
    refine iv_if_ne (tgt := 180) hx hb (by omega) dX5_joined_173 (by decide) (fun q10 => ?_) (fun q10 => ?_)
    · refine lv_iconst (v := Int32.ofInt 1) hx hb dX5_joined_180 (by decide +kernel) ?_
      refine lv_goto (tgt := 185) hx hb dX5_joined_181 (by decide) ?_
      exact W.iret (v := Int32.ofInt (1)) hx hb hr (fun t ht hW => ⟨⟨Int32.ofInt (1), (1), rfl, ⟨rfl, (show (inR 1) ∧ (True) from ⟨(by omega), trivial⟩)⟩, by rw [ht]; exact hP, hD⟩, hS.F ht⟩) hS.2.2 dX5_joined_185
    · refine lv_iload_n hx hb dX5_joined_176 rfl (lv_at hl 2 rfl) ?_
      refine iv_if_eq (tgt := 184) hx hb (by omega) dX5_joined_177 (by decide) (fun q11 => ?_) (fun q11 => ?_)
      · refine lv_iconst (v := Int32.ofInt 0) hx hb dX5_joined_184 (by decide +kernel) ?_
        exact W.iret (v := Int32.ofInt (0)) hx hb hr (fun t ht hW => ⟨⟨Int32.ofInt (0), (0), rfl, ⟨rfl, (show (inR 0) ∧ (True) from ⟨(by omega), trivial⟩)⟩, by rw [ht]; exact hP, hD⟩, hS.F ht⟩) hS.2.2 dX5_joined_185
      · refine lv_iconst (v := Int32.ofInt 1) hx hb dX5_joined_180 (by decide +kernel) ?_
        refine lv_goto (tgt := 185) hx hb dX5_joined_181 (by decide) ?_
        exact W.iret (v := Int32.ofInt (1)) hx hb hr (fun t ht hW => ⟨⟨Int32.ofInt (1), (1), rfl, ⟨rfl, (show (inR 1) ∧ (True) from ⟨(by omega), trivial⟩)⟩, by rw [ht]; exact hP, hD⟩, hS.F ht⟩) hS.2.2 dX5_joined_185
  · refine lv_tableIn (tgt := 120) hx hb dX5_joined_1 (by rw [iz_toInt (by omega)]; omega) (by rw [iz_toInt (by omega)]; omega) (off := 119) (by rw [iz_toInt (by omega), q1]; decide +kernel) (by decide) ?_
    refine lv_iload_n hx hb dX5_joined_120 rfl (lv_at hl 1 rfl) ?_
    refine lv_iload_n hx hb dX5_joined_121 rfl (lv_at hl 2 rfl) ?_
    refine iv_mul (x := l0) (y := r0) hx hb dX5_joined_122 ?_
    refine iv_wr ?_
    refine iv_top (fun z12 ez12 => ?_)
    have rz12 : inR z12 := ez12 ▸ bWr_r _
    exact W.iret (v := Int32.ofInt (z12)) hx hb hr (fun t ht hW => ⟨⟨Int32.ofInt (z12), (z12), rfl, ⟨rfl, (show (inR z12) ∧ (True) from ⟨(by omega), trivial⟩)⟩, by rw [ht]; exact hP, hD⟩, hS.F ht⟩) hS.2.2 dX5_joined_123
  · refine lv_tableIn (tgt := 112) hx hb dX5_joined_1 (by rw [iz_toInt (by omega)]; omega) (by rw [iz_toInt (by omega)]; omega) (off := 111) (by rw [iz_toInt (by omega), q1]; decide +kernel) (by decide) ?_
    refine lv_iload_n hx hb dX5_joined_112 rfl (lv_at hl 1 rfl) ?_
    refine lv_iload_n hx hb dX5_joined_113 rfl (lv_at hl 2 rfl) ?_
    refine iv_add (x := l0) (y := r0) hx hb dX5_joined_114 ?_
    refine iv_wr ?_
    refine iv_top (fun z13 ez13 => ?_)
    have rz13 : inR z13 := ez13 ▸ bWr_r _
    exact W.iret (v := Int32.ofInt (z13)) hx hb hr (fun t ht hW => ⟨⟨Int32.ofInt (z13), (z13), rfl, ⟨rfl, (show (inR z13) ∧ (True) from ⟨(by omega), trivial⟩)⟩, by rw [ht]; exact hP, hD⟩, hS.F ht⟩) hS.2.2 dX5_joined_115
  · refine lv_tableIn (tgt := 172) hx hb dX5_joined_1 (by rw [iz_toInt (by omega)]; omega) (by rw [iz_toInt (by omega)]; omega) (off := 171) (by rw [iz_toInt (by omega), q1]; decide +kernel) (by decide) ?_
    refine lv_iload_n hx hb dX5_joined_172 rfl (lv_at hl 1 rfl) ?_
    refine iv_if_ne (tgt := 180) hx hb (by omega) dX5_joined_173 (by decide) (fun q14 => ?_) (fun q14 => ?_)
    · refine lv_iconst (v := Int32.ofInt 1) hx hb dX5_joined_180 (by decide +kernel) ?_
      refine lv_goto (tgt := 185) hx hb dX5_joined_181 (by decide) ?_
      exact W.iret (v := Int32.ofInt (1)) hx hb hr (fun t ht hW => ⟨⟨Int32.ofInt (1), (1), rfl, ⟨rfl, (show (inR 1) ∧ (True) from ⟨(by omega), trivial⟩)⟩, by rw [ht]; exact hP, hD⟩, hS.F ht⟩) hS.2.2 dX5_joined_185
    · refine lv_iload_n hx hb dX5_joined_176 rfl (lv_at hl 2 rfl) ?_
      refine iv_if_eq (tgt := 184) hx hb (by omega) dX5_joined_177 (by decide) (fun q15 => ?_) (fun q15 => ?_)
      · refine lv_iconst (v := Int32.ofInt 0) hx hb dX5_joined_184 (by decide +kernel) ?_
        exact W.iret (v := Int32.ofInt (0)) hx hb hr (fun t ht hW => ⟨⟨Int32.ofInt (0), (0), rfl, ⟨rfl, (show (inR 0) ∧ (True) from ⟨(by omega), trivial⟩)⟩, by rw [ht]; exact hP, hD⟩, hS.F ht⟩) hS.2.2 dX5_joined_185
      · refine lv_iconst (v := Int32.ofInt 1) hx hb dX5_joined_180 (by decide +kernel) ?_
        refine lv_goto (tgt := 185) hx hb dX5_joined_181 (by decide) ?_
        exact W.iret (v := Int32.ofInt (1)) hx hb hr (fun t ht hW => ⟨⟨Int32.ofInt (1), (1), rfl, ⟨rfl, (show (inR 1) ∧ (True) from ⟨(by omega), trivial⟩)⟩, by rw [ht]; exact hP, hD⟩, hS.F ht⟩) hS.2.2 dX5_joined_185
  · refine lv_tableIn (tgt := 116) hx hb dX5_joined_1 (by rw [iz_toInt (by omega)]; omega) (by rw [iz_toInt (by omega)]; omega) (off := 115) (by rw [iz_toInt (by omega), q1]; decide +kernel) (by decide) ?_
    refine lv_iload_n hx hb dX5_joined_116 rfl (lv_at hl 1 rfl) ?_
    refine lv_iload_n hx hb dX5_joined_117 rfl (lv_at hl 2 rfl) ?_
    refine iv_sub (x := l0) (y := r0) hx hb dX5_joined_118 ?_
    refine iv_wr ?_
    refine iv_top (fun z16 ez16 => ?_)
    have rz16 : inR z16 := ez16 ▸ bWr_r _
    exact W.iret (v := Int32.ofInt (z16)) hx hb hr (fun t ht hW => ⟨⟨Int32.ofInt (z16), (z16), rfl, ⟨rfl, (show (inR z16) ∧ (True) from ⟨(by omega), trivial⟩)⟩, by rw [ht]; exact hP, hD⟩, hS.F ht⟩) hS.2.2 dX5_joined_119
  · refine lv_tableIn (tgt := 172) hx hb dX5_joined_1 (by rw [iz_toInt (by omega)]; omega) (by rw [iz_toInt (by omega)]; omega) (off := 171) (by rw [iz_toInt (by omega), q1]; decide +kernel) (by decide) ?_
    refine lv_iload_n hx hb dX5_joined_172 rfl (lv_at hl 1 rfl) ?_
    refine iv_if_ne (tgt := 180) hx hb (by omega) dX5_joined_173 (by decide) (fun q17 => ?_) (fun q17 => ?_)
    · refine lv_iconst (v := Int32.ofInt 1) hx hb dX5_joined_180 (by decide +kernel) ?_
      refine lv_goto (tgt := 185) hx hb dX5_joined_181 (by decide) ?_
      exact W.iret (v := Int32.ofInt (1)) hx hb hr (fun t ht hW => ⟨⟨Int32.ofInt (1), (1), rfl, ⟨rfl, (show (inR 1) ∧ (True) from ⟨(by omega), trivial⟩)⟩, by rw [ht]; exact hP, hD⟩, hS.F ht⟩) hS.2.2 dX5_joined_185
    · refine lv_iload_n hx hb dX5_joined_176 rfl (lv_at hl 2 rfl) ?_
      refine iv_if_eq (tgt := 184) hx hb (by omega) dX5_joined_177 (by decide) (fun q18 => ?_) (fun q18 => ?_)
      · refine lv_iconst (v := Int32.ofInt 0) hx hb dX5_joined_184 (by decide +kernel) ?_
        exact W.iret (v := Int32.ofInt (0)) hx hb hr (fun t ht hW => ⟨⟨Int32.ofInt (0), (0), rfl, ⟨rfl, (show (inR 0) ∧ (True) from ⟨(by omega), trivial⟩)⟩, by rw [ht]; exact hP, hD⟩, hS.F ht⟩) hS.2.2 dX5_joined_185
      · refine lv_iconst (v := Int32.ofInt 1) hx hb dX5_joined_180 (by decide +kernel) ?_
        refine lv_goto (tgt := 185) hx hb dX5_joined_181 (by decide) ?_
        exact W.iret (v := Int32.ofInt (1)) hx hb hr (fun t ht hW => ⟨⟨Int32.ofInt (1), (1), rfl, ⟨rfl, (show (inR 1) ∧ (True) from ⟨(by omega), trivial⟩)⟩, by rw [ht]; exact hP, hD⟩, hS.F ht⟩) hS.2.2 dX5_joined_185
  · refine lv_tableIn (tgt := 124) hx hb dX5_joined_1 (by rw [iz_toInt (by omega)]; omega) (by rw [iz_toInt (by omega)]; omega) (off := 123) (by rw [iz_toInt (by omega), q1]; decide +kernel) (by decide) ?_
    refine lv_iload_n hx hb dX5_joined_124 rfl (lv_at hl 2 rfl) ?_
    refine iv_if_ne (tgt := 132) hx hb (by omega) dX5_joined_125 (by decide) (fun q19 => ?_) (fun q19 => ?_)
    · refine lv_iload_n hx hb dX5_joined_132 rfl (lv_at hl 1 rfl) ?_
      refine lv_iload_n hx hb dX5_joined_133 rfl (lv_at hl 2 rfl) ?_
      refine iv_div hx hb dX5_joined_134 (by omega) (by omega) ?_
      refine iv_top (fun z20 ez20 => ?_)
      have rz20 : inR z20 := ez20 ▸ bDiv_r _ _
      exact W.iret (v := Int32.ofInt (z20)) hx hb hr (fun t ht hW => ⟨⟨Int32.ofInt (z20), (z20), rfl, ⟨rfl, (show (inR z20) ∧ (True) from ⟨(by omega), trivial⟩)⟩, by rw [ht]; exact hP, hD⟩, hS.F ht⟩) hS.2.2 dX5_joined_135
    · refine lv_iconst (v := Int32.ofInt 0) hx hb dX5_joined_128 (by decide +kernel) ?_
      refine lv_goto (tgt := 135) hx hb dX5_joined_129 (by decide) ?_
      exact W.iret (v := Int32.ofInt (0)) hx hb hr (fun t ht hW => ⟨⟨Int32.ofInt (0), (0), rfl, ⟨rfl, (show (inR 0) ∧ (True) from ⟨(by omega), trivial⟩)⟩, by rw [ht]; exact hP, hD⟩, hS.F ht⟩) hS.2.2 dX5_joined_135
  · refine lv_tableIn (tgt := 172) hx hb dX5_joined_1 (by rw [iz_toInt (by omega)]; omega) (by rw [iz_toInt (by omega)]; omega) (off := 171) (by rw [iz_toInt (by omega), q1]; decide +kernel) (by decide) ?_
    refine lv_iload_n hx hb dX5_joined_172 rfl (lv_at hl 1 rfl) ?_
    refine iv_if_ne (tgt := 180) hx hb (by omega) dX5_joined_173 (by decide) (fun q21 => ?_) (fun q21 => ?_)
    · refine lv_iconst (v := Int32.ofInt 1) hx hb dX5_joined_180 (by decide +kernel) ?_
      refine lv_goto (tgt := 185) hx hb dX5_joined_181 (by decide) ?_
      exact W.iret (v := Int32.ofInt (1)) hx hb hr (fun t ht hW => ⟨⟨Int32.ofInt (1), (1), rfl, ⟨rfl, (show (inR 1) ∧ (True) from ⟨(by omega), trivial⟩)⟩, by rw [ht]; exact hP, hD⟩, hS.F ht⟩) hS.2.2 dX5_joined_185
    · refine lv_iload_n hx hb dX5_joined_176 rfl (lv_at hl 2 rfl) ?_
      refine iv_if_eq (tgt := 184) hx hb (by omega) dX5_joined_177 (by decide) (fun q22 => ?_) (fun q22 => ?_)
      · refine lv_iconst (v := Int32.ofInt 0) hx hb dX5_joined_184 (by decide +kernel) ?_
        exact W.iret (v := Int32.ofInt (0)) hx hb hr (fun t ht hW => ⟨⟨Int32.ofInt (0), (0), rfl, ⟨rfl, (show (inR 0) ∧ (True) from ⟨(by omega), trivial⟩)⟩, by rw [ht]; exact hP, hD⟩, hS.F ht⟩) hS.2.2 dX5_joined_185
      · refine lv_iconst (v := Int32.ofInt 1) hx hb dX5_joined_180 (by decide +kernel) ?_
        refine lv_goto (tgt := 185) hx hb dX5_joined_181 (by decide) ?_
        exact W.iret (v := Int32.ofInt (1)) hx hb hr (fun t ht hW => ⟨⟨Int32.ofInt (1), (1), rfl, ⟨rfl, (show (inR 1) ∧ (True) from ⟨(by omega), trivial⟩)⟩, by rw [ht]; exact hP, hD⟩, hS.F ht⟩) hS.2.2 dX5_joined_185
  · refine lv_tableIn (tgt := 172) hx hb dX5_joined_1 (by rw [iz_toInt (by omega)]; omega) (by rw [iz_toInt (by omega)]; omega) (off := 171) (by rw [iz_toInt (by omega), q1]; decide +kernel) (by decide) ?_
    refine lv_iload_n hx hb dX5_joined_172 rfl (lv_at hl 1 rfl) ?_
    refine iv_if_ne (tgt := 180) hx hb (by omega) dX5_joined_173 (by decide) (fun q23 => ?_) (fun q23 => ?_)
    · refine lv_iconst (v := Int32.ofInt 1) hx hb dX5_joined_180 (by decide +kernel) ?_
      refine lv_goto (tgt := 185) hx hb dX5_joined_181 (by decide) ?_
      exact W.iret (v := Int32.ofInt (1)) hx hb hr (fun t ht hW => ⟨⟨Int32.ofInt (1), (1), rfl, ⟨rfl, (show (inR 1) ∧ (True) from ⟨(by omega), trivial⟩)⟩, by rw [ht]; exact hP, hD⟩, hS.F ht⟩) hS.2.2 dX5_joined_185
    · refine lv_iload_n hx hb dX5_joined_176 rfl (lv_at hl 2 rfl) ?_
      refine iv_if_eq (tgt := 184) hx hb (by omega) dX5_joined_177 (by decide) (fun q24 => ?_) (fun q24 => ?_)
      · refine lv_iconst (v := Int32.ofInt 0) hx hb dX5_joined_184 (by decide +kernel) ?_
        exact W.iret (v := Int32.ofInt (0)) hx hb hr (fun t ht hW => ⟨⟨Int32.ofInt (0), (0), rfl, ⟨rfl, (show (inR 0) ∧ (True) from ⟨(by omega), trivial⟩)⟩, by rw [ht]; exact hP, hD⟩, hS.F ht⟩) hS.2.2 dX5_joined_185
      · refine lv_iconst (v := Int32.ofInt 1) hx hb dX5_joined_180 (by decide +kernel) ?_
        refine lv_goto (tgt := 185) hx hb dX5_joined_181 (by decide) ?_
        exact W.iret (v := Int32.ofInt (1)) hx hb hr (fun t ht hW => ⟨⟨Int32.ofInt (1), (1), rfl, ⟨rfl, (show (inR 1) ∧ (True) from ⟨(by omega), trivial⟩)⟩, by rw [ht]; exact hP, hD⟩, hS.F ht⟩) hS.2.2 dX5_joined_185
  · refine lv_tableIn (tgt := 172) hx hb dX5_joined_1 (by rw [iz_toInt (by omega)]; omega) (by rw [iz_toInt (by omega)]; omega) (off := 171) (by rw [iz_toInt (by omega), q1]; decide +kernel) (by decide) ?_
    refine lv_iload_n hx hb dX5_joined_172 rfl (lv_at hl 1 rfl) ?_
    refine iv_if_ne (tgt := 180) hx hb (by omega) dX5_joined_173 (by decide) (fun q25 => ?_) (fun q25 => ?_)
    · refine lv_iconst (v := Int32.ofInt 1) hx hb dX5_joined_180 (by decide +kernel) ?_
      refine lv_goto (tgt := 185) hx hb dX5_joined_181 (by decide) ?_
      exact W.iret (v := Int32.ofInt (1)) hx hb hr (fun t ht hW => ⟨⟨Int32.ofInt (1), (1), rfl, ⟨rfl, (show (inR 1) ∧ (True) from ⟨(by omega), trivial⟩)⟩, by rw [ht]; exact hP, hD⟩, hS.F ht⟩) hS.2.2 dX5_joined_185
    · refine lv_iload_n hx hb dX5_joined_176 rfl (lv_at hl 2 rfl) ?_
      refine iv_if_eq (tgt := 184) hx hb (by omega) dX5_joined_177 (by decide) (fun q26 => ?_) (fun q26 => ?_)
      · refine lv_iconst (v := Int32.ofInt 0) hx hb dX5_joined_184 (by decide +kernel) ?_
        exact W.iret (v := Int32.ofInt (0)) hx hb hr (fun t ht hW => ⟨⟨Int32.ofInt (0), (0), rfl, ⟨rfl, (show (inR 0) ∧ (True) from ⟨(by omega), trivial⟩)⟩, by rw [ht]; exact hP, hD⟩, hS.F ht⟩) hS.2.2 dX5_joined_185
      · refine lv_iconst (v := Int32.ofInt 1) hx hb dX5_joined_180 (by decide +kernel) ?_
        refine lv_goto (tgt := 185) hx hb dX5_joined_181 (by decide) ?_
        exact W.iret (v := Int32.ofInt (1)) hx hb hr (fun t ht hW => ⟨⟨Int32.ofInt (1), (1), rfl, ⟨rfl, (show (inR 1) ∧ (True) from ⟨(by omega), trivial⟩)⟩, by rw [ht]; exact hP, hD⟩, hS.F ht⟩) hS.2.2 dX5_joined_185
  · refine lv_tableIn (tgt := 172) hx hb dX5_joined_1 (by rw [iz_toInt (by omega)]; omega) (by rw [iz_toInt (by omega)]; omega) (off := 171) (by rw [iz_toInt (by omega), q1]; decide +kernel) (by decide) ?_
    refine lv_iload_n hx hb dX5_joined_172 rfl (lv_at hl 1 rfl) ?_
    refine iv_if_ne (tgt := 180) hx hb (by omega) dX5_joined_173 (by decide) (fun q27 => ?_) (fun q27 => ?_)
    · refine lv_iconst (v := Int32.ofInt 1) hx hb dX5_joined_180 (by decide +kernel) ?_
      refine lv_goto (tgt := 185) hx hb dX5_joined_181 (by decide) ?_
      exact W.iret (v := Int32.ofInt (1)) hx hb hr (fun t ht hW => ⟨⟨Int32.ofInt (1), (1), rfl, ⟨rfl, (show (inR 1) ∧ (True) from ⟨(by omega), trivial⟩)⟩, by rw [ht]; exact hP, hD⟩, hS.F ht⟩) hS.2.2 dX5_joined_185
    · refine lv_iload_n hx hb dX5_joined_176 rfl (lv_at hl 2 rfl) ?_
      refine iv_if_eq (tgt := 184) hx hb (by omega) dX5_joined_177 (by decide) (fun q28 => ?_) (fun q28 => ?_)
      · refine lv_iconst (v := Int32.ofInt 0) hx hb dX5_joined_184 (by decide +kernel) ?_
        exact W.iret (v := Int32.ofInt (0)) hx hb hr (fun t ht hW => ⟨⟨Int32.ofInt (0), (0), rfl, ⟨rfl, (show (inR 0) ∧ (True) from ⟨(by omega), trivial⟩)⟩, by rw [ht]; exact hP, hD⟩, hS.F ht⟩) hS.2.2 dX5_joined_185
      · refine lv_iconst (v := Int32.ofInt 1) hx hb dX5_joined_180 (by decide +kernel) ?_
        refine lv_goto (tgt := 185) hx hb dX5_joined_181 (by decide) ?_
        exact W.iret (v := Int32.ofInt (1)) hx hb hr (fun t ht hW => ⟨⟨Int32.ofInt (1), (1), rfl, ⟨rfl, (show (inR 1) ∧ (True) from ⟨(by omega), trivial⟩)⟩, by rw [ht]; exact hP, hD⟩, hS.F ht⟩) hS.2.2 dX5_joined_185
  · refine lv_tableIn (tgt := 172) hx hb dX5_joined_1 (by rw [iz_toInt (by omega)]; omega) (by rw [iz_toInt (by omega)]; omega) (off := 171) (by rw [iz_toInt (by omega), q1]; decide +kernel) (by decide) ?_
    refine lv_iload_n hx hb dX5_joined_172 rfl (lv_at hl 1 rfl) ?_
    refine iv_if_ne (tgt := 180) hx hb (by omega) dX5_joined_173 (by decide) (fun q29 => ?_) (fun q29 => ?_)
    · refine lv_iconst (v := Int32.ofInt 1) hx hb dX5_joined_180 (by decide +kernel) ?_
      refine lv_goto (tgt := 185) hx hb dX5_joined_181 (by decide) ?_
      exact W.iret (v := Int32.ofInt (1)) hx hb hr (fun t ht hW => ⟨⟨Int32.ofInt (1), (1), rfl, ⟨rfl, (show (inR 1) ∧ (True) from ⟨(by omega), trivial⟩)⟩, by rw [ht]; exact hP, hD⟩, hS.F ht⟩) hS.2.2 dX5_joined_185
    · refine lv_iload_n hx hb dX5_joined_176 rfl (lv_at hl 2 rfl) ?_
      refine iv_if_eq (tgt := 184) hx hb (by omega) dX5_joined_177 (by decide) (fun q30 => ?_) (fun q30 => ?_)
      · refine lv_iconst (v := Int32.ofInt 0) hx hb dX5_joined_184 (by decide +kernel) ?_
        exact W.iret (v := Int32.ofInt (0)) hx hb hr (fun t ht hW => ⟨⟨Int32.ofInt (0), (0), rfl, ⟨rfl, (show (inR 0) ∧ (True) from ⟨(by omega), trivial⟩)⟩, by rw [ht]; exact hP, hD⟩, hS.F ht⟩) hS.2.2 dX5_joined_185
      · refine lv_iconst (v := Int32.ofInt 1) hx hb dX5_joined_180 (by decide +kernel) ?_
        refine lv_goto (tgt := 185) hx hb dX5_joined_181 (by decide) ?_
        exact W.iret (v := Int32.ofInt (1)) hx hb hr (fun t ht hW => ⟨⟨Int32.ofInt (1), (1), rfl, ⟨rfl, (show (inR 1) ∧ (True) from ⟨(by omega), trivial⟩)⟩, by rw [ht]; exact hP, hD⟩, hS.F ht⟩) hS.2.2 dX5_joined_185
  · refine lv_tableIn (tgt := 172) hx hb dX5_joined_1 (by rw [iz_toInt (by omega)]; omega) (by rw [iz_toInt (by omega)]; omega) (off := 171) (by rw [iz_toInt (by omega), q1]; decide +kernel) (by decide) ?_
    refine lv_iload_n hx hb dX5_joined_172 rfl (lv_at hl 1 rfl) ?_
    refine iv_if_ne (tgt := 180) hx hb (by omega) dX5_joined_173 (by decide) (fun q31 => ?_) (fun q31 => ?_)
    · refine lv_iconst (v := Int32.ofInt 1) hx hb dX5_joined_180 (by decide +kernel) ?_
      refine lv_goto (tgt := 185) hx hb dX5_joined_181 (by decide) ?_
      exact W.iret (v := Int32.ofInt (1)) hx hb hr (fun t ht hW => ⟨⟨Int32.ofInt (1), (1), rfl, ⟨rfl, (show (inR 1) ∧ (True) from ⟨(by omega), trivial⟩)⟩, by rw [ht]; exact hP, hD⟩, hS.F ht⟩) hS.2.2 dX5_joined_185
    · refine lv_iload_n hx hb dX5_joined_176 rfl (lv_at hl 2 rfl) ?_
      refine iv_if_eq (tgt := 184) hx hb (by omega) dX5_joined_177 (by decide) (fun q32 => ?_) (fun q32 => ?_)
      · refine lv_iconst (v := Int32.ofInt 0) hx hb dX5_joined_184 (by decide +kernel) ?_
        exact W.iret (v := Int32.ofInt (0)) hx hb hr (fun t ht hW => ⟨⟨Int32.ofInt (0), (0), rfl, ⟨rfl, (show (inR 0) ∧ (True) from ⟨(by omega), trivial⟩)⟩, by rw [ht]; exact hP, hD⟩, hS.F ht⟩) hS.2.2 dX5_joined_185
      · refine lv_iconst (v := Int32.ofInt 1) hx hb dX5_joined_180 (by decide +kernel) ?_
        refine lv_goto (tgt := 185) hx hb dX5_joined_181 (by decide) ?_
        exact W.iret (v := Int32.ofInt (1)) hx hb hr (fun t ht hW => ⟨⟨Int32.ofInt (1), (1), rfl, ⟨rfl, (show (inR 1) ∧ (True) from ⟨(by omega), trivial⟩)⟩, by rw [ht]; exact hP, hD⟩, hS.F ht⟩) hS.2.2 dX5_joined_185
  · refine lv_tableIn (tgt := 172) hx hb dX5_joined_1 (by rw [iz_toInt (by omega)]; omega) (by rw [iz_toInt (by omega)]; omega) (off := 171) (by rw [iz_toInt (by omega), q1]; decide +kernel) (by decide) ?_
    refine lv_iload_n hx hb dX5_joined_172 rfl (lv_at hl 1 rfl) ?_
    refine iv_if_ne (tgt := 180) hx hb (by omega) dX5_joined_173 (by decide) (fun q33 => ?_) (fun q33 => ?_)
    · refine lv_iconst (v := Int32.ofInt 1) hx hb dX5_joined_180 (by decide +kernel) ?_
      refine lv_goto (tgt := 185) hx hb dX5_joined_181 (by decide) ?_
      exact W.iret (v := Int32.ofInt (1)) hx hb hr (fun t ht hW => ⟨⟨Int32.ofInt (1), (1), rfl, ⟨rfl, (show (inR 1) ∧ (True) from ⟨(by omega), trivial⟩)⟩, by rw [ht]; exact hP, hD⟩, hS.F ht⟩) hS.2.2 dX5_joined_185
    · refine lv_iload_n hx hb dX5_joined_176 rfl (lv_at hl 2 rfl) ?_
      refine iv_if_eq (tgt := 184) hx hb (by omega) dX5_joined_177 (by decide) (fun q34 => ?_) (fun q34 => ?_)
      · refine lv_iconst (v := Int32.ofInt 0) hx hb dX5_joined_184 (by decide +kernel) ?_
        exact W.iret (v := Int32.ofInt (0)) hx hb hr (fun t ht hW => ⟨⟨Int32.ofInt (0), (0), rfl, ⟨rfl, (show (inR 0) ∧ (True) from ⟨(by omega), trivial⟩)⟩, by rw [ht]; exact hP, hD⟩, hS.F ht⟩) hS.2.2 dX5_joined_185
      · refine lv_iconst (v := Int32.ofInt 1) hx hb dX5_joined_180 (by decide +kernel) ?_
        refine lv_goto (tgt := 185) hx hb dX5_joined_181 (by decide) ?_
        exact W.iret (v := Int32.ofInt (1)) hx hb hr (fun t ht hW => ⟨⟨Int32.ofInt (1), (1), rfl, ⟨rfl, (show (inR 1) ∧ (True) from ⟨(by omega), trivial⟩)⟩, by rw [ht]; exact hP, hD⟩, hS.F ht⟩) hS.2.2 dX5_joined_185
  · refine lv_tableIn (tgt := 172) hx hb dX5_joined_1 (by rw [iz_toInt (by omega)]; omega) (by rw [iz_toInt (by omega)]; omega) (off := 171) (by rw [iz_toInt (by omega), q1]; decide +kernel) (by decide) ?_
    refine lv_iload_n hx hb dX5_joined_172 rfl (lv_at hl 1 rfl) ?_
    refine iv_if_ne (tgt := 180) hx hb (by omega) dX5_joined_173 (by decide) (fun q35 => ?_) (fun q35 => ?_)
    · refine lv_iconst (v := Int32.ofInt 1) hx hb dX5_joined_180 (by decide +kernel) ?_
      refine lv_goto (tgt := 185) hx hb dX5_joined_181 (by decide) ?_
      exact W.iret (v := Int32.ofInt (1)) hx hb hr (fun t ht hW => ⟨⟨Int32.ofInt (1), (1), rfl, ⟨rfl, (show (inR 1) ∧ (True) from ⟨(by omega), trivial⟩)⟩, by rw [ht]; exact hP, hD⟩, hS.F ht⟩) hS.2.2 dX5_joined_185
    · refine lv_iload_n hx hb dX5_joined_176 rfl (lv_at hl 2 rfl) ?_
      refine iv_if_eq (tgt := 184) hx hb (by omega) dX5_joined_177 (by decide) (fun q36 => ?_) (fun q36 => ?_)
      · refine lv_iconst (v := Int32.ofInt 0) hx hb dX5_joined_184 (by decide +kernel) ?_
        exact W.iret (v := Int32.ofInt (0)) hx hb hr (fun t ht hW => ⟨⟨Int32.ofInt (0), (0), rfl, ⟨rfl, (show (inR 0) ∧ (True) from ⟨(by omega), trivial⟩)⟩, by rw [ht]; exact hP, hD⟩, hS.F ht⟩) hS.2.2 dX5_joined_185
      · refine lv_iconst (v := Int32.ofInt 1) hx hb dX5_joined_180 (by decide +kernel) ?_
        refine lv_goto (tgt := 185) hx hb dX5_joined_181 (by decide) ?_
        exact W.iret (v := Int32.ofInt (1)) hx hb hr (fun t ht hW => ⟨⟨Int32.ofInt (1), (1), rfl, ⟨rfl, (show (inR 1) ∧ (True) from ⟨(by omega), trivial⟩)⟩, by rw [ht]; exact hP, hD⟩, hS.F ht⟩) hS.2.2 dX5_joined_185
  · refine lv_tableIn (tgt := 172) hx hb dX5_joined_1 (by rw [iz_toInt (by omega)]; omega) (by rw [iz_toInt (by omega)]; omega) (off := 171) (by rw [iz_toInt (by omega), q1]; decide +kernel) (by decide) ?_
    refine lv_iload_n hx hb dX5_joined_172 rfl (lv_at hl 1 rfl) ?_
    refine iv_if_ne (tgt := 180) hx hb (by omega) dX5_joined_173 (by decide) (fun q37 => ?_) (fun q37 => ?_)
    · refine lv_iconst (v := Int32.ofInt 1) hx hb dX5_joined_180 (by decide +kernel) ?_
      refine lv_goto (tgt := 185) hx hb dX5_joined_181 (by decide) ?_
      exact W.iret (v := Int32.ofInt (1)) hx hb hr (fun t ht hW => ⟨⟨Int32.ofInt (1), (1), rfl, ⟨rfl, (show (inR 1) ∧ (True) from ⟨(by omega), trivial⟩)⟩, by rw [ht]; exact hP, hD⟩, hS.F ht⟩) hS.2.2 dX5_joined_185
    · refine lv_iload_n hx hb dX5_joined_176 rfl (lv_at hl 2 rfl) ?_
      refine iv_if_eq (tgt := 184) hx hb (by omega) dX5_joined_177 (by decide) (fun q38 => ?_) (fun q38 => ?_)
      · refine lv_iconst (v := Int32.ofInt 0) hx hb dX5_joined_184 (by decide +kernel) ?_
        exact W.iret (v := Int32.ofInt (0)) hx hb hr (fun t ht hW => ⟨⟨Int32.ofInt (0), (0), rfl, ⟨rfl, (show (inR 0) ∧ (True) from ⟨(by omega), trivial⟩)⟩, by rw [ht]; exact hP, hD⟩, hS.F ht⟩) hS.2.2 dX5_joined_185
      · refine lv_iconst (v := Int32.ofInt 1) hx hb dX5_joined_180 (by decide +kernel) ?_
        refine lv_goto (tgt := 185) hx hb dX5_joined_181 (by decide) ?_
        exact W.iret (v := Int32.ofInt (1)) hx hb hr (fun t ht hW => ⟨⟨Int32.ofInt (1), (1), rfl, ⟨rfl, (show (inR 1) ∧ (True) from ⟨(by omega), trivial⟩)⟩, by rw [ht]; exact hP, hD⟩, hS.F ht⟩) hS.2.2 dX5_joined_185
  · refine lv_tableIn (tgt := 172) hx hb dX5_joined_1 (by rw [iz_toInt (by omega)]; omega) (by rw [iz_toInt (by omega)]; omega) (off := 171) (by rw [iz_toInt (by omega), q1]; decide +kernel) (by decide) ?_
    refine lv_iload_n hx hb dX5_joined_172 rfl (lv_at hl 1 rfl) ?_
    refine iv_if_ne (tgt := 180) hx hb (by omega) dX5_joined_173 (by decide) (fun q39 => ?_) (fun q39 => ?_)
    · refine lv_iconst (v := Int32.ofInt 1) hx hb dX5_joined_180 (by decide +kernel) ?_
      refine lv_goto (tgt := 185) hx hb dX5_joined_181 (by decide) ?_
      exact W.iret (v := Int32.ofInt (1)) hx hb hr (fun t ht hW => ⟨⟨Int32.ofInt (1), (1), rfl, ⟨rfl, (show (inR 1) ∧ (True) from ⟨(by omega), trivial⟩)⟩, by rw [ht]; exact hP, hD⟩, hS.F ht⟩) hS.2.2 dX5_joined_185
    · refine lv_iload_n hx hb dX5_joined_176 rfl (lv_at hl 2 rfl) ?_
      refine iv_if_eq (tgt := 184) hx hb (by omega) dX5_joined_177 (by decide) (fun q40 => ?_) (fun q40 => ?_)
      · refine lv_iconst (v := Int32.ofInt 0) hx hb dX5_joined_184 (by decide +kernel) ?_
        exact W.iret (v := Int32.ofInt (0)) hx hb hr (fun t ht hW => ⟨⟨Int32.ofInt (0), (0), rfl, ⟨rfl, (show (inR 0) ∧ (True) from ⟨(by omega), trivial⟩)⟩, by rw [ht]; exact hP, hD⟩, hS.F ht⟩) hS.2.2 dX5_joined_185
      · refine lv_iconst (v := Int32.ofInt 1) hx hb dX5_joined_180 (by decide +kernel) ?_
        refine lv_goto (tgt := 185) hx hb dX5_joined_181 (by decide) ?_
        exact W.iret (v := Int32.ofInt (1)) hx hb hr (fun t ht hW => ⟨⟨Int32.ofInt (1), (1), rfl, ⟨rfl, (show (inR 1) ∧ (True) from ⟨(by omega), trivial⟩)⟩, by rw [ht]; exact hP, hD⟩, hS.F ht⟩) hS.2.2 dX5_joined_185
  · refine lv_tableIn (tgt := 172) hx hb dX5_joined_1 (by rw [iz_toInt (by omega)]; omega) (by rw [iz_toInt (by omega)]; omega) (off := 171) (by rw [iz_toInt (by omega), q1]; decide +kernel) (by decide) ?_
    refine lv_iload_n hx hb dX5_joined_172 rfl (lv_at hl 1 rfl) ?_
    refine iv_if_ne (tgt := 180) hx hb (by omega) dX5_joined_173 (by decide) (fun q41 => ?_) (fun q41 => ?_)
    · refine lv_iconst (v := Int32.ofInt 1) hx hb dX5_joined_180 (by decide +kernel) ?_
      refine lv_goto (tgt := 185) hx hb dX5_joined_181 (by decide) ?_
      exact W.iret (v := Int32.ofInt (1)) hx hb hr (fun t ht hW => ⟨⟨Int32.ofInt (1), (1), rfl, ⟨rfl, (show (inR 1) ∧ (True) from ⟨(by omega), trivial⟩)⟩, by rw [ht]; exact hP, hD⟩, hS.F ht⟩) hS.2.2 dX5_joined_185
    · refine lv_iload_n hx hb dX5_joined_176 rfl (lv_at hl 2 rfl) ?_
      refine iv_if_eq (tgt := 184) hx hb (by omega) dX5_joined_177 (by decide) (fun q42 => ?_) (fun q42 => ?_)
      · refine lv_iconst (v := Int32.ofInt 0) hx hb dX5_joined_184 (by decide +kernel) ?_
        exact W.iret (v := Int32.ofInt (0)) hx hb hr (fun t ht hW => ⟨⟨Int32.ofInt (0), (0), rfl, ⟨rfl, (show (inR 0) ∧ (True) from ⟨(by omega), trivial⟩)⟩, by rw [ht]; exact hP, hD⟩, hS.F ht⟩) hS.2.2 dX5_joined_185
      · refine lv_iconst (v := Int32.ofInt 1) hx hb dX5_joined_180 (by decide +kernel) ?_
        refine lv_goto (tgt := 185) hx hb dX5_joined_181 (by decide) ?_
        exact W.iret (v := Int32.ofInt (1)) hx hb hr (fun t ht hW => ⟨⟨Int32.ofInt (1), (1), rfl, ⟨rfl, (show (inR 1) ∧ (True) from ⟨(by omega), trivial⟩)⟩, by rw [ht]; exact hP, hD⟩, hS.F ht⟩) hS.2.2 dX5_joined_185
  · refine lv_tableIn (tgt := 172) hx hb dX5_joined_1 (by rw [iz_toInt (by omega)]; omega) (by rw [iz_toInt (by omega)]; omega) (off := 171) (by rw [iz_toInt (by omega), q1]; decide +kernel) (by decide) ?_
    refine lv_iload_n hx hb dX5_joined_172 rfl (lv_at hl 1 rfl) ?_
    refine iv_if_ne (tgt := 180) hx hb (by omega) dX5_joined_173 (by decide) (fun q43 => ?_) (fun q43 => ?_)
    · refine lv_iconst (v := Int32.ofInt 1) hx hb dX5_joined_180 (by decide +kernel) ?_
      refine lv_goto (tgt := 185) hx hb dX5_joined_181 (by decide) ?_
      exact W.iret (v := Int32.ofInt (1)) hx hb hr (fun t ht hW => ⟨⟨Int32.ofInt (1), (1), rfl, ⟨rfl, (show (inR 1) ∧ (True) from ⟨(by omega), trivial⟩)⟩, by rw [ht]; exact hP, hD⟩, hS.F ht⟩) hS.2.2 dX5_joined_185
    · refine lv_iload_n hx hb dX5_joined_176 rfl (lv_at hl 2 rfl) ?_
      refine iv_if_eq (tgt := 184) hx hb (by omega) dX5_joined_177 (by decide) (fun q44 => ?_) (fun q44 => ?_)
      · refine lv_iconst (v := Int32.ofInt 0) hx hb dX5_joined_184 (by decide +kernel) ?_
        exact W.iret (v := Int32.ofInt (0)) hx hb hr (fun t ht hW => ⟨⟨Int32.ofInt (0), (0), rfl, ⟨rfl, (show (inR 0) ∧ (True) from ⟨(by omega), trivial⟩)⟩, by rw [ht]; exact hP, hD⟩, hS.F ht⟩) hS.2.2 dX5_joined_185
      · refine lv_iconst (v := Int32.ofInt 1) hx hb dX5_joined_180 (by decide +kernel) ?_
        refine lv_goto (tgt := 185) hx hb dX5_joined_181 (by decide) ?_
        exact W.iret (v := Int32.ofInt (1)) hx hb hr (fun t ht hW => ⟨⟨Int32.ofInt (1), (1), rfl, ⟨rfl, (show (inR 1) ∧ (True) from ⟨(by omega), trivial⟩)⟩, by rw [ht]; exact hP, hD⟩, hS.F ht⟩) hS.2.2 dX5_joined_185
  · refine lv_tableIn (tgt := 136) hx hb dX5_joined_1 (by rw [iz_toInt (by omega)]; omega) (by rw [iz_toInt (by omega)]; omega) (off := 135) (by rw [iz_toInt (by omega), q1]; decide +kernel) (by decide) ?_
    refine lv_iload_n hx hb dX5_joined_136 rfl (lv_at hl 1 rfl) ?_
    refine lv_iload_n hx hb dX5_joined_137 rfl (lv_at hl 2 rfl) ?_
    refine iv_icmp_ge (tgt := 145) hx hb (by omega) (by omega) dX5_joined_138 (by decide) (fun q45 => ?_) (fun q45 => ?_)
    · refine lv_iconst (v := Int32.ofInt 0) hx hb dX5_joined_145 (by decide +kernel) ?_
      exact W.iret (v := Int32.ofInt (0)) hx hb hr (fun t ht hW => ⟨⟨Int32.ofInt (0), (0), rfl, ⟨rfl, (show (inR 0) ∧ (True) from ⟨(by omega), trivial⟩)⟩, by rw [ht]; exact hP, hD⟩, hS.F ht⟩) hS.2.2 dX5_joined_146
    · refine lv_iconst (v := Int32.ofInt 1) hx hb dX5_joined_141 (by decide +kernel) ?_
      refine lv_goto (tgt := 146) hx hb dX5_joined_142 (by decide) ?_
      exact W.iret (v := Int32.ofInt (1)) hx hb hr (fun t ht hW => ⟨⟨Int32.ofInt (1), (1), rfl, ⟨rfl, (show (inR 1) ∧ (True) from ⟨(by omega), trivial⟩)⟩, by rw [ht]; exact hP, hD⟩, hS.F ht⟩) hS.2.2 dX5_joined_146
  · refine lv_tableIn (tgt := 147) hx hb dX5_joined_1 (by rw [iz_toInt (by omega)]; omega) (by rw [iz_toInt (by omega)]; omega) (off := 146) (by rw [iz_toInt (by omega), q1]; decide +kernel) (by decide) ?_
    refine lv_iload_n hx hb dX5_joined_147 rfl (lv_at hl 1 rfl) ?_
    refine lv_iload_n hx hb dX5_joined_148 rfl (lv_at hl 2 rfl) ?_
    refine iv_icmp_ne (tgt := 156) hx hb (by omega) (by omega) dX5_joined_149 (by decide) (fun q46 => ?_) (fun q46 => ?_)
    · refine lv_iconst (v := Int32.ofInt 0) hx hb dX5_joined_156 (by decide +kernel) ?_
      exact W.iret (v := Int32.ofInt (0)) hx hb hr (fun t ht hW => ⟨⟨Int32.ofInt (0), (0), rfl, ⟨rfl, (show (inR 0) ∧ (True) from ⟨(by omega), trivial⟩)⟩, by rw [ht]; exact hP, hD⟩, hS.F ht⟩) hS.2.2 dX5_joined_157
    · refine lv_iconst (v := Int32.ofInt 1) hx hb dX5_joined_152 (by decide +kernel) ?_
      refine lv_goto (tgt := 157) hx hb dX5_joined_153 (by decide) ?_
      exact W.iret (v := Int32.ofInt (1)) hx hb hr (fun t ht hW => ⟨⟨Int32.ofInt (1), (1), rfl, ⟨rfl, (show (inR 1) ∧ (True) from ⟨(by omega), trivial⟩)⟩, by rw [ht]; exact hP, hD⟩, hS.F ht⟩) hS.2.2 dX5_joined_157

