set_option maxHeartbeats 4000000 in
set_option maxRecDepth 100000 in
theorem mX10_isMark (l : Launch) (G : va_G) (k : Nat → ClassId) (c0 : Int) (sz : Nat) (hr_c0 : inR c0) : CNi l G k (EZ k) yX10_isMark wzX10_isMark ({ frames := 0, cells := 0, slots := 0, locals := 0 }) [.int (Int32.ofInt (c0))] sz [] (fun (r0 : Int32) (u : Int) => r0 = Int32.ofInt (u) ∧ (inR u) ∧ (Mkr u c0)) (fun (u : Int) => []) := by
  refine Met.ofW (cc := cX10_isMark) (maxL := 1) (ret := (some .boolean)) (by decide) rfl ?_
  intro p e s m args below meth c s₁ B hml hv
  obtain ⟨rfl, hsz, hP, hX, hD0, hZ0⟩ := hv
  have hx := B.exec
  have hb := B.bytes
  have hr := B.returns
  have hts := atoms_spec (ws := wzX10_isMark) B.pre
  have hown : s.vm.findClass RX10 = some m.cls := findClass_of_methodNamed B.named
  subst hsz
  have hD := hD0.self (sz := s.heap.size)
  have hZ := hZ0
  generalize hAe : va_A [] s.heap.size = A at hD hZ ⊢
  have hA : ∀ q : Nat, s.heap.size ≤ q → A q := fun q h => by rw [← hAe]; exact Or.inr h
  have hS : va_S A s.heap s.heap [] := va_S.rf
  have hl := lv_entry ([.int (Int32.ofInt (c0))]) (n := 1) (Nat.le_of_ble_eq_true rfl)
  rw [lg_entry_eq]
  generalize (lg_sl ([.int (Int32.ofInt (c0))]) ++ List.replicate (1 - (lg_sl ([.int (Int32.ofInt (c0))])).length) Slot.unset).toArray = ls at hl ⊢
  have hl : lv_has ls 1 [(0, .int (Int32.ofInt (c0)))] := hl
  obtain ⟨H, eH⟩ : ∃ H, H = s.heap := ⟨_, rfl⟩
  rw [← eH] at hP
  have hS : va_S A s.heap H [] := by rw [eH]; exact hS
  have gW : s.heap = H := eH.symm
  refine iv_heap gW ?_
  refine lv_iload_n hx hb dX10_isMark_0 rfl (lv_at hl 0 rfl) ?_
  refine lv_bipush (v := Int32.ofInt 59) hx hb dX10_isMark_1 (by decide +kernel) ?_
  refine iv_icmp_eq (tgt := 54) hx hb (by omega) (by omega) dX10_isMark_3 (by decide) (fun q1 => ?_) (fun q1 => ?_)
  · refine lv_iconst (v := Int32.ofInt 1) hx hb dX10_isMark_54 (by decide +kernel) ?_
    refine lv_goto (tgt := 59) hx hb dX10_isMark_55 (by decide) ?_
    exact W.zret (v := Int32.ofInt (1)) hx hb hr (nz_bool (by omega)) (fun t ht hW => ⟨⟨Int32.ofInt (1), (1), rfl, ⟨rfl, (show (inR 1) ∧ (Mkr 1 c0) from ⟨(by omega), (by first | exact Or.inl ⟨by omega, by unfold isMk; omega⟩ | exact Or.inr ⟨by omega, by unfold isMk; omega⟩)⟩)⟩, by rw [ht]; exact hP, hD⟩, hS.F ht⟩) hS.2.2 dX10_isMark_59
  · refine lv_iload_n hx hb dX10_isMark_6 rfl (lv_at hl 0 rfl) ?_
    refine lv_bipush (v := Int32.ofInt 40) hx hb dX10_isMark_7 (by decide +kernel) ?_
    refine iv_icmp_eq (tgt := 54) hx hb (by omega) (by omega) dX10_isMark_9 (by decide) (fun q2 => ?_) (fun q2 => ?_)
    · refine lv_iconst (v := Int32.ofInt 1) hx hb dX10_isMark_54 (by decide +kernel) ?_
      refine lv_goto (tgt := 59) hx hb dX10_isMark_55 (by decide) ?_
      exact W.zret (v := Int32.ofInt (1)) hx hb hr (nz_bool (by omega)) (fun t ht hW => ⟨⟨Int32.ofInt (1), (1), rfl, ⟨rfl, (show (inR 1) ∧ (Mkr 1 c0) from ⟨(by omega), (by first | exact Or.inl ⟨by omega, by unfold isMk; omega⟩ | exact Or.inr ⟨by omega, by unfold isMk; omega⟩)⟩)⟩, by rw [ht]; exact hP, hD⟩, hS.F ht⟩) hS.2.2 dX10_isMark_59
    · refine lv_iload_n hx hb dX10_isMark_12 rfl (lv_at hl 0 rfl) ?_
      refine lv_bipush (v := Int32.ofInt 41) hx hb dX10_isMark_13 (by decide +kernel) ?_
      refine iv_icmp_eq (tgt := 54) hx hb (by omega) (by omega) dX10_isMark_15 (by decide) (fun q3 => ?_) (fun q3 => ?_)
      · refine lv_iconst (v := Int32.ofInt 1) hx hb dX10_isMark_54 (by decide +kernel) ?_
        refine lv_goto (tgt := 59) hx hb dX10_isMark_55 (by decide) ?_
        exact W.zret (v := Int32.ofInt (1)) hx hb hr (nz_bool (by omega)) (fun t ht hW => ⟨⟨Int32.ofInt (1), (1), rfl, ⟨rfl, (show (inR 1) ∧ (Mkr 1 c0) from ⟨(by omega), (by first | exact Or.inl ⟨by omega, by unfold isMk; omega⟩ | exact Or.inr ⟨by omega, by unfold isMk; omega⟩)⟩)⟩, by rw [ht]; exact hP, hD⟩, hS.F ht⟩) hS.2.2 dX10_isMark_59
      · refine lv_iload_n hx hb dX10_isMark_18 rfl (lv_at hl 0 rfl) ?_
        refine lv_bipush (v := Int32.ofInt 43) hx hb dX10_isMark_19 (by decide +kernel) ?_
        refine iv_icmp_eq (tgt := 54) hx hb (by omega) (by omega) dX10_isMark_21 (by decide) (fun q4 => ?_) (fun q4 => ?_)
        · refine lv_iconst (v := Int32.ofInt 1) hx hb dX10_isMark_54 (by decide +kernel) ?_
          refine lv_goto (tgt := 59) hx hb dX10_isMark_55 (by decide) ?_
          exact W.zret (v := Int32.ofInt (1)) hx hb hr (nz_bool (by omega)) (fun t ht hW => ⟨⟨Int32.ofInt (1), (1), rfl, ⟨rfl, (show (inR 1) ∧ (Mkr 1 c0) from ⟨(by omega), (by first | exact Or.inl ⟨by omega, by unfold isMk; omega⟩ | exact Or.inr ⟨by omega, by unfold isMk; omega⟩)⟩)⟩, by rw [ht]; exact hP, hD⟩, hS.F ht⟩) hS.2.2 dX10_isMark_59
        · refine lv_iload_n hx hb dX10_isMark_24 rfl (lv_at hl 0 rfl) ?_
          refine lv_bipush (v := Int32.ofInt 45) hx hb dX10_isMark_25 (by decide +kernel) ?_
          refine iv_icmp_eq (tgt := 54) hx hb (by omega) (by omega) dX10_isMark_27 (by decide) (fun q5 => ?_) (fun q5 => ?_)
          · refine lv_iconst (v := Int32.ofInt 1) hx hb dX10_isMark_54 (by decide +kernel) ?_
            refine lv_goto (tgt := 59) hx hb dX10_isMark_55 (by decide) ?_
            exact W.zret (v := Int32.ofInt (1)) hx hb hr (nz_bool (by omega)) (fun t ht hW => ⟨⟨Int32.ofInt (1), (1), rfl, ⟨rfl, (show (inR 1) ∧ (Mkr 1 c0) from ⟨(by omega), (by first | exact Or.inl ⟨by omega, by unfold isMk; omega⟩ | exact Or.inr ⟨by omega, by unfold isMk; omega⟩)⟩)⟩, by rw [ht]; exact hP, hD⟩, hS.F ht⟩) hS.2.2 dX10_isMark_59
          · refine lv_iload_n hx hb dX10_isMark_30 rfl (lv_at hl 0 rfl) ?_
            refine lv_bipush (v := Int32.ofInt 42) hx hb dX10_isMark_31 (by decide +kernel) ?_
            refine iv_icmp_eq (tgt := 54) hx hb (by omega) (by omega) dX10_isMark_33 (by decide) (fun q6 => ?_) (fun q6 => ?_)
            · refine lv_iconst (v := Int32.ofInt 1) hx hb dX10_isMark_54 (by decide +kernel) ?_
              refine lv_goto (tgt := 59) hx hb dX10_isMark_55 (by decide) ?_
              exact W.zret (v := Int32.ofInt (1)) hx hb hr (nz_bool (by omega)) (fun t ht hW => ⟨⟨Int32.ofInt (1), (1), rfl, ⟨rfl, (show (inR 1) ∧ (Mkr 1 c0) from ⟨(by omega), (by first | exact Or.inl ⟨by omega, by unfold isMk; omega⟩ | exact Or.inr ⟨by omega, by unfold isMk; omega⟩)⟩)⟩, by rw [ht]; exact hP, hD⟩, hS.F ht⟩) hS.2.2 dX10_isMark_59
            · refine lv_iload_n hx hb dX10_isMark_36 rfl (lv_at hl 0 rfl) ?_
              refine lv_bipush (v := Int32.ofInt 47) hx hb dX10_isMark_37 (by decide +kernel) ?_
              refine iv_icmp_eq (tgt := 54) hx hb (by omega) (by omega) dX10_isMark_39 (by decide) (fun q7 => ?_) (fun q7 => ?_)
              · refine lv_iconst (v := Int32.ofInt 1) hx hb dX10_isMark_54 (by decide +kernel) ?_
                refine lv_goto (tgt := 59) hx hb dX10_isMark_55 (by decide) ?_
                exact W.zret (v := Int32.ofInt (1)) hx hb hr (nz_bool (by omega)) (fun t ht hW => ⟨⟨Int32.ofInt (1), (1), rfl, ⟨rfl, (show (inR 1) ∧ (Mkr 1 c0) from ⟨(by omega), (by first | exact Or.inl ⟨by omega, by unfold isMk; omega⟩ | exact Or.inr ⟨by omega, by unfold isMk; omega⟩)⟩)⟩, by rw [ht]; exact hP, hD⟩, hS.F ht⟩) hS.2.2 dX10_isMark_59
              · refine lv_iload_n hx hb dX10_isMark_42 rfl (lv_at hl 0 rfl) ?_
                refine lv_bipush (v := Int32.ofInt 60) hx hb dX10_isMark_43 (by decide +kernel) ?_
                refine iv_icmp_eq (tgt := 54) hx hb (by omega) (by omega) dX10_isMark_45 (by decide) (fun q8 => ?_) (fun q8 => ?_)
                · refine lv_iconst (v := Int32.ofInt 1) hx hb dX10_isMark_54 (by decide +kernel) ?_
                  refine lv_goto (tgt := 59) hx hb dX10_isMark_55 (by decide) ?_
                  exact W.zret (v := Int32.ofInt (1)) hx hb hr (nz_bool (by omega)) (fun t ht hW => ⟨⟨Int32.ofInt (1), (1), rfl, ⟨rfl, (show (inR 1) ∧ (Mkr 1 c0) from ⟨(by omega), (by first | exact Or.inl ⟨by omega, by unfold isMk; omega⟩ | exact Or.inr ⟨by omega, by unfold isMk; omega⟩)⟩)⟩, by rw [ht]; exact hP, hD⟩, hS.F ht⟩) hS.2.2 dX10_isMark_59
                · refine lv_iload_n hx hb dX10_isMark_48 rfl (lv_at hl 0 rfl) ?_
                  refine lv_bipush (v := Int32.ofInt 61) hx hb dX10_isMark_49 (by decide +kernel) ?_
                  refine iv_icmp_ne (tgt := 58) hx hb (by omega) (by omega) dX10_isMark_51 (by decide) (fun q9 => ?_) (fun q9 => ?_)
                  · refine lv_iconst (v := Int32.ofInt 0) hx hb dX10_isMark_58 (by decide +kernel) ?_
                    exact W.zret (v := Int32.ofInt (0)) hx hb hr (nz_bool (by omega)) (fun t ht hW => ⟨⟨Int32.ofInt (0), (0), rfl, ⟨rfl, (show (inR 0) ∧ (Mkr 0 c0) from ⟨(by omega), (by first | exact Or.inl ⟨by omega, by unfold isMk; omega⟩ | exact Or.inr ⟨by omega, by unfold isMk; omega⟩)⟩)⟩, by rw [ht]; exact hP, hD⟩, hS.F ht⟩) hS.2.2 dX10_isMark_59
                  · refine lv_iconst (v := Int32.ofInt 1) hx hb dX10_isMark_54 (by decide +kernel) ?_
                    refine lv_goto (tgt := 59) hx hb dX10_isMark_55 (by decide) ?_
                    exact W.zret (v := Int32.ofInt (1)) hx hb hr (nz_bool (by omega)) (fun t ht hW => ⟨⟨Int32.ofInt (1), (1), rfl, ⟨rfl, (show (inR 1) ∧ (Mkr 1 c0) from ⟨(by omega), (by first | exact Or.inl ⟨by omega, by unfold isMk; omega⟩ | exact Or.inr ⟨by omega, by unfold isMk; omega⟩)⟩)⟩, by rw [ht]; exact hP, hD⟩, hS.F ht⟩) hS.2.2 dX10_isMark_59

set_option maxHeartbeats 4000000 in
set_option maxRecDepth 100000 in
theorem mX10_thrown (l : Launch) (G : va_G) (k : Nat → ClassId) (ar : Nat → Nat) (fi : Nat → Int) (fa : Nat → Int → Int) (fl : Nat → Int64) (sz : Nat) (hR : ∀ j, inR (fi j)) (hRa : ∀ j t, inR (fa j t)) : CNi l G k (EZ k) yX10_thrown wzX10_thrown ({ frames := 0, cells := 0, slots := 0, locals := 0 }) [.ref (ar 71)] sz (wM k ar fi fa fl) (fun (r0 : Int32) (u : Int) => r0 = Int32.ofInt (u) ∧ (inR u) ∧ (u = fi 2)) (fun (u : Int) => (wM k ar fi fa fl)) := by
  refine Met.ofW (cc := cX10_thrown) (maxL := 1) (ret := (some .int)) (by decide) rfl ?_
  intro p e s m args below meth c s₁ B hml hv
  obtain ⟨rfl, hsz, hP, hX, hD0, hZ0⟩ := hv
  have hx := B.exec
  have hb := B.bytes
  have hr := B.returns
  have hts := atoms_spec (ws := wzX10_thrown) B.pre
  have hown : s.vm.findClass RX10 = some m.cls := findClass_of_methodNamed B.named
  subst hsz
  have hD := hD0.self (sz := s.heap.size)
  have hZ := hZ0
  generalize hAe : va_A (wM k ar fi fa fl) s.heap.size = A at hD hZ ⊢
  have hA : ∀ q : Nat, s.heap.size ≤ q → A q := fun q h => by rw [← hAe]; exact Or.inr h
  have hS : va_S A s.heap s.heap [] := va_S.rf
  have hl := lv_entry ([.ref (ar 71)]) (n := 1) (Nat.le_of_ble_eq_true rfl)
  rw [lg_entry_eq]
  generalize (lg_sl ([.ref (ar 71)]) ++ List.replicate (1 - (lg_sl ([.ref (ar 71)])).length) Slot.unset).toArray = ls at hl ⊢
  have hl : lv_has ls 1 [(0, .ref (ar 71))] := hl
  obtain ⟨H, eH⟩ : ∃ H, H = s.heap := ⟨_, rfl⟩
  rw [← eH] at hP
  have hS : va_S A s.heap H [] := by rw [eH]; exact hS
  have gW : s.heap = H := eH.symm
  refine iv_heap gW ?_
  have h0w := hts (.fieldLink RX10 171 "RopeTownModel" "code" "I") (wz_at 8 12 rfl)
  have h1w : ∀ w ∈ wsX100, w ∈ wzX10_thrown := fun w h => List.mem_cons_of_mem _ (inlX10 w h)
  refine lv_aload_n hx hb dX10_thrown_0 rfl (lv_at hl 0 rfl) ?_
  refine va_get (D := G) (ci := 7) (v := .int (Int32.ofInt (fi 2))) (C := RX10) (T := TX10) (N := 71) (ref := RX10) hx hb hts h1w hown hX.1 hP 0 rfl rfl 2 (by decide) h0w (fun _ h9 => h9) rfl dX10_thrown_1 ?_
  have rf2 := hR 2
  exact W.iret (v := Int32.ofInt (fi 2)) hx hb hr (fun t ht hW => ⟨⟨Int32.ofInt (fi 2), (fi 2), rfl, ⟨rfl, (show (inR (fi 2)) ∧ ((fi 2) = fi 2) from ⟨(hR 2), (by omega)⟩)⟩, by rw [ht]; exact hP, hD⟩, hS.F ht⟩) hS.2.2 dX10_thrown_4

