set_option maxHeartbeats 4000000 in
set_option maxRecDepth 100000 in
theorem mX10_leastOf (l : Launch) (G : va_G) (k : Nat → ClassId) (ar : Nat → Nat) (fi : Nat → Int) (fa : Nat → Int → Int) (fl : Nat → Int64) (k0 : Int) (sz : Nat) (hR : ∀ j, inR (fi j)) (hRa : ∀ j t, inR (fa j t)) (hr_k0 : inR k0) : CNi l G k (EZ k) yX10_leastOf wzX10_leastOf ({ frames := 0, cells := 0, slots := 0, locals := 0 }) [.ref (ar 71), .int (Int32.ofInt (k0))] sz (wM k ar fi fa fl) (fun (r0 : Int32) (u : Int) => r0 = Int32.ofInt (u) ∧ (inR u) ∧ (((u = 0 ∨ u = 1) ∧ (k0 = 0 → u = 1)) ∧ u = loK k0)) (fun (u : Int) => (wM k ar fi fa fl)) := by
  refine Met.ofW (cc := cX10_leastOf) (maxL := 2) (ret := (some .int)) (by decide) rfl ?_
  intro p e s m args below meth c s₁ B hml hv
  obtain ⟨rfl, hsz, hP, hX, hD0, hZ0⟩ := hv
  have hx := B.exec
  have hb := B.bytes
  have hr := B.returns
  have hts := atoms_spec (ws := wzX10_leastOf) B.pre
  have hown : s.vm.findClass RX10 = some m.cls := findClass_of_methodNamed B.named
  subst hsz
  have hD := hD0.self (sz := s.heap.size)
  have hZ := hZ0
  generalize hAe : va_A (wM k ar fi fa fl) s.heap.size = A at hD hZ ⊢
  have hA : ∀ q : Nat, s.heap.size ≤ q → A q := fun q h => by rw [← hAe]; exact Or.inr h
  have hS : va_S A s.heap s.heap [] := va_S.rf
  have hl := lv_entry ([.ref (ar 71), .int (Int32.ofInt (k0))]) (n := 2) (Nat.le_of_ble_eq_true rfl)
  rw [lg_entry_eq]
  generalize (lg_sl ([.ref (ar 71), .int (Int32.ofInt (k0))]) ++ List.replicate (2 - (lg_sl ([.ref (ar 71), .int (Int32.ofInt (k0))])).length) Slot.unset).toArray = ls at hl ⊢
  have hl : lv_has ls 2 [(0, .ref (ar 71)), (1, .int (Int32.ofInt (k0)))] := hl
  obtain ⟨H, eH⟩ : ∃ H, H = s.heap := ⟨_, rfl⟩
  rw [← eH] at hP
  have hS : va_S A s.heap H [] := by rw [eH]; exact hS
  have gW : s.heap = H := eH.symm
  refine iv_heap gW ?_
  refine lv_iload_n hx hb dX10_leastOf_0 rfl (lv_at hl 1 rfl) ?_
  refine iv_if_eq (tgt := 9) hx hb (by omega) dX10_leastOf_1 (by decide) (fun q1 => ?_) (fun q1 => ?_)
  · refine lv_iconst (v := Int32.ofInt 1) hx hb dX10_leastOf_9 (by decide +kernel) ?_
    refine lv_goto (tgt := 14) hx hb dX10_leastOf_10 (by decide) ?_
    exact W.iret (v := Int32.ofInt (1)) hx hb hr (fun t ht hW => ⟨⟨Int32.ofInt (1), (1), rfl, ⟨rfl, (show (inR 1) ∧ (((1 = 0 ∨ 1 = 1) ∧ (k0 = 0 → 1 = 1)) ∧ 1 = loK k0) from ⟨(by omega), (by exact ⟨by omega, by unfold loK; first | rw [if_pos (by omega)] | rw [if_neg (by omega)]⟩)⟩)⟩, by rw [ht]; exact hP, hD⟩, hS.F ht⟩) hS.2.2 dX10_leastOf_14
  · refine lv_iload_n hx hb dX10_leastOf_4 rfl (lv_at hl 1 rfl) ?_
    refine lv_iconst (v := Int32.ofInt 2) hx hb dX10_leastOf_5 (by decide +kernel) ?_
    refine iv_icmp_ne (tgt := 13) hx hb (by omega) (by omega) dX10_leastOf_6 (by decide) (fun q2 => ?_) (fun q2 => ?_)
    · refine lv_iconst (v := Int32.ofInt 0) hx hb dX10_leastOf_13 (by decide +kernel) ?_
      exact W.iret (v := Int32.ofInt (0)) hx hb hr (fun t ht hW => ⟨⟨Int32.ofInt (0), (0), rfl, ⟨rfl, (show (inR 0) ∧ (((0 = 0 ∨ 0 = 1) ∧ (k0 = 0 → 0 = 1)) ∧ 0 = loK k0) from ⟨(by omega), (by exact ⟨by omega, by unfold loK; first | rw [if_pos (by omega)] | rw [if_neg (by omega)]⟩)⟩)⟩, by rw [ht]; exact hP, hD⟩, hS.F ht⟩) hS.2.2 dX10_leastOf_14
    · refine lv_iconst (v := Int32.ofInt 1) hx hb dX10_leastOf_9 (by decide +kernel) ?_
      refine lv_goto (tgt := 14) hx hb dX10_leastOf_10 (by decide) ?_
      exact W.iret (v := Int32.ofInt (1)) hx hb hr (fun t ht hW => ⟨⟨Int32.ofInt (1), (1), rfl, ⟨rfl, (show (inR 1) ∧ (((1 = 0 ∨ 1 = 1) ∧ (k0 = 0 → 1 = 1)) ∧ 1 = loK k0) from ⟨(by omega), (by exact ⟨by omega, by unfold loK; first | rw [if_pos (by omega)] | rw [if_neg (by omega)]⟩)⟩)⟩, by rw [ht]; exact hP, hD⟩, hS.F ht⟩) hS.2.2 dX10_leastOf_14

set_option maxHeartbeats 4000000 in
set_option maxRecDepth 100000 in
theorem mX10_topOf (l : Launch) (G : va_G) (k : Nat → ClassId) (ar : Nat → Nat) (fi : Nat → Int) (fa : Nat → Int → Int) (fl : Nat → Int64) (k0 : Int) (sz : Nat) (hR : ∀ j, inR (fi j)) (hRa : ∀ j t, inR (fa j t)) (hr_k0 : inR k0) : CNi l G k (EZ k) yX10_topOf wzX10_topOf ({ frames := 0, cells := 0, slots := 0, locals := 0 }) [.ref (ar 71), .int (Int32.ofInt (k0))] sz (wM k ar fi fa fl) (fun (r0 : Int32) (u : Int) => r0 = Int32.ofInt (u) ∧ (inR u) ∧ ((k0 = 0 → u = 11) ∧ u = hiK k0 (fa 3 7))) (fun (u : Int) => (wM k ar fi fa fl)) := by
  refine Met.ofW (cc := cX10_topOf) (maxL := 2) (ret := (some .int)) (by decide) rfl ?_
  intro p e s m args below meth c s₁ B hml hv
  obtain ⟨rfl, hsz, hP, hX, hD0, hZ0⟩ := hv
  have hx := B.exec
  have hb := B.bytes
  have hr := B.returns
  have hts := atoms_spec (ws := wzX10_topOf) B.pre
  have hown : s.vm.findClass RX10 = some m.cls := findClass_of_methodNamed B.named
  subst hsz
  have hD := hD0.self (sz := s.heap.size)
  have hZ := hZ0
  generalize hAe : va_A (wM k ar fi fa fl) s.heap.size = A at hD hZ ⊢
  have hA : ∀ q : Nat, s.heap.size ≤ q → A q := fun q h => by rw [← hAe]; exact Or.inr h
  have hS : va_S A s.heap s.heap [] := va_S.rf
  have hl := lv_entry ([.ref (ar 71), .int (Int32.ofInt (k0))]) (n := 2) (Nat.le_of_ble_eq_true rfl)
  rw [lg_entry_eq]
  generalize (lg_sl ([.ref (ar 71), .int (Int32.ofInt (k0))]) ++ List.replicate (2 - (lg_sl ([.ref (ar 71), .int (Int32.ofInt (k0))])).length) Slot.unset).toArray = ls at hl ⊢
  have hl : lv_has ls 2 [(0, .ref (ar 71)), (1, .int (Int32.ofInt (k0)))] := hl
  obtain ⟨H, eH⟩ : ∃ H, H = s.heap := ⟨_, rfl⟩
  rw [← eH] at hP
  have hS : va_S A s.heap H [] := by rw [eH]; exact hS
  have gW : s.heap = H := eH.symm
  refine iv_heap gW ?_
  have h0w := hts (.fieldLink RX10 54 "RopeTownModel" "rule" "[I") (wz_at 6 6 rfl)
  have h1w : ∀ w ∈ wsX100, w ∈ wzX10_topOf := fun w h => List.mem_cons_of_mem _ (inlX10 w h)
  refine lv_iload_n hx hb dX10_topOf_0 rfl (lv_at hl 1 rfl) ?_
  refine iv_if_ne (tgt := 9) hx hb (by omega) dX10_topOf_1 (by decide) (fun q1 => ?_) (fun q1 => ?_)
  · refine lv_iload_n hx hb dX10_topOf_9 rfl (lv_at hl 1 rfl) ?_
    refine lv_iconst (v := Int32.ofInt 1) hx hb dX10_topOf_10 (by decide +kernel) ?_
    refine iv_icmp_ne (tgt := 24) hx hb (by omega) (by omega) dX10_topOf_11 (by decide) (fun q2 => ?_) (fun q2 => ?_)
    · refine lv_iload_n hx hb dX10_topOf_24 rfl (lv_at hl 1 rfl) ?_
      refine lv_iconst (v := Int32.ofInt 3) hx hb dX10_topOf_25 (by decide +kernel) ?_
      refine iv_icmp_ne (tgt := 34) hx hb (by omega) (by omega) dX10_topOf_26 (by decide) (fun q3 => ?_) (fun q3 => ?_)
      · refine lv_iload_n hx hb dX10_topOf_34 rfl (lv_at hl 1 rfl) ?_
        refine lv_iconst (v := Int32.ofInt 4) hx hb dX10_topOf_35 (by decide +kernel) ?_
        refine iv_icmp_ne (tgt := 44) hx hb (by omega) (by omega) dX10_topOf_36 (by decide) (fun q4 => ?_) (fun q4 => ?_)
        · refine lv_sipush (v := Int32.ofInt 999) hx hb dX10_topOf_44 (by decide +kernel) ?_
          exact W.iret (v := Int32.ofInt (999)) hx hb hr (fun t ht hW => ⟨⟨Int32.ofInt (999), (999), rfl, ⟨rfl, (show (inR 999) ∧ ((k0 = 0 → 999 = 11) ∧ 999 = hiK k0 (fa 3 7)) from ⟨(by omega), (by exact ⟨by omega, by unfold hiK; first | (rw [if_pos (by omega)] <;> omega) | (rw [if_neg (by omega), if_pos (by omega)] <;> omega) | (rw [if_neg (by omega), if_neg (by omega), if_pos (by omega)] <;> omega) | (rw [if_neg (by omega), if_neg (by omega), if_neg (by omega), if_pos (by omega)] <;> omega) | (rw [if_neg (by omega), if_neg (by omega), if_neg (by omega), if_neg (by omega)] <;> omega)⟩)⟩)⟩, by rw [ht]; exact hP, hD⟩, hS.F ht⟩) hS.2.2 dX10_topOf_47
        · refine lv_bipush (v := Int32.ofInt 99) hx hb dX10_topOf_39 (by decide +kernel) ?_
          refine lv_goto (tgt := 47) hx hb dX10_topOf_41 (by decide) ?_
          exact W.iret (v := Int32.ofInt (99)) hx hb hr (fun t ht hW => ⟨⟨Int32.ofInt (99), (99), rfl, ⟨rfl, (show (inR 99) ∧ ((k0 = 0 → 99 = 11) ∧ 99 = hiK k0 (fa 3 7)) from ⟨(by omega), (by exact ⟨by omega, by unfold hiK; first | (rw [if_pos (by omega)] <;> omega) | (rw [if_neg (by omega), if_pos (by omega)] <;> omega) | (rw [if_neg (by omega), if_neg (by omega), if_pos (by omega)] <;> omega) | (rw [if_neg (by omega), if_neg (by omega), if_neg (by omega), if_pos (by omega)] <;> omega) | (rw [if_neg (by omega), if_neg (by omega), if_neg (by omega), if_neg (by omega)] <;> omega)⟩)⟩)⟩, by rw [ht]; exact hP, hD⟩, hS.F ht⟩) hS.2.2 dX10_topOf_47
      · refine lv_bipush (v := Int32.ofInt 9) hx hb dX10_topOf_29 (by decide +kernel) ?_
        refine lv_goto (tgt := 47) hx hb dX10_topOf_31 (by decide) ?_
        exact W.iret (v := Int32.ofInt (9)) hx hb hr (fun t ht hW => ⟨⟨Int32.ofInt (9), (9), rfl, ⟨rfl, (show (inR 9) ∧ ((k0 = 0 → 9 = 11) ∧ 9 = hiK k0 (fa 3 7)) from ⟨(by omega), (by exact ⟨by omega, by unfold hiK; first | (rw [if_pos (by omega)] <;> omega) | (rw [if_neg (by omega), if_pos (by omega)] <;> omega) | (rw [if_neg (by omega), if_neg (by omega), if_pos (by omega)] <;> omega) | (rw [if_neg (by omega), if_neg (by omega), if_neg (by omega), if_pos (by omega)] <;> omega) | (rw [if_neg (by omega), if_neg (by omega), if_neg (by omega), if_neg (by omega)] <;> omega)⟩)⟩)⟩, by rw [ht]; exact hP, hD⟩, hS.F ht⟩) hS.2.2 dX10_topOf_47
    · refine lv_aload_n hx hb dX10_topOf_14 rfl (lv_at hl 0 rfl) ?_
      refine va_get (D := G) (ci := 7) (v := .ref (ar 3)) (C := RX10) (T := TX10) (N := 71) (ref := RX10) hx hb hts h1w hown hX.1 hP 0 rfl rfl 3 (by decide) h0w (fun _ h9 => h9) rfl dX10_topOf_15 ?_
      refine lv_bipush (v := Int32.ofInt 7) hx hb dX10_topOf_18 (by decide +kernel) ?_
      refine iv_iald hx hb hX.1 hP 1 0 rfl rfl (by omega) (by omega) (by decide) dX10_topOf_20 ?_
      refine iv_top (fun z5 ez5 => ?_)
      have rz5 : inR z5 := ez5 ▸ (hRa 3) _
      have ez5 : z5 = (fa 3) 7 := ez5
      refine lv_goto (tgt := 47) hx hb dX10_topOf_21 (by decide) ?_
      exact W.iret (v := Int32.ofInt (z5)) hx hb hr (fun t ht hW => ⟨⟨Int32.ofInt (z5), (z5), rfl, ⟨rfl, (show (inR z5) ∧ ((k0 = 0 → z5 = 11) ∧ z5 = hiK k0 (fa 3 7)) from ⟨(by omega), (by exact ⟨by omega, by unfold hiK; first | (rw [if_pos (by omega)] <;> omega) | (rw [if_neg (by omega), if_pos (by omega)] <;> omega) | (rw [if_neg (by omega), if_neg (by omega), if_pos (by omega)] <;> omega) | (rw [if_neg (by omega), if_neg (by omega), if_neg (by omega), if_pos (by omega)] <;> omega) | (rw [if_neg (by omega), if_neg (by omega), if_neg (by omega), if_neg (by omega)] <;> omega)⟩)⟩)⟩, by rw [ht]; exact hP, hD⟩, hS.F ht⟩) hS.2.2 dX10_topOf_47
  · refine lv_bipush (v := Int32.ofInt 11) hx hb dX10_topOf_4 (by decide +kernel) ?_
    refine lv_goto (tgt := 47) hx hb dX10_topOf_6 (by decide) ?_
    exact W.iret (v := Int32.ofInt (11)) hx hb hr (fun t ht hW => ⟨⟨Int32.ofInt (11), (11), rfl, ⟨rfl, (show (inR 11) ∧ ((k0 = 0 → 11 = 11) ∧ 11 = hiK k0 (fa 3 7)) from ⟨(by omega), (by exact ⟨by omega, by unfold hiK; first | (rw [if_pos (by omega)] <;> omega) | (rw [if_neg (by omega), if_pos (by omega)] <;> omega) | (rw [if_neg (by omega), if_neg (by omega), if_pos (by omega)] <;> omega) | (rw [if_neg (by omega), if_neg (by omega), if_neg (by omega), if_pos (by omega)] <;> omega) | (rw [if_neg (by omega), if_neg (by omega), if_neg (by omega), if_neg (by omega)] <;> omega)⟩)⟩)⟩, by rw [ht]; exact hP, hD⟩, hS.F ht⟩) hS.2.2 dX10_topOf_47

