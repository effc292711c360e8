set_option maxHeartbeats 4000000 in
set_option maxRecDepth 100000 in
theorem mX10_reckon (l : Launch) (G : va_G) (k : Nat → ClassId) (s0 : Int) (x0 : Int) (y0 : Int) (sz : Nat) (hr_s0 : inR s0) (hr_x0 : inR x0) (hr_y0 : inR y0) : CNi l G k (EZ k) yX10_reckon wzX10_reckon ({ frames := 0, cells := 0, slots := 0, locals := 0 }) [.int (Int32.ofInt (s0)), .int (Int32.ofInt (x0)), .int (Int32.ofInt (y0))] sz [] (fun (r0 : Int32) (u : Int) => r0 = Int32.ofInt (u) ∧ (inR u) ∧ (u = rk s0 x0 y0)) (fun (u : Int) => []) := by
  refine Met.ofW (cc := cX10_reckon) (maxL := 3) (ret := (some .int)) (by decide) rfl ?_
  intro p e s m args below meth c s₁ B hml hv
  obtain ⟨rfl, hsz, hP, hX, hD0, hZ0⟩ := hv
  have hx := B.exec
  have hb := B.bytes
  have hr := B.returns
  have hts := atoms_spec (ws := wzX10_reckon) B.pre
  have hown : s.vm.findClass RX10 = some m.cls := findClass_of_methodNamed B.named
  subst hsz
  have hD := hD0.self (sz := s.heap.size)
  have hZ := hZ0
  generalize hAe : va_A [] s.heap.size = A at hD hZ ⊢
  have hA : ∀ q : Nat, s.heap.size ≤ q → A q := fun q h => by rw [← hAe]; exact Or.inr h
  have hS : va_S A s.heap s.heap [] := va_S.rf
  have hl := lv_entry ([.int (Int32.ofInt (s0)), .int (Int32.ofInt (x0)), .int (Int32.ofInt (y0))]) (n := 3) (Nat.le_of_ble_eq_true rfl)
  rw [lg_entry_eq]
  generalize (lg_sl ([.int (Int32.ofInt (s0)), .int (Int32.ofInt (x0)), .int (Int32.ofInt (y0))]) ++ List.replicate (3 - (lg_sl ([.int (Int32.ofInt (s0)), .int (Int32.ofInt (x0)), .int (Int32.ofInt (y0))])).length) Slot.unset).toArray = ls at hl ⊢
  have hl : lv_has ls 3 [(0, .int (Int32.ofInt (s0))), (1, .int (Int32.ofInt (x0))), (2, .int (Int32.ofInt (y0)))] := hl
  obtain ⟨H, eH⟩ : ∃ H, H = s.heap := ⟨_, rfl⟩
  rw [← eH] at hP
  have hS : va_S A s.heap H [] := by rw [eH]; exact hS
  have gW : s.heap = H := eH.symm
  refine iv_heap gW ?_
  refine lv_iload_n hx hb dX10_reckon_0 rfl (lv_at hl 0 rfl) ?_
  obtain q1 | q1 | q1 | q1 | q1 | q1 | q1 | q1 : (s0 < (-26) ∨ (-20) < s0) ∨ s0 = (-26) ∨ s0 = (-25) ∨ s0 = (-24) ∨ s0 = (-23) ∨ s0 = (-22) ∨ s0 = (-21) ∨ s0 = (-20) := by omega
  · refine lv_tableOut (tgt := 104) hx hb dX10_reckon_1 (by rw [iz_toInt (by omega)]; exact q1) (by decide) ?_
    refine lv_iload_n hx hb dX10_reckon_104 rfl (lv_at hl 1 rfl) ?_
    refine iv_if_ne (tgt := 112) hx hb (by omega) dX10_reckon_105 (by decide) (fun q2 => ?_) (fun q2 => ?_)
    · refine lv_iconst (v := Int32.ofInt 1) hx hb dX10_reckon_112 (by decide +kernel) ?_
      refine lv_goto (tgt := 117) hx hb dX10_reckon_113 (by decide) ?_
      exact W.iret (v := Int32.ofInt (1)) hx hb hr (fun t ht hW => ⟨⟨Int32.ofInt (1), (1), rfl, ⟨rfl, (show (inR 1) ∧ (1 = rk s0 x0 y0) from ⟨(by omega), (by unfold rk; (repeat (first | rw [if_pos (by omega)] | rw [if_neg (by omega)])); first | done | assumption | rfl)⟩)⟩, by rw [ht]; exact hP, hD⟩, hS.F ht⟩) hS.2.2 dX10_reckon_117
    · refine lv_iload_n hx hb dX10_reckon_108 rfl (lv_at hl 2 rfl) ?_
      refine iv_if_eq (tgt := 116) hx hb (by omega) dX10_reckon_109 (by decide) (fun q3 => ?_) (fun q3 => ?_)
      · refine lv_iconst (v := Int32.ofInt 0) hx hb dX10_reckon_116 (by decide +kernel) ?_
        exact W.iret (v := Int32.ofInt (0)) hx hb hr (fun t ht hW => ⟨⟨Int32.ofInt (0), (0), rfl, ⟨rfl, (show (inR 0) ∧ (0 = rk s0 x0 y0) from ⟨(by omega), (by unfold rk; (repeat (first | rw [if_pos (by omega)] | rw [if_neg (by omega)])); first | done | assumption | rfl)⟩)⟩, by rw [ht]; exact hP, hD⟩, hS.F ht⟩) hS.2.2 dX10_reckon_117
      · refine lv_iconst (v := Int32.ofInt 1) hx hb dX10_reckon_112 (by decide +kernel) ?_
        refine lv_goto (tgt := 117) hx hb dX10_reckon_113 (by decide) ?_
        exact W.iret (v := Int32.ofInt (1)) hx hb hr (fun t ht hW => ⟨⟨Int32.ofInt (1), (1), rfl, ⟨rfl, (show (inR 1) ∧ (1 = rk s0 x0 y0) from ⟨(by omega), (by unfold rk; (repeat (first | rw [if_pos (by omega)] | rw [if_neg (by omega)])); first | done | assumption | rfl)⟩)⟩, by rw [ht]; exact hP, hD⟩, hS.F ht⟩) hS.2.2 dX10_reckon_117
  · refine lv_tableIn (tgt := 90) hx hb dX10_reckon_1 (by rw [iz_toInt (by omega)]; omega) (by rw [iz_toInt (by omega)]; omega) (off := 89) (by rw [iz_toInt (by omega), q1]; decide +kernel) (by decide) ?_
    refine lv_iload_n hx hb dX10_reckon_90 rfl (lv_at hl 1 rfl) ?_
    refine iv_if_eq (tgt := 102) hx hb (by omega) dX10_reckon_91 (by decide) (fun q4 => ?_) (fun q4 => ?_)
    · refine lv_iconst (v := Int32.ofInt 0) hx hb dX10_reckon_102 (by decide +kernel) ?_
      exact W.iret (v := Int32.ofInt (0)) hx hb hr (fun t ht hW => ⟨⟨Int32.ofInt (0), (0), rfl, ⟨rfl, (show (inR 0) ∧ (0 = rk s0 x0 y0) from ⟨(by omega), (by unfold rk; (repeat (first | rw [if_pos (by omega)] | rw [if_neg (by omega)])); first | done | assumption | rfl)⟩)⟩, by rw [ht]; exact hP, hD⟩, hS.F ht⟩) hS.2.2 dX10_reckon_103
    · refine lv_iload_n hx hb dX10_reckon_94 rfl (lv_at hl 2 rfl) ?_
      refine iv_if_eq (tgt := 102) hx hb (by omega) dX10_reckon_95 (by decide) (fun q5 => ?_) (fun q5 => ?_)
      · refine lv_iconst (v := Int32.ofInt 0) hx hb dX10_reckon_102 (by decide +kernel) ?_
        exact W.iret (v := Int32.ofInt (0)) hx hb hr (fun t ht hW => ⟨⟨Int32.ofInt (0), (0), rfl, ⟨rfl, (show (inR 0) ∧ (0 = rk s0 x0 y0) from ⟨(by omega), (by unfold rk; (repeat (first | rw [if_pos (by omega)] | rw [if_neg (by omega)])); first | done | assumption | rfl)⟩)⟩, by rw [ht]; exact hP, hD⟩, hS.F ht⟩) hS.2.2 dX10_reckon_103
      · refine lv_iconst (v := Int32.ofInt 1) hx hb dX10_reckon_98 (by decide +kernel) ?_
        refine lv_goto (tgt := 103) hx hb dX10_reckon_99 (by decide) ?_
        exact W.iret (v := Int32.ofInt (1)) hx hb hr (fun t ht hW => ⟨⟨Int32.ofInt (1), (1), rfl, ⟨rfl, (show (inR 1) ∧ (1 = rk s0 x0 y0) from ⟨(by omega), (by unfold rk; (repeat (first | rw [if_pos (by omega)] | rw [if_neg (by omega)])); first | done | assumption | rfl)⟩)⟩, by rw [ht]; exact hP, hD⟩, hS.F ht⟩) hS.2.2 dX10_reckon_103
  · refine lv_tableIn (tgt := 79) hx hb dX10_reckon_1 (by rw [iz_toInt (by omega)]; omega) (by rw [iz_toInt (by omega)]; omega) (off := 78) (by rw [iz_toInt (by omega), q1]; decide +kernel) (by decide) ?_
    refine lv_iload_n hx hb dX10_reckon_79 rfl (lv_at hl 1 rfl) ?_
    refine lv_iload_n hx hb dX10_reckon_80 rfl (lv_at hl 2 rfl) ?_
    refine iv_icmp_ne (tgt := 88) hx hb (by omega) (by omega) dX10_reckon_81 (by decide) (fun q6 => ?_) (fun q6 => ?_)
    · refine lv_iconst (v := Int32.ofInt 0) hx hb dX10_reckon_88 (by decide +kernel) ?_
      exact W.iret (v := Int32.ofInt (0)) hx hb hr (fun t ht hW => ⟨⟨Int32.ofInt (0), (0), rfl, ⟨rfl, (show (inR 0) ∧ (0 = rk s0 x0 y0) from ⟨(by omega), (by unfold rk; (repeat (first | rw [if_pos (by omega)] | rw [if_neg (by omega)])); first | done | assumption | rfl)⟩)⟩, by rw [ht]; exact hP, hD⟩, hS.F ht⟩) hS.2.2 dX10_reckon_89
    · refine lv_iconst (v := Int32.ofInt 1) hx hb dX10_reckon_84 (by decide +kernel) ?_
      refine lv_goto (tgt := 89) hx hb dX10_reckon_85 (by decide) ?_
      exact W.iret (v := Int32.ofInt (1)) hx hb hr (fun t ht hW => ⟨⟨Int32.ofInt (1), (1), rfl, ⟨rfl, (show (inR 1) ∧ (1 = rk s0 x0 y0) from ⟨(by omega), (by unfold rk; (repeat (first | rw [if_pos (by omega)] | rw [if_neg (by omega)])); first | done | assumption | rfl)⟩)⟩, by rw [ht]; exact hP, hD⟩, hS.F ht⟩) hS.2.2 dX10_reckon_89
  · refine lv_tableIn (tgt := 68) hx hb dX10_reckon_1 (by rw [iz_toInt (by omega)]; omega) (by rw [iz_toInt (by omega)]; omega) (off := 67) (by rw [iz_toInt (by omega), q1]; decide +kernel) (by decide) ?_
    refine lv_iload_n hx hb dX10_reckon_68 rfl (lv_at hl 1 rfl) ?_
    refine lv_iload_n hx hb dX10_reckon_69 rfl (lv_at hl 2 rfl) ?_
    refine iv_icmp_ge (tgt := 77) hx hb (by omega) (by omega) dX10_reckon_70 (by decide) (fun q7 => ?_) (fun q7 => ?_)
    · refine lv_iconst (v := Int32.ofInt 0) hx hb dX10_reckon_77 (by decide +kernel) ?_
      exact W.iret (v := Int32.ofInt (0)) hx hb hr (fun t ht hW => ⟨⟨Int32.ofInt (0), (0), rfl, ⟨rfl, (show (inR 0) ∧ (0 = rk s0 x0 y0) from ⟨(by omega), (by unfold rk; (repeat (first | rw [if_pos (by omega)] | rw [if_neg (by omega)])); first | done | assumption | rfl)⟩)⟩, by rw [ht]; exact hP, hD⟩, hS.F ht⟩) hS.2.2 dX10_reckon_78
    · refine lv_iconst (v := Int32.ofInt 1) hx hb dX10_reckon_73 (by decide +kernel) ?_
      refine lv_goto (tgt := 78) hx hb dX10_reckon_74 (by decide) ?_
      exact W.iret (v := Int32.ofInt (1)) hx hb hr (fun t ht hW => ⟨⟨Int32.ofInt (1), (1), rfl, ⟨rfl, (show (inR 1) ∧ (1 = rk s0 x0 y0) from ⟨(by omega), (by unfold rk; (repeat (first | rw [if_pos (by omega)] | rw [if_neg (by omega)])); first | done | assumption | rfl)⟩)⟩, by rw [ht]; exact hP, hD⟩, hS.F ht⟩) hS.2.2 dX10_reckon_78
  · refine lv_tableIn (tgt := 56) hx hb dX10_reckon_1 (by rw [iz_toInt (by omega)]; omega) (by rw [iz_toInt (by omega)]; omega) (off := 55) (by rw [iz_toInt (by omega), q1]; decide +kernel) (by decide) ?_
    refine lv_iload_n hx hb dX10_reckon_56 rfl (lv_at hl 2 rfl) ?_
    refine iv_if_ne (tgt := 64) hx hb (by omega) dX10_reckon_57 (by decide) (fun q8 => ?_) (fun q8 => ?_)
    · refine lv_iload_n hx hb dX10_reckon_64 rfl (lv_at hl 1 rfl) ?_
      refine lv_iload_n hx hb dX10_reckon_65 rfl (lv_at hl 2 rfl) ?_
      refine iv_div hx hb dX10_reckon_66 (by omega) (by omega) ?_
      refine iv_top (fun z9 ez9 => ?_)
      have rz9 : inR z9 := ez9 ▸ bDiv_r _ _
      exact W.iret (v := Int32.ofInt (z9)) hx hb hr (fun t ht hW => ⟨⟨Int32.ofInt (z9), (z9), rfl, ⟨rfl, (show (inR z9) ∧ (z9 = rk s0 x0 y0) from ⟨(by omega), (by unfold rk; (repeat (first | rw [if_pos (by omega)] | rw [if_neg (by omega)])); first | done | assumption | rfl)⟩)⟩, by rw [ht]; exact hP, hD⟩, hS.F ht⟩) hS.2.2 dX10_reckon_67
    · refine lv_iconst (v := Int32.ofInt 0) hx hb dX10_reckon_60 (by decide +kernel) ?_
      refine lv_goto (tgt := 67) hx hb dX10_reckon_61 (by decide) ?_
      exact W.iret (v := Int32.ofInt (0)) hx hb hr (fun t ht hW => ⟨⟨Int32.ofInt (0), (0), rfl, ⟨rfl, (show (inR 0) ∧ (0 = rk s0 x0 y0) from ⟨(by omega), (by unfold rk; (repeat (first | rw [if_pos (by omega)] | rw [if_neg (by omega)])); first | done | assumption | rfl)⟩)⟩, by rw [ht]; exact hP, hD⟩, hS.F ht⟩) hS.2.2 dX10_reckon_67
  · refine lv_tableIn (tgt := 52) hx hb dX10_reckon_1 (by rw [iz_toInt (by omega)]; omega) (by rw [iz_toInt (by omega)]; omega) (off := 51) (by rw [iz_toInt (by omega), q1]; decide +kernel) (by decide) ?_
    refine lv_iload_n hx hb dX10_reckon_52 rfl (lv_at hl 1 rfl) ?_
    refine lv_iload_n hx hb dX10_reckon_53 rfl (lv_at hl 2 rfl) ?_
    refine iv_mul (x := x0) (y := y0) hx hb dX10_reckon_54 ?_
    refine iv_wr ?_
    refine iv_top (fun z10 ez10 => ?_)
    have rz10 : inR z10 := ez10 ▸ bWr_r _
    exact W.iret (v := Int32.ofInt (z10)) hx hb hr (fun t ht hW => ⟨⟨Int32.ofInt (z10), (z10), rfl, ⟨rfl, (show (inR z10) ∧ (z10 = rk s0 x0 y0) from ⟨(by omega), (by unfold rk; (repeat (first | rw [if_pos (by omega)] | rw [if_neg (by omega)])); first | done | assumption | rfl)⟩)⟩, by rw [ht]; exact hP, hD⟩, hS.F ht⟩) hS.2.2 dX10_reckon_55
  · refine lv_tableIn (tgt := 48) hx hb dX10_reckon_1 (by rw [iz_toInt (by omega)]; omega) (by rw [iz_toInt (by omega)]; omega) (off := 47) (by rw [iz_toInt (by omega), q1]; decide +kernel) (by decide) ?_
    refine lv_iload_n hx hb dX10_reckon_48 rfl (lv_at hl 1 rfl) ?_
    refine lv_iload_n hx hb dX10_reckon_49 rfl (lv_at hl 2 rfl) ?_
    refine iv_sub (x := x0) (y := y0) hx hb dX10_reckon_50 ?_
    refine iv_wr ?_
    refine iv_top (fun z11 ez11 => ?_)
    have rz11 : inR z11 := ez11 ▸ bWr_r _
    exact W.iret (v := Int32.ofInt (z11)) hx hb hr (fun t ht hW => ⟨⟨Int32.ofInt (z11), (z11), rfl, ⟨rfl, (show (inR z11) ∧ (z11 = rk s0 x0 y0) from ⟨(by omega), (by unfold rk; (repeat (first | rw [if_pos (by omega)] | rw [if_neg (by omega)])); first | done | assumption | rfl)⟩)⟩, by rw [ht]; exact hP, hD⟩, hS.F ht⟩) hS.2.2 dX10_reckon_51
  · refine lv_tableIn (tgt := 44) hx hb dX10_reckon_1 (by rw [iz_toInt (by omega)]; omega) (by rw [iz_toInt (by omega)]; omega) (off := 43) (by rw [iz_toInt (by omega), q1]; decide +kernel) (by decide) ?_
    refine lv_iload_n hx hb dX10_reckon_44 rfl (lv_at hl 1 rfl) ?_
    refine lv_iload_n hx hb dX10_reckon_45 rfl (lv_at hl 2 rfl) ?_
    refine iv_add (x := x0) (y := y0) hx hb dX10_reckon_46 ?_
    refine iv_wr ?_
    refine iv_top (fun z12 ez12 => ?_)
    have rz12 : inR z12 := ez12 ▸ bWr_r _
    exact W.iret (v := Int32.ofInt (z12)) hx hb hr (fun t ht hW => ⟨⟨Int32.ofInt (z12), (z12), rfl, ⟨rfl, (show (inR z12) ∧ (z12 = rk s0 x0 y0) from ⟨(by omega), (by unfold rk; (repeat (first | rw [if_pos (by omega)] | rw [if_neg (by omega)])); first | done | assumption | rfl)⟩)⟩, by rw [ht]; exact hP, hD⟩, hS.F ht⟩) hS.2.2 dX10_reckon_47

set_option maxHeartbeats 4000000 in
set_option maxRecDepth 100000 in
theorem mX10_holds (l : Launch) (G : va_G) (k : Nat → ClassId) (ar : Nat → Nat) (fi : Nat → Int) (fa : Nat → Int → Int) (fl : Nat → Int64) (q0 : Int) (sz : Nat) (hR : ∀ j, inR (fi j)) (hRa : ∀ j t, inR (fa j t)) (hr_q0 : inR q0) (hq0 : 0 ≤ q0 ∧ q0 < 8) (hRW : RWf (fa 10) (fa 8 q0) (fa 9 q0)) : CNi l G k (EZ k) yX10_holds wzX10_holds ({ frames := 1, cells := 0, slots := 0, locals := 22 }) [.ref (ar 71), .int (Int32.ofInt (q0))] sz (wM k ar fi fa fl) (fun (r0 : Int32) (u : Int × (Int → Int)) => r0 = Int32.ofInt (u.1) ∧ (inR u.1) ∧ (∀ t, inR (u.2 t)) ∧ ((u.1 = 1 ∧ ¬ evR (fa 10) (fa 39) (fa 8 q0) (fa 9 q0) = 0) ∨ (u.1 = 0 ∧ evR (fa 10) (fa 39) (fa 8 q0) (fa 9 q0) = 0))) (fun (u : Int × (Int → Int)) => (wM k ar fi (uF fa 40 (u.2)) fl)) := by
  refine Met.ofW (cc := cX10_holds) (maxL := 5) (ret := (some .boolean)) (by decide) rfl ?_
  intro p e s m args below meth c s₁ B hml hv
  obtain ⟨rfl, hsz, hP, hX, hD0, hZ0⟩ := hv
  have hx := B.exec
  have hb := B.bytes
  have hr := B.returns
  have hts := atoms_spec (ws := wzX10_holds) B.pre
  have hown : s.vm.findClass RX10 = some m.cls := findClass_of_methodNamed B.named
  subst hsz
  have hD := hD0.self (sz := s.heap.size)
  have hZ := hZ0
  generalize hAe : va_A (wM k ar fi fa fl) s.heap.size = A at hD hZ ⊢
  have hA : ∀ q : Nat, s.heap.size ≤ q → A q := fun q h => by rw [← hAe]; exact Or.inr h
  have hS : va_S A s.heap s.heap [] := va_S.rf
  have hl := lv_entry ([.ref (ar 71), .int (Int32.ofInt (q0))]) (n := 5) (Nat.le_of_ble_eq_true rfl)
  rw [lg_entry_eq]
  generalize (lg_sl ([.ref (ar 71), .int (Int32.ofInt (q0))]) ++ List.replicate (5 - (lg_sl ([.ref (ar 71), .int (Int32.ofInt (q0))])).length) Slot.unset).toArray = ls at hl ⊢
  have hl : lv_has ls 5 [(0, .ref (ar 71)), (1, .int (Int32.ofInt (q0)))] := hl
  obtain ⟨H, eH⟩ : ∃ H, H = s.heap := ⟨_, rfl⟩
  rw [← eH] at hP
  have hS : va_S A s.heap H [] := by rw [eH]; exact hS
  have gW : s.heap = H := eH.symm
  refine iv_heap gW ?_
  have h0w := hts (.fieldLink RX10 68 "RopeTownModel" "begin" "[I") (wz_at 6 11 rfl)
  have h1w : ∀ w ∈ wsX100, w ∈ wzX10_holds := fun w h => List.mem_cons_of_mem _ (inlX10 w h)
  have h2w := hts (.fieldLink RX10 71 "RopeTownModel" "finish" "[I") (wz_at 6 12 rfl)
  have h3w := hts (.fieldLink RX10 111 "RopeTownModel" "stack" "[I") (wz_at 7 1 rfl)
  have h4w := hts (.fieldLink RX10 74 "RopeTownModel" "signs" "[I") (wz_at 6 13 rfl)
  have h5w := hts (.fieldLink RX10 108 "RopeTownModel" "asked" "[I") (wz_at 7 0 rfl)
  obtain ⟨b0, b1, b2, h, b3, b4, hok⟩ := hRW
  refine lv_iconst (v := Int32.ofInt 0) hx hb dX10_holds_0 (by decide +kernel) ?_
  refine lv_istore_n (lv' := [(2, .int (Int32.ofInt (0))), (0, .ref (ar 71)), (1, .int (Int32.ofInt (q0)))]) hx hb dX10_holds_1 rfl hl (by decide) rfl (fun ls hl => ?_)
  refine lv_aload_n hx hb dX10_holds_2 rfl (lv_at hl 1 rfl) ?_
  refine va_get (D := G) (ci := 7) (v := .ref (ar 8)) (C := RX10) (T := TX10) (N := 71) (ref := RX10) hx hb hts h1w hown hX.1 hP 0 rfl rfl 8 (by decide) h0w (fun _ h9 => h9) rfl dX10_holds_3 ?_
  refine lv_iload_n hx hb dX10_holds_6 rfl (lv_at hl 2 rfl) ?_
  refine iv_iald hx hb hX.1 hP 6 0 rfl rfl (by omega) (by omega) (by decide) dX10_holds_7 ?_
  refine iv_top (fun z1 ez1 => ?_)
  have rz1 : inR z1 := ez1 ▸ (hRa 8) _
  have ez1 : z1 = (fa 8) q0 := ez1
  have hz9 : h z1 = 0 := by rw [ez1]; exact b3
  refine lv_istore_n (lv' := [(3, .int (Int32.ofInt (z1))), (2, .int (Int32.ofInt (0))), (0, .ref (ar 71)), (1, .int (Int32.ofInt (q0)))]) hx hb dX10_holds_8 rfl hl (by decide) rfl (fun ls hl => ?_)
  refine iv_loop (α := Int × Int × (Int → Int)) (nL := 5) (fun b9 => (wM k ar fi (uF fa 40 (b9.2.2)) fl)) (fun b9 => [(3, .int (Int32.ofInt (b9.1))), (2, .int (Int32.ofInt (b9.2.1))), (0, .ref (ar 71)), (1, .int (Int32.ofInt (q0)))]) (fun b9 => (fa 9 q0 - b9.1).toNat) (fun b9 => inR b9.1 ∧ inR b9.2.1 ∧ (∀ t, inR (b9.2.2 t)) ∧ ((fa 8 q0 ≤ b9.1 ∧ b9.1 ≤ fa 9 q0 ∧ b9.2.1 = h b9.1 ∧ 0 ≤ b9.2.1 ∧ b9.2.1 ≤ 60) ∧ RunI (fa 10) (fa 39) (fa 8 q0) b9.1 b9.2.2 b9.2.1)) ?_ (z1, 0, fa 40) (show inR z1 ∧ inR 0 ∧ (∀ t, inR ((fa 40) t)) ∧ ((fa 8 q0 ≤ z1 ∧ z1 ≤ fa 9 q0 ∧ 0 = h z1 ∧ 0 ≤ 0 ∧ 0 ≤ 60) ∧ RunI (fa 10) (fa 39) (fa 8 q0) z1 (fa 40) 0) from ⟨(by omega), (by omega), (hRa 40), (by exact ⟨by omega, ri_0 (by omega) rfl⟩)⟩) hP hD hS hl
  rintro ⟨x3_2, x2_3, g40_4⟩ ih hi9 H locs ls hP hD hS hl
  obtain ⟨r_x3_2, r_x2_3, r_g40_4, hinv⟩ : inR x3_2 ∧ inR x2_3 ∧ (∀ t, inR (g40_4 t)) ∧ ((fa 8 q0 ≤ x3_2 ∧ x3_2 ≤ fa 9 q0 ∧ x2_3 = h x3_2 ∧ 0 ≤ x2_3 ∧ x2_3 ≤ 60) ∧ RunI (fa 10) (fa 39) (fa 8 q0) x3_2 g40_4 x2_3) := hi9
  obtain ⟨hinv, hRI⟩ := hinv
  obtain ⟨hP, hD⟩ : va_P G vwCl (wM k ar fi (uF fa 40 (g40_4)) fl) H ∧ va_D A (wM k ar fi (uF fa 40 (g40_4)) fl) := ⟨hP, hD⟩
  have hl : lv_has ls 5 [(3, .int (Int32.ofInt (x3_2))), (2, .int (Int32.ofInt (x2_3))), (0, .ref (ar 71)), (1, .int (Int32.ofInt (q0)))] := hl
  refine lv_iload_n hx hb dX10_holds_9 rfl (lv_at hl 0 rfl) ?_
  refine lv_aload_n hx hb dX10_holds_10 rfl (lv_at hl 2 rfl) ?_
  refine va_get (D := G) (ci := 7) (v := .ref (ar 9)) (C := RX10) (T := TX10) (N := 71) (ref := RX10) hx hb hts h1w hown hX.1 hP 0 rfl rfl 9 (by decide) h2w (fun _ h9 => h9) rfl dX10_holds_11 ?_
  refine lv_iload_n hx hb dX10_holds_14 rfl (lv_at hl 3 rfl) ?_
  refine iv_iald hx hb hX.1 hP 7 0 rfl rfl (by omega) (by omega) (by decide) dX10_holds_15 ?_
  refine iv_top (fun z5 ez5 => ?_)
  have rz5 : inR z5 := ez5 ▸ (hRa 9) _
  have ez5 : z5 = (fa 9) q0 := ez5
  refine iv_icmp_ge (tgt := 135) hx hb (by omega) (by omega) dX10_holds_16 (by decide) (fun q6 => ?_) (fun q6 => ?_)
  · refine lv_aload_n hx hb dX10_holds_135 rfl (lv_at hl 2 rfl) ?_
    refine va_get (D := G) (ci := 7) (v := .ref (ar 40)) (C := RX10) (T := TX10) (N := 71) (ref := RX10) hx hb hts h1w hown hX.1 hP 0 rfl rfl 40 (by decide) h3w (fun _ h9 => h9) rfl dX10_holds_136 ?_
    have hxe : x3_2 = fa 9 q0 := by omega
    have hh9 : h x3_2 = 1 := by rw [hxe]; exact b4
    have hv9 := ri_ev2 hRI hxe (by omega)
    refine lv_iconst (v := Int32.ofInt 0) hx hb dX10_holds_139 (by decide +kernel) ?_
    refine iv_iald hx hb hX.1 hP 19 0 rfl rfl (by omega) (by omega) (by decide) dX10_holds_140 ?_
    refine iv_top (fun z7 ez7 => ?_)
    have rz7 : inR z7 := ez7 ▸ r_g40_4 _
    have ez7 : z7 = g40_4 0 := ez7
    refine iv_if_eq (tgt := 148) hx hb (by omega) dX10_holds_141 (by decide) (fun q8 => ?_) (fun q8 => ?_)
    · refine lv_iconst (v := Int32.ofInt 0) hx hb dX10_holds_148 (by decide +kernel) ?_
      exact W.zret (v := Int32.ofInt (0)) hx hb hr (nz_bool (by omega)) (fun t ht hW => ⟨⟨Int32.ofInt (0), (0, g40_4), rfl, ⟨rfl, (show (inR 0) ∧ (∀ t, inR (g40_4 t)) ∧ ((0 = 1 ∧ ¬ evR (fa 10) (fa 39) (fa 8 q0) (fa 9 q0) = 0) ∨ (0 = 0 ∧ evR (fa 10) (fa 39) (fa 8 q0) (fa 9 q0) = 0)) from ⟨(by omega), r_g40_4, (by omega)⟩)⟩, by rw [ht]; exact hP, hD⟩, hS.F ht⟩) hS.2.2 dX10_holds_149
    · refine lv_iconst (v := Int32.ofInt 1) hx hb dX10_holds_144 (by decide +kernel) ?_
      refine lv_goto (tgt := 149) hx hb dX10_holds_145 (by decide) ?_
      exact W.zret (v := Int32.ofInt (1)) hx hb hr (nz_bool (by omega)) (fun t ht hW => ⟨⟨Int32.ofInt (1), (1, g40_4), rfl, ⟨rfl, (show (inR 1) ∧ (∀ t, inR (g40_4 t)) ∧ ((1 = 1 ∧ ¬ evR (fa 10) (fa 39) (fa 8 q0) (fa 9 q0) = 0) ∨ (1 = 0 ∧ evR (fa 10) (fa 39) (fa 8 q0) (fa 9 q0) = 0)) from ⟨(by omega), r_g40_4, (by omega)⟩)⟩, by rw [ht]; exact hP, hD⟩, hS.F ht⟩) hS.2.2 dX10_holds_149
  · refine lv_aload_n hx hb dX10_holds_19 rfl (lv_at hl 2 rfl) ?_
    refine va_get (D := G) (ci := 7) (v := .ref (ar 10)) (C := RX10) (T := TX10) (N := 71) (ref := RX10) hx hb hts h1w hown hX.1 hP 0 rfl rfl 10 (by decide) h4w (fun _ h9 => h9) rfl dX10_holds_20 ?_
    refine lv_iload_n hx hb dX10_holds_23 rfl (lv_at hl 0 rfl) ?_
    refine iv_iald hx hb hX.1 hP 8 0 rfl rfl (by omega) (by omega) (by decide) dX10_holds_24 ?_
    refine iv_top (fun z9 ez9 => ?_)
    have rz9 : inR z9 := ez9 ▸ (hRa 10) _
    have ez9 : z9 = (fa 10) x3_2 := ez9
    refine lv_istore (lv' := [(4, .int (Int32.ofInt (z9))), (3, .int (Int32.ofInt (x3_2))), (2, .int (Int32.ofInt (x2_3))), (0, .ref (ar 71)), (1, .int (Int32.ofInt (q0)))]) hx hb dX10_holds_25 hl (by decide) rfl (fun ls hl => ?_)
    have ho := hok x3_2 (by omega) (by omega)
    refine lv_iload hx hb dX10_holds_27 (lv_at hl 0 rfl) ?_
    refine lv_bipush (v := Int32.ofInt (-20)) hx hb dX10_holds_29 (by decide +kernel) ?_
    refine iv_icmp_le (tgt := 65) hx hb (by omega) (by omega) dX10_holds_31 (by decide) (fun q10 => ?_) (fun q10 => ?_)
    · refine lv_iload hx hb dX10_holds_65 (lv_at hl 0 rfl) ?_
      refine lv_bipush (v := Int32.ofInt (-28)) hx hb dX10_holds_67 (by decide +kernel) ?_
      refine iv_icmp_ne (tgt := 99) hx hb (by omega) (by omega) dX10_holds_69 (by decide) (fun q11 => ?_) (fun q11 => ?_)
      · refine lv_iinc (v := Int32.ofInt (x2_3 + (-1))) (lv' := [(2, .int (Int32.ofInt ((x2_3 + (-1))))), (4, .int (Int32.ofInt (z9))), (3, .int (Int32.ofInt (x3_2))), (0, .ref (ar 71)), (1, .int (Int32.ofInt (q0)))]) hx hb dX10_holds_99 hl (k := 2) rfl (Int32.ofInt_add _ _).symm (by decide) rfl (fun ls hl => ?_)
        refine lv_aload_n hx hb dX10_holds_102 rfl (lv_at hl 3 rfl) ?_
        refine va_get (D := G) (ci := 7) (v := .ref (ar 40)) (C := RX10) (T := TX10) (N := 71) (ref := RX10) hx hb hts h1w hown hX.1 hP 0 rfl rfl 40 (by decide) h3w (fun _ h9 => h9) rfl dX10_holds_103 ?_
        refine lv_iload_n hx hb dX10_holds_106 rfl (lv_at hl 0 rfl) ?_
        refine lv_iconst (v := Int32.ofInt 1) hx hb dX10_holds_107 (by decide +kernel) ?_
        refine iv_sub (x := (x2_3 + (-1))) (y := 1) hx hb dX10_holds_108 ?_
        refine lv_iload hx hb dX10_holds_109 (lv_at hl 1 rfl) ?_
        refine lv_aload_n hx hb dX10_holds_111 rfl (lv_at hl 3 rfl) ?_
        refine va_get (D := G) (ci := 7) (v := .ref (ar 40)) (C := RX10) (T := TX10) (N := 71) (ref := RX10) hx hb hts h1w hown hX.1 hP 0 rfl rfl 40 (by decide) h3w (fun _ h9 => h9) rfl dX10_holds_112 ?_
        refine lv_iload_n hx hb dX10_holds_115 rfl (lv_at hl 0 rfl) ?_
        refine lv_iconst (v := Int32.ofInt 1) hx hb dX10_holds_116 (by decide +kernel) ?_
        refine iv_sub (x := (x2_3 + (-1))) (y := 1) hx hb dX10_holds_117 ?_
        refine iv_iald hx hb hX.1 hP 19 0 rfl rfl (by omega) (by omega) (by decide) dX10_holds_118 ?_
        refine iv_top (fun z12 ez12 => ?_)
        have rz12 : inR z12 := ez12 ▸ r_g40_4 _
        have ez12 : z12 = g40_4 ((x2_3 + (-1)) - 1) := ez12
        have hz1 := ez12
        refine lv_aload_n hx hb dX10_holds_119 rfl (lv_at hl 3 rfl) ?_
        refine va_get (D := G) (ci := 7) (v := .ref (ar 40)) (C := RX10) (T := TX10) (N := 71) (ref := RX10) hx hb hts h1w hown hX.1 hP 0 rfl rfl 40 (by decide) h3w (fun _ h9 => h9) rfl dX10_holds_120 ?_
        refine lv_iload_n hx hb dX10_holds_123 rfl (lv_at hl 0 rfl) ?_
        refine iv_iald hx hb hX.1 hP 19 0 rfl rfl (by omega) (by omega) (by decide) dX10_holds_124 ?_
        refine iv_top (fun z13 ez13 => ?_)
        have rz13 : inR z13 := ez13 ▸ r_g40_4 _
        have ez13 : z13 = g40_4 (x2_3 + (-1)) := ez13
        have hz2 := ez13
        refine c0_i (va_runS (As := [.int (Int32.ofInt (z9)), .int (Int32.ofInt (z12)), .int (Int32.ofInt (z13))]) (rest := [.int (Int32.ofInt (((x2_3 + (-1)) - 1))), .ref (ar 40)]) ⟨hx, hb, hml, hown, hts⟩ (mX10_reckon l G k z9 z12 z13 H.size (by omega) (by omega) (by omega)) (cwS 3 hts (gz [.methodLink RX10 366 yX10_reckon, .static yX10_reckon, .initialized RX10] (.code yX10_reckon cX10_reckon 3 (some .int)) [(26, 20), (26, 21), (0, 5), (26, 22)] rfl) rfl rfl rfl (by decide +kernel) ⟨Nat.le_of_ble_eq_true rfl, Nat.le_of_ble_eq_true rfl⟩) (cr_pre0 (EZ_ok k) hZ hS hX hP hD hA) rfl rfl hl.1 rfl (lv_room (Nat.le_of_ble_eq_true rfl)) dX10_holds_125 ⟨Nat.le_of_ble_eq_true rfl, Nat.le_of_ble_eq_true rfl⟩) hP hD hS hA (fun r u H locs hp hP hD hS => ?_)
        obtain ⟨c14, rfl⟩ : ∃ z, z = u := ⟨_, rfl⟩
        obtain ⟨h9, rc14, hp14⟩ : r = Int32.ofInt c14 ∧ (inR c14) ∧ (c14 = rk z9 z12 z13) := hp
        subst h9
        have hRk125 := hp14
        refine iv_iast hx hb hX.1 hP hD hS 19 0 rfl rfl (wM_A40 _ _ _ _ _) (by omega) (by omega) (by decide) dX10_holds_128 (fun H locs hP hD hS => ?_)
        obtain ⟨hP, hD⟩ : va_P G vwCl (wM k ar fi (uF fa 40 (uA (g40_4) (((x2_3 + (-1)) - 1)) (c14))) fl) H ∧ va_D A (wM k ar fi (uF fa 40 (uA (g40_4) (((x2_3 + (-1)) - 1)) (c14))) fl) := ⟨hP, hD⟩
        obtain ⟨g15, eg15, rg15⟩ : ∃ z, z = uA (g40_4) (((x2_3 + (-1)) - 1)) (c14) ∧ ∀ t, inR (z t) := ⟨_, rfl, iU r_g40_4 (by omega)⟩
        rw [← eg15] at hP hD
        refine lv_iinc (v := Int32.ofInt (x3_2 + 1)) (lv' := [(3, .int (Int32.ofInt ((x3_2 + 1)))), (2, .int (Int32.ofInt ((x2_3 + (-1))))), (4, .int (Int32.ofInt (z9))), (0, .ref (ar 71)), (1, .int (Int32.ofInt (q0)))]) hx hb dX10_holds_129 hl (k := 2) rfl (Int32.ofInt_add _ _).symm (by decide) rfl (fun ls hl => ?_)
        refine lv_goto (tgt := 9) hx hb dX10_holds_132 (by decide) ?_
        have hl : lv_has ls 5 [(3, .int (Int32.ofInt ((x3_2 + 1)))), (2, .int (Int32.ofInt ((x2_3 + (-1))))), (0, .ref (ar 71)), (1, .int (Int32.ofInt (q0)))] := lv_sub hl [0, 1, 3, 4] rfl
        exact ih ((x3_2 + 1), (x2_3 + (-1)), g15) (show (fa 9 q0 - (x3_2 + 1)).toNat < (fa 9 q0 - x3_2).toNat from by omega) (show inR (x3_2 + 1) ∧ inR (x2_3 + (-1)) ∧ (∀ t, inR (g15 t)) ∧ ((fa 8 q0 ≤ (x3_2 + 1) ∧ (x3_2 + 1) ≤ fa 9 q0 ∧ (x2_3 + (-1)) = h (x3_2 + 1) ∧ 0 ≤ (x2_3 + (-1)) ∧ (x2_3 + (-1)) ≤ 60) ∧ RunI (fa 10) (fa 39) (fa 8 q0) (x3_2 + 1) g15 (x2_3 + (-1))) from ⟨(by omega), (by omega), rg15, (by first | exact ⟨by omega, ri_push hRI (by omega) (by omega) (pv_y (s := z9) (by omega) (by omega) rfl) eg15 rfl rfl⟩ | exact ⟨by omega, ri_push hRI (by omega) (by omega) (pv_n (s := z9) (by omega) (by omega) rfl (by assumption)) eg15 rfl rfl⟩ | exact ⟨by omega, ri_not2 hRI (by omega) (by omega) (by omega) (by omega) hz3 rfl (by omega) eg15 rfl rfl rfl⟩ | exact ⟨by omega, ri_bin2 hRI (by omega) (by omega) (by omega) (by assumption) (by omega) hRk125 hz1 (by omega) hz2 (by omega) eg15 (by omega) (by omega) rfl⟩ | (exfalso; omega))⟩) _ _ _ hP hD hS hl
      · refine lv_aload_n hx hb dX10_holds_72 rfl (lv_at hl 3 rfl) ?_
        refine va_get (D := G) (ci := 7) (v := .ref (ar 40)) (C := RX10) (T := TX10) (N := 71) (ref := RX10) hx hb hts h1w hown hX.1 hP 0 rfl rfl 40 (by decide) h3w (fun _ h9 => h9) rfl dX10_holds_73 ?_
        refine lv_iload_n hx hb dX10_holds_76 rfl (lv_at hl 2 rfl) ?_
        refine lv_iconst (v := Int32.ofInt 1) hx hb dX10_holds_77 (by decide +kernel) ?_
        refine iv_sub (x := x2_3) (y := 1) hx hb dX10_holds_78 ?_
        refine lv_aload_n hx hb dX10_holds_79 rfl (lv_at hl 3 rfl) ?_
        refine va_get (D := G) (ci := 7) (v := .ref (ar 40)) (C := RX10) (T := TX10) (N := 71) (ref := RX10) hx hb hts h1w hown hX.1 hP 0 rfl rfl 40 (by decide) h3w (fun _ h9 => h9) rfl dX10_holds_80 ?_
        refine lv_iload_n hx hb dX10_holds_83 rfl (lv_at hl 2 rfl) ?_
        refine lv_iconst (v := Int32.ofInt 1) hx hb dX10_holds_84 (by decide +kernel) ?_
        refine iv_sub (x := x2_3) (y := 1) hx hb dX10_holds_85 ?_
        refine iv_iald hx hb hX.1 hP 19 0 rfl rfl (by omega) (by omega) (by decide) dX10_holds_86 ?_
        refine iv_top (fun z16 ez16 => ?_)
        have rz16 : inR z16 := ez16 ▸ r_g40_4 _
        have ez16 : z16 = g40_4 (x2_3 - 1) := ez16
        have hz3 := ez16
        refine iv_if_eq (tgt := 94) hx hb (by omega) dX10_holds_87 (by decide) (fun q17 => ?_) (fun q17 => ?_)
        · refine lv_iconst (v := Int32.ofInt 1) hx hb dX10_holds_94 (by decide +kernel) ?_
          refine iv_iast hx hb hX.1 hP hD hS 19 0 rfl rfl (wM_A40 _ _ _ _ _) (by omega) (by omega) (by decide) dX10_holds_95 (fun H locs hP hD hS => ?_)
          obtain ⟨hP, hD⟩ : va_P G vwCl (wM k ar fi (uF fa 40 (uA (g40_4) ((x2_3 - 1)) (1))) fl) H ∧ va_D A (wM k ar fi (uF fa 40 (uA (g40_4) ((x2_3 - 1)) (1))) fl) := ⟨hP, hD⟩
          obtain ⟨g18, eg18, rg18⟩ : ∃ z, z = uA (g40_4) ((x2_3 - 1)) (1) ∧ ∀ t, inR (z t) := ⟨_, rfl, iU r_g40_4 (by omega)⟩
          rw [← eg18] at hP hD
          refine lv_goto (tgt := 129) hx hb dX10_holds_96 (by decide) ?_
          refine lv_iinc (v := Int32.ofInt (x3_2 + 1)) (lv' := [(3, .int (Int32.ofInt ((x3_2 + 1)))), (4, .int (Int32.ofInt (z9))), (2, .int (Int32.ofInt (x2_3))), (0, .ref (ar 71)), (1, .int (Int32.ofInt (q0)))]) hx hb dX10_holds_129 hl (k := 1) rfl (Int32.ofInt_add _ _).symm (by decide) rfl (fun ls hl => ?_)
          refine lv_goto (tgt := 9) hx hb dX10_holds_132 (by decide) ?_
          have hl : lv_has ls 5 [(3, .int (Int32.ofInt ((x3_2 + 1)))), (2, .int (Int32.ofInt (x2_3))), (0, .ref (ar 71)), (1, .int (Int32.ofInt (q0)))] := lv_sub hl [0, 2, 3, 4] rfl
          exact ih ((x3_2 + 1), x2_3, g18) (show (fa 9 q0 - (x3_2 + 1)).toNat < (fa 9 q0 - x3_2).toNat from by omega) (show inR (x3_2 + 1) ∧ inR x2_3 ∧ (∀ t, inR (g18 t)) ∧ ((fa 8 q0 ≤ (x3_2 + 1) ∧ (x3_2 + 1) ≤ fa 9 q0 ∧ x2_3 = h (x3_2 + 1) ∧ 0 ≤ x2_3 ∧ x2_3 ≤ 60) ∧ RunI (fa 10) (fa 39) (fa 8 q0) (x3_2 + 1) g18 x2_3) from ⟨(by omega), (by omega), rg18, (by first | exact ⟨by omega, ri_push hRI (by omega) (by omega) (pv_y (s := z9) (by omega) (by omega) rfl) eg18 rfl rfl⟩ | exact ⟨by omega, ri_push hRI (by omega) (by omega) (pv_n (s := z9) (by omega) (by omega) rfl (by assumption)) eg18 rfl rfl⟩ | exact ⟨by omega, ri_not2 hRI (by omega) (by omega) (by omega) (by omega) hz3 rfl (by omega) eg18 rfl rfl rfl⟩ | exact ⟨by omega, ri_bin2 hRI (by omega) (by omega) (by omega) (by assumption) (by omega) hRk125 hz1 (by omega) hz2 (by omega) eg18 (by omega) (by omega) rfl⟩ | (exfalso; omega))⟩) _ _ _ hP hD hS hl
        · refine lv_iconst (v := Int32.ofInt 0) hx hb dX10_holds_90 (by decide +kernel) ?_
          refine lv_goto (tgt := 95) hx hb dX10_holds_91 (by decide) ?_
          refine iv_iast hx hb hX.1 hP hD hS 19 0 rfl rfl (wM_A40 _ _ _ _ _) (by omega) (by omega) (by decide) dX10_holds_95 (fun H locs hP hD hS => ?_)
          obtain ⟨hP, hD⟩ : va_P G vwCl (wM k ar fi (uF fa 40 (uA (g40_4) ((x2_3 - 1)) (0))) fl) H ∧ va_D A (wM k ar fi (uF fa 40 (uA (g40_4) ((x2_3 - 1)) (0))) fl) := ⟨hP, hD⟩
          obtain ⟨g19, eg19, rg19⟩ : ∃ z, z = uA (g40_4) ((x2_3 - 1)) (0) ∧ ∀ t, inR (z t) := ⟨_, rfl, iU r_g40_4 (by omega)⟩
          rw [← eg19] at hP hD
          refine lv_goto (tgt := 129) hx hb dX10_holds_96 (by decide) ?_
          refine lv_iinc (v := Int32.ofInt (x3_2 + 1)) (lv' := [(3, .int (Int32.ofInt ((x3_2 + 1)))), (4, .int (Int32.ofInt (z9))), (2, .int (Int32.ofInt (x2_3))), (0, .ref (ar 71)), (1, .int (Int32.ofInt (q0)))]) hx hb dX10_holds_129 hl (k := 1) rfl (Int32.ofInt_add _ _).symm (by decide) rfl (fun ls hl => ?_)
          refine lv_goto (tgt := 9) hx hb dX10_holds_132 (by decide) ?_
          have hl : lv_has ls 5 [(3, .int (Int32.ofInt ((x3_2 + 1)))), (2, .int (Int32.ofInt (x2_3))), (0, .ref (ar 71)), (1, .int (Int32.ofInt (q0)))] := lv_sub hl [0, 2, 3, 4] rfl
          exact ih ((x3_2 + 1), x2_3, g19) (show (fa 9 q0 - (x3_2 + 1)).toNat < (fa 9 q0 - x3_2).toNat from by omega) (show inR (x3_2 + 1) ∧ inR x2_3 ∧ (∀ t, inR (g19 t)) ∧ ((fa 8 q0 ≤ (x3_2 + 1) ∧ (x3_2 + 1) ≤ fa 9 q0 ∧ x2_3 = h (x3_2 + 1) ∧ 0 ≤ x2_3 ∧ x2_3 ≤ 60) ∧ RunI (fa 10) (fa 39) (fa 8 q0) (x3_2 + 1) g19 x2_3) from ⟨(by omega), (by omega), rg19, (by first | exact ⟨by omega, ri_push hRI (by omega) (by omega) (pv_y (s := z9) (by omega) (by omega) rfl) eg19 rfl rfl⟩ | exact ⟨by omega, ri_push hRI (by omega) (by omega) (pv_n (s := z9) (by omega) (by omega) rfl (by assumption)) eg19 rfl rfl⟩ | exact ⟨by omega, ri_not2 hRI (by omega) (by omega) (by omega) (by omega) hz3 rfl (by omega) eg19 rfl rfl rfl⟩ | exact ⟨by omega, ri_bin2 hRI (by omega) (by omega) (by omega) (by assumption) (by omega) hRk125 hz1 (by omega) hz2 (by omega) eg19 (by omega) (by omega) rfl⟩ | (exfalso; omega))⟩) _ _ _ hP hD hS hl
    · refine lv_aload_n hx hb dX10_holds_34 rfl (lv_at hl 3 rfl) ?_
      refine va_get (D := G) (ci := 7) (v := .ref (ar 40)) (C := RX10) (T := TX10) (N := 71) (ref := RX10) hx hb hts h1w hown hX.1 hP 0 rfl rfl 40 (by decide) h3w (fun _ h9 => h9) rfl dX10_holds_35 ?_
      refine lv_iload_n hx hb dX10_holds_38 rfl (lv_at hl 2 rfl) ?_
      refine lv_iload hx hb dX10_holds_39 (lv_at hl 0 rfl) ?_
      refine iv_if_lt (tgt := 49) hx hb (by omega) dX10_holds_41 (by decide) (fun q20 => ?_) (fun q20 => ?_)
      · refine lv_aload_n hx hb dX10_holds_49 rfl (lv_at hl 3 rfl) ?_
        refine va_get (D := G) (ci := 7) (v := .ref (ar 39)) (C := RX10) (T := TX10) (N := 71) (ref := RX10) hx hb hts h1w hown hX.1 hP 0 rfl rfl 39 (by decide) h5w (fun _ h9 => h9) rfl dX10_holds_50 ?_
        refine lv_iconst (v := Int32.ofInt (-1)) hx hb dX10_holds_53 (by decide +kernel) ?_
        refine lv_iload hx hb dX10_holds_54 (lv_at hl 0 rfl) ?_
        refine iv_sub (x := (-1)) (y := z9) hx hb dX10_holds_56 ?_
        refine iv_iald hx hb hX.1 hP 18 0 rfl rfl (by omega) (by omega) (by decide) dX10_holds_57 ?_
        refine iv_top (fun z21 ez21 => ?_)
        have rz21 : inR z21 := ez21 ▸ (hRa 39) _
        have ez21 : z21 = (fa 39) ((-1) - z9) := ez21
        refine iv_iast hx hb hX.1 hP hD hS 19 0 rfl rfl (wM_A40 _ _ _ _ _) (by omega) (by omega) (by decide) dX10_holds_58 (fun H locs hP hD hS => ?_)
        obtain ⟨hP, hD⟩ : va_P G vwCl (wM k ar fi (uF fa 40 (uA (g40_4) (x2_3) (z21))) fl) H ∧ va_D A (wM k ar fi (uF fa 40 (uA (g40_4) (x2_3) (z21))) fl) := ⟨hP, hD⟩
        obtain ⟨g22, eg22, rg22⟩ : ∃ z, z = uA (g40_4) (x2_3) (z21) ∧ ∀ t, inR (z t) := ⟨_, rfl, iU r_g40_4 (by omega)⟩
        rw [← eg22] at hP hD
        refine lv_iinc (v := Int32.ofInt (x2_3 + 1)) (lv' := [(2, .int (Int32.ofInt ((x2_3 + 1)))), (4, .int (Int32.ofInt (z9))), (3, .int (Int32.ofInt (x3_2))), (0, .ref (ar 71)), (1, .int (Int32.ofInt (q0)))]) hx hb dX10_holds_59 hl (k := 2) rfl (Int32.ofInt_add _ _).symm (by decide) rfl (fun ls hl => ?_)
        refine lv_goto (tgt := 129) hx hb dX10_holds_62 (by decide) ?_
        refine lv_iinc (v := Int32.ofInt (x3_2 + 1)) (lv' := [(3, .int (Int32.ofInt ((x3_2 + 1)))), (2, .int (Int32.ofInt ((x2_3 + 1)))), (4, .int (Int32.ofInt (z9))), (0, .ref (ar 71)), (1, .int (Int32.ofInt (q0)))]) hx hb dX10_holds_129 hl (k := 2) rfl (Int32.ofInt_add _ _).symm (by decide) rfl (fun ls hl => ?_)
        refine lv_goto (tgt := 9) hx hb dX10_holds_132 (by decide) ?_
        have hl : lv_has ls 5 [(3, .int (Int32.ofInt ((x3_2 + 1)))), (2, .int (Int32.ofInt ((x2_3 + 1)))), (0, .ref (ar 71)), (1, .int (Int32.ofInt (q0)))] := lv_sub hl [0, 1, 3, 4] rfl
        exact ih ((x3_2 + 1), (x2_3 + 1), g22) (show (fa 9 q0 - (x3_2 + 1)).toNat < (fa 9 q0 - x3_2).toNat from by omega) (show inR (x3_2 + 1) ∧ inR (x2_3 + 1) ∧ (∀ t, inR (g22 t)) ∧ ((fa 8 q0 ≤ (x3_2 + 1) ∧ (x3_2 + 1) ≤ fa 9 q0 ∧ (x2_3 + 1) = h (x3_2 + 1) ∧ 0 ≤ (x2_3 + 1) ∧ (x2_3 + 1) ≤ 60) ∧ RunI (fa 10) (fa 39) (fa 8 q0) (x3_2 + 1) g22 (x2_3 + 1)) from ⟨(by omega), (by omega), rg22, (by first | exact ⟨by omega, ri_push hRI (by omega) (by omega) (pv_y (s := z9) (by omega) (by omega) rfl) eg22 rfl rfl⟩ | exact ⟨by omega, ri_push hRI (by omega) (by omega) (pv_n (s := z9) (by omega) (by omega) rfl (by assumption)) eg22 rfl rfl⟩ | exact ⟨by omega, ri_not2 hRI (by omega) (by omega) (by omega) (by omega) hz3 rfl (by omega) eg22 rfl rfl rfl⟩ | exact ⟨by omega, ri_bin2 hRI (by omega) (by omega) (by omega) (by assumption) (by omega) hRk125 hz1 (by omega) hz2 (by omega) eg22 (by omega) (by omega) rfl⟩ | (exfalso; omega))⟩) _ _ _ hP hD hS hl
      · refine lv_iload hx hb dX10_holds_44 (lv_at hl 0 rfl) ?_
        refine lv_goto (tgt := 58) hx hb dX10_holds_46 (by decide) ?_
        refine iv_iast hx hb hX.1 hP hD hS 19 0 rfl rfl (wM_A40 _ _ _ _ _) (by omega) (by omega) (by decide) dX10_holds_58 (fun H locs hP hD hS => ?_)
        obtain ⟨hP, hD⟩ : va_P G vwCl (wM k ar fi (uF fa 40 (uA (g40_4) (x2_3) (z9))) fl) H ∧ va_D A (wM k ar fi (uF fa 40 (uA (g40_4) (x2_3) (z9))) fl) := ⟨hP, hD⟩
        obtain ⟨g23, eg23, rg23⟩ : ∃ z, z = uA (g40_4) (x2_3) (z9) ∧ ∀ t, inR (z t) := ⟨_, rfl, iU r_g40_4 (by omega)⟩
        rw [← eg23] at hP hD
        refine lv_iinc (v := Int32.ofInt (x2_3 + 1)) (lv' := [(2, .int (Int32.ofInt ((x2_3 + 1)))), (4, .int (Int32.ofInt (z9))), (3, .int (Int32.ofInt (x3_2))), (0, .ref (ar 71)), (1, .int (Int32.ofInt (q0)))]) hx hb dX10_holds_59 hl (k := 2) rfl (Int32.ofInt_add _ _).symm (by decide) rfl (fun ls hl => ?_)
        refine lv_goto (tgt := 129) hx hb dX10_holds_62 (by decide) ?_
        refine lv_iinc (v := Int32.ofInt (x3_2 + 1)) (lv' := [(3, .int (Int32.ofInt ((x3_2 + 1)))), (2, .int (Int32.ofInt ((x2_3 + 1)))), (4, .int (Int32.ofInt (z9))), (0, .ref (ar 71)), (1, .int (Int32.ofInt (q0)))]) hx hb dX10_holds_129 hl (k := 2) rfl (Int32.ofInt_add _ _).symm (by decide) rfl (fun ls hl => ?_)
        refine lv_goto (tgt := 9) hx hb dX10_holds_132 (by decide) ?_
        have hl : lv_has ls 5 [(3, .int (Int32.ofInt ((x3_2 + 1)))), (2, .int (Int32.ofInt ((x2_3 + 1)))), (0, .ref (ar 71)), (1, .int (Int32.ofInt (q0)))] := lv_sub hl [0, 1, 3, 4] rfl
        exact ih ((x3_2 + 1), (x2_3 + 1), g23) (show (fa 9 q0 - (x3_2 + 1)).toNat < (fa 9 q0 - x3_2).toNat from by omega) (show inR (x3_2 + 1) ∧ inR (x2_3 + 1) ∧ (∀ t, inR (g23 t)) ∧ ((fa 8 q0 ≤ (x3_2 + 1) ∧ (x3_2 + 1) ≤ fa 9 q0 ∧ (x2_3 + 1) = h (x3_2 + 1) ∧ 0 ≤ (x2_3 + 1) ∧ (x2_3 + 1) ≤ 60) ∧ RunI (fa 10) (fa 39) (fa 8 q0) (x3_2 + 1) g23 (x2_3 + 1)) from ⟨(by omega), (by omega), rg23, (by first | exact ⟨by omega, ri_push hRI (by omega) (by omega) (pv_y (s := z9) (by omega) (by omega) rfl) eg23 rfl rfl⟩ | exact ⟨by omega, ri_push hRI (by omega) (by omega) (pv_n (s := z9) (by omega) (by omega) rfl (by assumption)) eg23 rfl rfl⟩ | exact ⟨by omega, ri_not2 hRI (by omega) (by omega) (by omega) (by omega) hz3 rfl (by omega) eg23 rfl rfl rfl⟩ | exact ⟨by omega, ri_bin2 hRI (by omega) (by omega) (by omega) (by assumption) (by omega) hRk125 hz1 (by omega) hz2 (by omega) eg23 (by omega) (by omega) rfl⟩ | (exfalso; omega))⟩) _ _ _ hP hD hS hl

