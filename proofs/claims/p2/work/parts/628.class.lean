set_option maxHeartbeats 4000000 in
set_option maxRecDepth 100000 in
theorem mX2_operator (l : Launch) (G : va_G) (k : Nat → ClassId) (arR : Nat → Nat) (plR : Nat) (fiR : Nat → Int) (faR : Nat → Int → Int) (arY : Nat → Nat) (fiY : Nat → Int) (faY : Nat → Int → Int) (k0 : Int) (sz : Nat) (hRR : ∀ j, inR (fiR j)) (hRaR : ∀ j t, inR (faR j t)) (hRY : ∀ j, inR (fiY j)) (hRaY : ∀ j t, inR (faY j t)) (hB0Y : bnd (faY 0) 600 (-128) 128) (hr_k0 : inR k0) (hrq : 0 ≤ fiR 23 ∧ fiR 23 ≤ fiR 21 ∧ 0 ≤ fiR 22 ∧ fiR 22 ≤ fiR 21 ∧ 0 ≤ fiR 25 ∧ fiR 25 ≤ 23 ∧ fiR 21 ≤ 600) : CNi l G k (EZ k) yX2_operator wzX2_operator ({ frames := 0, cells := 0, slots := 0, locals := 0 }) [.ref (arR 99), .int (Int32.ofInt (k0))] sz ((wR k arR (plR) (arY 0) fiR faR) ++ (wY k arY fiY faY)) (fun (r0 : Int32) (u : Int) => r0 = Int32.ofInt (u) ∧ (inR u) ∧ (-1000 ≤ u ∧ u ≤ 1000)) (fun (u : Int) => ((wR k arR (plR) (arY 0) fiR faR) ++ (wY k arY fiY faY))) := by
  refine Met.ofW (cc := cX2_operator) (maxL := 3) (ret := (some .int)) (by decide) rfl ?_
  intro p e s m args below meth c s₁ B hml hv
  obtain ⟨rfl, hsz, hP, hX, hD0, hZ0⟩ := hv
  have hx := B.exec
  have hb := B.bytes
  have hr := B.returns
  have hts := atoms_spec (ws := wzX2_operator) B.pre
  have hown : s.vm.findClass RX2 = some m.cls := findClass_of_methodNamed B.named
  subst hsz
  have hD := hD0.self (sz := s.heap.size)
  have hZ := hZ0
  generalize hAe : va_A ((wR k arR (plR) (arY 0) fiR faR) ++ (wY k arY fiY faY)) s.heap.size = A at hD hZ ⊢
  have hA : ∀ q : Nat, s.heap.size ≤ q → A q := fun q h => by rw [← hAe]; exact Or.inr h
  have hS : va_S A s.heap s.heap [] := va_S.rf
  have hl := lv_entry ([.ref (arR 99), .int (Int32.ofInt (k0))]) (n := 3) (Nat.le_of_ble_eq_true rfl)
  rw [lg_entry_eq]
  generalize (lg_sl ([.ref (arR 99), .int (Int32.ofInt (k0))]) ++ List.replicate (3 - (lg_sl ([.ref (arR 99), .int (Int32.ofInt (k0))])).length) Slot.unset).toArray = ls at hl ⊢
  have hl : lv_has ls 3 [(0, .ref (arR 99)), (1, .int (Int32.ofInt (k0)))] := hl
  obtain ⟨H, eH⟩ : ∃ H, H = s.heap := ⟨_, rfl⟩
  rw [← eH] at hP
  have hS : va_S A s.heap H [] := by rw [eH]; exact hS
  have gW : s.heap = H := eH.symm
  refine iv_heap gW ?_
  have h0w := hts (.fieldLink RX2 12 "RopeTown$Parser" "reader" "LRopeTown$Reader;") (wz_at 3 8 rfl)
  have h1w : ∀ w ∈ wsX20, w ∈ wzX2_operator := fun w h => List.mem_cons_of_mem _ (inlX2 w h)
  have h2w : ∀ w ∈ wsX40, w ∈ wzX2_operator := fun w h => List.mem_cons_of_mem _ (inlX4 w h)
  have h3w := hts (.fieldLink RX2 178 "RopeTown$Word" "OR" "LRopeTown$Word;") (wz_at 15 14 rfl)
  have h4w := hts (.fieldLink RX2 181 "RopeTown$Word" "AND" "LRopeTown$Word;") (wz_at 15 15 rfl)
  refine lv_aload_n hx hb dX2_operator_0 rfl (lv_at hl 0 rfl) ?_
  refine va_get (D := G) (ci := 1) (v := .ref (arR 98)) (C := RX2) (T := TX2) (N := 5) (ref := RX2) hx hb hts h1w hown hX.1 hP 0 rfl rfl 0 (by decide) h0w (fun _ h9 => h9) rfl dX2_operator_1 ?_
  refine va_getN (D := G) (ci := 3) (v := .int (Int32.ofInt (fiR 27))) (C := RX4) (T := TX4) (N := 8) (ref := RX4) (host := RX9) hx hb hts h2w hown hX.1 hP 1 rfl rfl 7 (by decide) (nf_35 hX.2.2.1) (fun _ h9 => h9) rfl dX2_operator_4 ?_
  have rf27R := hRR 27
  refine lv_istore_n (lv' := [(2, .int (Int32.ofInt (fiR 27))), (0, .ref (arR 99)), (1, .int (Int32.ofInt (k0)))]) hx hb dX2_operator_7 rfl hl (by decide) rfl (fun ls hl => ?_)
  refine lv_iload_n hx hb dX2_operator_8 rfl (lv_at hl 2 rfl) ?_
  obtain q1 | q1 | q1 | q1 | q1 : (k0 < 0 ∨ 3 < k0) ∨ k0 = 0 ∨ k0 = 1 ∨ k0 = 2 ∨ k0 = 3 := by omega
  · refine lv_tableOut (tgt := 116) hx hb dX2_operator_9 (by rw [iz_toInt (by omega)]; exact q1) (by decide) ?_
    refine lv_iload_n hx hb dX2_operator_116 rfl (lv_at hl 0 rfl) ?_
    refine lv_bipush (v := Int32.ofInt 42) hx hb dX2_operator_117 (by decide +kernel) ?_
    refine iv_icmp_eq (tgt := 128) hx hb (by omega) (by omega) dX2_operator_119 (by decide) (fun q2 => ?_) (fun q2 => ?_)
    · refine lv_iload_n hx hb dX2_operator_128 rfl (lv_at hl 0 rfl) ?_
      refine lv_goto (tgt := 133) hx hb dX2_operator_129 (by decide) ?_
      exact W.iret (v := Int32.ofInt (fiR 27)) hx hb hr (fun t ht hW => ⟨⟨Int32.ofInt (fiR 27), (fiR 27), rfl, ⟨rfl, (show (inR (fiR 27)) ∧ (-1000 ≤ (fiR 27) ∧ (fiR 27) ≤ 1000) from ⟨(hRR 27), (by omega)⟩)⟩, by rw [ht]; exact hP, hD⟩, hS.F ht⟩) hS.2.2 dX2_operator_133
    · refine lv_iload_n hx hb dX2_operator_122 rfl (lv_at hl 0 rfl) ?_
      refine lv_bipush (v := Int32.ofInt 47) hx hb dX2_operator_123 (by decide +kernel) ?_
      refine iv_icmp_ne (tgt := 132) hx hb (by omega) (by omega) dX2_operator_125 (by decide) (fun q3 => ?_) (fun q3 => ?_)
      · refine lv_iconst (v := Int32.ofInt 0) hx hb dX2_operator_132 (by decide +kernel) ?_
        exact W.iret (v := Int32.ofInt (0)) hx hb hr (fun t ht hW => ⟨⟨Int32.ofInt (0), (0), rfl, ⟨rfl, (show (inR 0) ∧ (-1000 ≤ 0 ∧ 0 ≤ 1000) from ⟨(by omega), (by omega)⟩)⟩, by rw [ht]; exact hP, hD⟩, hS.F ht⟩) hS.2.2 dX2_operator_133
      · refine lv_iload_n hx hb dX2_operator_128 rfl (lv_at hl 0 rfl) ?_
        refine lv_goto (tgt := 133) hx hb dX2_operator_129 (by decide) ?_
        exact W.iret (v := Int32.ofInt (fiR 27)) hx hb hr (fun t ht hW => ⟨⟨Int32.ofInt (fiR 27), (fiR 27), rfl, ⟨rfl, (show (inR (fiR 27)) ∧ (-1000 ≤ (fiR 27) ∧ (fiR 27) ≤ 1000) from ⟨(hRR 27), (by omega)⟩)⟩, by rw [ht]; exact hP, hD⟩, hS.F ht⟩) hS.2.2 dX2_operator_133
  · refine lv_tableIn (tgt := 40) hx hb dX2_operator_9 (by rw [iz_toInt (by omega)]; omega) (by rw [iz_toInt (by omega)]; omega) (off := 31) (by rw [iz_toInt (by omega), q1]; decide +kernel) (by decide) ?_
    refine lv_aload_n hx hb dX2_operator_40 rfl (lv_at hl 1 rfl) ?_
    refine va_get (D := G) (ci := 1) (v := .ref (arR 98)) (C := RX2) (T := TX2) (N := 5) (ref := RX2) hx hb hts h1w hown hX.1 hP 0 rfl rfl 0 (by decide) h0w (fun _ h9 => h9) rfl dX2_operator_41 ?_
    refine va_getN (D := G) (ci := 3) (v := .ref (k (400 + (fiR 25).toNat))) (C := RX4) (T := TX4) (N := 8) (ref := RX4) (host := RX9) hx hb hts h2w hown hX.1 hP 1 rfl rfl 5 (by decide) (nf_33 hX.2.2.1) (fun _ h9 => h9) rfl dX2_operator_44 ?_
    refine va_gets (C := "RopeTown$Word") (n := "OR") (d := "LRopeTown$Word;") (ref := "RopeTown$Word") (v := .ref (k (400 + (14 : Int).toNat))) hx hb (ez_word hZ 14 rfl) hS hown h3w (fun _ h9 => h9) dX2_operator_47 ?_
    refine lv_acmp_ne (rx := some (k (400 + (fiR 25).toNat))) (ry := some (k (400 + (14 : Int).toNat))) (tgt := 58) hx hb dX2_operator_50 (by decide) (fun q4 => ?_) (fun q4 => ?_)
    · refine lv_iconst (v := Int32.ofInt 0) hx hb dX2_operator_58 (by decide +kernel) ?_
      exact W.iret (v := Int32.ofInt (0)) hx hb hr (fun t ht hW => ⟨⟨Int32.ofInt (0), (0), rfl, ⟨rfl, (show (inR 0) ∧ (-1000 ≤ 0 ∧ 0 ≤ 1000) from ⟨(by omega), (by omega)⟩)⟩, by rw [ht]; exact hP, hD⟩, hS.F ht⟩) hS.2.2 dX2_operator_59
    · refine lv_bipush (v := Int32.ofInt 124) hx hb dX2_operator_53 (by decide +kernel) ?_
      refine lv_goto (tgt := 59) hx hb dX2_operator_55 (by decide) ?_
      exact W.iret (v := Int32.ofInt (124)) hx hb hr (fun t ht hW => ⟨⟨Int32.ofInt (124), (124), rfl, ⟨rfl, (show (inR 124) ∧ (-1000 ≤ 124 ∧ 124 ≤ 1000) from ⟨(by omega), (by omega)⟩)⟩, by rw [ht]; exact hP, hD⟩, hS.F ht⟩) hS.2.2 dX2_operator_59
  · refine lv_tableIn (tgt := 60) hx hb dX2_operator_9 (by rw [iz_toInt (by omega)]; omega) (by rw [iz_toInt (by omega)]; omega) (off := 51) (by rw [iz_toInt (by omega), q1]; decide +kernel) (by decide) ?_
    refine lv_aload_n hx hb dX2_operator_60 rfl (lv_at hl 1 rfl) ?_
    refine va_get (D := G) (ci := 1) (v := .ref (arR 98)) (C := RX2) (T := TX2) (N := 5) (ref := RX2) hx hb hts h1w hown hX.1 hP 0 rfl rfl 0 (by decide) h0w (fun _ h9 => h9) rfl dX2_operator_61 ?_
    refine va_getN (D := G) (ci := 3) (v := .ref (k (400 + (fiR 25).toNat))) (C := RX4) (T := TX4) (N := 8) (ref := RX4) (host := RX9) hx hb hts h2w hown hX.1 hP 1 rfl rfl 5 (by decide) (nf_33 hX.2.2.1) (fun _ h9 => h9) rfl dX2_operator_64 ?_
    refine va_gets (C := "RopeTown$Word") (n := "AND") (d := "LRopeTown$Word;") (ref := "RopeTown$Word") (v := .ref (k (400 + (15 : Int).toNat))) hx hb (ez_word hZ 15 rfl) hS hown h4w (fun _ h9 => h9) dX2_operator_67 ?_
    refine lv_acmp_ne (rx := some (k (400 + (fiR 25).toNat))) (ry := some (k (400 + (15 : Int).toNat))) (tgt := 78) hx hb dX2_operator_70 (by decide) (fun q5 => ?_) (fun q5 => ?_)
    · refine lv_iconst (v := Int32.ofInt 0) hx hb dX2_operator_78 (by decide +kernel) ?_
      exact W.iret (v := Int32.ofInt (0)) hx hb hr (fun t ht hW => ⟨⟨Int32.ofInt (0), (0), rfl, ⟨rfl, (show (inR 0) ∧ (-1000 ≤ 0 ∧ 0 ≤ 1000) from ⟨(by omega), (by omega)⟩)⟩, by rw [ht]; exact hP, hD⟩, hS.F ht⟩) hS.2.2 dX2_operator_79
    · refine lv_bipush (v := Int32.ofInt 38) hx hb dX2_operator_73 (by decide +kernel) ?_
      refine lv_goto (tgt := 79) hx hb dX2_operator_75 (by decide) ?_
      exact W.iret (v := Int32.ofInt (38)) hx hb hr (fun t ht hW => ⟨⟨Int32.ofInt (38), (38), rfl, ⟨rfl, (show (inR 38) ∧ (-1000 ≤ 38 ∧ 38 ≤ 1000) from ⟨(by omega), (by omega)⟩)⟩, by rw [ht]; exact hP, hD⟩, hS.F ht⟩) hS.2.2 dX2_operator_79
  · refine lv_tableIn (tgt := 80) hx hb dX2_operator_9 (by rw [iz_toInt (by omega)]; omega) (by rw [iz_toInt (by omega)]; omega) (off := 71) (by rw [iz_toInt (by omega), q1]; decide +kernel) (by decide) ?_
    refine lv_iload_n hx hb dX2_operator_80 rfl (lv_at hl 0 rfl) ?_
    refine lv_bipush (v := Int32.ofInt 60) hx hb dX2_operator_81 (by decide +kernel) ?_
    refine iv_icmp_eq (tgt := 92) hx hb (by omega) (by omega) dX2_operator_83 (by decide) (fun q6 => ?_) (fun q6 => ?_)
    · refine lv_iload_n hx hb dX2_operator_92 rfl (lv_at hl 0 rfl) ?_
      refine lv_goto (tgt := 97) hx hb dX2_operator_93 (by decide) ?_
      exact W.iret (v := Int32.ofInt (fiR 27)) hx hb hr (fun t ht hW => ⟨⟨Int32.ofInt (fiR 27), (fiR 27), rfl, ⟨rfl, (show (inR (fiR 27)) ∧ (-1000 ≤ (fiR 27) ∧ (fiR 27) ≤ 1000) from ⟨(hRR 27), (by omega)⟩)⟩, by rw [ht]; exact hP, hD⟩, hS.F ht⟩) hS.2.2 dX2_operator_97
    · refine lv_iload_n hx hb dX2_operator_86 rfl (lv_at hl 0 rfl) ?_
      refine lv_bipush (v := Int32.ofInt 61) hx hb dX2_operator_87 (by decide +kernel) ?_
      refine iv_icmp_ne (tgt := 96) hx hb (by omega) (by omega) dX2_operator_89 (by decide) (fun q7 => ?_) (fun q7 => ?_)
      · refine lv_iconst (v := Int32.ofInt 0) hx hb dX2_operator_96 (by decide +kernel) ?_
        exact W.iret (v := Int32.ofInt (0)) hx hb hr (fun t ht hW => ⟨⟨Int32.ofInt (0), (0), rfl, ⟨rfl, (show (inR 0) ∧ (-1000 ≤ 0 ∧ 0 ≤ 1000) from ⟨(by omega), (by omega)⟩)⟩, by rw [ht]; exact hP, hD⟩, hS.F ht⟩) hS.2.2 dX2_operator_97
      · refine lv_iload_n hx hb dX2_operator_92 rfl (lv_at hl 0 rfl) ?_
        refine lv_goto (tgt := 97) hx hb dX2_operator_93 (by decide) ?_
        exact W.iret (v := Int32.ofInt (fiR 27)) hx hb hr (fun t ht hW => ⟨⟨Int32.ofInt (fiR 27), (fiR 27), rfl, ⟨rfl, (show (inR (fiR 27)) ∧ (-1000 ≤ (fiR 27) ∧ (fiR 27) ≤ 1000) from ⟨(hRR 27), (by omega)⟩)⟩, by rw [ht]; exact hP, hD⟩, hS.F ht⟩) hS.2.2 dX2_operator_97
  · refine lv_tableIn (tgt := 98) hx hb dX2_operator_9 (by rw [iz_toInt (by omega)]; omega) (by rw [iz_toInt (by omega)]; omega) (off := 89) (by rw [iz_toInt (by omega), q1]; decide +kernel) (by decide) ?_
    refine lv_iload_n hx hb dX2_operator_98 rfl (lv_at hl 0 rfl) ?_
    refine lv_bipush (v := Int32.ofInt 43) hx hb dX2_operator_99 (by decide +kernel) ?_
    refine iv_icmp_eq (tgt := 110) hx hb (by omega) (by omega) dX2_operator_101 (by decide) (fun q8 => ?_) (fun q8 => ?_)
    · refine lv_iload_n hx hb dX2_operator_110 rfl (lv_at hl 0 rfl) ?_
      refine lv_goto (tgt := 115) hx hb dX2_operator_111 (by decide) ?_
      exact W.iret (v := Int32.ofInt (fiR 27)) hx hb hr (fun t ht hW => ⟨⟨Int32.ofInt (fiR 27), (fiR 27), rfl, ⟨rfl, (show (inR (fiR 27)) ∧ (-1000 ≤ (fiR 27) ∧ (fiR 27) ≤ 1000) from ⟨(hRR 27), (by omega)⟩)⟩, by rw [ht]; exact hP, hD⟩, hS.F ht⟩) hS.2.2 dX2_operator_115
    · refine lv_iload_n hx hb dX2_operator_104 rfl (lv_at hl 0 rfl) ?_
      refine lv_bipush (v := Int32.ofInt 45) hx hb dX2_operator_105 (by decide +kernel) ?_
      refine iv_icmp_ne (tgt := 114) hx hb (by omega) (by omega) dX2_operator_107 (by decide) (fun q9 => ?_) (fun q9 => ?_)
      · refine lv_iconst (v := Int32.ofInt 0) hx hb dX2_operator_114 (by decide +kernel) ?_
        exact W.iret (v := Int32.ofInt (0)) hx hb hr (fun t ht hW => ⟨⟨Int32.ofInt (0), (0), rfl, ⟨rfl, (show (inR 0) ∧ (-1000 ≤ 0 ∧ 0 ≤ 1000) from ⟨(by omega), (by omega)⟩)⟩, by rw [ht]; exact hP, hD⟩, hS.F ht⟩) hS.2.2 dX2_operator_115
      · refine lv_iload_n hx hb dX2_operator_110 rfl (lv_at hl 0 rfl) ?_
        refine lv_goto (tgt := 115) hx hb dX2_operator_111 (by decide) ?_
        exact W.iret (v := Int32.ofInt (fiR 27)) hx hb hr (fun t ht hW => ⟨⟨Int32.ofInt (fiR 27), (fiR 27), rfl, ⟨rfl, (show (inR (fiR 27)) ∧ (-1000 ≤ (fiR 27) ∧ (fiR 27) ≤ 1000) from ⟨(hRR 27), (by omega)⟩)⟩, by rw [ht]; exact hP, hD⟩, hS.F ht⟩) hS.2.2 dX2_operator_115

set_option maxHeartbeats 4000000 in
set_option maxRecDepth 100000 in
theorem mX2_readNumber (l : Launch) (G : va_G) (k : Nat → ClassId) (arR : Nat → Nat) (plR : Nat) (fiR : Nat → Int) (faR : Nat → Int → Int) (arY : Nat → Nat) (fiY : Nat → Int) (faY : Nat → Int → Int) (l0 : Int) (m0 : Int) (sz : Nat) (hRR : ∀ j, inR (fiR j)) (hRaR : ∀ j t, inR (faR j t)) (hRY : ∀ j, inR (fiY j)) (hRaY : ∀ j t, inR (faY j t)) (hB0Y : bnd (faY 0) 600 (-128) 128) (hr_l0 : inR l0) (hr_m0 : inR m0) (hrq : 0 ≤ fiR 23 ∧ fiR 23 ≤ fiR 21 ∧ 0 ≤ fiR 22 ∧ fiR 22 ≤ fiR 21 ∧ 0 ≤ fiR 25 ∧ fiR 25 ≤ 23 ∧ fiR 21 ≤ 600) (hlm : l0 ≤ m0) : CNi l G k (EZ k) yX2_readNumber wzX2_readNumber ({ frames := 6, cells := 0, slots := 0, locals := 131 }) [.ref (arR 99), .int (Int32.ofInt (l0)), .int (Int32.ofInt (m0))] sz ((wR k arR (plR) (arY 0) fiR faR) ++ (wY k arY fiY faY)) (fun (r0 : Int32) (u : Int × Int × Int × Int × Int × Int × Int × Int × Int) => r0 = Int32.ofInt (u.1) ∧ (inR u.1) ∧ (inR u.2.1) ∧ (inR u.2.2.1) ∧ (inR u.2.2.2.1) ∧ (inR u.2.2.2.2.1) ∧ (inR u.2.2.2.2.2.1) ∧ (inR u.2.2.2.2.2.2.1) ∧ (inR u.2.2.2.2.2.2.2.1) ∧ (inR u.2.2.2.2.2.2.2.2) ∧ (0 ≤ u.2.2.2.2.1 ∧ u.2.2.2.2.1 ≤ fiR 21 ∧ 0 ≤ u.2.2.2.1 ∧ u.2.2.2.1 ≤ fiR 21 ∧ 0 ≤ u.2.2.2.2.2.2.1 ∧ u.2.2.2.2.2.2.1 ≤ 23 ∧ l0 ≤ u.1 ∧ u.1 ≤ m0)) (fun (u : Int × Int × Int × Int × Int × Int × Int × Int × Int) => ((wR k arR (plR) (arY 0) (uF (uF (uF (uF (uF (uF (uF (uF fiR 3 (u.2.1)) 4 (u.2.2.1)) 22 (u.2.2.2.1)) 23 (u.2.2.2.2.1)) 24 (u.2.2.2.2.2.1)) 25 (u.2.2.2.2.2.2.1)) 26 (u.2.2.2.2.2.2.2.1)) 27 (u.2.2.2.2.2.2.2.2)) faR) ++ (wY k arY fiY faY))) := by
  refine Met.ofW (cc := cX2_readNumber) (maxL := 4) (ret := (some .int)) (by decide) rfl ?_
  intro p e s m args below meth c s₁ B hml hv
  obtain ⟨rfl, hsz, hP, hX, hD0, hZ0⟩ := hv
  have hx := B.exec
  have hb := B.bytes
  have hr := B.returns
  have hts := atoms_spec (ws := wzX2_readNumber) B.pre
  have hown : s.vm.findClass RX2 = some m.cls := findClass_of_methodNamed B.named
  subst hsz
  have hD := hD0.self (sz := s.heap.size)
  have hZ := hZ0
  generalize hAe : va_A ((wR k arR (plR) (arY 0) fiR faR) ++ (wY k arY fiY faY)) s.heap.size = A at hD hZ ⊢
  have hA : ∀ q : Nat, s.heap.size ≤ q → A q := fun q h => by rw [← hAe]; exact Or.inr h
  have hS : va_S A s.heap s.heap [] := va_S.rf
  have hl := lv_entry ([.ref (arR 99), .int (Int32.ofInt (l0)), .int (Int32.ofInt (m0))]) (n := 4) (Nat.le_of_ble_eq_true rfl)
  rw [lg_entry_eq]
  generalize (lg_sl ([.ref (arR 99), .int (Int32.ofInt (l0)), .int (Int32.ofInt (m0))]) ++ List.replicate (4 - (lg_sl ([.ref (arR 99), .int (Int32.ofInt (l0)), .int (Int32.ofInt (m0))])).length) Slot.unset).toArray = ls at hl ⊢
  have hl : lv_has ls 4 [(0, .ref (arR 99)), (1, .int (Int32.ofInt (l0))), (2, .int (Int32.ofInt (m0)))] := hl
  obtain ⟨H, eH⟩ : ∃ H, H = s.heap := ⟨_, rfl⟩
  rw [← eH] at hP
  have hS : va_S A s.heap H [] := by rw [eH]; exact hS
  have gW : s.heap = H := eH.symm
  refine iv_heap gW ?_
  have h0w := hts (.fieldLink RX2 12 "RopeTown$Parser" "reader" "LRopeTown$Reader;") (wz_at 3 8 rfl)
  have h1w : ∀ w ∈ wsX20, w ∈ wzX2_readNumber := fun w h => List.mem_cons_of_mem _ (inlX2 w h)
  have h2w : ∀ w ∈ wsX40, w ∈ wzX2_readNumber := fun w h => List.mem_cons_of_mem _ (inlX4 w h)
  have h3w := hts (.initialized RX4) (wz_at 3 7 rfl)
  have h4w := hts (.instanceMethod yX4_advance) (wz_at 9 8 rfl)
  have h5w := hts (.selects RX4 yX4_advance yX4_advance) (wz_at 9 9 rfl)
  refine lv_aload_n hx hb dX2_readNumber_0 rfl (lv_at hl 0 rfl) ?_
  refine va_get (D := G) (ci := 1) (v := .ref (arR 98)) (C := RX2) (T := TX2) (N := 5) (ref := RX2) hx hb hts h1w hown hX.1 hP 0 rfl rfl 0 (by decide) h0w (fun _ h9 => h9) rfl dX2_readNumber_1 ?_
  refine va_getN (D := G) (ci := 3) (v := .int (Int32.ofInt (fiR 24))) (C := RX4) (T := TX4) (N := 8) (ref := RX4) (host := RX9) hx hb hts h2w hown hX.1 hP 1 rfl rfl 4 (by decide) (nf_32 hX.2.2.1) (fun _ h9 => h9) rfl dX2_readNumber_4 ?_
  have rf24R := hRR 24
  refine lv_iconst (v := Int32.ofInt 2) hx hb dX2_readNumber_7 (by decide +kernel) ?_
  refine iv_icmp_eq (tgt := 18) hx hb (by omega) (by omega) dX2_readNumber_8 (by decide) (fun q1 => ?_) (fun q1 => ?_)
  · refine lv_aload_n hx hb dX2_readNumber_18 rfl (lv_at hl 0 rfl) ?_
    refine va_get (D := G) (ci := 1) (v := .ref (arR 98)) (C := RX2) (T := TX2) (N := 5) (ref := RX2) hx hb hts h1w hown hX.1 hP 0 rfl rfl 0 (by decide) h0w (fun _ h9 => h9) rfl dX2_readNumber_19 ?_
    refine va_getN (D := G) (ci := 3) (v := .int (Int32.ofInt (fiR 26))) (C := RX4) (T := TX4) (N := 8) (ref := RX4) (host := RX9) hx hb hts h2w hown hX.1 hP 1 rfl rfl 6 (by decide) (nf_34 hX.2.2.1) (fun _ h9 => h9) rfl dX2_readNumber_22 ?_
    have rf26R := hRR 26
    refine lv_istore_n (lv' := [(3, .int (Int32.ofInt (fiR 26))), (0, .ref (arR 99)), (1, .int (Int32.ofInt (l0))), (2, .int (Int32.ofInt (m0)))]) hx hb dX2_readNumber_25 rfl hl (by decide) rfl (fun ls hl => ?_)
    refine lv_iload_n hx hb dX2_readNumber_26 rfl (lv_at hl 0 rfl) ?_
    refine lv_iload_n hx hb dX2_readNumber_27 rfl (lv_at hl 2 rfl) ?_
    refine iv_icmp_lt (tgt := 36) hx hb (by omega) (by omega) dX2_readNumber_28 (by decide) (fun q2 => ?_) (fun q2 => ?_)
    · refine lv_aload_n hx hb dX2_readNumber_36 rfl (lv_at hl 1 rfl) ?_
      refine lv_iconst (v := Int32.ofInt 2) hx hb dX2_readNumber_37 (by decide +kernel) ?_
      refine cr_v (va_runV (As := [.int (Int32.ofInt (2))]) (rest := []) ⟨hx, hb, hml, hown, hts⟩ (mX2_fail l G k arR plR fiR faR arY fiY faY 2 H.size hRR hRaR hRY hRaY hB0Y (by omega) (show 0 ≤ (fiR 23) ∧ (fiR 23) ≤ (fiR 21) ∧ 0 ≤ (fiR 22) ∧ (fiR 22) ≤ (fiR 21) ∧ 0 ≤ (fiR 25) ∧ (fiR 25) ≤ 23 ∧ (fiR 21) ≤ 600 from by omega)) (cwV 1 hts (gz [.methodLink RX2 103 yX2_fail, .instanceMethod yX2_fail, .selects RX2 yX2_fail yX2_fail, .initialized RX2] (.code yX2_fail cX2_fail 2 none) [(13, 1), (13, 2), (13, 3), (1, 0), (13, 4)] rfl) rfl rfl rfl (by decide +kernel) ⟨Nat.le_of_ble_eq_true rfl, Nat.le_of_ble_eq_true rfl⟩) (cr_preV (EZ_ok k) hZ hS hX hP hD hA (ci := 1) (q0 := 0) rfl rfl) rfl rfl hl.1 rfl (lv_room (Nat.le_of_ble_eq_true rfl)) dX2_readNumber_38 ⟨Nat.le_of_ble_eq_true rfl, Nat.le_of_ble_eq_true rfl⟩) hD hS hA (fun u H locs hp hP hD hS => ?_)
      obtain ⟨c3, c4, c5, c6, c7, c8, c9⟩ := u
      obtain ⟨hP, hD⟩ : va_P G vwCl ((wR k arR (plR) (arY 0) (uF (uF (uF (uF (uF (uF (uF fiR 3 (c3)) 4 (c4)) 22 (c5)) 23 (c6)) 24 (c7)) 25 (c8)) 27 (c9)) faR) ++ (wY k arY fiY faY)) H ∧ va_D A ((wR k arR (plR) (arY 0) (uF (uF (uF (uF (uF (uF (uF fiR 3 (c3)) 4 (c4)) 22 (c5)) 23 (c6)) 24 (c7)) 25 (c8)) 27 (c9)) faR) ++ (wY k arY fiY faY)) := ⟨hP, hD⟩
      obtain ⟨rc3, rc4, rc5, rc6, rc7, rc8, rc9, hp9⟩ : (inR c3) ∧ (inR c4) ∧ (inR c5) ∧ (inR c6) ∧ (inR c7) ∧ (inR c8) ∧ (inR c9) ∧ (0 ≤ c6 ∧ c6 ≤ (fiR 21) ∧ 0 ≤ c5 ∧ c5 ≤ (fiR 21) ∧ 0 ≤ c8 ∧ c8 ≤ 23) := hp
      refine lv_iload_n hx hb dX2_readNumber_41 rfl (lv_at hl 2 rfl) ?_
      exact W.iret (v := Int32.ofInt (l0)) hx hb hr (fun t ht hW => ⟨⟨Int32.ofInt (l0), (l0, c3, c4, c5, c6, c7, c8, fiR 26, c9), rfl, ⟨rfl, (show (inR l0) ∧ (inR c3) ∧ (inR c4) ∧ (inR c5) ∧ (inR c6) ∧ (inR c7) ∧ (inR c8) ∧ (inR (fiR 26)) ∧ (inR c9) ∧ (0 ≤ c6 ∧ c6 ≤ fiR 21 ∧ 0 ≤ c5 ∧ c5 ≤ fiR 21 ∧ 0 ≤ c8 ∧ c8 ≤ 23 ∧ l0 ≤ l0 ∧ l0 ≤ m0) from ⟨(by omega), (by omega), (by omega), (by omega), (by omega), (by omega), (by omega), (hRR 26), (by omega), (by omega)⟩)⟩, by rw [ht]; exact hP, hD⟩, hS.F ht⟩) hS.2.2 dX2_readNumber_42
    · refine lv_iload_n hx hb dX2_readNumber_31 rfl (lv_at hl 0 rfl) ?_
      refine lv_iload_n hx hb dX2_readNumber_32 rfl (lv_at hl 3 rfl) ?_
      refine iv_icmp_le (tgt := 43) hx hb (by omega) (by omega) dX2_readNumber_33 (by decide) (fun q10 => ?_) (fun q10 => ?_)
      · refine lv_aload_n hx hb dX2_readNumber_43 rfl (lv_at hl 1 rfl) ?_
        refine va_get (D := G) (ci := 1) (v := .ref (arR 98)) (C := RX2) (T := TX2) (N := 5) (ref := RX2) hx hb hts h1w hown hX.1 hP 0 rfl rfl 0 (by decide) h0w (fun _ h9 => h9) rfl dX2_readNumber_44 ?_
        refine cr_v (va_runVN (As := []) (rest := []) ⟨hx, hb, hml, hown, hts⟩ (mX4_advance l G k arR plR fiR faR arY fiY faY H.size hRR hRaR hRY hRaY hB0Y (show 0 ≤ (fiR 23) ∧ (fiR 23) ≤ (fiR 21) ∧ (fiR 21) ≤ 600 from by omega)) ⟨va_cnB 0 hts (gz [] (.code yX4_advance cX4_advance 3 none) [(9, 10)] rfl) rfl rfl rfl (nm_32 hX.2.2.1) h3w (by decide +kernel) ⟨Nat.le_of_ble_eq_true rfl, Nat.le_of_ble_eq_true rfl⟩, h4w, h5w⟩ (cr_preV (EZ_ok k) hZ hS hX hP hD hA (ci := 3) (q0 := 1) rfl rfl) rfl rfl hl.1 rfl (lv_room (Nat.le_of_ble_eq_true rfl)) dX2_readNumber_47 ⟨Nat.le_of_ble_eq_true rfl, Nat.le_of_ble_eq_true rfl⟩) hD hS hA (fun u H locs hp hP hD hS => ?_)
        obtain ⟨c11, c12, c13, c14, c15, c16⟩ := u
        obtain ⟨hP, hD⟩ : va_P G vwCl ((wR k arR (plR) (arY 0) (uF (uF (uF (uF (uF (uF fiR 22 (c11)) 23 (c12)) 24 (c13)) 25 (c14)) 26 (c15)) 27 (c16)) faR) ++ (wY k arY fiY faY)) H ∧ va_D A ((wR k arR (plR) (arY 0) (uF (uF (uF (uF (uF (uF fiR 22 (c11)) 23 (c12)) 24 (c13)) 25 (c14)) 26 (c15)) 27 (c16)) faR) ++ (wY k arY fiY faY)) := ⟨hP, hD⟩
        obtain ⟨rc11, rc12, rc13, rc14, rc15, rc16, hp16⟩ : (inR c11) ∧ (inR c12) ∧ (inR c13) ∧ (inR c14) ∧ (inR c15) ∧ (inR c16) ∧ (0 ≤ c12 ∧ c12 ≤ (fiR 21) ∧ 0 ≤ c11 ∧ c11 ≤ (fiR 21) ∧ 0 ≤ c14 ∧ c14 ≤ 23) := hp
        refine lv_iload_n hx hb dX2_readNumber_50 rfl (lv_at hl 0 rfl) ?_
        exact W.iret (v := Int32.ofInt (fiR 26)) hx hb hr (fun t ht hW => ⟨⟨Int32.ofInt (fiR 26), (fiR 26, fiR 3, fiR 4, c11, c12, c13, c14, c15, c16), rfl, ⟨rfl, (show (inR (fiR 26)) ∧ (inR (fiR 3)) ∧ (inR (fiR 4)) ∧ (inR c11) ∧ (inR c12) ∧ (inR c13) ∧ (inR c14) ∧ (inR c15) ∧ (inR c16) ∧ (0 ≤ c12 ∧ c12 ≤ fiR 21 ∧ 0 ≤ c11 ∧ c11 ≤ fiR 21 ∧ 0 ≤ c14 ∧ c14 ≤ 23 ∧ l0 ≤ (fiR 26) ∧ (fiR 26) ≤ m0) from ⟨(hRR 26), (hRR 3), (hRR 4), (by omega), (by omega), (by omega), (by omega), (by omega), (by omega), (by omega)⟩)⟩, by rw [ht]; exact hP, hD⟩, hS.F ht⟩) hS.2.2 dX2_readNumber_51
      · refine lv_aload_n hx hb dX2_readNumber_36 rfl (lv_at hl 1 rfl) ?_
        refine lv_iconst (v := Int32.ofInt 2) hx hb dX2_readNumber_37 (by decide +kernel) ?_
        refine cr_v (va_runV (As := [.int (Int32.ofInt (2))]) (rest := []) ⟨hx, hb, hml, hown, hts⟩ (mX2_fail l G k arR plR fiR faR arY fiY faY 2 H.size hRR hRaR hRY hRaY hB0Y (by omega) (show 0 ≤ (fiR 23) ∧ (fiR 23) ≤ (fiR 21) ∧ 0 ≤ (fiR 22) ∧ (fiR 22) ≤ (fiR 21) ∧ 0 ≤ (fiR 25) ∧ (fiR 25) ≤ 23 ∧ (fiR 21) ≤ 600 from by omega)) (cwV 1 hts (gz [.methodLink RX2 103 yX2_fail, .instanceMethod yX2_fail, .selects RX2 yX2_fail yX2_fail, .initialized RX2] (.code yX2_fail cX2_fail 2 none) [(13, 1), (13, 2), (13, 3), (1, 0), (13, 4)] rfl) rfl rfl rfl (by decide +kernel) ⟨Nat.le_of_ble_eq_true rfl, Nat.le_of_ble_eq_true rfl⟩) (cr_preV (EZ_ok k) hZ hS hX hP hD hA (ci := 1) (q0 := 0) rfl rfl) rfl rfl hl.1 rfl (lv_room (Nat.le_of_ble_eq_true rfl)) dX2_readNumber_38 ⟨Nat.le_of_ble_eq_true rfl, Nat.le_of_ble_eq_true rfl⟩) hD hS hA (fun u H locs hp hP hD hS => ?_)
        obtain ⟨c17, c18, c19, c20, c21, c22, c23⟩ := u
        obtain ⟨hP, hD⟩ : va_P G vwCl ((wR k arR (plR) (arY 0) (uF (uF (uF (uF (uF (uF (uF fiR 3 (c17)) 4 (c18)) 22 (c19)) 23 (c20)) 24 (c21)) 25 (c22)) 27 (c23)) faR) ++ (wY k arY fiY faY)) H ∧ va_D A ((wR k arR (plR) (arY 0) (uF (uF (uF (uF (uF (uF (uF fiR 3 (c17)) 4 (c18)) 22 (c19)) 23 (c20)) 24 (c21)) 25 (c22)) 27 (c23)) faR) ++ (wY k arY fiY faY)) := ⟨hP, hD⟩
        obtain ⟨rc17, rc18, rc19, rc20, rc21, rc22, rc23, hp23⟩ : (inR c17) ∧ (inR c18) ∧ (inR c19) ∧ (inR c20) ∧ (inR c21) ∧ (inR c22) ∧ (inR c23) ∧ (0 ≤ c20 ∧ c20 ≤ (fiR 21) ∧ 0 ≤ c19 ∧ c19 ≤ (fiR 21) ∧ 0 ≤ c22 ∧ c22 ≤ 23) := hp
        refine lv_iload_n hx hb dX2_readNumber_41 rfl (lv_at hl 2 rfl) ?_
        exact W.iret (v := Int32.ofInt (l0)) hx hb hr (fun t ht hW => ⟨⟨Int32.ofInt (l0), (l0, c17, c18, c19, c20, c21, c22, fiR 26, c23), rfl, ⟨rfl, (show (inR l0) ∧ (inR c17) ∧ (inR c18) ∧ (inR c19) ∧ (inR c20) ∧ (inR c21) ∧ (inR c22) ∧ (inR (fiR 26)) ∧ (inR c23) ∧ (0 ≤ c20 ∧ c20 ≤ fiR 21 ∧ 0 ≤ c19 ∧ c19 ≤ fiR 21 ∧ 0 ≤ c22 ∧ c22 ≤ 23 ∧ l0 ≤ l0 ∧ l0 ≤ m0) from ⟨(by omega), (by omega), (by omega), (by omega), (by omega), (by omega), (by omega), (hRR 26), (by omega), (by omega)⟩)⟩, by rw [ht]; exact hP, hD⟩, hS.F ht⟩) hS.2.2 dX2_readNumber_42
  · refine lv_aload_n hx hb dX2_readNumber_11 rfl (lv_at hl 0 rfl) ?_
    refine lv_iconst (v := Int32.ofInt 1) hx hb dX2_readNumber_12 (by decide +kernel) ?_
    refine cr_v (va_runV (As := [.int (Int32.ofInt (1))]) (rest := []) ⟨hx, hb, hml, hown, hts⟩ (mX2_fail l G k arR plR fiR faR arY fiY faY 1 H.size hRR hRaR hRY hRaY hB0Y (by omega) (show 0 ≤ (fiR 23) ∧ (fiR 23) ≤ (fiR 21) ∧ 0 ≤ (fiR 22) ∧ (fiR 22) ≤ (fiR 21) ∧ 0 ≤ (fiR 25) ∧ (fiR 25) ≤ 23 ∧ (fiR 21) ≤ 600 from by omega)) (cwV 1 hts (gz [.methodLink RX2 103 yX2_fail, .instanceMethod yX2_fail, .selects RX2 yX2_fail yX2_fail, .initialized RX2] (.code yX2_fail cX2_fail 2 none) [(13, 1), (13, 2), (13, 3), (1, 0), (13, 4)] rfl) rfl rfl rfl (by decide +kernel) ⟨Nat.le_of_ble_eq_true rfl, Nat.le_of_ble_eq_true rfl⟩) (cr_preV (EZ_ok k) hZ hS hX hP hD hA (ci := 1) (q0 := 0) rfl rfl) rfl rfl hl.1 rfl (lv_room (Nat.le_of_ble_eq_true rfl)) dX2_readNumber_13 ⟨Nat.le_of_ble_eq_true rfl, Nat.le_of_ble_eq_true rfl⟩) hD hS hA (fun u H locs hp hP hD hS => ?_)
    obtain ⟨c24, c25, c26, c27, c28, c29, c30⟩ := u
    obtain ⟨hP, hD⟩ : va_P G vwCl ((wR k arR (plR) (arY 0) (uF (uF (uF (uF (uF (uF (uF fiR 3 (c24)) 4 (c25)) 22 (c26)) 23 (c27)) 24 (c28)) 25 (c29)) 27 (c30)) faR) ++ (wY k arY fiY faY)) H ∧ va_D A ((wR k arR (plR) (arY 0) (uF (uF (uF (uF (uF (uF (uF fiR 3 (c24)) 4 (c25)) 22 (c26)) 23 (c27)) 24 (c28)) 25 (c29)) 27 (c30)) faR) ++ (wY k arY fiY faY)) := ⟨hP, hD⟩
    obtain ⟨rc24, rc25, rc26, rc27, rc28, rc29, rc30, hp30⟩ : (inR c24) ∧ (inR c25) ∧ (inR c26) ∧ (inR c27) ∧ (inR c28) ∧ (inR c29) ∧ (inR c30) ∧ (0 ≤ c27 ∧ c27 ≤ (fiR 21) ∧ 0 ≤ c26 ∧ c26 ≤ (fiR 21) ∧ 0 ≤ c29 ∧ c29 ≤ 23) := hp
    refine lv_iload_n hx hb dX2_readNumber_16 rfl (lv_at hl 1 rfl) ?_
    exact W.iret (v := Int32.ofInt (l0)) hx hb hr (fun t ht hW => ⟨⟨Int32.ofInt (l0), (l0, c24, c25, c26, c27, c28, c29, fiR 26, c30), rfl, ⟨rfl, (show (inR l0) ∧ (inR c24) ∧ (inR c25) ∧ (inR c26) ∧ (inR c27) ∧ (inR c28) ∧ (inR c29) ∧ (inR (fiR 26)) ∧ (inR c30) ∧ (0 ≤ c27 ∧ c27 ≤ fiR 21 ∧ 0 ≤ c26 ∧ c26 ≤ fiR 21 ∧ 0 ≤ c29 ∧ c29 ≤ 23 ∧ l0 ≤ l0 ∧ l0 ≤ m0) from ⟨(by omega), (by omega), (by omega), (by omega), (by omega), (by omega), (by omega), (hRR 26), (by omega), (by omega)⟩)⟩, by rw [ht]; exact hP, hD⟩, hS.F ht⟩) hS.2.2 dX2_readNumber_17

set_option maxHeartbeats 4000000 in
set_option maxRecDepth 100000 in
theorem mX2_skipWord (l : Launch) (G : va_G) (k : Nat → ClassId) (arR : Nat → Nat) (plR : Nat) (fiR : Nat → Int) (faR : Nat → Int → Int) (arY : Nat → Nat) (fiY : Nat → Int) (faY : Nat → Int → Int) (w0 : Int) (sz : Nat) (hRR : ∀ j, inR (fiR j)) (hRaR : ∀ j t, inR (faR j t)) (hRY : ∀ j, inR (fiY j)) (hRaY : ∀ j t, inR (faY j t)) (hB0Y : bnd (faY 0) 600 (-128) 128) (hw0 : 0 ≤ w0 ∧ w0 ≤ 23) (hrq : 0 ≤ fiR 23 ∧ fiR 23 ≤ fiR 21 ∧ 0 ≤ fiR 22 ∧ fiR 22 ≤ fiR 21 ∧ 0 ≤ fiR 25 ∧ fiR 25 ≤ 23 ∧ fiR 21 ≤ 600) : CNv l G k (EZ k) yX2_skipWord wzX2_skipWord ({ frames := 6, cells := 0, slots := 0, locals := 131 }) [.ref (arR 99), .ref (k (400 + (w0).toNat))] sz ((wR k arR (plR) (arY 0) fiR faR) ++ (wY k arY fiY faY)) (fun (u : Int × Int × Int × Int × Int × Int × Int × Int) => (inR u.1) ∧ (inR u.2.1) ∧ (inR u.2.2.1) ∧ (inR u.2.2.2.1) ∧ (inR u.2.2.2.2.1) ∧ (inR u.2.2.2.2.2.1) ∧ (inR u.2.2.2.2.2.2.1) ∧ (inR u.2.2.2.2.2.2.2) ∧ (0 ≤ u.2.2.2.1 ∧ u.2.2.2.1 ≤ fiR 21 ∧ 0 ≤ u.2.2.1 ∧ u.2.2.1 ≤ fiR 21 ∧ 0 ≤ u.2.2.2.2.2.1 ∧ u.2.2.2.2.2.1 ≤ 23)) (fun (u : Int × Int × Int × Int × Int × Int × Int × Int) => ((wR k arR (plR) (arY 0) (uF (uF (uF (uF (uF (uF (uF (uF fiR 3 (u.1)) 4 (u.2.1)) 22 (u.2.2.1)) 23 (u.2.2.2.1)) 24 (u.2.2.2.2.1)) 25 (u.2.2.2.2.2.1)) 26 (u.2.2.2.2.2.2.1)) 27 (u.2.2.2.2.2.2.2)) faR) ++ (wY k arY fiY faY))) := by
  refine Met.ofW (cc := cX2_skipWord) (maxL := 2) (ret := none) (by decide) rfl ?_
  intro p e s m args below meth c s₁ B hml hv
  obtain ⟨rfl, hsz, hP, hX, hD0, hZ0⟩ := hv
  have hx := B.exec
  have hb := B.bytes
  have hr := B.returns
  have hts := atoms_spec (ws := wzX2_skipWord) B.pre
  have hown : s.vm.findClass RX2 = some m.cls := findClass_of_methodNamed B.named
  subst hsz
  have hD := hD0.self (sz := s.heap.size)
  have hZ := hZ0
  generalize hAe : va_A ((wR k arR (plR) (arY 0) fiR faR) ++ (wY k arY fiY faY)) s.heap.size = A at hD hZ ⊢
  have hA : ∀ q : Nat, s.heap.size ≤ q → A q := fun q h => by rw [← hAe]; exact Or.inr h
  have hS : va_S A s.heap s.heap [] := va_S.rf
  have hl := lv_entry ([.ref (arR 99), .ref (k (400 + (w0).toNat))]) (n := 2) (Nat.le_of_ble_eq_true rfl)
  rw [lg_entry_eq]
  generalize (lg_sl ([.ref (arR 99), .ref (k (400 + (w0).toNat))]) ++ List.replicate (2 - (lg_sl ([.ref (arR 99), .ref (k (400 + (w0).toNat))])).length) Slot.unset).toArray = ls at hl ⊢
  have hl : lv_has ls 2 [(0, .ref (arR 99)), (1, .ref (k (400 + (w0).toNat)))] := hl
  obtain ⟨H, eH⟩ : ∃ H, H = s.heap := ⟨_, rfl⟩
  rw [← eH] at hP
  have hS : va_S A s.heap H [] := by rw [eH]; exact hS
  have gW : s.heap = H := eH.symm
  refine iv_heap gW ?_
  have h0w := hts (.fieldLink RX2 12 "RopeTown$Parser" "reader" "LRopeTown$Reader;") (wz_at 3 8 rfl)
  have h1w : ∀ w ∈ wsX20, w ∈ wzX2_skipWord := fun w h => List.mem_cons_of_mem _ (inlX2 w h)
  have h2w : ∀ w ∈ wsX40, w ∈ wzX2_skipWord := fun w h => List.mem_cons_of_mem _ (inlX4 w h)
  have h3w := hts (.initialized RX4) (wz_at 3 7 rfl)
  have h4w := hts (.instanceMethod yX4_advance) (wz_at 9 8 rfl)
  have h5w := hts (.selects RX4 yX4_advance yX4_advance) (wz_at 9 9 rfl)
  refine lv_aload_n hx hb dX2_skipWord_0 rfl (lv_at hl 0 rfl) ?_
  refine va_get (D := G) (ci := 1) (v := .ref (arR 98)) (C := RX2) (T := TX2) (N := 5) (ref := RX2) hx hb hts h1w hown hX.1 hP 0 rfl rfl 0 (by decide) h0w (fun _ h9 => h9) rfl dX2_skipWord_1 ?_
  refine va_getN (D := G) (ci := 3) (v := .ref (k (400 + (fiR 25).toNat))) (C := RX4) (T := TX4) (N := 8) (ref := RX4) (host := RX9) hx hb hts h2w hown hX.1 hP 1 rfl rfl 5 (by decide) (nf_33 hX.2.2.1) (fun _ h9 => h9) rfl dX2_skipWord_4 ?_
  refine lv_aload_n hx hb dX2_skipWord_7 rfl (lv_at hl 1 rfl) ?_
  refine lv_acmp_ne (rx := some (k (400 + (fiR 25).toNat))) (ry := some (k (400 + (w0).toNat))) (tgt := 21) hx hb dX2_skipWord_8 (by decide) (fun q1 => ?_) (fun q1 => ?_)
  · refine lv_aload_n hx hb dX2_skipWord_21 rfl (lv_at hl 0 rfl) ?_
    refine lv_iconst (v := Int32.ofInt 1) hx hb dX2_skipWord_22 (by decide +kernel) ?_
    refine cr_v (va_runV (As := [.int (Int32.ofInt (1))]) (rest := []) ⟨hx, hb, hml, hown, hts⟩ (mX2_fail l G k arR plR fiR faR arY fiY faY 1 H.size hRR hRaR hRY hRaY hB0Y (by omega) (show 0 ≤ (fiR 23) ∧ (fiR 23) ≤ (fiR 21) ∧ 0 ≤ (fiR 22) ∧ (fiR 22) ≤ (fiR 21) ∧ 0 ≤ (fiR 25) ∧ (fiR 25) ≤ 23 ∧ (fiR 21) ≤ 600 from by omega)) (cwV 1 hts (gz [.methodLink RX2 103 yX2_fail, .instanceMethod yX2_fail, .selects RX2 yX2_fail yX2_fail, .initialized RX2] (.code yX2_fail cX2_fail 2 none) [(13, 1), (13, 2), (13, 3), (1, 0), (13, 4)] rfl) rfl rfl rfl (by decide +kernel) ⟨Nat.le_of_ble_eq_true rfl, Nat.le_of_ble_eq_true rfl⟩) (cr_preV (EZ_ok k) hZ hS hX hP hD hA (ci := 1) (q0 := 0) rfl rfl) rfl rfl hl.1 rfl (lv_room (Nat.le_of_ble_eq_true rfl)) dX2_skipWord_23 ⟨Nat.le_of_ble_eq_true rfl, Nat.le_of_ble_eq_true rfl⟩) hD hS hA (fun u H locs hp hP hD hS => ?_)
    obtain ⟨c2, c3, c4, c5, c6, c7, c8⟩ := u
    obtain ⟨hP, hD⟩ : va_P G vwCl ((wR k arR (plR) (arY 0) (uF (uF (uF (uF (uF (uF (uF fiR 3 (c2)) 4 (c3)) 22 (c4)) 23 (c5)) 24 (c6)) 25 (c7)) 27 (c8)) faR) ++ (wY k arY fiY faY)) H ∧ va_D A ((wR k arR (plR) (arY 0) (uF (uF (uF (uF (uF (uF (uF fiR 3 (c2)) 4 (c3)) 22 (c4)) 23 (c5)) 24 (c6)) 25 (c7)) 27 (c8)) faR) ++ (wY k arY fiY faY)) := ⟨hP, hD⟩
    obtain ⟨rc2, rc3, rc4, rc5, rc6, rc7, rc8, hp8⟩ : (inR c2) ∧ (inR c3) ∧ (inR c4) ∧ (inR c5) ∧ (inR c6) ∧ (inR c7) ∧ (inR c8) ∧ (0 ≤ c5 ∧ c5 ≤ (fiR 21) ∧ 0 ≤ c4 ∧ c4 ≤ (fiR 21) ∧ 0 ≤ c7 ∧ c7 ≤ 23) := hp
    exact W.vret hx hb hr (fun t ht hW => ⟨⟨(c2, c3, c4, c5, c6, c7, fiR 26, c8), rfl, (show (inR c2) ∧ (inR c3) ∧ (inR c4) ∧ (inR c5) ∧ (inR c6) ∧ (inR c7) ∧ (inR (fiR 26)) ∧ (inR c8) ∧ (0 ≤ c5 ∧ c5 ≤ fiR 21 ∧ 0 ≤ c4 ∧ c4 ≤ fiR 21 ∧ 0 ≤ c7 ∧ c7 ≤ 23) from ⟨(by omega), (by omega), (by omega), (by omega), (by omega), (by omega), (hRR 26), (by omega), (by omega)⟩), by rw [ht]; exact hP, hD⟩, hS.F ht⟩) hS.2.2 dX2_skipWord_26
  · refine lv_aload_n hx hb dX2_skipWord_11 rfl (lv_at hl 0 rfl) ?_
    refine va_get (D := G) (ci := 1) (v := .ref (arR 98)) (C := RX2) (T := TX2) (N := 5) (ref := RX2) hx hb hts h1w hown hX.1 hP 0 rfl rfl 0 (by decide) h0w (fun _ h9 => h9) rfl dX2_skipWord_12 ?_
    refine cr_v (va_runVN (As := []) (rest := []) ⟨hx, hb, hml, hown, hts⟩ (mX4_advance l G k arR plR fiR faR arY fiY faY H.size hRR hRaR hRY hRaY hB0Y (show 0 ≤ (fiR 23) ∧ (fiR 23) ≤ (fiR 21) ∧ (fiR 21) ≤ 600 from by omega)) ⟨va_cnB 0 hts (gz [] (.code yX4_advance cX4_advance 3 none) [(9, 10)] rfl) rfl rfl rfl (nm_32 hX.2.2.1) h3w (by decide +kernel) ⟨Nat.le_of_ble_eq_true rfl, Nat.le_of_ble_eq_true rfl⟩, h4w, h5w⟩ (cr_preV (EZ_ok k) hZ hS hX hP hD hA (ci := 3) (q0 := 1) rfl rfl) rfl rfl hl.1 rfl (lv_room (Nat.le_of_ble_eq_true rfl)) dX2_skipWord_15 ⟨Nat.le_of_ble_eq_true rfl, Nat.le_of_ble_eq_true rfl⟩) hD hS hA (fun u H locs hp hP hD hS => ?_)
    obtain ⟨c9, c10, c11, c12, c13, c14⟩ := u
    obtain ⟨hP, hD⟩ : va_P G vwCl ((wR k arR (plR) (arY 0) (uF (uF (uF (uF (uF (uF fiR 22 (c9)) 23 (c10)) 24 (c11)) 25 (c12)) 26 (c13)) 27 (c14)) faR) ++ (wY k arY fiY faY)) H ∧ va_D A ((wR k arR (plR) (arY 0) (uF (uF (uF (uF (uF (uF fiR 22 (c9)) 23 (c10)) 24 (c11)) 25 (c12)) 26 (c13)) 27 (c14)) faR) ++ (wY k arY fiY faY)) := ⟨hP, hD⟩
    obtain ⟨rc9, rc10, rc11, rc12, rc13, rc14, hp14⟩ : (inR c9) ∧ (inR c10) ∧ (inR c11) ∧ (inR c12) ∧ (inR c13) ∧ (inR c14) ∧ (0 ≤ c10 ∧ c10 ≤ (fiR 21) ∧ 0 ≤ c9 ∧ c9 ≤ (fiR 21) ∧ 0 ≤ c12 ∧ c12 ≤ 23) := hp
    refine lv_goto (tgt := 26) hx hb dX2_skipWord_18 (by decide) ?_
    exact W.vret hx hb hr (fun t ht hW => ⟨⟨(fiR 3, fiR 4, c9, c10, c11, c12, c13, c14), rfl, (show (inR (fiR 3)) ∧ (inR (fiR 4)) ∧ (inR c9) ∧ (inR c10) ∧ (inR c11) ∧ (inR c12) ∧ (inR c13) ∧ (inR c14) ∧ (0 ≤ c10 ∧ c10 ≤ fiR 21 ∧ 0 ≤ c9 ∧ c9 ≤ fiR 21 ∧ 0 ≤ c12 ∧ c12 ≤ 23) from ⟨(hRR 3), (hRR 4), (by omega), (by omega), (by omega), (by omega), (by omega), (by omega), (by omega)⟩), by rw [ht]; exact hP, hD⟩, hS.F ht⟩) hS.2.2 dX2_skipWord_26

set_option maxHeartbeats 4000000 in
set_option maxRecDepth 100000 in
theorem mX2_skipSign (l : Launch) (G : va_G) (k : Nat → ClassId) (arR : Nat → Nat) (plR : Nat) (fiR : Nat → Int) (faR : Nat → Int → Int) (arY : Nat → Nat) (fiY : Nat → Int) (faY : Nat → Int → Int) (k0 : Int) (sz : Nat) (hRR : ∀ j, inR (fiR j)) (hRaR : ∀ j t, inR (faR j t)) (hRY : ∀ j, inR (fiY j)) (hRaY : ∀ j t, inR (faY j t)) (hB0Y : bnd (faY 0) 600 (-128) 128) (hr_k0 : inR k0) (hrq : 0 ≤ fiR 23 ∧ fiR 23 ≤ fiR 21 ∧ 0 ≤ fiR 22 ∧ fiR 22 ≤ fiR 21 ∧ 0 ≤ fiR 25 ∧ fiR 25 ≤ 23 ∧ fiR 21 ≤ 600) : CNv l G k (EZ k) yX2_skipSign wzX2_skipSign ({ frames := 6, cells := 0, slots := 0, locals := 131 }) [.ref (arR 99), .int (Int32.ofInt (k0))] sz ((wR k arR (plR) (arY 0) fiR faR) ++ (wY k arY fiY faY)) (fun (u : Int × Int × Int × Int × Int × Int × Int × Int) => (inR u.1) ∧ (inR u.2.1) ∧ (inR u.2.2.1) ∧ (inR u.2.2.2.1) ∧ (inR u.2.2.2.2.1) ∧ (inR u.2.2.2.2.2.1) ∧ (inR u.2.2.2.2.2.2.1) ∧ (inR u.2.2.2.2.2.2.2) ∧ (0 ≤ u.2.2.2.1 ∧ u.2.2.2.1 ≤ fiR 21 ∧ 0 ≤ u.2.2.1 ∧ u.2.2.1 ≤ fiR 21 ∧ 0 ≤ u.2.2.2.2.2.1 ∧ u.2.2.2.2.2.1 ≤ 23)) (fun (u : Int × Int × Int × Int × Int × Int × Int × Int) => ((wR k arR (plR) (arY 0) (uF (uF (uF (uF (uF (uF (uF (uF fiR 3 (u.1)) 4 (u.2.1)) 22 (u.2.2.1)) 23 (u.2.2.2.1)) 24 (u.2.2.2.2.1)) 25 (u.2.2.2.2.2.1)) 26 (u.2.2.2.2.2.2.1)) 27 (u.2.2.2.2.2.2.2)) faR) ++ (wY k arY fiY faY))) := by
  refine Met.ofW (cc := cX2_skipSign) (maxL := 2) (ret := none) (by decide) rfl ?_
  intro p e s m args below meth c s₁ B hml hv
  obtain ⟨rfl, hsz, hP, hX, hD0, hZ0⟩ := hv
  have hx := B.exec
  have hb := B.bytes
  have hr := B.returns
  have hts := atoms_spec (ws := wzX2_skipSign) B.pre
  have hown : s.vm.findClass RX2 = some m.cls := findClass_of_methodNamed B.named
  subst hsz
  have hD := hD0.self (sz := s.heap.size)
  have hZ := hZ0
  generalize hAe : va_A ((wR k arR (plR) (arY 0) fiR faR) ++ (wY k arY fiY faY)) s.heap.size = A at hD hZ ⊢
  have hA : ∀ q : Nat, s.heap.size ≤ q → A q := fun q h => by rw [← hAe]; exact Or.inr h
  have hS : va_S A s.heap s.heap [] := va_S.rf
  have hl := lv_entry ([.ref (arR 99), .int (Int32.ofInt (k0))]) (n := 2) (Nat.le_of_ble_eq_true rfl)
  rw [lg_entry_eq]
  generalize (lg_sl ([.ref (arR 99), .int (Int32.ofInt (k0))]) ++ List.replicate (2 - (lg_sl ([.ref (arR 99), .int (Int32.ofInt (k0))])).length) Slot.unset).toArray = ls at hl ⊢
  have hl : lv_has ls 2 [(0, .ref (arR 99)), (1, .int (Int32.ofInt (k0)))] := hl
  obtain ⟨H, eH⟩ : ∃ H, H = s.heap := ⟨_, rfl⟩
  rw [← eH] at hP
  have hS : va_S A s.heap H [] := by rw [eH]; exact hS
  have gW : s.heap = H := eH.symm
  refine iv_heap gW ?_
  have h0w := hts (.fieldLink RX2 12 "RopeTown$Parser" "reader" "LRopeTown$Reader;") (wz_at 3 8 rfl)
  have h1w : ∀ w ∈ wsX20, w ∈ wzX2_skipSign := fun w h => List.mem_cons_of_mem _ (inlX2 w h)
  have h2w : ∀ w ∈ wsX40, w ∈ wzX2_skipSign := fun w h => List.mem_cons_of_mem _ (inlX4 w h)
  have h3w := hts (.initialized RX4) (wz_at 3 7 rfl)
  have h4w := hts (.instanceMethod yX4_advance) (wz_at 9 8 rfl)
  have h5w := hts (.selects RX4 yX4_advance yX4_advance) (wz_at 9 9 rfl)
  refine lv_aload_n hx hb dX2_skipSign_0 rfl (lv_at hl 0 rfl) ?_
  refine va_get (D := G) (ci := 1) (v := .ref (arR 98)) (C := RX2) (T := TX2) (N := 5) (ref := RX2) hx hb hts h1w hown hX.1 hP 0 rfl rfl 0 (by decide) h0w (fun _ h9 => h9) rfl dX2_skipSign_1 ?_
  refine va_getN (D := G) (ci := 3) (v := .int (Int32.ofInt (fiR 27))) (C := RX4) (T := TX4) (N := 8) (ref := RX4) (host := RX9) hx hb hts h2w hown hX.1 hP 1 rfl rfl 7 (by decide) (nf_35 hX.2.2.1) (fun _ h9 => h9) rfl dX2_skipSign_4 ?_
  have rf27R := hRR 27
  refine lv_iload_n hx hb dX2_skipSign_7 rfl (lv_at hl 1 rfl) ?_
  refine iv_icmp_ne (tgt := 21) hx hb (by omega) (by omega) dX2_skipSign_8 (by decide) (fun q1 => ?_) (fun q1 => ?_)
  · refine lv_aload_n hx hb dX2_skipSign_21 rfl (lv_at hl 0 rfl) ?_
    refine lv_iconst (v := Int32.ofInt 1) hx hb dX2_skipSign_22 (by decide +kernel) ?_
    refine cr_v (va_runV (As := [.int (Int32.ofInt (1))]) (rest := []) ⟨hx, hb, hml, hown, hts⟩ (mX2_fail l G k arR plR fiR faR arY fiY faY 1 H.size hRR hRaR hRY hRaY hB0Y (by omega) (show 0 ≤ (fiR 23) ∧ (fiR 23) ≤ (fiR 21) ∧ 0 ≤ (fiR 22) ∧ (fiR 22) ≤ (fiR 21) ∧ 0 ≤ (fiR 25) ∧ (fiR 25) ≤ 23 ∧ (fiR 21) ≤ 600 from by omega)) (cwV 1 hts (gz [.methodLink RX2 103 yX2_fail, .instanceMethod yX2_fail, .selects RX2 yX2_fail yX2_fail, .initialized RX2] (.code yX2_fail cX2_fail 2 none) [(13, 1), (13, 2), (13, 3), (1, 0), (13, 4)] rfl) rfl rfl rfl (by decide +kernel) ⟨Nat.le_of_ble_eq_true rfl, Nat.le_of_ble_eq_true rfl⟩) (cr_preV (EZ_ok k) hZ hS hX hP hD hA (ci := 1) (q0 := 0) rfl rfl) rfl rfl hl.1 rfl (lv_room (Nat.le_of_ble_eq_true rfl)) dX2_skipSign_23 ⟨Nat.le_of_ble_eq_true rfl, Nat.le_of_ble_eq_true rfl⟩) hD hS hA (fun u H locs hp hP hD hS => ?_)
    obtain ⟨c2, c3, c4, c5, c6, c7, c8⟩ := u
    obtain ⟨hP, hD⟩ : va_P G vwCl ((wR k arR (plR) (arY 0) (uF (uF (uF (uF (uF (uF (uF fiR 3 (c2)) 4 (c3)) 22 (c4)) 23 (c5)) 24 (c6)) 25 (c7)) 27 (c8)) faR) ++ (wY k arY fiY faY)) H ∧ va_D A ((wR k arR (plR) (arY 0) (uF (uF (uF (uF (uF (uF (uF fiR 3 (c2)) 4 (c3)) 22 (c4)) 23 (c5)) 24 (c6)) 25 (c7)) 27 (c8)) faR) ++ (wY k arY fiY faY)) := ⟨hP, hD⟩
    obtain ⟨rc2, rc3, rc4, rc5, rc6, rc7, rc8, hp8⟩ : (inR c2) ∧ (inR c3) ∧ (inR c4) ∧ (inR c5) ∧ (inR c6) ∧ (inR c7) ∧ (inR c8) ∧ (0 ≤ c5 ∧ c5 ≤ (fiR 21) ∧ 0 ≤ c4 ∧ c4 ≤ (fiR 21) ∧ 0 ≤ c7 ∧ c7 ≤ 23) := hp
    exact W.vret hx hb hr (fun t ht hW => ⟨⟨(c2, c3, c4, c5, c6, c7, fiR 26, c8), rfl, (show (inR c2) ∧ (inR c3) ∧ (inR c4) ∧ (inR c5) ∧ (inR c6) ∧ (inR c7) ∧ (inR (fiR 26)) ∧ (inR c8) ∧ (0 ≤ c5 ∧ c5 ≤ fiR 21 ∧ 0 ≤ c4 ∧ c4 ≤ fiR 21 ∧ 0 ≤ c7 ∧ c7 ≤ 23) from ⟨(by omega), (by omega), (by omega), (by omega), (by omega), (by omega), (hRR 26), (by omega), (by omega)⟩), by rw [ht]; exact hP, hD⟩, hS.F ht⟩) hS.2.2 dX2_skipSign_26
  · refine lv_aload_n hx hb dX2_skipSign_11 rfl (lv_at hl 0 rfl) ?_
    refine va_get (D := G) (ci := 1) (v := .ref (arR 98)) (C := RX2) (T := TX2) (N := 5) (ref := RX2) hx hb hts h1w hown hX.1 hP 0 rfl rfl 0 (by decide) h0w (fun _ h9 => h9) rfl dX2_skipSign_12 ?_
    refine cr_v (va_runVN (As := []) (rest := []) ⟨hx, hb, hml, hown, hts⟩ (mX4_advance l G k arR plR fiR faR arY fiY faY H.size hRR hRaR hRY hRaY hB0Y (show 0 ≤ (fiR 23) ∧ (fiR 23) ≤ (fiR 21) ∧ (fiR 21) ≤ 600 from by omega)) ⟨va_cnB 0 hts (gz [] (.code yX4_advance cX4_advance 3 none) [(9, 10)] rfl) rfl rfl rfl (nm_32 hX.2.2.1) h3w (by decide +kernel) ⟨Nat.le_of_ble_eq_true rfl, Nat.le_of_ble_eq_true rfl⟩, h4w, h5w⟩ (cr_preV (EZ_ok k) hZ hS hX hP hD hA (ci := 3) (q0 := 1) rfl rfl) rfl rfl hl.1 rfl (lv_room (Nat.le_of_ble_eq_true rfl)) dX2_skipSign_15 ⟨Nat.le_of_ble_eq_true rfl, Nat.le_of_ble_eq_true rfl⟩) hD hS hA (fun u H locs hp hP hD hS => ?_)
    obtain ⟨c9, c10, c11, c12, c13, c14⟩ := u
    obtain ⟨hP, hD⟩ : va_P G vwCl ((wR k arR (plR) (arY 0) (uF (uF (uF (uF (uF (uF fiR 22 (c9)) 23 (c10)) 24 (c11)) 25 (c12)) 26 (c13)) 27 (c14)) faR) ++ (wY k arY fiY faY)) H ∧ va_D A ((wR k arR (plR) (arY 0) (uF (uF (uF (uF (uF (uF fiR 22 (c9)) 23 (c10)) 24 (c11)) 25 (c12)) 26 (c13)) 27 (c14)) faR) ++ (wY k arY fiY faY)) := ⟨hP, hD⟩
    obtain ⟨rc9, rc10, rc11, rc12, rc13, rc14, hp14⟩ : (inR c9) ∧ (inR c10) ∧ (inR c11) ∧ (inR c12) ∧ (inR c13) ∧ (inR c14) ∧ (0 ≤ c10 ∧ c10 ≤ (fiR 21) ∧ 0 ≤ c9 ∧ c9 ≤ (fiR 21) ∧ 0 ≤ c12 ∧ c12 ≤ 23) := hp
    refine lv_goto (tgt := 26) hx hb dX2_skipSign_18 (by decide) ?_
    exact W.vret hx hb hr (fun t ht hW => ⟨⟨(fiR 3, fiR 4, c9, c10, c11, c12, c13, c14), rfl, (show (inR (fiR 3)) ∧ (inR (fiR 4)) ∧ (inR c9) ∧ (inR c10) ∧ (inR c11) ∧ (inR c12) ∧ (inR c13) ∧ (inR c14) ∧ (0 ≤ c10 ∧ c10 ≤ fiR 21 ∧ 0 ≤ c9 ∧ c9 ≤ fiR 21 ∧ 0 ≤ c12 ∧ c12 ≤ 23) from ⟨(hRR 3), (hRR 4), (by omega), (by omega), (by omega), (by omega), (by omega), (by omega), (by omega)⟩), by rw [ht]; exact hP, hD⟩, hS.F ht⟩) hS.2.2 dX2_skipSign_26

