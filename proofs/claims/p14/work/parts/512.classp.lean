set_option maxHeartbeats 4000000 in
set_option maxRecDepth 100000 in
theorem mX2_operator_0 (l : Launch) (G : va_G) (k : Nat → ClassId) (arR : Nat → Nat) (plR : Nat) (fiR : Nat → Int) (faR : Nat → Int → Int) (arY : Nat → Nat) (fiY : Nat → Int) (faY : Nat → Int → Int) (sz : Nat) (hRR : ∀ j, inR (fiR j)) (hRaR : ∀ j t, inR (faR j t)) (hRY : ∀ j, inR (fiY j)) (hRaY : ∀ j t, inR (faY j t)) (hB0Y : bnd (faY 0) 600 (-128) 128) (hrq : 0 ≤ fiR 23 ∧ fiR 23 ≤ fiR 21 ∧ 0 ≤ fiR 22 ∧ fiR 22 ≤ fiR 21 ∧ 0 ≤ fiR 25 ∧ fiR 25 ≤ 23 ∧ fiR 21 ≤ 600) (hty : CT (uT (faY 0)) (fiR 21) (fiR 3) (fiR 22) (fiR 23) (fiR 24) (fiR 25) (fiR 26) (fiR 27)) : CNi l G k (EZ k) yX2_operator wzX2_operator ({ frames := 0, cells := 0, slots := 0, locals := 0 }) [.ref (arR 99), .int (Int32.ofInt (0))] sz ((wR k arR (plR) (arY 0) fiR faR) ++ (wY k arY fiY faY)) (fun (r0 : Int32) (u : Int) => r0 = Int32.ofInt (u) ∧ (inR u) ∧ ((-1000 ≤ u ∧ u ≤ 1000) ∧ Opr u ((opW (uT (faY 0)) (fiR 21) 22) (fiR 22)) ∧ OpE u (-27))) (fun (u : Int) => ((wR k arR (plR) (arY 0) fiR faR) ++ (wY k arY fiY faY))) := by
  refine Met.ofW (cc := cX2_operator) (maxL := 3) (ret := (some .int)) (by decide) rfl ?_
  intro p e s m args below meth c s₁ B hml hv
  obtain ⟨rfl, hsz, hP, hX, hD0, hZ0⟩ := hv
  have hx := B.exec
  have hb := B.bytes
  have hr := B.returns
  have hts := atoms_spec (ws := wzX2_operator) B.pre
  have hown : s.vm.findClass RX2 = some m.cls := findClass_of_methodNamed B.named
  subst hsz
  have hD := hD0.self (sz := s.heap.size)
  have hZ := hZ0
  generalize hAe : va_A ((wR k arR (plR) (arY 0) fiR faR) ++ (wY k arY fiY faY)) s.heap.size = A at hD hZ ⊢
  have hA : ∀ q : Nat, s.heap.size ≤ q → A q := fun q h => by rw [← hAe]; exact Or.inr h
  have hS : va_S A s.heap s.heap [] := va_S.rf
  have hl := lv_entry ([.ref (arR 99), .int (Int32.ofInt (0))]) (n := 3) (Nat.le_of_ble_eq_true rfl)
  rw [lg_entry_eq]
  generalize (lg_sl ([.ref (arR 99), .int (Int32.ofInt (0))]) ++ List.replicate (3 - (lg_sl ([.ref (arR 99), .int (Int32.ofInt (0))])).length) Slot.unset).toArray = ls at hl ⊢
  have hl : lv_has ls 3 [(0, .ref (arR 99)), (1, .int (Int32.ofInt (0)))] := hl
  obtain ⟨H, eH⟩ : ∃ H, H = s.heap := ⟨_, rfl⟩
  rw [← eH] at hP
  have hS : va_S A s.heap H [] := by rw [eH]; exact hS
  have gW : s.heap = H := eH.symm
  refine iv_heap gW ?_
  have h0w := hts (.fieldLink RX2 12 "RopeTown$Parser" "reader" "LRopeTown$Reader;") (wz_at 3 8 rfl)
  have h1w : ∀ w ∈ wsX20, w ∈ wzX2_operator := fun w h => List.mem_cons_of_mem _ (inlX2 w h)
  have h2w : ∀ w ∈ wsX40, w ∈ wzX2_operator := fun w h => List.mem_cons_of_mem _ (inlX4 w h)
  have h3w := hts (.fieldLink RX2 178 "RopeTown$Word" "OR" "LRopeTown$Word;") (wz_at 15 14 rfl)
  refine lv_aload_n hx hb dX2_operator_0 rfl (lv_at hl 0 rfl) ?_
  refine va_get (D := G) (ci := 1) (v := .ref (arR 98)) (C := RX2) (T := TX2) (N := 5) (ref := RX2) hx hb hts h1w hown hX.1 hP 0 rfl rfl 0 (by decide) h0w (fun _ h9 => h9) rfl dX2_operator_1 ?_
  refine va_getN (D := G) (ci := 3) (v := .int (Int32.ofInt (fiR 27))) (C := RX4) (T := TX4) (N := 8) (ref := RX4) (host := RX9) hx hb hts h2w hown hX.1 hP 1 rfl rfl 7 (by decide) (nf_35 hX.2.2.1) (fun _ h9 => h9) rfl dX2_operator_4 ?_
  have rf27R := hRR 27
  refine lv_istore_n (lv' := [(2, .int (Int32.ofInt (fiR 27))), (0, .ref (arR 99)), (1, .int (Int32.ofInt (0)))]) hx hb dX2_operator_7 rfl hl (by decide) rfl (fun ls hl => ?_)
  refine lv_iload_n hx hb dX2_operator_8 rfl (lv_at hl 2 rfl) ?_
  refine lv_tableIn (tgt := 40) hx hb dX2_operator_9 (by rw [iz_toInt (by omega)]; omega) (by rw [iz_toInt (by omega)]; omega) (off := 31) (by rw [iz_toInt (by omega)]; decide +kernel) (by decide) ?_
  refine lv_aload_n hx hb dX2_operator_40 rfl (lv_at hl 1 rfl) ?_
  refine va_get (D := G) (ci := 1) (v := .ref (arR 98)) (C := RX2) (T := TX2) (N := 5) (ref := RX2) hx hb hts h1w hown hX.1 hP 0 rfl rfl 0 (by decide) h0w (fun _ h9 => h9) rfl dX2_operator_41 ?_
  refine va_getN (D := G) (ci := 3) (v := .ref (k (400 + (fiR 25).toNat))) (C := RX4) (T := TX4) (N := 8) (ref := RX4) (host := RX9) hx hb hts h2w hown hX.1 hP 1 rfl rfl 5 (by decide) (nf_33 hX.2.2.1) (fun _ h9 => h9) rfl dX2_operator_44 ?_
  refine va_gets (C := "RopeTown$Word") (n := "OR") (d := "LRopeTown$Word;") (ref := "RopeTown$Word") (v := .ref (k (400 + (14 : Int).toNat))) hx hb (ez_word hZ 14 rfl) hS hown h3w (fun _ h9 => h9) dX2_operator_47 ?_
  refine lv_acmp_ne (rx := some (k (400 + (fiR 25).toNat))) (ry := some (k (400 + (14 : Int).toNat))) (tgt := 58) hx hb dX2_operator_50 (by decide) (fun q1 => ?_) (fun q1 => ?_)
  · have a50 : ¬ ((fiR 25)) = 14 := wq_ne q1
    refine lv_iconst (v := Int32.ofInt 0) hx hb dX2_operator_58 (by decide +kernel) ?_
    exact W.iret (v := Int32.ofInt (0)) hx hb hr (fun t ht hW => ⟨⟨Int32.ofInt (0), (0), rfl, ⟨rfl, (show (inR 0) ∧ ((-1000 ≤ 0 ∧ 0 ≤ 1000) ∧ Opr 0 ((opW (uT (faY 0)) (fiR 21) 22) (fiR 22)) ∧ OpE 0 (-27)) from ⟨(by omega), (by first | exact ⟨by omega, ow_y hty (by decide) (show _ = ((14 : Nat) : Int) from by omega) (by omega), oe_w (by decide)⟩ | exact ⟨by omega, ow_n hty (by decide) (show ¬ _ = ((14 : Nat) : Int) from by omega) (by omega), oe_0 rfl⟩ | (exfalso; omega))⟩)⟩, by rw [ht]; exact hP, hD⟩, hS.F ht⟩) hS.2.2 dX2_operator_59
  · have a50 : ((fiR 25)) = 14 := wq_eq hZ (by omega) (by omega) q1
    refine lv_bipush (v := Int32.ofInt 124) hx hb dX2_operator_53 (by decide +kernel) ?_
    refine lv_goto (tgt := 59) hx hb dX2_operator_55 (by decide) ?_
    exact W.iret (v := Int32.ofInt (124)) hx hb hr (fun t ht hW => ⟨⟨Int32.ofInt (124), (124), rfl, ⟨rfl, (show (inR 124) ∧ ((-1000 ≤ 124 ∧ 124 ≤ 1000) ∧ Opr 124 ((opW (uT (faY 0)) (fiR 21) 22) (fiR 22)) ∧ OpE 124 (-27)) from ⟨(by omega), (by first | exact ⟨by omega, ow_y hty (by decide) (show _ = ((14 : Nat) : Int) from by omega) (by omega), oe_w (by decide)⟩ | exact ⟨by omega, ow_n hty (by decide) (show ¬ _ = ((14 : Nat) : Int) from by omega) (by omega), oe_0 rfl⟩ | (exfalso; omega))⟩)⟩, by rw [ht]; exact hP, hD⟩, hS.F ht⟩) hS.2.2 dX2_operator_59

