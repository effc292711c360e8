set_option maxHeartbeats 4000000 in
set_option maxRecDepth 100000 in
theorem mX4_rowEnd (l : Launch) (G : va_G) (k : Nat → ClassId) (arR : Nat → Nat) (plR : Nat) (fiR : Nat → Int) (faR : Nat → Int → Int) (arY : Nat → Nat) (fiY : Nat → Int) (faY : Nat → Int → Int) (a0 : Int) (b0 : Int) (sz : Nat) (hRR : ∀ j, inR (fiR j)) (hRaR : ∀ j t, inR (faR j t)) (hRY : ∀ j, inR (fiY j)) (hRaY : ∀ j t, inR (faY j t)) (hB0Y : bnd (faY 0) 600 (-128) 128) (hr_a0 : inR a0) (hr_b0 : inR b0) (hst : 0 ≤ fiR 22 ∧ fiR 22 ≤ fiR 21 ∧ fiR 21 ≤ 600) (hab : 0 ≤ a0 ∧ b0 ≤ 127) : CNi l G k (EZ k) yX4_rowEnd wzX4_rowEnd ({ frames := 0, cells := 0, slots := 0, locals := 0 }) [.ref (arR 98), .int (Int32.ofInt (a0)), .int (Int32.ofInt (b0))] sz ((wR k arR (plR) (arY 0) fiR faR) ++ (wY k arY fiY faY)) (fun (r0 : Int32) (u : Int) => r0 = Int32.ofInt (u) ∧ (inR u) ∧ (fiR 22 ≤ u ∧ u ≤ fiR 21 ∧ u = rE (uT (faY 0)) (fiR 21) a0 b0 (fiR 22))) (fun (u : Int) => ((wR k arR (plR) (arY 0) fiR faR) ++ (wY k arY fiY faY))) := by
  refine Met.ofW (cc := cX4_rowEnd) (maxL := 5) (ret := (some .int)) (by decide) rfl ?_
  intro p e s m args below meth c s₁ B hml hv
  obtain ⟨rfl, hsz, hP, hX, hD0, hZ0⟩ := hv
  have hx := B.exec
  have hb := B.bytes
  have hr := B.returns
  have hts := atoms_spec (ws := wzX4_rowEnd) B.pre
  have hown : s.vm.findClass RX4 = some m.cls := findClass_of_methodNamed B.named
  subst hsz
  have hD := hD0.self (sz := s.heap.size)
  have hZ := hZ0
  generalize hAe : va_A ((wR k arR (plR) (arY 0) fiR faR) ++ (wY k arY fiY faY)) s.heap.size = A at hD hZ ⊢
  have hA : ∀ q : Nat, s.heap.size ≤ q → A q := fun q h => by rw [← hAe]; exact Or.inr h
  have hS : va_S A s.heap s.heap [] := va_S.rf
  have hl := lv_entry ([.ref (arR 98), .int (Int32.ofInt (a0)), .int (Int32.ofInt (b0))]) (n := 5) (Nat.le_of_ble_eq_true rfl)
  rw [lg_entry_eq]
  generalize (lg_sl ([.ref (arR 98), .int (Int32.ofInt (a0)), .int (Int32.ofInt (b0))]) ++ List.replicate (5 - (lg_sl ([.ref (arR 98), .int (Int32.ofInt (a0)), .int (Int32.ofInt (b0))])).length) Slot.unset).toArray = ls at hl ⊢
  have hl : lv_has ls 5 [(0, .ref (arR 98)), (1, .int (Int32.ofInt (a0))), (2, .int (Int32.ofInt (b0)))] := hl
  obtain ⟨H, eH⟩ : ∃ H, H = s.heap := ⟨_, rfl⟩
  rw [← eH] at hP
  have hS : va_S A s.heap H [] := by rw [eH]; exact hS
  have gW : s.heap = H := eH.symm
  refine iv_heap gW ?_
  have h0w := hts (.fieldLink RX4 19 "RopeTown$Reader" "start" "I") (wz_at 3 18 rfl)
  have h1w : ∀ w ∈ wsX40, w ∈ wzX4_rowEnd := fun w h => List.mem_cons_of_mem _ (inlX4 w h)
  have h2w := hts (.fieldLink RX4 15 "RopeTown$Reader" "length" "I") (wz_at 3 17 rfl)
  have h3w := hts (.fieldLink RX4 9 "RopeTown$Reader" "text" "[B") (wz_at 3 16 rfl)
  refine lv_aload_n hx hb dX4_rowEnd_0 rfl (lv_at hl 0 rfl) ?_
  refine va_get (D := G) (ci := 3) (v := .int (Int32.ofInt (fiR 22))) (C := RX4) (T := TX4) (N := 8) (ref := RX4) hx hb hts h1w hown hX.1 hP 1 rfl rfl 2 (by decide) h0w (fun _ h9 => h9) rfl dX4_rowEnd_1 ?_
  have rf22R := hRR 22
  refine lv_istore_n (lv' := [(3, .int (Int32.ofInt (fiR 22))), (0, .ref (arR 98)), (1, .int (Int32.ofInt (a0))), (2, .int (Int32.ofInt (b0)))]) hx hb dX4_rowEnd_4 rfl hl (by decide) rfl (fun ls hl => ?_)
  refine lv_aload_n hx hb dX4_rowEnd_5 rfl (lv_at hl 1 rfl) ?_
  refine va_get (D := G) (ci := 3) (v := .int (Int32.ofInt (fiR 22))) (C := RX4) (T := TX4) (N := 8) (ref := RX4) hx hb hts h1w hown hX.1 hP 1 rfl rfl 2 (by decide) h0w (fun _ h9 => h9) rfl dX4_rowEnd_6 ?_
  have rf22R := hRR 22
  refine lv_istore (lv' := [(4, .int (Int32.ofInt (fiR 22))), (3, .int (Int32.ofInt (fiR 22))), (0, .ref (arR 98)), (1, .int (Int32.ofInt (a0))), (2, .int (Int32.ofInt (b0)))]) hx hb dX4_rowEnd_9 hl (by decide) rfl (fun ls hl => ?_)
  refine iv_loop (α := Int × Int) (nL := 5) (fun b9 => ((wR k arR (plR) (arY 0) fiR faR) ++ (wY k arY fiY faY))) (fun b9 => [(4, .int (Int32.ofInt (b9.1))), (3, .int (Int32.ofInt (b9.2))), (0, .ref (arR 98)), (1, .int (Int32.ofInt (a0))), (2, .int (Int32.ofInt (b0)))]) (fun b9 => (fiR 21 - b9.1).toNat) (fun b9 => inR b9.1 ∧ inR b9.2 ∧ ((fiR 22 ≤ b9.1 ∧ b9.1 ≤ fiR 21 ∧ b9.2 = b9.1) ∧ rE (uT (faY 0)) (fiR 21) a0 b0 b9.1 = rE (uT (faY 0)) (fiR 21) a0 b0 (fiR 22))) ?_ (fiR 22, fiR 22) (show inR (fiR 22) ∧ inR (fiR 22) ∧ ((fiR 22 ≤ (fiR 22) ∧ (fiR 22) ≤ fiR 21 ∧ (fiR 22) = (fiR 22)) ∧ rE (uT (faY 0)) (fiR 21) a0 b0 (fiR 22) = rE (uT (faY 0)) (fiR 21) a0 b0 (fiR 22)) from ⟨(hRR 22), (hRR 22), (by exact ⟨by omega, rfl⟩)⟩) hP hD hS hl
  rintro ⟨x4_1, x3_2⟩ ih hi9 H locs ls hP hD hS hl
  obtain ⟨r_x4_1, r_x3_2, hinv⟩ : inR x4_1 ∧ inR x3_2 ∧ ((fiR 22 ≤ x4_1 ∧ x4_1 ≤ fiR 21 ∧ x3_2 = x4_1) ∧ rE (uT (faY 0)) (fiR 21) a0 b0 x4_1 = rE (uT (faY 0)) (fiR 21) a0 b0 (fiR 22)) := hi9
  obtain ⟨hJ1, hJ2⟩ := hinv
  obtain ⟨hP, hD⟩ : va_P G vwCl ((wR k arR (plR) (arY 0) fiR faR) ++ (wY k arY fiY faY)) H ∧ va_D A ((wR k arR (plR) (arY 0) fiR faR) ++ (wY k arY fiY faY)) := ⟨hP, hD⟩
  have hl : lv_has ls 5 [(4, .int (Int32.ofInt (x4_1))), (3, .int (Int32.ofInt (x3_2))), (0, .ref (arR 98)), (1, .int (Int32.ofInt (a0))), (2, .int (Int32.ofInt (b0)))] := hl
  refine lv_iload hx hb dX4_rowEnd_11 (lv_at hl 0 rfl) ?_
  refine lv_aload_n hx hb dX4_rowEnd_13 rfl (lv_at hl 2 rfl) ?_
  refine va_get (D := G) (ci := 3) (v := .int (Int32.ofInt (fiR 21))) (C := RX4) (T := TX4) (N := 8) (ref := RX4) hx hb hts h1w hown hX.1 hP 1 rfl rfl 1 (by decide) h2w (fun _ h9 => h9) rfl dX4_rowEnd_14 ?_
  have rf21R := hRR 21
  refine iv_icmp_ge (tgt := 53) hx hb (by omega) (by omega) dX4_rowEnd_17 (by decide) (fun q3 => ?_) (fun q3 => ?_)
  · have hE : x3_2 = rE (uT (faY 0)) (fiR 21) a0 b0 (fiR 22) := by have h9 := (rE_stop (T := uT (faY 0)) (n := fiR 21) (lo := a0) (hi := b0) (p := x4_1) (by omega)).symm.trans hJ2; omega
    refine lv_iload_n hx hb dX4_rowEnd_53 rfl (lv_at hl 1 rfl) ?_
    exact W.iret (v := Int32.ofInt (x3_2)) hx hb hr (fun t ht hW => ⟨⟨Int32.ofInt (x3_2), (x3_2), rfl, ⟨rfl, (show (inR x3_2) ∧ (fiR 22 ≤ x3_2 ∧ x3_2 ≤ fiR 21 ∧ x3_2 = rE (uT (faY 0)) (fiR 21) a0 b0 (fiR 22)) from ⟨(by omega), (by omega)⟩)⟩, by rw [ht]; exact hP, hD⟩, hS.F ht⟩) hS.2.2 dX4_rowEnd_54
  · refine lv_aload_n hx hb dX4_rowEnd_20 rfl (lv_at hl 2 rfl) ?_
    refine va_get (D := G) (ci := 3) (v := .ref (arY 0)) (C := RX4) (T := TX4) (N := 8) (ref := RX4) hx hb hts h1w hown hX.1 hP 1 rfl rfl 0 (by decide) h3w (fun _ h9 => h9) rfl dX4_rowEnd_21 ?_
    refine lv_iload hx hb dX4_rowEnd_24 (lv_at hl 0 rfl) ?_
    refine iv_bald hx hb hX.1 hP 2 1 rfl rfl (by omega) (by omega) (by decide) dX4_rowEnd_26 ?_
    refine iv_top (fun z4 ez4 => ?_)
    have rz4 : inR z4 := ez4 ▸ (hRaY 0) _
    have ez4 : z4 = (faY 0) x4_1 := ez4
    have bz4 : (-128) ≤ z4 ∧ z4 < 128 := by rw [ez4]; exact bnd_at hB0Y (by omega) (by omega)
    have hU := uT_e (faY 0) x4_1
    refine lv_iload_n hx hb dX4_rowEnd_27 rfl (lv_at hl 3 rfl) ?_
    refine iv_icmp_lt (tgt := 53) hx hb (by omega) (by omega) dX4_rowEnd_28 (by decide) (fun q5 => ?_) (fun q5 => ?_)
    · have hE : x3_2 = rE (uT (faY 0)) (fiR 21) a0 b0 (fiR 22) := by have h9 := (rE_stop (T := uT (faY 0)) (n := fiR 21) (lo := a0) (hi := b0) (p := x4_1) (by omega)).symm.trans hJ2; omega
      refine lv_iload_n hx hb dX4_rowEnd_53 rfl (lv_at hl 1 rfl) ?_
      exact W.iret (v := Int32.ofInt (x3_2)) hx hb hr (fun t ht hW => ⟨⟨Int32.ofInt (x3_2), (x3_2), rfl, ⟨rfl, (show (inR x3_2) ∧ (fiR 22 ≤ x3_2 ∧ x3_2 ≤ fiR 21 ∧ x3_2 = rE (uT (faY 0)) (fiR 21) a0 b0 (fiR 22)) from ⟨(by omega), (by omega)⟩)⟩, by rw [ht]; exact hP, hD⟩, hS.F ht⟩) hS.2.2 dX4_rowEnd_54
    · refine lv_aload_n hx hb dX4_rowEnd_31 rfl (lv_at hl 2 rfl) ?_
      refine va_get (D := G) (ci := 3) (v := .ref (arY 0)) (C := RX4) (T := TX4) (N := 8) (ref := RX4) hx hb hts h1w hown hX.1 hP 1 rfl rfl 0 (by decide) h3w (fun _ h9 => h9) rfl dX4_rowEnd_32 ?_
      refine lv_iload hx hb dX4_rowEnd_35 (lv_at hl 0 rfl) ?_
      refine iv_bald hx hb hX.1 hP 2 1 rfl rfl (by omega) (by omega) (by decide) dX4_rowEnd_37 ?_
      refine iv_top (fun z6 ez6 => ?_)
      have rz6 : inR z6 := ez6 ▸ (hRaY 0) _
      have ez6 : z6 = (faY 0) x4_1 := ez6
      have bz6 : (-128) ≤ z6 ∧ z6 < 128 := by rw [ez6]; exact bnd_at hB0Y (by omega) (by omega)
      refine lv_iload_n hx hb dX4_rowEnd_38 rfl (lv_at hl 4 rfl) ?_
      refine iv_icmp_gt (tgt := 53) hx hb (by omega) (by omega) dX4_rowEnd_39 (by decide) (fun q7 => ?_) (fun q7 => ?_)
      · have hE : x3_2 = rE (uT (faY 0)) (fiR 21) a0 b0 (fiR 22) := by have h9 := (rE_stop (T := uT (faY 0)) (n := fiR 21) (lo := a0) (hi := b0) (p := x4_1) (by omega)).symm.trans hJ2; omega
        refine lv_iload_n hx hb dX4_rowEnd_53 rfl (lv_at hl 1 rfl) ?_
        exact W.iret (v := Int32.ofInt (x3_2)) hx hb hr (fun t ht hW => ⟨⟨Int32.ofInt (x3_2), (x3_2), rfl, ⟨rfl, (show (inR x3_2) ∧ (fiR 22 ≤ x3_2 ∧ x3_2 ≤ fiR 21 ∧ x3_2 = rE (uT (faY 0)) (fiR 21) a0 b0 (fiR 22)) from ⟨(by omega), (by omega)⟩)⟩, by rw [ht]; exact hP, hD⟩, hS.F ht⟩) hS.2.2 dX4_rowEnd_54
      · refine lv_iload hx hb dX4_rowEnd_42 (lv_at hl 0 rfl) ?_
        refine lv_iconst (v := Int32.ofInt 1) hx hb dX4_rowEnd_44 (by decide +kernel) ?_
        refine iv_add (x := x4_1) (y := 1) hx hb dX4_rowEnd_45 ?_
        refine lv_istore_n (lv' := [(3, .int (Int32.ofInt ((x4_1 + 1)))), (4, .int (Int32.ofInt (x4_1))), (0, .ref (arR 98)), (1, .int (Int32.ofInt (a0))), (2, .int (Int32.ofInt (b0)))]) hx hb dX4_rowEnd_46 rfl hl (by decide) rfl (fun ls hl => ?_)
        refine lv_iinc (v := Int32.ofInt (x4_1 + 1)) (lv' := [(4, .int (Int32.ofInt ((x4_1 + 1)))), (3, .int (Int32.ofInt ((x4_1 + 1)))), (0, .ref (arR 98)), (1, .int (Int32.ofInt (a0))), (2, .int (Int32.ofInt (b0)))]) hx hb dX4_rowEnd_47 hl (k := 1) rfl (Int32.ofInt_add _ _).symm (by decide) rfl (fun ls hl => ?_)
        refine lv_goto (tgt := 11) hx hb dX4_rowEnd_50 (by decide) ?_
        have hl : lv_has ls 5 [(4, .int (Int32.ofInt ((x4_1 + 1)))), (3, .int (Int32.ofInt ((x4_1 + 1)))), (0, .ref (arR 98)), (1, .int (Int32.ofInt (a0))), (2, .int (Int32.ofInt (b0)))] := lv_sub hl [0, 1, 2, 3, 4] rfl
        exact ih ((x4_1 + 1), (x4_1 + 1)) (show (fiR 21 - (x4_1 + 1)).toNat < (fiR 21 - x4_1).toNat from by omega) (show inR (x4_1 + 1) ∧ inR (x4_1 + 1) ∧ ((fiR 22 ≤ (x4_1 + 1) ∧ (x4_1 + 1) ≤ fiR 21 ∧ (x4_1 + 1) = (x4_1 + 1)) ∧ rE (uT (faY 0)) (fiR 21) a0 b0 (x4_1 + 1) = rE (uT (faY 0)) (fiR 21) a0 b0 (fiR 22)) from ⟨(by omega), (by omega), (by exact ⟨by omega, (rE_step (by omega) (by omega)).symm.trans hJ2⟩)⟩) _ _ _ hP hD hS hl

