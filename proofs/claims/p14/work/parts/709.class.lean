set_option maxHeartbeats 4000000 in
set_option maxRecDepth 100000 in
theorem mX6_takeCheapest (l : Launch) (G : va_G) (k : Nat → ClassId) (ar : Nat → Nat) (pl : Nat) (fi : Nat → Int) (fa : Nat → Int → Int) (sz : Nat) (hR : ∀ j, inR (fi j)) (hRa : ∀ j t, inR (fa j t)) (hB5 : bnd (fa 5) 1500 (-1) 1500) (hB7 : bnd (fa 7) 1024 (-1) 1500) (hB8 : bnd (fa 8) 1500 (-1) 1500) (hB9 : bnd (fa 9) 1500 0 1500) (hB10 : bnd (fa 10) 1500 0 1500) (hsq : 0 ≤ fi 11 ∧ fi 11 ≤ fi 6 ∧ fi 6 ≤ 1500 ∧ -1 ≤ fi 12 ∧ fi 12 < 1500) (hw : 0 < fi 11) : CNi l G k (EZ k) yX6_takeCheapest wzX6_takeCheapest ({ frames := 0, cells := 0, slots := 0, locals := 0 }) [.ref (ar 99)] sz (wS k ar (pl) fi fa) (fun (r0 : Int32) (u : Int × (Int → Int) × (Int → Int) × Int) => r0 = Int32.ofInt (u.1) ∧ (inR u.1) ∧ (∀ t, inR (u.2.1 t)) ∧ (bnd u.2.1 1500 0 1500) ∧ (∀ t, inR (u.2.2.1 t)) ∧ (bnd u.2.2.1 1500 0 1500) ∧ (inR u.2.2.2) ∧ (0 ≤ u.1 ∧ u.1 < 1500 ∧ u.2.2.2 = fi 11 - 1)) (fun (u : Int × (Int → Int) × (Int → Int) × Int) => (wS k ar (pl) (uF fi 11 (u.2.2.2)) (uF (uF fa 9 (u.2.1)) 10 (u.2.2.1)))) := by
  refine Met.ofW (cc := cX6_takeCheapest) (maxL := 6) (ret := (some .int)) (by decide) rfl ?_
  intro p e s m args below meth c s₁ B hml hv
  obtain ⟨rfl, hsz, hP, hX, hD0, hZ0⟩ := hv
  have hx := B.exec
  have hb := B.bytes
  have hr := B.returns
  have hts := atoms_spec (ws := wzX6_takeCheapest) B.pre
  have hown : s.vm.findClass RX6 = some m.cls := findClass_of_methodNamed B.named
  subst hsz
  have hD := hD0.self (sz := s.heap.size)
  have hZ := hZ0
  generalize hAe : va_A (wS k ar (pl) fi fa) s.heap.size = A at hD hZ ⊢
  have hA : ∀ q : Nat, s.heap.size ≤ q → A q := fun q h => by rw [← hAe]; exact Or.inr h
  have hS : va_S A s.heap s.heap [] := va_S.rf
  have hl := lv_entry ([.ref (ar 99)]) (n := 6) (Nat.le_of_ble_eq_true rfl)
  rw [lg_entry_eq]
  generalize (lg_sl ([.ref (ar 99)]) ++ List.replicate (6 - (lg_sl ([.ref (ar 99)])).length) Slot.unset).toArray = ls at hl ⊢
  have hl : lv_has ls 6 [(0, .ref (ar 99))] := hl
  obtain ⟨H, eH⟩ : ∃ H, H = s.heap := ⟨_, rfl⟩
  rw [← eH] at hP
  have hS : va_S A s.heap H [] := by rw [eH]; exact hS
  have gW : s.heap = H := eH.symm
  refine iv_heap gW ?_
  have h0w := hts (.fieldLink RX6 48 "RopeTown$Search" "heap" "[I") (wz_at 5 1 rfl)
  have h1w : ∀ w ∈ wsX60, w ∈ wzX6_takeCheapest := fun w h => List.mem_cons_of_mem _ (inlX6 w h)
  have h2w := hts (.fieldLink RX6 26 "RopeTown$Search" "waiting" "I") (wz_at 4 18 rfl)
  have h3w := hts (.fieldLink RX6 51 "RopeTown$Search" "spots" "[I") (wz_at 5 2 rfl)
  have h4w := hts (.fieldLink RX6 36 "RopeTown$Search" "costs" "[I") (wz_at 4 21 rfl)
  refine lv_aload_n hx hb dX6_takeCheapest_0 rfl (lv_at hl 0 rfl) ?_
  refine va_get (D := G) (ci := 5) (v := .ref (ar 9)) (C := RX6) (T := TX6) (N := 15) (ref := RX6) hx hb hts h1w hown hX.1 hP 0 rfl rfl 9 (by decide) h0w (fun _ h9 => h9) rfl dX6_takeCheapest_1 ?_
  refine lv_iconst (v := Int32.ofInt 0) hx hb dX6_takeCheapest_4 (by decide +kernel) ?_
  refine iv_iald hx hb hX.1 hP 6 0 rfl rfl (by omega) (by omega) (by decide) dX6_takeCheapest_5 ?_
  refine iv_top (fun z1 ez1 => ?_)
  have rz1 : inR z1 := ez1 ▸ (hRa 9) _
  have ez1 : z1 = (fa 9) 0 := ez1
  have bz1 : 0 ≤ z1 ∧ z1 < 1500 := by rw [ez1]; exact bnd_at hB9 (by omega) (by omega)
  refine lv_istore_n (lv' := [(1, .int (Int32.ofInt (z1))), (0, .ref (ar 99))]) hx hb dX6_takeCheapest_6 rfl hl (by decide) rfl (fun ls hl => ?_)
  refine lv_aload_n hx hb dX6_takeCheapest_7 rfl (lv_at hl 1 rfl) ?_
  refine lv_dup hx hb dX6_takeCheapest_8 rfl ?_
  refine va_get (D := G) (ci := 5) (v := .int (Int32.ofInt (fi 11))) (C := RX6) (T := TX6) (N := 15) (ref := RX6) hx hb hts h1w hown hX.1 hP 0 rfl rfl 11 (by decide) h2w (fun _ h9 => h9) rfl dX6_takeCheapest_9 ?_
  have rf11 := hR 11
  refine lv_iconst (v := Int32.ofInt 1) hx hb dX6_takeCheapest_12 (by decide +kernel) ?_
  refine iv_sub (x := fi 11) (y := 1) hx hb dX6_takeCheapest_13 ?_
  refine iv_put (ci := 5) (v := .int (Int32.ofInt ((fi 11 - 1)))) (ty := .int) (C := RX6) (T := TX6) (N := 15) (ref := RX6) hx hb hts h1w tyX6 tyX6_ok nmX6 hown hX.1 hP hD hS 0 rfl rfl 11 (by decide) h2w (fun _ h9 => h9) rfl (by decide +kernel) rfl rfl (Nat.le_of_ble_eq_true rfl) (show _ = (wS k ar (pl) (uF fi 11 ((fi 11 - 1))) fa) from rfl) dX6_takeCheapest_14 (fun H locs hP hD hS => ?_)
  refine lv_aload_n hx hb dX6_takeCheapest_17 rfl (lv_at hl 1 rfl) ?_
  refine va_get (D := G) (ci := 5) (v := .ref (ar 9)) (C := RX6) (T := TX6) (N := 15) (ref := RX6) hx hb hts h1w hown hX.1 hP 0 rfl rfl 9 (by decide) h0w (fun _ h9 => h9) rfl dX6_takeCheapest_18 ?_
  refine lv_aload_n hx hb dX6_takeCheapest_21 rfl (lv_at hl 1 rfl) ?_
  refine va_get (D := G) (ci := 5) (v := .int (Int32.ofInt ((fi 11 - 1)))) (C := RX6) (T := TX6) (N := 15) (ref := RX6) hx hb hts h1w hown hX.1 hP 0 rfl rfl 11 (by decide) h2w (fun _ h9 => h9) rfl dX6_takeCheapest_22 ?_
  refine iv_iald hx hb hX.1 hP 6 0 rfl rfl (by omega) (by omega) (by decide) dX6_takeCheapest_25 ?_
  refine iv_top (fun z2 ez2 => ?_)
  have rz2 : inR z2 := ez2 ▸ (hRa 9) _
  have ez2 : z2 = (fa 9) (fi 11 - 1) := ez2
  have bz2 : 0 ≤ z2 ∧ z2 < 1500 := by rw [ez2]; exact bnd_at hB9 (by omega) (by omega)
  refine lv_istore_n (lv' := [(2, .int (Int32.ofInt (z2))), (1, .int (Int32.ofInt (z1))), (0, .ref (ar 99))]) hx hb dX6_takeCheapest_26 rfl hl (by decide) rfl (fun ls hl => ?_)
  refine lv_iconst (v := Int32.ofInt 0) hx hb dX6_takeCheapest_27 (by decide +kernel) ?_
  refine lv_istore_n (lv' := [(3, .int (Int32.ofInt (0))), (2, .int (Int32.ofInt (z2))), (1, .int (Int32.ofInt (z1))), (0, .ref (ar 99))]) hx hb dX6_takeCheapest_28 rfl hl (by decide) rfl (fun ls hl => ?_)
  refine lv_iconst (v := Int32.ofInt 0) hx hb dX6_takeCheapest_29 (by decide +kernel) ?_
  refine lv_istore (lv' := [(4, .int (Int32.ofInt (0))), (3, .int (Int32.ofInt (0))), (2, .int (Int32.ofInt (z2))), (1, .int (Int32.ofInt (z1))), (0, .ref (ar 99))]) hx hb dX6_takeCheapest_30 hl (by decide) rfl (fun ls hl => ?_)
  refine iv_loop (α := Int × Int × (Int → Int) × (Int → Int)) (nL := 6) (fun b9 => (wS k ar (pl) (uF fi 11 ((fi 11 - 1))) (uF (uF fa 9 (b9.2.2.1)) 10 (b9.2.2.2)))) (fun b9 => [(4, .int (Int32.ofInt (b9.1))), (3, .int (Int32.ofInt (b9.2.1))), (2, .int (Int32.ofInt (z2))), (1, .int (Int32.ofInt (z1))), (0, .ref (ar 99))]) (fun b9 => (1500 - b9.1).toNat) (fun b9 => inR b9.1 ∧ inR b9.2.1 ∧ (∀ t, inR (b9.2.2.1 t)) ∧ (∀ t, inR (b9.2.2.2 t)) ∧ (bnd b9.2.2.1 1500 0 1500) ∧ (bnd b9.2.2.2 1500 0 1500) ∧ (0 ≤ b9.1 ∧ b9.1 ≤ 1500 ∧ 0 ≤ b9.2.1 ∧ b9.2.1 < 1500)) ?_ (0, 0, fa 9, fa 10) (show inR 0 ∧ inR 0 ∧ (∀ t, inR ((fa 9) t)) ∧ (∀ t, inR ((fa 10) t)) ∧ (bnd (fa 9) 1500 0 1500) ∧ (bnd (fa 10) 1500 0 1500) ∧ (0 ≤ 0 ∧ 0 ≤ 1500 ∧ 0 ≤ 0 ∧ 0 < 1500) from ⟨(by omega), (by omega), (hRa 9), (hRa 10), hB9, hB10, (by omega)⟩) hP hD hS hl
  rintro ⟨x4_3, x3_4, g9_5, g10_6⟩ ih hi9 H locs ls hP hD hS hl
  obtain ⟨r_x4_3, r_x3_4, r_g9_5, r_g10_6, b_g9_5, b_g10_6, hinv⟩ : inR x4_3 ∧ inR x3_4 ∧ (∀ t, inR (g9_5 t)) ∧ (∀ t, inR (g10_6 t)) ∧ (bnd g9_5 1500 0 1500) ∧ (bnd g10_6 1500 0 1500) ∧ (0 ≤ x4_3 ∧ x4_3 ≤ 1500 ∧ 0 ≤ x3_4 ∧ x3_4 < 1500) := hi9
  obtain ⟨hP, hD⟩ : va_P G vwCl (wS k ar (pl) (uF fi 11 ((fi 11 - 1))) (uF (uF fa 9 (g9_5)) 10 (g10_6))) H ∧ va_D A (wS k ar (pl) (uF fi 11 ((fi 11 - 1))) (uF (uF fa 9 (g9_5)) 10 (g10_6))) := ⟨hP, hD⟩
  have hl : lv_has ls 6 [(4, .int (Int32.ofInt (x4_3))), (3, .int (Int32.ofInt (x3_4))), (2, .int (Int32.ofInt (z2))), (1, .int (Int32.ofInt (z1))), (0, .ref (ar 99))] := hl
  refine lv_iload hx hb dX6_takeCheapest_32 (lv_at hl 0 rfl) ?_
  refine lv_sipush (v := Int32.ofInt 1500) hx hb dX6_takeCheapest_34 (by decide +kernel) ?_
  refine iv_icmp_ge (tgt := 160) hx hb (by omega) (by omega) dX6_takeCheapest_37 (by decide) (fun q7 => ?_) (fun q7 => ?_)
  · refine lv_aload_n hx hb dX6_takeCheapest_160 rfl (lv_at hl 4 rfl) ?_
    refine va_get (D := G) (ci := 5) (v := .ref (ar 9)) (C := RX6) (T := TX6) (N := 15) (ref := RX6) hx hb hts h1w hown hX.1 hP 0 rfl rfl 9 (by decide) h0w (fun _ h9 => h9) rfl dX6_takeCheapest_161 ?_
    refine lv_iload_n hx hb dX6_takeCheapest_164 rfl (lv_at hl 1 rfl) ?_
    refine lv_iload_n hx hb dX6_takeCheapest_165 rfl (lv_at hl 2 rfl) ?_
    refine iv_iast hx hb hX.1 hP hD hS 6 0 rfl rfl (fun g' => show _ = (wS k ar (pl) (uF fi 11 ((fi 11 - 1))) (uF (uF fa 9 (g')) 10 (g10_6))) from rfl) (by omega) (by omega) (by decide) dX6_takeCheapest_166 (fun H locs hP hD hS => ?_)
    obtain ⟨hP, hD⟩ : va_P G vwCl (wS k ar (pl) (uF fi 11 ((fi 11 - 1))) (uF (uF fa 9 (uA (g9_5) (x3_4) (z2))) 10 (g10_6))) H ∧ va_D A (wS k ar (pl) (uF fi 11 ((fi 11 - 1))) (uF (uF fa 9 (uA (g9_5) (x3_4) (z2))) 10 (g10_6))) := ⟨hP, hD⟩
    obtain ⟨g8, eg8, rg8⟩ : ∃ z, z = uA (g9_5) (x3_4) (z2) ∧ ∀ t, inR (z t) := ⟨_, rfl, iU r_g9_5 (by omega)⟩
    rw [← eg8] at hP hD
    have bg8 : bnd g8 1500 0 1500 := bnd_up b_g9_5 (by omega) (by omega) eg8
    refine lv_aload_n hx hb dX6_takeCheapest_167 rfl (lv_at hl 4 rfl) ?_
    refine va_get (D := G) (ci := 5) (v := .ref (ar 10)) (C := RX6) (T := TX6) (N := 15) (ref := RX6) hx hb hts h1w hown hX.1 hP 0 rfl rfl 10 (by decide) h3w (fun _ h9 => h9) rfl dX6_takeCheapest_168 ?_
    refine lv_iload_n hx hb dX6_takeCheapest_171 rfl (lv_at hl 2 rfl) ?_
    refine lv_iload_n hx hb dX6_takeCheapest_172 rfl (lv_at hl 1 rfl) ?_
    refine iv_iast hx hb hX.1 hP hD hS 7 0 rfl rfl (fun g' => show _ = (wS k ar (pl) (uF fi 11 ((fi 11 - 1))) (uF (uF fa 9 (g8)) 10 (g'))) from rfl) (by omega) (by omega) (by decide) dX6_takeCheapest_173 (fun H locs hP hD hS => ?_)
    obtain ⟨hP, hD⟩ : va_P G vwCl (wS k ar (pl) (uF fi 11 ((fi 11 - 1))) (uF (uF fa 9 (g8)) 10 (uA (g10_6) (z2) (x3_4)))) H ∧ va_D A (wS k ar (pl) (uF fi 11 ((fi 11 - 1))) (uF (uF fa 9 (g8)) 10 (uA (g10_6) (z2) (x3_4)))) := ⟨hP, hD⟩
    obtain ⟨g9, eg9, rg9⟩ : ∃ z, z = uA (g10_6) (z2) (x3_4) ∧ ∀ t, inR (z t) := ⟨_, rfl, iU r_g10_6 (by omega)⟩
    rw [← eg9] at hP hD
    have bg9 : bnd g9 1500 0 1500 := bnd_up b_g10_6 (by omega) (by omega) eg9
    refine lv_iload_n hx hb dX6_takeCheapest_174 rfl (lv_at hl 3 rfl) ?_
    exact W.iret (v := Int32.ofInt (z1)) hx hb hr (fun t ht hW => ⟨⟨Int32.ofInt (z1), (z1, g8, g9, (fi 11 - 1)), rfl, ⟨rfl, (show (inR z1) ∧ (∀ t, inR (g8 t)) ∧ (bnd g8 1500 0 1500) ∧ (∀ t, inR (g9 t)) ∧ (bnd g9 1500 0 1500) ∧ (inR (fi 11 - 1)) ∧ (0 ≤ z1 ∧ z1 < 1500 ∧ (fi 11 - 1) = fi 11 - 1) from ⟨(by omega), rg8, bg8, rg9, bg9, (by omega), (by omega)⟩)⟩, by rw [ht]; exact hP, hD⟩, hS.F ht⟩) hS.2.2 dX6_takeCheapest_175
  · refine lv_iconst (v := Int32.ofInt 2) hx hb dX6_takeCheapest_40 (by decide +kernel) ?_
    refine lv_iload_n hx hb dX6_takeCheapest_41 rfl (lv_at hl 1 rfl) ?_
    refine iv_mul (x := 2) (y := x3_4) hx hb dX6_takeCheapest_42 ?_
    refine lv_iconst (v := Int32.ofInt 1) hx hb dX6_takeCheapest_43 (by decide +kernel) ?_
    refine iv_add (x := (2 * x3_4)) (y := 1) hx hb dX6_takeCheapest_44 ?_
    refine lv_aload_n hx hb dX6_takeCheapest_45 rfl (lv_at hl 4 rfl) ?_
    refine va_get (D := G) (ci := 5) (v := .int (Int32.ofInt ((fi 11 - 1)))) (C := RX6) (T := TX6) (N := 15) (ref := RX6) hx hb hts h1w hown hX.1 hP 0 rfl rfl 11 (by decide) h2w (fun _ h9 => h9) rfl dX6_takeCheapest_46 ?_
    refine iv_icmp_ge (tgt := 160) hx hb (by omega) (by omega) dX6_takeCheapest_49 (by decide) (fun q10 => ?_) (fun q10 => ?_)
    · refine lv_aload_n hx hb dX6_takeCheapest_160 rfl (lv_at hl 4 rfl) ?_
      refine va_get (D := G) (ci := 5) (v := .ref (ar 9)) (C := RX6) (T := TX6) (N := 15) (ref := RX6) hx hb hts h1w hown hX.1 hP 0 rfl rfl 9 (by decide) h0w (fun _ h9 => h9) rfl dX6_takeCheapest_161 ?_
      refine lv_iload_n hx hb dX6_takeCheapest_164 rfl (lv_at hl 1 rfl) ?_
      refine lv_iload_n hx hb dX6_takeCheapest_165 rfl (lv_at hl 2 rfl) ?_
      refine iv_iast hx hb hX.1 hP hD hS 6 0 rfl rfl (fun g' => show _ = (wS k ar (pl) (uF fi 11 ((fi 11 - 1))) (uF (uF fa 9 (g')) 10 (g10_6))) from rfl) (by omega) (by omega) (by decide) dX6_takeCheapest_166 (fun H locs hP hD hS => ?_)
      obtain ⟨hP, hD⟩ : va_P G vwCl (wS k ar (pl) (uF fi 11 ((fi 11 - 1))) (uF (uF fa 9 (uA (g9_5) (x3_4) (z2))) 10 (g10_6))) H ∧ va_D A (wS k ar (pl) (uF fi 11 ((fi 11 - 1))) (uF (uF fa 9 (uA (g9_5) (x3_4) (z2))) 10 (g10_6))) := ⟨hP, hD⟩
      obtain ⟨g11, eg11, rg11⟩ : ∃ z, z = uA (g9_5) (x3_4) (z2) ∧ ∀ t, inR (z t) := ⟨_, rfl, iU r_g9_5 (by omega)⟩
      rw [← eg11] at hP hD
      have bg11 : bnd g11 1500 0 1500 := bnd_up b_g9_5 (by omega) (by omega) eg11
      refine lv_aload_n hx hb dX6_takeCheapest_167 rfl (lv_at hl 4 rfl) ?_
      refine va_get (D := G) (ci := 5) (v := .ref (ar 10)) (C := RX6) (T := TX6) (N := 15) (ref := RX6) hx hb hts h1w hown hX.1 hP 0 rfl rfl 10 (by decide) h3w (fun _ h9 => h9) rfl dX6_takeCheapest_168 ?_
      refine lv_iload_n hx hb dX6_takeCheapest_171 rfl (lv_at hl 2 rfl) ?_
      refine lv_iload_n hx hb dX6_takeCheapest_172 rfl (lv_at hl 1 rfl) ?_
      refine iv_iast hx hb hX.1 hP hD hS 7 0 rfl rfl (fun g' => show _ = (wS k ar (pl) (uF fi 11 ((fi 11 - 1))) (uF (uF fa 9 (g11)) 10 (g'))) from rfl) (by omega) (by omega) (by decide) dX6_takeCheapest_173 (fun H locs hP hD hS => ?_)
      obtain ⟨hP, hD⟩ : va_P G vwCl (wS k ar (pl) (uF fi 11 ((fi 11 - 1))) (uF (uF fa 9 (g11)) 10 (uA (g10_6) (z2) (x3_4)))) H ∧ va_D A (wS k ar (pl) (uF fi 11 ((fi 11 - 1))) (uF (uF fa 9 (g11)) 10 (uA (g10_6) (z2) (x3_4)))) := ⟨hP, hD⟩
      obtain ⟨g12, eg12, rg12⟩ : ∃ z, z = uA (g10_6) (z2) (x3_4) ∧ ∀ t, inR (z t) := ⟨_, rfl, iU r_g10_6 (by omega)⟩
      rw [← eg12] at hP hD
      have bg12 : bnd g12 1500 0 1500 := bnd_up b_g10_6 (by omega) (by omega) eg12
      refine lv_iload_n hx hb dX6_takeCheapest_174 rfl (lv_at hl 3 rfl) ?_
      exact W.iret (v := Int32.ofInt (z1)) hx hb hr (fun t ht hW => ⟨⟨Int32.ofInt (z1), (z1, g11, g12, (fi 11 - 1)), rfl, ⟨rfl, (show (inR z1) ∧ (∀ t, inR (g11 t)) ∧ (bnd g11 1500 0 1500) ∧ (∀ t, inR (g12 t)) ∧ (bnd g12 1500 0 1500) ∧ (inR (fi 11 - 1)) ∧ (0 ≤ z1 ∧ z1 < 1500 ∧ (fi 11 - 1) = fi 11 - 1) from ⟨(by omega), rg11, bg11, rg12, bg12, (by omega), (by omega)⟩)⟩, by rw [ht]; exact hP, hD⟩, hS.F ht⟩) hS.2.2 dX6_takeCheapest_175
    · refine lv_iconst (v := Int32.ofInt 2) hx hb dX6_takeCheapest_52 (by decide +kernel) ?_
      refine lv_iload_n hx hb dX6_takeCheapest_53 rfl (lv_at hl 1 rfl) ?_
      refine iv_mul (x := 2) (y := x3_4) hx hb dX6_takeCheapest_54 ?_
      refine lv_iconst (v := Int32.ofInt 1) hx hb dX6_takeCheapest_55 (by decide +kernel) ?_
      refine iv_add (x := (2 * x3_4)) (y := 1) hx hb dX6_takeCheapest_56 ?_
      refine lv_istore (lv' := [(5, .int (Int32.ofInt (((2 * x3_4) + 1)))), (4, .int (Int32.ofInt (x4_3))), (3, .int (Int32.ofInt (x3_4))), (2, .int (Int32.ofInt (z2))), (1, .int (Int32.ofInt (z1))), (0, .ref (ar 99))]) hx hb dX6_takeCheapest_57 hl (by decide) rfl (fun ls hl => ?_)
      refine iv_join (G := G) (A := A) (H0 := s.heap) (α := Int) (nL := 6) 102 (fun b9 => []) (fun b9 => (wS k ar (pl) (uF fi 11 ((fi 11 - 1))) (uF (uF fa 9 (g9_5)) 10 (g10_6)))) (fun b9 => [(5, .int (Int32.ofInt (b9))), (4, .int (Int32.ofInt (x4_3))), (3, .int (Int32.ofInt (x3_4))), (2, .int (Int32.ofInt (z2))), (1, .int (Int32.ofInt (z1))), (0, .ref (ar 99))]) (fun b9 => inR b9 ∧ (0 ≤ b9 ∧ b9 < (fi 11 - 1))) ?_ (fun J102 => ?_)
      · intro x5_13 hi9 H locs ls hP hD hS hl
        obtain ⟨r_x5_13, hinv⟩ : inR x5_13 ∧ (0 ≤ x5_13 ∧ x5_13 < (fi 11 - 1)) := hi9
        obtain ⟨hP, hD⟩ : va_P G vwCl (wS k ar (pl) (uF fi 11 ((fi 11 - 1))) (uF (uF fa 9 (g9_5)) 10 (g10_6))) H ∧ va_D A (wS k ar (pl) (uF fi 11 ((fi 11 - 1))) (uF (uF fa 9 (g9_5)) 10 (g10_6))) := ⟨hP, hD⟩
        have hl : lv_has ls 6 [(5, .int (Int32.ofInt (x5_13))), (4, .int (Int32.ofInt (x4_3))), (3, .int (Int32.ofInt (x3_4))), (2, .int (Int32.ofInt (z2))), (1, .int (Int32.ofInt (z1))), (0, .ref (ar 99))] := hl
        refine lv_aload_n hx hb dX6_takeCheapest_102 rfl (lv_at hl 5 rfl) ?_
        refine va_get (D := G) (ci := 5) (v := .ref (ar 4)) (C := RX6) (T := TX6) (N := 15) (ref := RX6) hx hb hts h1w hown hX.1 hP 0 rfl rfl 4 (by decide) h4w (fun _ h9 => h9) rfl dX6_takeCheapest_103 ?_
        refine lv_iload_n hx hb dX6_takeCheapest_106 rfl (lv_at hl 3 rfl) ?_
        refine iv_iald hx hb hX.1 hP 2 0 rfl rfl (by omega) (by omega) (by decide) dX6_takeCheapest_107 ?_
        refine iv_top (fun z14 ez14 => ?_)
        have rz14 : inR z14 := ez14 ▸ (hRa 4) _
        have ez14 : z14 = (fa 4) z2 := ez14
        refine lv_aload_n hx hb dX6_takeCheapest_108 rfl (lv_at hl 5 rfl) ?_
        refine va_get (D := G) (ci := 5) (v := .ref (ar 4)) (C := RX6) (T := TX6) (N := 15) (ref := RX6) hx hb hts h1w hown hX.1 hP 0 rfl rfl 4 (by decide) h4w (fun _ h9 => h9) rfl dX6_takeCheapest_109 ?_
        refine lv_aload_n hx hb dX6_takeCheapest_112 rfl (lv_at hl 5 rfl) ?_
        refine va_get (D := G) (ci := 5) (v := .ref (ar 9)) (C := RX6) (T := TX6) (N := 15) (ref := RX6) hx hb hts h1w hown hX.1 hP 0 rfl rfl 9 (by decide) h0w (fun _ h9 => h9) rfl dX6_takeCheapest_113 ?_
        refine lv_iload hx hb dX6_takeCheapest_116 (lv_at hl 0 rfl) ?_
        refine iv_iald hx hb hX.1 hP 6 0 rfl rfl (by omega) (by omega) (by decide) dX6_takeCheapest_118 ?_
        refine iv_top (fun z15 ez15 => ?_)
        have rz15 : inR z15 := ez15 ▸ r_g9_5 _
        have ez15 : z15 = g9_5 x5_13 := ez15
        have bz15 : 0 ≤ z15 ∧ z15 < 1500 := by rw [ez15]; exact bnd_at b_g9_5 (by omega) (by omega)
        refine iv_iald hx hb hX.1 hP 2 0 rfl rfl (by omega) (by omega) (by decide) dX6_takeCheapest_119 ?_
        refine iv_top (fun z16 ez16 => ?_)
        have rz16 : inR z16 := ez16 ▸ (hRa 4) _
        have ez16 : z16 = (fa 4) z15 := ez16
        refine iv_icmp_gt (tgt := 126) hx hb (by omega) (by omega) dX6_takeCheapest_120 (by decide) (fun q17 => ?_) (fun q17 => ?_)
        · refine lv_aload_n hx hb dX6_takeCheapest_126 rfl (lv_at hl 5 rfl) ?_
          refine va_get (D := G) (ci := 5) (v := .ref (ar 9)) (C := RX6) (T := TX6) (N := 15) (ref := RX6) hx hb hts h1w hown hX.1 hP 0 rfl rfl 9 (by decide) h0w (fun _ h9 => h9) rfl dX6_takeCheapest_127 ?_
          refine lv_iload_n hx hb dX6_takeCheapest_130 rfl (lv_at hl 2 rfl) ?_
          refine lv_aload_n hx hb dX6_takeCheapest_131 rfl (lv_at hl 5 rfl) ?_
          refine va_get (D := G) (ci := 5) (v := .ref (ar 9)) (C := RX6) (T := TX6) (N := 15) (ref := RX6) hx hb hts h1w hown hX.1 hP 0 rfl rfl 9 (by decide) h0w (fun _ h9 => h9) rfl dX6_takeCheapest_132 ?_
          refine lv_iload hx hb dX6_takeCheapest_135 (lv_at hl 0 rfl) ?_
          refine iv_iald hx hb hX.1 hP 6 0 rfl rfl (by omega) (by omega) (by decide) dX6_takeCheapest_137 ?_
          refine iv_top (fun z18 ez18 => ?_)
          have rz18 : inR z18 := ez18 ▸ r_g9_5 _
          have ez18 : z18 = g9_5 x5_13 := ez18
          have bz18 : 0 ≤ z18 ∧ z18 < 1500 := by rw [ez18]; exact bnd_at b_g9_5 (by omega) (by omega)
          refine iv_iast hx hb hX.1 hP hD hS 6 0 rfl rfl (fun g' => show _ = (wS k ar (pl) (uF fi 11 ((fi 11 - 1))) (uF (uF fa 9 (g')) 10 (g10_6))) from rfl) (by omega) (by omega) (by decide) dX6_takeCheapest_138 (fun H locs hP hD hS => ?_)
          obtain ⟨hP, hD⟩ : va_P G vwCl (wS k ar (pl) (uF fi 11 ((fi 11 - 1))) (uF (uF fa 9 (uA (g9_5) (x3_4) (z18))) 10 (g10_6))) H ∧ va_D A (wS k ar (pl) (uF fi 11 ((fi 11 - 1))) (uF (uF fa 9 (uA (g9_5) (x3_4) (z18))) 10 (g10_6))) := ⟨hP, hD⟩
          obtain ⟨g19, eg19, rg19⟩ : ∃ z, z = uA (g9_5) (x3_4) (z18) ∧ ∀ t, inR (z t) := ⟨_, rfl, iU r_g9_5 (by omega)⟩
          rw [← eg19] at hP hD
          have bg19 : bnd g19 1500 0 1500 := bnd_up b_g9_5 (by omega) (by omega) eg19
          refine lv_aload_n hx hb dX6_takeCheapest_139 rfl (lv_at hl 5 rfl) ?_
          refine va_get (D := G) (ci := 5) (v := .ref (ar 10)) (C := RX6) (T := TX6) (N := 15) (ref := RX6) hx hb hts h1w hown hX.1 hP 0 rfl rfl 10 (by decide) h3w (fun _ h9 => h9) rfl dX6_takeCheapest_140 ?_
          refine lv_aload_n hx hb dX6_takeCheapest_143 rfl (lv_at hl 5 rfl) ?_
          refine va_get (D := G) (ci := 5) (v := .ref (ar 9)) (C := RX6) (T := TX6) (N := 15) (ref := RX6) hx hb hts h1w hown hX.1 hP 0 rfl rfl 9 (by decide) h0w (fun _ h9 => h9) rfl dX6_takeCheapest_144 ?_
          refine lv_iload_n hx hb dX6_takeCheapest_147 rfl (lv_at hl 2 rfl) ?_
          refine iv_iald hx hb hX.1 hP 6 0 rfl rfl (by omega) (by omega) (by decide) dX6_takeCheapest_148 ?_
          refine iv_top (fun z20 ez20 => ?_)
          have rz20 : inR z20 := ez20 ▸ rg19 _
          have ez20 : z20 = g19 x3_4 := ez20
          have bz20 : 0 ≤ z20 ∧ z20 < 1500 := by rw [ez20]; exact bnd_at bg19 (by omega) (by omega)
          refine lv_iload_n hx hb dX6_takeCheapest_149 rfl (lv_at hl 2 rfl) ?_
          refine iv_iast hx hb hX.1 hP hD hS 7 0 rfl rfl (fun g' => show _ = (wS k ar (pl) (uF fi 11 ((fi 11 - 1))) (uF (uF fa 9 (g19)) 10 (g'))) from rfl) (by omega) (by omega) (by decide) dX6_takeCheapest_150 (fun H locs hP hD hS => ?_)
          obtain ⟨hP, hD⟩ : va_P G vwCl (wS k ar (pl) (uF fi 11 ((fi 11 - 1))) (uF (uF fa 9 (g19)) 10 (uA (g10_6) (z20) (x3_4)))) H ∧ va_D A (wS k ar (pl) (uF fi 11 ((fi 11 - 1))) (uF (uF fa 9 (g19)) 10 (uA (g10_6) (z20) (x3_4)))) := ⟨hP, hD⟩
          obtain ⟨g21, eg21, rg21⟩ : ∃ z, z = uA (g10_6) (z20) (x3_4) ∧ ∀ t, inR (z t) := ⟨_, rfl, iU r_g10_6 (by omega)⟩
          rw [← eg21] at hP hD
          have bg21 : bnd g21 1500 0 1500 := bnd_up b_g10_6 (by omega) (by omega) eg21
          refine lv_iload hx hb dX6_takeCheapest_151 (lv_at hl 0 rfl) ?_
          refine lv_istore_n (lv' := [(3, .int (Int32.ofInt (x5_13))), (5, .int (Int32.ofInt (x5_13))), (4, .int (Int32.ofInt (x4_3))), (2, .int (Int32.ofInt (z2))), (1, .int (Int32.ofInt (z1))), (0, .ref (ar 99))]) hx hb dX6_takeCheapest_153 rfl hl (by decide) rfl (fun ls hl => ?_)
          refine lv_iinc (v := Int32.ofInt (x4_3 + 1)) (lv' := [(4, .int (Int32.ofInt ((x4_3 + 1)))), (3, .int (Int32.ofInt (x5_13))), (5, .int (Int32.ofInt (x5_13))), (2, .int (Int32.ofInt (z2))), (1, .int (Int32.ofInt (z1))), (0, .ref (ar 99))]) hx hb dX6_takeCheapest_154 hl (k := 2) rfl (Int32.ofInt_add _ _).symm (by decide) rfl (fun ls hl => ?_)
          refine lv_goto (tgt := 32) hx hb dX6_takeCheapest_157 (by decide) ?_
          have hl : lv_has ls 6 [(4, .int (Int32.ofInt ((x4_3 + 1)))), (3, .int (Int32.ofInt (x5_13))), (2, .int (Int32.ofInt (z2))), (1, .int (Int32.ofInt (z1))), (0, .ref (ar 99))] := lv_sub hl [0, 1, 3, 4, 5] rfl
          exact ih ((x4_3 + 1), x5_13, g19, g21) (show (1500 - (x4_3 + 1)).toNat < (1500 - x4_3).toNat from by omega) (show inR (x4_3 + 1) ∧ inR x5_13 ∧ (∀ t, inR (g19 t)) ∧ (∀ t, inR (g21 t)) ∧ (bnd g19 1500 0 1500) ∧ (bnd g21 1500 0 1500) ∧ (0 ≤ (x4_3 + 1) ∧ (x4_3 + 1) ≤ 1500 ∧ 0 ≤ x5_13 ∧ x5_13 < 1500) from ⟨(by omega), (by omega), rg19, rg21, bg19, bg21, (by omega)⟩) _ _ _ hP hD hS hl
        · refine lv_goto (tgt := 160) hx hb dX6_takeCheapest_123 (by decide) ?_
          refine lv_aload_n hx hb dX6_takeCheapest_160 rfl (lv_at hl 5 rfl) ?_
          refine va_get (D := G) (ci := 5) (v := .ref (ar 9)) (C := RX6) (T := TX6) (N := 15) (ref := RX6) hx hb hts h1w hown hX.1 hP 0 rfl rfl 9 (by decide) h0w (fun _ h9 => h9) rfl dX6_takeCheapest_161 ?_
          refine lv_iload_n hx hb dX6_takeCheapest_164 rfl (lv_at hl 2 rfl) ?_
          refine lv_iload_n hx hb dX6_takeCheapest_165 rfl (lv_at hl 3 rfl) ?_
          refine iv_iast hx hb hX.1 hP hD hS 6 0 rfl rfl (fun g' => show _ = (wS k ar (pl) (uF fi 11 ((fi 11 - 1))) (uF (uF fa 9 (g')) 10 (g10_6))) from rfl) (by omega) (by omega) (by decide) dX6_takeCheapest_166 (fun H locs hP hD hS => ?_)
          obtain ⟨hP, hD⟩ : va_P G vwCl (wS k ar (pl) (uF fi 11 ((fi 11 - 1))) (uF (uF fa 9 (uA (g9_5) (x3_4) (z2))) 10 (g10_6))) H ∧ va_D A (wS k ar (pl) (uF fi 11 ((fi 11 - 1))) (uF (uF fa 9 (uA (g9_5) (x3_4) (z2))) 10 (g10_6))) := ⟨hP, hD⟩
          obtain ⟨g22, eg22, rg22⟩ : ∃ z, z = uA (g9_5) (x3_4) (z2) ∧ ∀ t, inR (z t) := ⟨_, rfl, iU r_g9_5 (by omega)⟩
          rw [← eg22] at hP hD
          have bg22 : bnd g22 1500 0 1500 := bnd_up b_g9_5 (by omega) (by omega) eg22
          refine lv_aload_n hx hb dX6_takeCheapest_167 rfl (lv_at hl 5 rfl) ?_
          refine va_get (D := G) (ci := 5) (v := .ref (ar 10)) (C := RX6) (T := TX6) (N := 15) (ref := RX6) hx hb hts h1w hown hX.1 hP 0 rfl rfl 10 (by decide) h3w (fun _ h9 => h9) rfl dX6_takeCheapest_168 ?_
          refine lv_iload_n hx hb dX6_takeCheapest_171 rfl (lv_at hl 3 rfl) ?_
          refine lv_iload_n hx hb dX6_takeCheapest_172 rfl (lv_at hl 2 rfl) ?_
          refine iv_iast hx hb hX.1 hP hD hS 7 0 rfl rfl (fun g' => show _ = (wS k ar (pl) (uF fi 11 ((fi 11 - 1))) (uF (uF fa 9 (g22)) 10 (g'))) from rfl) (by omega) (by omega) (by decide) dX6_takeCheapest_173 (fun H locs hP hD hS => ?_)
          obtain ⟨hP, hD⟩ : va_P G vwCl (wS k ar (pl) (uF fi 11 ((fi 11 - 1))) (uF (uF fa 9 (g22)) 10 (uA (g10_6) (z2) (x3_4)))) H ∧ va_D A (wS k ar (pl) (uF fi 11 ((fi 11 - 1))) (uF (uF fa 9 (g22)) 10 (uA (g10_6) (z2) (x3_4)))) := ⟨hP, hD⟩
          obtain ⟨g23, eg23, rg23⟩ : ∃ z, z = uA (g10_6) (z2) (x3_4) ∧ ∀ t, inR (z t) := ⟨_, rfl, iU r_g10_6 (by omega)⟩
          rw [← eg23] at hP hD
          have bg23 : bnd g23 1500 0 1500 := bnd_up b_g10_6 (by omega) (by omega) eg23
          refine lv_iload_n hx hb dX6_takeCheapest_174 rfl (lv_at hl 4 rfl) ?_
          exact W.iret (v := Int32.ofInt (z1)) hx hb hr (fun t ht hW => ⟨⟨Int32.ofInt (z1), (z1, g22, g23, (fi 11 - 1)), rfl, ⟨rfl, (show (inR z1) ∧ (∀ t, inR (g22 t)) ∧ (bnd g22 1500 0 1500) ∧ (∀ t, inR (g23 t)) ∧ (bnd g23 1500 0 1500) ∧ (inR (fi 11 - 1)) ∧ (0 ≤ z1 ∧ z1 < 1500 ∧ (fi 11 - 1) = fi 11 - 1) from ⟨(by omega), rg22, bg22, rg23, bg23, (by omega), (by omega)⟩)⟩, by rw [ht]; exact hP, hD⟩, hS.F ht⟩) hS.2.2 dX6_takeCheapest_175
      · refine lv_iload hx hb dX6_takeCheapest_59 (lv_at hl 0 rfl) ?_
        refine lv_iconst (v := Int32.ofInt 1) hx hb dX6_takeCheapest_61 (by decide +kernel) ?_
        refine iv_add (x := ((2 * x3_4) + 1)) (y := 1) hx hb dX6_takeCheapest_62 ?_
        refine lv_aload_n hx hb dX6_takeCheapest_63 rfl (lv_at hl 5 rfl) ?_
        refine va_get (D := G) (ci := 5) (v := .int (Int32.ofInt ((fi 11 - 1)))) (C := RX6) (T := TX6) (N := 15) (ref := RX6) hx hb hts h1w hown hX.1 hP 0 rfl rfl 11 (by decide) h2w (fun _ h9 => h9) rfl dX6_takeCheapest_64 ?_
        refine iv_icmp_ge (tgt := 102) hx hb (by omega) (by omega) dX6_takeCheapest_67 (by decide) (fun q24 => ?_) (fun q24 => ?_)
        · have hl : lv_has ls 6 [(5, .int (Int32.ofInt (((2 * x3_4) + 1)))), (4, .int (Int32.ofInt (x4_3))), (3, .int (Int32.ofInt (x3_4))), (2, .int (Int32.ofInt (z2))), (1, .int (Int32.ofInt (z1))), (0, .ref (ar 99))] := lv_sub hl [0, 1, 2, 3, 4, 5] rfl
          exact J102 (((2 * x3_4) + 1)) (show inR ((2 * x3_4) + 1) ∧ (0 ≤ ((2 * x3_4) + 1) ∧ ((2 * x3_4) + 1) < (fi 11 - 1)) from ⟨(by omega), (by omega)⟩) _ _ _ hP hD hS hl
        · refine lv_aload_n hx hb dX6_takeCheapest_70 rfl (lv_at hl 5 rfl) ?_
          refine va_get (D := G) (ci := 5) (v := .ref (ar 4)) (C := RX6) (T := TX6) (N := 15) (ref := RX6) hx hb hts h1w hown hX.1 hP 0 rfl rfl 4 (by decide) h4w (fun _ h9 => h9) rfl dX6_takeCheapest_71 ?_
          refine lv_aload_n hx hb dX6_takeCheapest_74 rfl (lv_at hl 5 rfl) ?_
          refine va_get (D := G) (ci := 5) (v := .ref (ar 9)) (C := RX6) (T := TX6) (N := 15) (ref := RX6) hx hb hts h1w hown hX.1 hP 0 rfl rfl 9 (by decide) h0w (fun _ h9 => h9) rfl dX6_takeCheapest_75 ?_
          refine lv_iload hx hb dX6_takeCheapest_78 (lv_at hl 0 rfl) ?_
          refine lv_iconst (v := Int32.ofInt 1) hx hb dX6_takeCheapest_80 (by decide +kernel) ?_
          refine iv_add (x := ((2 * x3_4) + 1)) (y := 1) hx hb dX6_takeCheapest_81 ?_
          refine iv_iald hx hb hX.1 hP 6 0 rfl rfl (by omega) (by omega) (by decide) dX6_takeCheapest_82 ?_
          refine iv_top (fun z25 ez25 => ?_)
          have rz25 : inR z25 := ez25 ▸ r_g9_5 _
          have ez25 : z25 = g9_5 (((2 * x3_4) + 1) + 1) := ez25
          have bz25 : 0 ≤ z25 ∧ z25 < 1500 := by rw [ez25]; exact bnd_at b_g9_5 (by omega) (by omega)
          refine iv_iald hx hb hX.1 hP 2 0 rfl rfl (by omega) (by omega) (by decide) dX6_takeCheapest_83 ?_
          refine iv_top (fun z26 ez26 => ?_)
          have rz26 : inR z26 := ez26 ▸ (hRa 4) _
          have ez26 : z26 = (fa 4) z25 := ez26
          refine lv_aload_n hx hb dX6_takeCheapest_84 rfl (lv_at hl 5 rfl) ?_
          refine va_get (D := G) (ci := 5) (v := .ref (ar 4)) (C := RX6) (T := TX6) (N := 15) (ref := RX6) hx hb hts h1w hown hX.1 hP 0 rfl rfl 4 (by decide) h4w (fun _ h9 => h9) rfl dX6_takeCheapest_85 ?_
          refine lv_aload_n hx hb dX6_takeCheapest_88 rfl (lv_at hl 5 rfl) ?_
          refine va_get (D := G) (ci := 5) (v := .ref (ar 9)) (C := RX6) (T := TX6) (N := 15) (ref := RX6) hx hb hts h1w hown hX.1 hP 0 rfl rfl 9 (by decide) h0w (fun _ h9 => h9) rfl dX6_takeCheapest_89 ?_
          refine lv_iload hx hb dX6_takeCheapest_92 (lv_at hl 0 rfl) ?_
          refine iv_iald hx hb hX.1 hP 6 0 rfl rfl (by omega) (by omega) (by decide) dX6_takeCheapest_94 ?_
          refine iv_top (fun z27 ez27 => ?_)
          have rz27 : inR z27 := ez27 ▸ r_g9_5 _
          have ez27 : z27 = g9_5 ((2 * x3_4) + 1) := ez27
          have bz27 : 0 ≤ z27 ∧ z27 < 1500 := by rw [ez27]; exact bnd_at b_g9_5 (by omega) (by omega)
          refine iv_iald hx hb hX.1 hP 2 0 rfl rfl (by omega) (by omega) (by decide) dX6_takeCheapest_95 ?_
          refine iv_top (fun z28 ez28 => ?_)
          have rz28 : inR z28 := ez28 ▸ (hRa 4) _
          have ez28 : z28 = (fa 4) z27 := ez28
          refine iv_icmp_ge (tgt := 102) hx hb (by omega) (by omega) dX6_takeCheapest_96 (by decide) (fun q29 => ?_) (fun q29 => ?_)
          · have hl : lv_has ls 6 [(5, .int (Int32.ofInt (((2 * x3_4) + 1)))), (4, .int (Int32.ofInt (x4_3))), (3, .int (Int32.ofInt (x3_4))), (2, .int (Int32.ofInt (z2))), (1, .int (Int32.ofInt (z1))), (0, .ref (ar 99))] := lv_sub hl [0, 1, 2, 3, 4, 5] rfl
            exact J102 (((2 * x3_4) + 1)) (show inR ((2 * x3_4) + 1) ∧ (0 ≤ ((2 * x3_4) + 1) ∧ ((2 * x3_4) + 1) < (fi 11 - 1)) from ⟨(by omega), (by omega)⟩) _ _ _ hP hD hS hl
          · refine lv_iinc (v := Int32.ofInt (((2 * x3_4) + 1) + 1)) (lv' := [(5, .int (Int32.ofInt ((((2 * x3_4) + 1) + 1)))), (4, .int (Int32.ofInt (x4_3))), (3, .int (Int32.ofInt (x3_4))), (2, .int (Int32.ofInt (z2))), (1, .int (Int32.ofInt (z1))), (0, .ref (ar 99))]) hx hb dX6_takeCheapest_99 hl (k := 0) rfl (Int32.ofInt_add _ _).symm (by decide) rfl (fun ls hl => ?_)
            have hl : lv_has ls 6 [(5, .int (Int32.ofInt ((((2 * x3_4) + 1) + 1)))), (4, .int (Int32.ofInt (x4_3))), (3, .int (Int32.ofInt (x3_4))), (2, .int (Int32.ofInt (z2))), (1, .int (Int32.ofInt (z1))), (0, .ref (ar 99))] := lv_sub hl [0, 1, 2, 3, 4, 5] rfl
            exact J102 ((((2 * x3_4) + 1) + 1)) (show inR (((2 * x3_4) + 1) + 1) ∧ (0 ≤ (((2 * x3_4) + 1) + 1) ∧ (((2 * x3_4) + 1) + 1) < (fi 11 - 1)) from ⟨(by omega), (by omega)⟩) _ _ _ hP hD hS hl

