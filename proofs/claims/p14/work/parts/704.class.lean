set_option maxHeartbeats 4000000 in
set_option maxRecDepth 100000 in
theorem mX3_placeOutside (l : Launch) (G : va_G) (k : Nat → ClassId) (ar : Nat → Nat) (fi : Nat → Int) (fa : Nat → Int → Int) (s0 : Int) (t0 : Int) (sz : Nat) (hR : ∀ j, inR (fi j)) (hRa : ∀ j t, inR (fa j t)) (hB8 : bnd (fa 8) 7 0 4) (hB20 : bnd (fa 20) 600 (-1000) 10000) (hB21 : bnd (fa 21) 4 0 601) (hr_s0 : inR s0) (hr_t0 : inR t0) (ht0 : 0 ≤ t0 ∧ t0 < 7) (hbt : 0 ≤ fi 0 ∧ fi 0 ≤ 11) : CNi l G k (EZ k) yX3_placeOutside wzX3_placeOutside ({ frames := 2, cells := 0, slots := 0, locals := 42 }) [.ref (ar 99), .int (Int32.ofInt (s0)), .int (Int32.ofInt (t0))] sz (wP k ar fi fa) (fun (r0 : Int32) (u : Int) => r0 = Int32.ofInt (u) ∧ (inR u) ∧ (u = plO (nb s0 t0) (fa 8 t0) (fa 11 t0) (dp s0) (fi 0) ∧ -15 ≤ u ∧ u ≤ 15)) (fun (u : Int) => (wP k ar fi fa)) := by
  refine Met.ofW (cc := cX3_placeOutside) (maxL := 5) (ret := (some .int)) (by decide) rfl ?_
  intro p e s m args below meth c s₁ B hml hv
  obtain ⟨rfl, hsz, hP, hX, hD0, hZ0⟩ := hv
  have hx := B.exec
  have hb := B.bytes
  have hr := B.returns
  have hts := atoms_spec (ws := wzX3_placeOutside) B.pre
  have hown : s.vm.findClass RX3 = some m.cls := findClass_of_methodNamed B.named
  subst hsz
  have hD := hD0.self (sz := s.heap.size)
  have hZ := hZ0
  generalize hAe : va_A (wP k ar fi fa) s.heap.size = A at hD hZ ⊢
  have hA : ∀ q : Nat, s.heap.size ≤ q → A q := fun q h => by rw [← hAe]; exact Or.inr h
  have hS : va_S A s.heap s.heap [] := va_S.rf
  have hl := lv_entry ([.ref (ar 99), .int (Int32.ofInt (s0)), .int (Int32.ofInt (t0))]) (n := 5) (Nat.le_of_ble_eq_true rfl)
  rw [lg_entry_eq]
  generalize (lg_sl ([.ref (ar 99), .int (Int32.ofInt (s0)), .int (Int32.ofInt (t0))]) ++ List.replicate (5 - (lg_sl ([.ref (ar 99), .int (Int32.ofInt (s0)), .int (Int32.ofInt (t0))])).length) Slot.unset).toArray = ls at hl ⊢
  have hl : lv_has ls 5 [(0, .ref (ar 99)), (1, .int (Int32.ofInt (s0))), (2, .int (Int32.ofInt (t0)))] := hl
  obtain ⟨H, eH⟩ : ∃ H, H = s.heap := ⟨_, rfl⟩
  rw [← eH] at hP
  have hS : va_S A s.heap H [] := by rw [eH]; exact hS
  have gW : s.heap = H := eH.symm
  refine iv_heap gW ?_
  have h0w := hts (.initialized RX7) (wz_at 5 10 rfl)
  have h1w := hts (.static yX7_place) (wz_at 23 11 rfl)
  have h2w := hts (.fieldLink RX3 9 "RopeTown$Plan" "kind" "[I") (wz_at 1 17 rfl)
  have h3w : ∀ w ∈ wsX30, w ∈ wzX3_placeOutside := fun w h => List.mem_cons_of_mem _ (inlX3 w h)
  have h4w := hts (.fieldLink RX3 21 "RopeTown$Plan" "aim" "[I") (wz_at 1 20 rfl)
  refine lv_iload_n hx hb dX3_placeOutside_0 rfl (lv_at hl 1 rfl) ?_
  refine lv_iload_n hx hb dX3_placeOutside_1 rfl (lv_at hl 2 rfl) ?_
  refine c0_i (va_runSN (As := [.int (Int32.ofInt (s0)), .int (Int32.ofInt (t0))]) (rest := []) ⟨hx, hb, hml, hown, hts⟩ (mX7_place l G k s0 t0 H.size (by omega) (by omega)) ⟨va_cnB 2 hts (gz [] (.code yX7_place cX7_place 2 (some .int)) [(23, 12)] rfl) rfl rfl rfl (nm_12 hX.2.2.1) h0w (by decide +kernel) ⟨Nat.le_of_ble_eq_true rfl, Nat.le_of_ble_eq_true rfl⟩, h1w, trivial⟩ (cr_pre0 (EZ_ok k) hZ hS hX hP hD hA) rfl rfl hl.1 rfl (lv_room (Nat.le_of_ble_eq_true rfl)) dX3_placeOutside_2 ⟨Nat.le_of_ble_eq_true rfl, Nat.le_of_ble_eq_true rfl⟩) hP hD hS hA (fun r u H locs hp hP hD hS => ?_)
  obtain ⟨c1, rfl⟩ : ∃ z, z = u := ⟨_, rfl⟩
  obtain ⟨h9, rc1, hp1⟩ : r = Int32.ofInt c1 ∧ (inR c1) ∧ (c1 = nb s0 t0 ∧ 0 ≤ c1 ∧ c1 ≤ 15) := hp
  subst h9
  have hPl2 := hp1.1
  refine lv_istore_n (lv' := [(3, .int (Int32.ofInt (c1))), (0, .ref (ar 99)), (1, .int (Int32.ofInt (s0))), (2, .int (Int32.ofInt (t0)))]) hx hb dX3_placeOutside_5 rfl hl (by decide) rfl (fun ls hl => ?_)
  refine lv_iload_n hx hb dX3_placeOutside_6 rfl (lv_at hl 0 rfl) ?_
  refine lv_bipush (v := Int32.ofInt 12) hx hb dX3_placeOutside_7 (by decide +kernel) ?_
  refine iv_icmp_eq (tgt := 20) hx hb (by omega) (by omega) dX3_placeOutside_9 (by decide) (fun q2 => ?_) (fun q2 => ?_)
  · refine lv_aload_n hx hb dX3_placeOutside_20 rfl (lv_at hl 1 rfl) ?_
    refine lv_iload_n hx hb dX3_placeOutside_21 rfl (lv_at hl 2 rfl) ?_
    refine lv_iload_n hx hb dX3_placeOutside_22 rfl (lv_at hl 0 rfl) ?_
    refine lv_bipush (v := Int32.ofInt 12) hx hb dX3_placeOutside_23 (by decide +kernel) ?_
    refine iv_sub (x := c1) (y := 12) hx hb dX3_placeOutside_25 ?_
    refine cr_i (va_runV (As := [.int (Int32.ofInt (s0)), .int (Int32.ofInt ((c1 - 12)))]) (rest := []) ⟨hx, hb, hml, hown, hts⟩ (mX3_bucketDepth l G k ar fi fa s0 (c1 - 12) H.size hR hRa hB8 hB20 hB21 (by omega) (by omega) (show 0 ≤ (fi 0) ∧ (fi 0) ≤ 11 from by omega)) (cwV 2 hts (gz [.methodLink RX3 81 yX3_bucketDepth, .instanceMethod yX3_bucketDepth, .selects RX3 yX3_bucketDepth yX3_bucketDepth, .initialized RX3] (.code yX3_bucketDepth cX3_bucketDepth 3 (some .int)) [(23, 13), (23, 14), (23, 15), (0, 19), (23, 16)] rfl) rfl rfl rfl (by decide +kernel) ⟨Nat.le_of_ble_eq_true rfl, Nat.le_of_ble_eq_true rfl⟩) (cr_preV (EZ_ok k) hZ hS hX hP hD hA (ci := 2) (q0 := 0) rfl rfl) rfl rfl hl.1 rfl (lv_room (Nat.le_of_ble_eq_true rfl)) dX3_placeOutside_26 ⟨Nat.le_of_ble_eq_true rfl, Nat.le_of_ble_eq_true rfl⟩) hD hS hA (fun r u H locs hp hP hD hS => ?_)
    obtain ⟨c3, rfl⟩ : ∃ z, z = u := ⟨_, rfl⟩
    obtain ⟨h9, rc3, hp3⟩ : r = Int32.ofInt c3 ∧ (inR c3) ∧ (c3 = buD (c1 - 12) (dp s0) ((fi 0)) ∧ -15 ≤ c3 ∧ c3 ≤ 15) := hp
    subst h9
    have hBu26 := hp3.1
    refine lv_istore (lv' := [(4, .int (Int32.ofInt (c3))), (3, .int (Int32.ofInt (c1))), (0, .ref (ar 99)), (1, .int (Int32.ofInt (s0))), (2, .int (Int32.ofInt (t0)))]) hx hb dX3_placeOutside_29 hl (by decide) rfl (fun ls hl => ?_)
    refine lv_aload_n hx hb dX3_placeOutside_31 rfl (lv_at hl 2 rfl) ?_
    refine va_get (D := G) (ci := 2) (v := .ref (ar 8)) (C := RX3) (T := TX3) (N := 14) (ref := RX3) hx hb hts h3w hown hX.1 hP 0 rfl rfl 8 (by decide) h2w (fun _ h9 => h9) rfl dX3_placeOutside_32 ?_
    refine lv_iload_n hx hb dX3_placeOutside_35 rfl (lv_at hl 4 rfl) ?_
    refine iv_iald hx hb hX.1 hP 2 0 rfl rfl (by omega) (by omega) (by decide) dX3_placeOutside_36 ?_
    refine iv_top (fun z4 ez4 => ?_)
    have rz4 : inR z4 := ez4 ▸ (hRa 8) _
    have ez4 : z4 = (fa 8) t0 := ez4
    have bz4 : 0 ≤ z4 ∧ z4 < 4 := by rw [ez4]; exact bnd_at hB8 (by omega) (by omega)
    refine lv_iconst (v := Int32.ofInt 3) hx hb dX3_placeOutside_37 (by decide +kernel) ?_
    refine iv_icmp_ne (tgt := 57) hx hb (by omega) (by omega) dX3_placeOutside_38 (by decide) (fun q5 => ?_) (fun q5 => ?_)
    · refine lv_iload hx hb dX3_placeOutside_57 (lv_at hl 0 rfl) ?_
      exact W.iret (v := Int32.ofInt (c3)) hx hb hr (fun t ht hW => ⟨⟨Int32.ofInt (c3), (c3), rfl, ⟨rfl, (show (inR c3) ∧ (c3 = plO (nb s0 t0) (fa 8 t0) (fa 11 t0) (dp s0) (fi 0) ∧ -15 ≤ c3 ∧ c3 ≤ 15) from ⟨(by omega), (by exact ⟨by rw [← hPl2]; unfold plO; omega, by omega⟩)⟩)⟩, by rw [ht]; exact hP, hD⟩, hS.F ht⟩) hS.2.2 dX3_placeOutside_59
    · refine lv_iload hx hb dX3_placeOutside_41 (lv_at hl 0 rfl) ?_
      refine lv_aload_n hx hb dX3_placeOutside_43 rfl (lv_at hl 2 rfl) ?_
      refine va_get (D := G) (ci := 2) (v := .ref (ar 11)) (C := RX3) (T := TX3) (N := 14) (ref := RX3) hx hb hts h3w hown hX.1 hP 0 rfl rfl 11 (by decide) h4w (fun _ h9 => h9) rfl dX3_placeOutside_44 ?_
      refine lv_iload_n hx hb dX3_placeOutside_47 rfl (lv_at hl 4 rfl) ?_
      refine iv_iald hx hb hX.1 hP 5 0 rfl rfl (by omega) (by omega) (by decide) dX3_placeOutside_48 ?_
      refine iv_top (fun z6 ez6 => ?_)
      have rz6 : inR z6 := ez6 ▸ (hRa 11) _
      have ez6 : z6 = (fa 11) t0 := ez6
      refine iv_icmp_ne (tgt := 57) hx hb (by omega) (by omega) dX3_placeOutside_49 (by decide) (fun q7 => ?_) (fun q7 => ?_)
      · refine lv_iload hx hb dX3_placeOutside_57 (lv_at hl 0 rfl) ?_
        exact W.iret (v := Int32.ofInt (c3)) hx hb hr (fun t ht hW => ⟨⟨Int32.ofInt (c3), (c3), rfl, ⟨rfl, (show (inR c3) ∧ (c3 = plO (nb s0 t0) (fa 8 t0) (fa 11 t0) (dp s0) (fi 0) ∧ -15 ≤ c3 ∧ c3 ≤ 15) from ⟨(by omega), (by exact ⟨by rw [← hPl2]; unfold plO; omega, by omega⟩)⟩)⟩, by rw [ht]; exact hP, hD⟩, hS.F ht⟩) hS.2.2 dX3_placeOutside_59
      · refine lv_bipush (v := Int32.ofInt 14) hx hb dX3_placeOutside_52 (by decide +kernel) ?_
        refine lv_goto (tgt := 59) hx hb dX3_placeOutside_54 (by decide) ?_
        exact W.iret (v := Int32.ofInt (14)) hx hb hr (fun t ht hW => ⟨⟨Int32.ofInt (14), (14), rfl, ⟨rfl, (show (inR 14) ∧ (14 = plO (nb s0 t0) (fa 8 t0) (fa 11 t0) (dp s0) (fi 0) ∧ -15 ≤ 14 ∧ 14 ≤ 15) from ⟨(by omega), (by exact ⟨by rw [← hPl2]; unfold plO; omega, by omega⟩)⟩)⟩, by rw [ht]; exact hP, hD⟩, hS.F ht⟩) hS.2.2 dX3_placeOutside_59
  · refine lv_iload_n hx hb dX3_placeOutside_12 rfl (lv_at hl 0 rfl) ?_
    refine lv_bipush (v := Int32.ofInt 13) hx hb dX3_placeOutside_13 (by decide +kernel) ?_
    refine iv_icmp_eq (tgt := 20) hx hb (by omega) (by omega) dX3_placeOutside_15 (by decide) (fun q8 => ?_) (fun q8 => ?_)
    · refine lv_aload_n hx hb dX3_placeOutside_20 rfl (lv_at hl 1 rfl) ?_
      refine lv_iload_n hx hb dX3_placeOutside_21 rfl (lv_at hl 2 rfl) ?_
      refine lv_iload_n hx hb dX3_placeOutside_22 rfl (lv_at hl 0 rfl) ?_
      refine lv_bipush (v := Int32.ofInt 12) hx hb dX3_placeOutside_23 (by decide +kernel) ?_
      refine iv_sub (x := c1) (y := 12) hx hb dX3_placeOutside_25 ?_
      refine cr_i (va_runV (As := [.int (Int32.ofInt (s0)), .int (Int32.ofInt ((c1 - 12)))]) (rest := []) ⟨hx, hb, hml, hown, hts⟩ (mX3_bucketDepth l G k ar fi fa s0 (c1 - 12) H.size hR hRa hB8 hB20 hB21 (by omega) (by omega) (show 0 ≤ (fi 0) ∧ (fi 0) ≤ 11 from by omega)) (cwV 2 hts (gz [.methodLink RX3 81 yX3_bucketDepth, .instanceMethod yX3_bucketDepth, .selects RX3 yX3_bucketDepth yX3_bucketDepth, .initialized RX3] (.code yX3_bucketDepth cX3_bucketDepth 3 (some .int)) [(23, 13), (23, 14), (23, 15), (0, 19), (23, 16)] rfl) rfl rfl rfl (by decide +kernel) ⟨Nat.le_of_ble_eq_true rfl, Nat.le_of_ble_eq_true rfl⟩) (cr_preV (EZ_ok k) hZ hS hX hP hD hA (ci := 2) (q0 := 0) rfl rfl) rfl rfl hl.1 rfl (lv_room (Nat.le_of_ble_eq_true rfl)) dX3_placeOutside_26 ⟨Nat.le_of_ble_eq_true rfl, Nat.le_of_ble_eq_true rfl⟩) hD hS hA (fun r u H locs hp hP hD hS => ?_)
      obtain ⟨c9, rfl⟩ : ∃ z, z = u := ⟨_, rfl⟩
      obtain ⟨h9, rc9, hp9⟩ : r = Int32.ofInt c9 ∧ (inR c9) ∧ (c9 = buD (c1 - 12) (dp s0) ((fi 0)) ∧ -15 ≤ c9 ∧ c9 ≤ 15) := hp
      subst h9
      have hBu26 := hp9.1
      refine lv_istore (lv' := [(4, .int (Int32.ofInt (c9))), (3, .int (Int32.ofInt (c1))), (0, .ref (ar 99)), (1, .int (Int32.ofInt (s0))), (2, .int (Int32.ofInt (t0)))]) hx hb dX3_placeOutside_29 hl (by decide) rfl (fun ls hl => ?_)
      refine lv_aload_n hx hb dX3_placeOutside_31 rfl (lv_at hl 2 rfl) ?_
      refine va_get (D := G) (ci := 2) (v := .ref (ar 8)) (C := RX3) (T := TX3) (N := 14) (ref := RX3) hx hb hts h3w hown hX.1 hP 0 rfl rfl 8 (by decide) h2w (fun _ h9 => h9) rfl dX3_placeOutside_32 ?_
      refine lv_iload_n hx hb dX3_placeOutside_35 rfl (lv_at hl 4 rfl) ?_
      refine iv_iald hx hb hX.1 hP 2 0 rfl rfl (by omega) (by omega) (by decide) dX3_placeOutside_36 ?_
      refine iv_top (fun z10 ez10 => ?_)
      have rz10 : inR z10 := ez10 ▸ (hRa 8) _
      have ez10 : z10 = (fa 8) t0 := ez10
      have bz10 : 0 ≤ z10 ∧ z10 < 4 := by rw [ez10]; exact bnd_at hB8 (by omega) (by omega)
      refine lv_iconst (v := Int32.ofInt 3) hx hb dX3_placeOutside_37 (by decide +kernel) ?_
      refine iv_icmp_ne (tgt := 57) hx hb (by omega) (by omega) dX3_placeOutside_38 (by decide) (fun q11 => ?_) (fun q11 => ?_)
      · refine lv_iload hx hb dX3_placeOutside_57 (lv_at hl 0 rfl) ?_
        exact W.iret (v := Int32.ofInt (c9)) hx hb hr (fun t ht hW => ⟨⟨Int32.ofInt (c9), (c9), rfl, ⟨rfl, (show (inR c9) ∧ (c9 = plO (nb s0 t0) (fa 8 t0) (fa 11 t0) (dp s0) (fi 0) ∧ -15 ≤ c9 ∧ c9 ≤ 15) from ⟨(by omega), (by exact ⟨by rw [← hPl2]; unfold plO; omega, by omega⟩)⟩)⟩, by rw [ht]; exact hP, hD⟩, hS.F ht⟩) hS.2.2 dX3_placeOutside_59
      · refine lv_iload hx hb dX3_placeOutside_41 (lv_at hl 0 rfl) ?_
        refine lv_aload_n hx hb dX3_placeOutside_43 rfl (lv_at hl 2 rfl) ?_
        refine va_get (D := G) (ci := 2) (v := .ref (ar 11)) (C := RX3) (T := TX3) (N := 14) (ref := RX3) hx hb hts h3w hown hX.1 hP 0 rfl rfl 11 (by decide) h4w (fun _ h9 => h9) rfl dX3_placeOutside_44 ?_
        refine lv_iload_n hx hb dX3_placeOutside_47 rfl (lv_at hl 4 rfl) ?_
        refine iv_iald hx hb hX.1 hP 5 0 rfl rfl (by omega) (by omega) (by decide) dX3_placeOutside_48 ?_
        refine iv_top (fun z12 ez12 => ?_)
        have rz12 : inR z12 := ez12 ▸ (hRa 11) _
        have ez12 : z12 = (fa 11) t0 := ez12
        refine iv_icmp_ne (tgt := 57) hx hb (by omega) (by omega) dX3_placeOutside_49 (by decide) (fun q13 => ?_) (fun q13 => ?_)
        · refine lv_iload hx hb dX3_placeOutside_57 (lv_at hl 0 rfl) ?_
          exact W.iret (v := Int32.ofInt (c9)) hx hb hr (fun t ht hW => ⟨⟨Int32.ofInt (c9), (c9), rfl, ⟨rfl, (show (inR c9) ∧ (c9 = plO (nb s0 t0) (fa 8 t0) (fa 11 t0) (dp s0) (fi 0) ∧ -15 ≤ c9 ∧ c9 ≤ 15) from ⟨(by omega), (by exact ⟨by rw [← hPl2]; unfold plO; omega, by omega⟩)⟩)⟩, by rw [ht]; exact hP, hD⟩, hS.F ht⟩) hS.2.2 dX3_placeOutside_59
        · refine lv_bipush (v := Int32.ofInt 14) hx hb dX3_placeOutside_52 (by decide +kernel) ?_
          refine lv_goto (tgt := 59) hx hb dX3_placeOutside_54 (by decide) ?_
          exact W.iret (v := Int32.ofInt (14)) hx hb hr (fun t ht hW => ⟨⟨Int32.ofInt (14), (14), rfl, ⟨rfl, (show (inR 14) ∧ (14 = plO (nb s0 t0) (fa 8 t0) (fa 11 t0) (dp s0) (fi 0) ∧ -15 ≤ 14 ∧ 14 ≤ 15) from ⟨(by omega), (by exact ⟨by rw [← hPl2]; unfold plO; omega, by omega⟩)⟩)⟩, by rw [ht]; exact hP, hD⟩, hS.F ht⟩) hS.2.2 dX3_placeOutside_59
    · refine lv_iload_n hx hb dX3_placeOutside_18 rfl (lv_at hl 0 rfl) ?_
      exact W.iret (v := Int32.ofInt (c1)) hx hb hr (fun t ht hW => ⟨⟨Int32.ofInt (c1), (c1), rfl, ⟨rfl, (show (inR c1) ∧ (c1 = plO (nb s0 t0) (fa 8 t0) (fa 11 t0) (dp s0) (fi 0) ∧ -15 ≤ c1 ∧ c1 ≤ 15) from ⟨(by omega), (by exact ⟨by rw [← hPl2]; unfold plO; omega, by omega⟩)⟩)⟩, by rw [ht]; exact hP, hD⟩, hS.F ht⟩) hS.2.2 dX3_placeOutside_19

set_option maxHeartbeats 4000000 in
set_option maxRecDepth 100000 in
theorem mX3_loadTrouble (l : Launch) (G : va_G) (k : Nat → ClassId) (ar : Nat → Nat) (fi : Nat → Int) (fa : Nat → Int → Int) (s0 : Int) (t0 : Int) (b0 : Int) (sz : Nat) (hR : ∀ j, inR (fi j)) (hRa : ∀ j t, inR (fa j t)) (hB8 : bnd (fa 8) 7 0 4) (hB20 : bnd (fa 20) 600 (-1000) 10000) (hB21 : bnd (fa 21) 4 0 601) (hr_s0 : inR s0) (hr_t0 : inR t0) (hr_b0 : inR b0) (hth : 0 ≤ fi 7 ∧ fi 7 ≤ 7) (hbt : 0 ≤ fi 0 ∧ fi 0 ≤ 11) : CNi l G k (EZ k) yX3_loadTrouble wzX3_loadTrouble ({ frames := 3, cells := 0, slots := 0, locals := 65 }) [.ref (ar 99), .int (Int32.ofInt (s0)), .int (Int32.ofInt (t0)), .int (Int32.ofInt (b0))] sz (wP k ar fi fa) (fun (r0 : Int32) (u : Int) => r0 = Int32.ofInt (u) ∧ (inR u) ∧ (((0 ≤ u ∧ u ≤ 3) ∧ (u = 0 → 0 ≤ t0 ∧ t0 < 7 ∧ 0 ≤ b0 ∧ b0 ≤ 1)) ∧ u = ldC (fi 7) t0 b0 (nb s0 t0) (fa 11 t0) (dp s0) (fi 0))) (fun (u : Int) => (wP k ar fi fa)) := by
  refine Met.ofW (cc := cX3_loadTrouble) (maxL := 4) (ret := (some .int)) (by decide) rfl ?_
  intro p e s m args below meth c s₁ B hml hv
  obtain ⟨rfl, hsz, hP, hX, hD0, hZ0⟩ := hv
  have hx := B.exec
  have hb := B.bytes
  have hr := B.returns
  have hts := atoms_spec (ws := wzX3_loadTrouble) B.pre
  have hown : s.vm.findClass RX3 = some m.cls := findClass_of_methodNamed B.named
  subst hsz
  have hD := hD0.self (sz := s.heap.size)
  have hZ := hZ0
  generalize hAe : va_A (wP k ar fi fa) s.heap.size = A at hD hZ ⊢
  have hA : ∀ q : Nat, s.heap.size ≤ q → A q := fun q h => by rw [← hAe]; exact Or.inr h
  have hS : va_S A s.heap s.heap [] := va_S.rf
  have hl := lv_entry ([.ref (ar 99), .int (Int32.ofInt (s0)), .int (Int32.ofInt (t0)), .int (Int32.ofInt (b0))]) (n := 4) (Nat.le_of_ble_eq_true rfl)
  rw [lg_entry_eq]
  generalize (lg_sl ([.ref (ar 99), .int (Int32.ofInt (s0)), .int (Int32.ofInt (t0)), .int (Int32.ofInt (b0))]) ++ List.replicate (4 - (lg_sl ([.ref (ar 99), .int (Int32.ofInt (s0)), .int (Int32.ofInt (t0)), .int (Int32.ofInt (b0))])).length) Slot.unset).toArray = ls at hl ⊢
  have hl : lv_has ls 4 [(0, .ref (ar 99)), (1, .int (Int32.ofInt (s0))), (2, .int (Int32.ofInt (t0))), (3, .int (Int32.ofInt (b0)))] := hl
  obtain ⟨H, eH⟩ : ∃ H, H = s.heap := ⟨_, rfl⟩
  rw [← eH] at hP
  have hS : va_S A s.heap H [] := by rw [eH]; exact hS
  have gW : s.heap = H := eH.symm
  refine iv_heap gW ?_
  have h0w := hts (.initialized RX7) (wz_at 5 10 rfl)
  have h1w := hts (.static yX7_place) (wz_at 23 11 rfl)
  refine lv_aload_n hx hb dX3_loadTrouble_0 rfl (lv_at hl 0 rfl) ?_
  refine lv_iload_n hx hb dX3_loadTrouble_1 rfl (lv_at hl 2 rfl) ?_
  refine cr_i (va_runV (As := [.int (Int32.ofInt (t0))]) (rest := []) ⟨hx, hb, hml, hown, hts⟩ (mX3_has l G k ar fi fa t0 H.size hR hRa hB8 hB20 hB21 (by omega)) (cwV 1 hts (gz [.methodLink RX3 87 yX3_has, .instanceMethod yX3_has, .selects RX3 yX3_has yX3_has, .initialized RX3] (.code yX3_has cX3_has 2 (some .boolean)) [(27, 6), (23, 5), (23, 6), (0, 19), (23, 7)] rfl) rfl rfl rfl (by decide +kernel) ⟨Nat.le_of_ble_eq_true rfl, Nat.le_of_ble_eq_true rfl⟩) (cr_preV (EZ_ok k) hZ hS hX hP hD hA (ci := 2) (q0 := 0) rfl rfl) rfl rfl hl.1 rfl (lv_room (Nat.le_of_ble_eq_true rfl)) dX3_loadTrouble_2 ⟨Nat.le_of_ble_eq_true rfl, Nat.le_of_ble_eq_true rfl⟩) hD hS hA (fun r u H locs hp hP hD hS => ?_)
  obtain ⟨c1, rfl⟩ : ∃ z, z = u := ⟨_, rfl⟩
  obtain ⟨h9, rc1, hp1⟩ : r = Int32.ofInt c1 ∧ (inR c1) ∧ ((c1 = 1 ∧ 0 ≤ t0 ∧ t0 < (fi 7)) ∨ (c1 = 0 ∧ (t0 < 0 ∨ (fi 7) ≤ t0))) := hp
  subst h9
  refine iv_if_eq (tgt := 17) hx hb (by omega) dX3_loadTrouble_5 (by decide) (fun q2 => ?_) (fun q2 => ?_)
  · refine lv_iconst (v := Int32.ofInt 1) hx hb dX3_loadTrouble_17 (by decide +kernel) ?_
    exact W.iret (v := Int32.ofInt (1)) hx hb hr (fun t ht hW => ⟨⟨Int32.ofInt (1), (1), rfl, ⟨rfl, (show (inR 1) ∧ (((0 ≤ 1 ∧ 1 ≤ 3) ∧ (1 = 0 → 0 ≤ t0 ∧ t0 < 7 ∧ 0 ≤ b0 ∧ b0 ≤ 1)) ∧ 1 = ldC (fi 7) t0 b0 (nb s0 t0) (fa 11 t0) (dp s0) (fi 0)) from ⟨(by omega), (by exact ⟨by omega, by unfold ldC; omega⟩)⟩)⟩, by rw [ht]; exact hP, hD⟩, hS.F ht⟩) hS.2.2 dX3_loadTrouble_18
  · refine lv_iload_n hx hb dX3_loadTrouble_8 rfl (lv_at hl 3 rfl) ?_
    refine iv_if_lt (tgt := 17) hx hb (by omega) dX3_loadTrouble_9 (by decide) (fun q3 => ?_) (fun q3 => ?_)
    · refine lv_iconst (v := Int32.ofInt 1) hx hb dX3_loadTrouble_17 (by decide +kernel) ?_
      exact W.iret (v := Int32.ofInt (1)) hx hb hr (fun t ht hW => ⟨⟨Int32.ofInt (1), (1), rfl, ⟨rfl, (show (inR 1) ∧ (((0 ≤ 1 ∧ 1 ≤ 3) ∧ (1 = 0 → 0 ≤ t0 ∧ t0 < 7 ∧ 0 ≤ b0 ∧ b0 ≤ 1)) ∧ 1 = ldC (fi 7) t0 b0 (nb s0 t0) (fa 11 t0) (dp s0) (fi 0)) from ⟨(by omega), (by exact ⟨by omega, by unfold ldC; omega⟩)⟩)⟩, by rw [ht]; exact hP, hD⟩, hS.F ht⟩) hS.2.2 dX3_loadTrouble_18
    · refine lv_iload_n hx hb dX3_loadTrouble_12 rfl (lv_at hl 3 rfl) ?_
      refine lv_iconst (v := Int32.ofInt 1) hx hb dX3_loadTrouble_13 (by decide +kernel) ?_
      refine iv_icmp_le (tgt := 19) hx hb (by omega) (by omega) dX3_loadTrouble_14 (by decide) (fun q4 => ?_) (fun q4 => ?_)
      · refine lv_iload_n hx hb dX3_loadTrouble_19 rfl (lv_at hl 1 rfl) ?_
        refine lv_iload_n hx hb dX3_loadTrouble_20 rfl (lv_at hl 2 rfl) ?_
        refine c0_i (va_runSN (As := [.int (Int32.ofInt (s0)), .int (Int32.ofInt (t0))]) (rest := []) ⟨hx, hb, hml, hown, hts⟩ (mX7_place l G k s0 t0 H.size (by omega) (by omega)) ⟨va_cnB 2 hts (gz [] (.code yX7_place cX7_place 2 (some .int)) [(23, 12)] rfl) rfl rfl rfl (nm_12 hX.2.2.1) h0w (by decide +kernel) ⟨Nat.le_of_ble_eq_true rfl, Nat.le_of_ble_eq_true rfl⟩, h1w, trivial⟩ (cr_pre0 (EZ_ok k) hZ hS hX hP hD hA) rfl rfl hl.1 rfl (lv_room (Nat.le_of_ble_eq_true rfl)) dX3_loadTrouble_21 ⟨Nat.le_of_ble_eq_true rfl, Nat.le_of_ble_eq_true rfl⟩) hP hD hS hA (fun r u H locs hp hP hD hS => ?_)
        obtain ⟨c5, rfl⟩ : ∃ z, z = u := ⟨_, rfl⟩
        obtain ⟨h9, rc5, hp5⟩ : r = Int32.ofInt c5 ∧ (inR c5) ∧ (c5 = nb s0 t0 ∧ 0 ≤ c5 ∧ c5 ≤ 15) := hp
        subst h9
        have hPl21 := hp5.1
        refine lv_bipush (v := Int32.ofInt 12) hx hb dX3_loadTrouble_24 (by decide +kernel) ?_
        refine iv_icmp_ge (tgt := 38) hx hb (by omega) (by omega) dX3_loadTrouble_26 (by decide) (fun q6 => ?_) (fun q6 => ?_)
        · refine lv_iconst (v := Int32.ofInt 2) hx hb dX3_loadTrouble_38 (by decide +kernel) ?_
          exact W.iret (v := Int32.ofInt (2)) hx hb hr (fun t ht hW => ⟨⟨Int32.ofInt (2), (2), rfl, ⟨rfl, (show (inR 2) ∧ (((0 ≤ 2 ∧ 2 ≤ 3) ∧ (2 = 0 → 0 ≤ t0 ∧ t0 < 7 ∧ 0 ≤ b0 ∧ b0 ≤ 1)) ∧ 2 = ldC (fi 7) t0 b0 (nb s0 t0) (fa 11 t0) (dp s0) (fi 0)) from ⟨(by omega), (by exact ⟨by omega, by unfold ldC; omega⟩)⟩)⟩, by rw [ht]; exact hP, hD⟩, hS.F ht⟩) hS.2.2 dX3_loadTrouble_39
        · refine lv_aload_n hx hb dX3_loadTrouble_29 rfl (lv_at hl 0 rfl) ?_
          refine lv_iload_n hx hb dX3_loadTrouble_30 rfl (lv_at hl 1 rfl) ?_
          refine lv_iload_n hx hb dX3_loadTrouble_31 rfl (lv_at hl 2 rfl) ?_
          refine cr_i (va_runV (As := [.int (Int32.ofInt (s0)), .int (Int32.ofInt (t0))]) (rest := []) ⟨hx, hb, hml, hown, hts⟩ (mX3_isServed l G k ar fi fa s0 t0 H.size hR hRa hB8 hB20 hB21 (by omega) (by omega) (show 0 ≤ t0 ∧ t0 < 7 from by omega)) (cwV 2 hts (gz [.methodLink RX3 91 yX3_isServed, .instanceMethod yX3_isServed, .selects RX3 yX3_isServed yX3_isServed, .initialized RX3] (.code yX3_isServed cX3_isServed 4 (some .boolean)) [(27, 7), (23, 20), (23, 21), (0, 19), (23, 22)] rfl) rfl rfl rfl (by decide +kernel) ⟨Nat.le_of_ble_eq_true rfl, Nat.le_of_ble_eq_true rfl⟩) (cr_preV (EZ_ok k) hZ hS hX hP hD hA (ci := 2) (q0 := 0) rfl rfl) rfl rfl hl.1 rfl (lv_room (Nat.le_of_ble_eq_true rfl)) dX3_loadTrouble_32 ⟨Nat.le_of_ble_eq_true rfl, Nat.le_of_ble_eq_true rfl⟩) hD hS hA (fun r u H locs hp hP hD hS => ?_)
          obtain ⟨c7, rfl⟩ : ∃ z, z = u := ⟨_, rfl⟩
          obtain ⟨h9, rc7, hp7⟩ : r = Int32.ofInt c7 ∧ (inR c7) ∧ ((c7 = 1 ∧ sv (nb s0 t0) ((fa 11) t0)) ∨ (c7 = 0 ∧ ¬ sv (nb s0 t0) ((fa 11) t0))) := hp
          subst h9
          refine iv_if_eq (tgt := 40) hx hb (by omega) dX3_loadTrouble_35 (by decide) (fun q8 => ?_) (fun q8 => ?_)
          · refine lv_aload_n hx hb dX3_loadTrouble_40 rfl (lv_at hl 0 rfl) ?_
            refine lv_iload_n hx hb dX3_loadTrouble_41 rfl (lv_at hl 1 rfl) ?_
            refine lv_iload_n hx hb dX3_loadTrouble_42 rfl (lv_at hl 3 rfl) ?_
            refine cr_i (va_runV (As := [.int (Int32.ofInt (s0)), .int (Int32.ofInt (b0))]) (rest := []) ⟨hx, hb, hml, hown, hts⟩ (mX3_bucketDepth l G k ar fi fa s0 b0 H.size hR hRa hB8 hB20 hB21 (by omega) (by omega) (show 0 ≤ (fi 0) ∧ (fi 0) ≤ 11 from by omega)) (cwV 2 hts (gz [.methodLink RX3 81 yX3_bucketDepth, .instanceMethod yX3_bucketDepth, .selects RX3 yX3_bucketDepth yX3_bucketDepth, .initialized RX3] (.code yX3_bucketDepth cX3_bucketDepth 3 (some .int)) [(23, 13), (23, 14), (23, 15), (0, 19), (23, 16)] rfl) rfl rfl rfl (by decide +kernel) ⟨Nat.le_of_ble_eq_true rfl, Nat.le_of_ble_eq_true rfl⟩) (cr_preV (EZ_ok k) hZ hS hX hP hD hA (ci := 2) (q0 := 0) rfl rfl) rfl rfl hl.1 rfl (lv_room (Nat.le_of_ble_eq_true rfl)) dX3_loadTrouble_43 ⟨Nat.le_of_ble_eq_true rfl, Nat.le_of_ble_eq_true rfl⟩) hD hS hA (fun r u H locs hp hP hD hS => ?_)
            obtain ⟨c9, rfl⟩ : ∃ z, z = u := ⟨_, rfl⟩
            obtain ⟨h9, rc9, hp9⟩ : r = Int32.ofInt c9 ∧ (inR c9) ∧ (c9 = buD b0 (dp s0) ((fi 0)) ∧ -15 ≤ c9 ∧ c9 ≤ 15) := hp
            subst h9
            have hBu43 := hp9.1
            refine lv_aload_n hx hb dX3_loadTrouble_46 rfl (lv_at hl 0 rfl) ?_
            refine lv_iload_n hx hb dX3_loadTrouble_47 rfl (lv_at hl 1 rfl) ?_
            refine lv_iload_n hx hb dX3_loadTrouble_48 rfl (lv_at hl 2 rfl) ?_
            refine cr_i (va_runV (As := [.int (Int32.ofInt (s0)), .int (Int32.ofInt (t0))]) (rest := [.int (Int32.ofInt (c9))]) ⟨hx, hb, hml, hown, hts⟩ (mX3_thingDepth l G k ar fi fa s0 t0 H.size hR hRa hB8 hB20 hB21 (by omega) (by omega) (show 0 ≤ (fi 0) ∧ (fi 0) ≤ 11 from by omega)) (cwV 2 hts (gz [.methodLink RX3 84 yX3_thingDepth, .instanceMethod yX3_thingDepth, .selects RX3 yX3_thingDepth yX3_thingDepth, .initialized RX3] (.code yX3_thingDepth cX3_thingDepth 4 (some .int)) [(27, 8), (23, 8), (23, 9), (0, 19), (23, 10)] rfl) rfl rfl rfl (by decide +kernel) ⟨Nat.le_of_ble_eq_true rfl, Nat.le_of_ble_eq_true rfl⟩) (cr_preV (EZ_ok k) hZ hS hX hP hD hA (ci := 2) (q0 := 0) rfl rfl) rfl rfl hl.1 rfl (lv_room (Nat.le_of_ble_eq_true rfl)) dX3_loadTrouble_49 ⟨Nat.le_of_ble_eq_true rfl, Nat.le_of_ble_eq_true rfl⟩) hD hS hA (fun r u H locs hp hP hD hS => ?_)
            obtain ⟨c10, rfl⟩ : ∃ z, z = u := ⟨_, rfl⟩
            obtain ⟨h9, rc10, hp10⟩ : r = Int32.ofInt c10 ∧ (inR c10) ∧ (c10 = thD (nb s0 t0) (dp s0) ((fi 0)) ∧ -15 ≤ c10 ∧ c10 ≤ 15) := hp
            subst h9
            have hTd49 := hp10.1
            refine iv_icmp_ne (tgt := 59) hx hb (by omega) (by omega) dX3_loadTrouble_52 (by decide) (fun q11 => ?_) (fun q11 => ?_)
            · refine lv_iconst (v := Int32.ofInt 3) hx hb dX3_loadTrouble_59 (by decide +kernel) ?_
              exact W.iret (v := Int32.ofInt (3)) hx hb hr (fun t ht hW => ⟨⟨Int32.ofInt (3), (3), rfl, ⟨rfl, (show (inR 3) ∧ (((0 ≤ 3 ∧ 3 ≤ 3) ∧ (3 = 0 → 0 ≤ t0 ∧ t0 < 7 ∧ 0 ≤ b0 ∧ b0 ≤ 1)) ∧ 3 = ldC (fi 7) t0 b0 (nb s0 t0) (fa 11 t0) (dp s0) (fi 0)) from ⟨(by omega), (by exact ⟨by omega, by unfold ldC; omega⟩)⟩)⟩, by rw [ht]; exact hP, hD⟩, hS.F ht⟩) hS.2.2 dX3_loadTrouble_60
            · refine lv_iconst (v := Int32.ofInt 0) hx hb dX3_loadTrouble_55 (by decide +kernel) ?_
              refine lv_goto (tgt := 60) hx hb dX3_loadTrouble_56 (by decide) ?_
              exact W.iret (v := Int32.ofInt (0)) hx hb hr (fun t ht hW => ⟨⟨Int32.ofInt (0), (0), rfl, ⟨rfl, (show (inR 0) ∧ (((0 ≤ 0 ∧ 0 ≤ 3) ∧ (0 = 0 → 0 ≤ t0 ∧ t0 < 7 ∧ 0 ≤ b0 ∧ b0 ≤ 1)) ∧ 0 = ldC (fi 7) t0 b0 (nb s0 t0) (fa 11 t0) (dp s0) (fi 0)) from ⟨(by omega), (by exact ⟨by omega, by unfold ldC; omega⟩)⟩)⟩, by rw [ht]; exact hP, hD⟩, hS.F ht⟩) hS.2.2 dX3_loadTrouble_60
          · refine lv_iconst (v := Int32.ofInt 2) hx hb dX3_loadTrouble_38 (by decide +kernel) ?_
            exact W.iret (v := Int32.ofInt (2)) hx hb hr (fun t ht hW => ⟨⟨Int32.ofInt (2), (2), rfl, ⟨rfl, (show (inR 2) ∧ (((0 ≤ 2 ∧ 2 ≤ 3) ∧ (2 = 0 → 0 ≤ t0 ∧ t0 < 7 ∧ 0 ≤ b0 ∧ b0 ≤ 1)) ∧ 2 = ldC (fi 7) t0 b0 (nb s0 t0) (fa 11 t0) (dp s0) (fi 0)) from ⟨(by omega), (by exact ⟨by omega, by unfold ldC; omega⟩)⟩)⟩, by rw [ht]; exact hP, hD⟩, hS.F ht⟩) hS.2.2 dX3_loadTrouble_39
      · refine lv_iconst (v := Int32.ofInt 1) hx hb dX3_loadTrouble_17 (by decide +kernel) ?_
        exact W.iret (v := Int32.ofInt (1)) hx hb hr (fun t ht hW => ⟨⟨Int32.ofInt (1), (1), rfl, ⟨rfl, (show (inR 1) ∧ (((0 ≤ 1 ∧ 1 ≤ 3) ∧ (1 = 0 → 0 ≤ t0 ∧ t0 < 7 ∧ 0 ≤ b0 ∧ b0 ≤ 1)) ∧ 1 = ldC (fi 7) t0 b0 (nb s0 t0) (fa 11 t0) (dp s0) (fi 0)) from ⟨(by omega), (by exact ⟨by omega, by unfold ldC; omega⟩)⟩)⟩, by rw [ht]; exact hP, hD⟩, hS.F ht⟩) hS.2.2 dX3_loadTrouble_18

set_option maxHeartbeats 4000000 in
set_option maxRecDepth 100000 in
theorem mX3_unloadTrouble (l : Launch) (G : va_G) (k : Nat → ClassId) (ar : Nat → Nat) (fi : Nat → Int) (fa : Nat → Int → Int) (s0 : Int) (t0 : Int) (sz : Nat) (hR : ∀ j, inR (fi j)) (hRa : ∀ j t, inR (fa j t)) (hB8 : bnd (fa 8) 7 0 4) (hB20 : bnd (fa 20) 600 (-1000) 10000) (hB21 : bnd (fa 21) 4 0 601) (hr_s0 : inR s0) (hr_t0 : inR t0) (hth : 0 ≤ fi 7 ∧ fi 7 ≤ 7) : CNi l G k (EZ k) yX3_unloadTrouble wzX3_unloadTrouble ({ frames := 2, cells := 0, slots := 0, locals := 43 }) [.ref (ar 99), .int (Int32.ofInt (s0)), .int (Int32.ofInt (t0))] sz (wP k ar fi fa) (fun (r0 : Int32) (u : Int) => r0 = Int32.ofInt (u) ∧ (inR u) ∧ (((0 ≤ u ∧ u ≤ 2) ∧ (u = 0 → 0 ≤ t0 ∧ t0 < 7)) ∧ u = unC (fi 7) t0 (nb s0 t0))) (fun (u : Int) => (wP k ar fi fa)) := by
  refine Met.ofW (cc := cX3_unloadTrouble) (maxL := 3) (ret := (some .int)) (by decide) rfl ?_
  intro p e s m args below meth c s₁ B hml hv
  obtain ⟨rfl, hsz, hP, hX, hD0, hZ0⟩ := hv
  have hx := B.exec
  have hb := B.bytes
  have hr := B.returns
  have hts := atoms_spec (ws := wzX3_unloadTrouble) B.pre
  have hown : s.vm.findClass RX3 = some m.cls := findClass_of_methodNamed B.named
  subst hsz
  have hD := hD0.self (sz := s.heap.size)
  have hZ := hZ0
  generalize hAe : va_A (wP k ar fi fa) s.heap.size = A at hD hZ ⊢
  have hA : ∀ q : Nat, s.heap.size ≤ q → A q := fun q h => by rw [← hAe]; exact Or.inr h
  have hS : va_S A s.heap s.heap [] := va_S.rf
  have hl := lv_entry ([.ref (ar 99), .int (Int32.ofInt (s0)), .int (Int32.ofInt (t0))]) (n := 3) (Nat.le_of_ble_eq_true rfl)
  rw [lg_entry_eq]
  generalize (lg_sl ([.ref (ar 99), .int (Int32.ofInt (s0)), .int (Int32.ofInt (t0))]) ++ List.replicate (3 - (lg_sl ([.ref (ar 99), .int (Int32.ofInt (s0)), .int (Int32.ofInt (t0))])).length) Slot.unset).toArray = ls at hl ⊢
  have hl : lv_has ls 3 [(0, .ref (ar 99)), (1, .int (Int32.ofInt (s0))), (2, .int (Int32.ofInt (t0)))] := hl
  obtain ⟨H, eH⟩ : ∃ H, H = s.heap := ⟨_, rfl⟩
  rw [← eH] at hP
  have hS : va_S A s.heap H [] := by rw [eH]; exact hS
  have gW : s.heap = H := eH.symm
  refine iv_heap gW ?_
  have h0w := hts (.initialized RX7) (wz_at 5 10 rfl)
  have h1w := hts (.static yX7_bucketOf) (wz_at 23 17 rfl)
  refine lv_aload_n hx hb dX3_unloadTrouble_0 rfl (lv_at hl 0 rfl) ?_
  refine lv_iload_n hx hb dX3_unloadTrouble_1 rfl (lv_at hl 2 rfl) ?_
  refine cr_i (va_runV (As := [.int (Int32.ofInt (t0))]) (rest := []) ⟨hx, hb, hml, hown, hts⟩ (mX3_has l G k ar fi fa t0 H.size hR hRa hB8 hB20 hB21 (by omega)) (cwV 1 hts (gz [.methodLink RX3 87 yX3_has, .instanceMethod yX3_has, .selects RX3 yX3_has yX3_has, .initialized RX3] (.code yX3_has cX3_has 2 (some .boolean)) [(27, 6), (23, 5), (23, 6), (0, 19), (23, 7)] rfl) rfl rfl rfl (by decide +kernel) ⟨Nat.le_of_ble_eq_true rfl, Nat.le_of_ble_eq_true rfl⟩) (cr_preV (EZ_ok k) hZ hS hX hP hD hA (ci := 2) (q0 := 0) rfl rfl) rfl rfl hl.1 rfl (lv_room (Nat.le_of_ble_eq_true rfl)) dX3_unloadTrouble_2 ⟨Nat.le_of_ble_eq_true rfl, Nat.le_of_ble_eq_true rfl⟩) hD hS hA (fun r u H locs hp hP hD hS => ?_)
  obtain ⟨c1, rfl⟩ : ∃ z, z = u := ⟨_, rfl⟩
  obtain ⟨h9, rc1, hp1⟩ : r = Int32.ofInt c1 ∧ (inR c1) ∧ ((c1 = 1 ∧ 0 ≤ t0 ∧ t0 < (fi 7)) ∨ (c1 = 0 ∧ (t0 < 0 ∨ (fi 7) ≤ t0))) := hp
  subst h9
  refine iv_if_ne (tgt := 10) hx hb (by omega) dX3_unloadTrouble_5 (by decide) (fun q2 => ?_) (fun q2 => ?_)
  · refine lv_iload_n hx hb dX3_unloadTrouble_10 rfl (lv_at hl 1 rfl) ?_
    refine lv_iload_n hx hb dX3_unloadTrouble_11 rfl (lv_at hl 2 rfl) ?_
    refine c0_i (va_runSN (As := [.int (Int32.ofInt (s0)), .int (Int32.ofInt (t0))]) (rest := []) ⟨hx, hb, hml, hown, hts⟩ (mX7_bucketOf l G k s0 t0 H.size (by omega) (by omega)) ⟨va_cnB 2 hts (gz [] (.code yX7_bucketOf cX7_bucketOf 3 (some .int)) [(23, 18)] rfl) rfl rfl rfl (nm_17 hX.2.2.1) h0w (by decide +kernel) ⟨Nat.le_of_ble_eq_true rfl, Nat.le_of_ble_eq_true rfl⟩, h1w, trivial⟩ (cr_pre0 (EZ_ok k) hZ hS hX hP hD hA) rfl rfl hl.1 rfl (lv_room (Nat.le_of_ble_eq_true rfl)) dX3_unloadTrouble_12 ⟨Nat.le_of_ble_eq_true rfl, Nat.le_of_ble_eq_true rfl⟩) hP hD hS hA (fun r u H locs hp hP hD hS => ?_)
    obtain ⟨c3, rfl⟩ : ∃ z, z = u := ⟨_, rfl⟩
    obtain ⟨h9, rc3, hp3⟩ : r = Int32.ofInt c3 ∧ (inR c3) ∧ (c3 = bkO (nb s0 t0) ∧ -1 ≤ c3 ∧ c3 ≤ 1) := hp
    subst h9
    refine lv_iconst (v := Int32.ofInt (-1)) hx hb dX3_unloadTrouble_15 (by decide +kernel) ?_
    refine iv_icmp_ne (tgt := 23) hx hb (by omega) (by omega) dX3_unloadTrouble_16 (by decide) (fun q4 => ?_) (fun q4 => ?_)
    · refine lv_iconst (v := Int32.ofInt 0) hx hb dX3_unloadTrouble_23 (by decide +kernel) ?_
      exact W.iret (v := Int32.ofInt (0)) hx hb hr (fun t ht hW => ⟨⟨Int32.ofInt (0), (0), rfl, ⟨rfl, (show (inR 0) ∧ (((0 ≤ 0 ∧ 0 ≤ 2) ∧ (0 = 0 → 0 ≤ t0 ∧ t0 < 7)) ∧ 0 = unC (fi 7) t0 (nb s0 t0)) from ⟨(by omega), (by exact ⟨by omega, by unfold unC; omega⟩)⟩)⟩, by rw [ht]; exact hP, hD⟩, hS.F ht⟩) hS.2.2 dX3_unloadTrouble_24
    · refine lv_iconst (v := Int32.ofInt 2) hx hb dX3_unloadTrouble_19 (by decide +kernel) ?_
      refine lv_goto (tgt := 24) hx hb dX3_unloadTrouble_20 (by decide) ?_
      exact W.iret (v := Int32.ofInt (2)) hx hb hr (fun t ht hW => ⟨⟨Int32.ofInt (2), (2), rfl, ⟨rfl, (show (inR 2) ∧ (((0 ≤ 2 ∧ 2 ≤ 2) ∧ (2 = 0 → 0 ≤ t0 ∧ t0 < 7)) ∧ 2 = unC (fi 7) t0 (nb s0 t0)) from ⟨(by omega), (by exact ⟨by omega, by unfold unC; omega⟩)⟩)⟩, by rw [ht]; exact hP, hD⟩, hS.F ht⟩) hS.2.2 dX3_unloadTrouble_24
  · refine lv_iconst (v := Int32.ofInt 1) hx hb dX3_unloadTrouble_8 (by decide +kernel) ?_
    exact W.iret (v := Int32.ofInt (1)) hx hb hr (fun t ht hW => ⟨⟨Int32.ofInt (1), (1), rfl, ⟨rfl, (show (inR 1) ∧ (((0 ≤ 1 ∧ 1 ≤ 2) ∧ (1 = 0 → 0 ≤ t0 ∧ t0 < 7)) ∧ 1 = unC (fi 7) t0 (nb s0 t0)) from ⟨(by omega), (by exact ⟨by omega, by unfold unC; omega⟩)⟩)⟩, by rw [ht]; exact hP, hD⟩, hS.F ht⟩) hS.2.2 dX3_unloadTrouble_9

set_option maxHeartbeats 4000000 in
set_option maxRecDepth 100000 in
theorem mX3_excess (l : Launch) (G : va_G) (k : Nat → ClassId) (ar : Nat → Nat) (fi : Nat → Int) (fa : Nat → Int → Int) (l0 : Int) (a0 : Int) (s0 : Int) (sz : Nat) (hR : ∀ j, inR (fi j)) (hRa : ∀ j t, inR (fa j t)) (hB8 : bnd (fa 8) 7 0 4) (hB20 : bnd (fa 20) 600 (-1000) 10000) (hB21 : bnd (fa 21) 4 0 601) (hr_l0 : inR l0) (hr_a0 : inR a0) (hr_s0 : inR s0) : CNi l G k (EZ k) yX3_excess wzX3_excess ({ frames := 0, cells := 0, slots := 0, locals := 0 }) [.ref (ar 99), .int (Int32.ofInt (l0)), .int (Int32.ofInt (a0)), .int (Int32.ofInt (s0))] sz (wP k ar fi fa) (fun (r0 : Int32) (u : Int) => r0 = Int32.ofInt (u) ∧ (inR u) ∧ (u = exC l0 (fi 3) (fi 0) a0 s0)) (fun (u : Int) => (wP k ar fi fa)) := by
  refine Met.ofW (cc := cX3_excess) (maxL := 4) (ret := (some .int)) (by decide) rfl ?_
  intro p e s m args below meth c s₁ B hml hv
  obtain ⟨rfl, hsz, hP, hX, hD0, hZ0⟩ := hv
  have hx := B.exec
  have hb := B.bytes
  have hr := B.returns
  have hts := atoms_spec (ws := wzX3_excess) B.pre
  have hown : s.vm.findClass RX3 = some m.cls := findClass_of_methodNamed B.named
  subst hsz
  have hD := hD0.self (sz := s.heap.size)
  have hZ := hZ0
  generalize hAe : va_A (wP k ar fi fa) s.heap.size = A at hD hZ ⊢
  have hA : ∀ q : Nat, s.heap.size ≤ q → A q := fun q h => by rw [← hAe]; exact Or.inr h
  have hS : va_S A s.heap s.heap [] := va_S.rf
  have hl := lv_entry ([.ref (ar 99), .int (Int32.ofInt (l0)), .int (Int32.ofInt (a0)), .int (Int32.ofInt (s0))]) (n := 4) (Nat.le_of_ble_eq_true rfl)
  rw [lg_entry_eq]
  generalize (lg_sl ([.ref (ar 99), .int (Int32.ofInt (l0)), .int (Int32.ofInt (a0)), .int (Int32.ofInt (s0))]) ++ List.replicate (4 - (lg_sl ([.ref (ar 99), .int (Int32.ofInt (l0)), .int (Int32.ofInt (a0)), .int (Int32.ofInt (s0))])).length) Slot.unset).toArray = ls at hl ⊢
  have hl : lv_has ls 4 [(0, .ref (ar 99)), (1, .int (Int32.ofInt (l0))), (2, .int (Int32.ofInt (a0))), (3, .int (Int32.ofInt (s0)))] := hl
  obtain ⟨H, eH⟩ : ∃ H, H = s.heap := ⟨_, rfl⟩
  rw [← eH] at hP
  have hS : va_S A s.heap H [] := by rw [eH]; exact hS
  have gW : s.heap = H := eH.symm
  refine iv_heap gW ?_
  have h0w := hts (.fieldLink RX3 47 "RopeTown$Plan" "rope" "I") (wz_at 2 21 rfl)
  have h1w : ∀ w ∈ wsX30, w ∈ wzX3_excess := fun w h => List.mem_cons_of_mem _ (inlX3 w h)
  have h2w := hts (.fieldLink RX3 37 "RopeTown$Plan" "bottom" "I") (wz_at 2 18 rfl)
  refine lv_iload_n hx hb dX3_excess_0 rfl (lv_at hl 3 rfl) ?_
  refine lv_iload_n hx hb dX3_excess_1 rfl (lv_at hl 1 rfl) ?_
  refine lv_aload_n hx hb dX3_excess_2 rfl (lv_at hl 0 rfl) ?_
  refine va_get (D := G) (ci := 2) (v := .int (Int32.ofInt (fi 3))) (C := RX3) (T := TX3) (N := 14) (ref := RX3) hx hb hts h1w hown hX.1 hP 0 rfl rfl 3 (by decide) h0w (fun _ h9 => h9) rfl dX3_excess_3 ?_
  have rf3 := hR 3
  refine lv_iconst (v := Int32.ofInt 2) hx hb dX3_excess_6 (by decide +kernel) ?_
  refine lv_iload_n hx hb dX3_excess_7 rfl (lv_at hl 2 rfl) ?_
  refine iv_mul (x := 2) (y := a0) hx hb dX3_excess_8 ?_
  refine iv_wr ?_
  refine iv_top (fun z1 ez1 => ?_)
  have rz1 : inR z1 := ez1 ▸ bWr_r _
  refine lv_aload_n hx hb dX3_excess_9 rfl (lv_at hl 0 rfl) ?_
  refine va_get (D := G) (ci := 2) (v := .int (Int32.ofInt (fi 0))) (C := RX3) (T := TX3) (N := 14) (ref := RX3) hx hb hts h1w hown hX.1 hP 0 rfl rfl 0 (by decide) h2w (fun _ h9 => h9) rfl dX3_excess_10 ?_
  have rf0 := hR 0
  refine iv_sub (x := z1) (y := fi 0) hx hb dX3_excess_13 ?_
  refine iv_wr ?_
  refine iv_top (fun z2 ez2 => ?_)
  have rz2 : inR z2 := ez2 ▸ bWr_r _
  refine iv_mul (x := fi 3) (y := z2) hx hb dX3_excess_14 ?_
  refine iv_wr ?_
  refine iv_top (fun z3 ez3 => ?_)
  have rz3 : inR z3 := ez3 ▸ bWr_r _
  refine iv_add (x := l0) (y := z3) hx hb dX3_excess_15 ?_
  refine iv_wr ?_
  refine iv_top (fun z4 ez4 => ?_)
  have rz4 : inR z4 := ez4 ▸ bWr_r _
  refine iv_mul (x := s0) (y := z4) hx hb dX3_excess_16 ?_
  refine iv_wr ?_
  refine iv_top (fun z5 ez5 => ?_)
  have rz5 : inR z5 := ez5 ▸ bWr_r _
  exact W.iret (v := Int32.ofInt (z5)) hx hb hr (fun t ht hW => ⟨⟨Int32.ofInt (z5), (z5), rfl, ⟨rfl, (show (inR z5) ∧ (z5 = exC l0 (fi 3) (fi 0) a0 s0) from ⟨(by omega), (by unfold exC; subst_vars; rfl)⟩)⟩, by rw [ht]; exact hP, hD⟩, hS.F ht⟩) hS.2.2 dX3_excess_17

set_option maxHeartbeats 4000000 in
set_option maxRecDepth 100000 in
theorem mX3_runsByWeight (l : Launch) (G : va_G) (k : Nat → ClassId) (ar : Nat → Nat) (fi : Nat → Int) (fa : Nat → Int → Int) (e0 : Int) (sz : Nat) (hR : ∀ j, inR (fi j)) (hRa : ∀ j t, inR (fa j t)) (hB8 : bnd (fa 8) 7 0 4) (hB20 : bnd (fa 20) 600 (-1000) 10000) (hB21 : bnd (fa 21) 4 0 601) (hr_e0 : inR e0) : CNi l G k (EZ k) yX3_runsByWeight wzX3_runsByWeight ({ frames := 0, cells := 0, slots := 0, locals := 0 }) [.ref (ar 99), .int (Int32.ofInt (e0))] sz (wP k ar fi fa) (fun (r0 : Int32) (u : Int) => r0 = Int32.ofInt (u) ∧ (inR u) ∧ ((u = 0 ∨ u = 1))) (fun (u : Int) => (wP k ar fi fa)) := by
  refine Met.ofW (cc := cX3_runsByWeight) (maxL := 2) (ret := (some .boolean)) (by decide) rfl ?_
  intro p e s m args below meth c s₁ B hml hv
  obtain ⟨rfl, hsz, hP, hX, hD0, hZ0⟩ := hv
  have hx := B.exec
  have hb := B.bytes
  have hr := B.returns
  have hts := atoms_spec (ws := wzX3_runsByWeight) B.pre
  have hown : s.vm.findClass RX3 = some m.cls := findClass_of_methodNamed B.named
  subst hsz
  have hD := hD0.self (sz := s.heap.size)
  have hZ := hZ0
  generalize hAe : va_A (wP k ar fi fa) s.heap.size = A at hD hZ ⊢
  have hA : ∀ q : Nat, s.heap.size ≤ q → A q := fun q h => by rw [← hAe]; exact Or.inr h
  have hS : va_S A s.heap s.heap [] := va_S.rf
  have hl := lv_entry ([.ref (ar 99), .int (Int32.ofInt (e0))]) (n := 2) (Nat.le_of_ble_eq_true rfl)
  rw [lg_entry_eq]
  generalize (lg_sl ([.ref (ar 99), .int (Int32.ofInt (e0))]) ++ List.replicate (2 - (lg_sl ([.ref (ar 99), .int (Int32.ofInt (e0))])).length) Slot.unset).toArray = ls at hl ⊢
  have hl : lv_has ls 2 [(0, .ref (ar 99)), (1, .int (Int32.ofInt (e0)))] := hl
  obtain ⟨H, eH⟩ : ∃ H, H = s.heap := ⟨_, rfl⟩
  rw [← eH] at hP
  have hS : va_S A s.heap H [] := by rw [eH]; exact hS
  have gW : s.heap = H := eH.symm
  refine iv_heap gW ?_
  have h0w := hts (.fieldLink RX3 50 "RopeTown$Plan" "needs" "I") (wz_at 2 22 rfl)
  have h1w : ∀ w ∈ wsX30, w ∈ wzX3_runsByWeight := fun w h => List.mem_cons_of_mem _ (inlX3 w h)
  have h2w := hts (.fieldLink RX3 53 "RopeTown$Plan" "most" "I") (wz_at 2 23 rfl)
  have h3w := hts (.fieldLink RX3 56 "RopeTown$Plan" "brake" "I") (wz_at 3 0 rfl)
  refine lv_iload_n hx hb dX3_runsByWeight_0 rfl (lv_at hl 1 rfl) ?_
  refine lv_aload_n hx hb dX3_runsByWeight_1 rfl (lv_at hl 0 rfl) ?_
  refine va_get (D := G) (ci := 2) (v := .int (Int32.ofInt (fi 4))) (C := RX3) (T := TX3) (N := 14) (ref := RX3) hx hb hts h1w hown hX.1 hP 0 rfl rfl 4 (by decide) h0w (fun _ h9 => h9) rfl dX3_runsByWeight_2 ?_
  have rf4 := hR 4
  refine iv_icmp_lt (tgt := 25) hx hb (by omega) (by omega) dX3_runsByWeight_5 (by decide) (fun q1 => ?_) (fun q1 => ?_)
  · refine lv_iconst (v := Int32.ofInt 0) hx hb dX3_runsByWeight_25 (by decide +kernel) ?_
    exact W.zret (v := Int32.ofInt (0)) hx hb hr (nz_bool (by omega)) (fun t ht hW => ⟨⟨Int32.ofInt (0), (0), rfl, ⟨rfl, (show (inR 0) ∧ ((0 = 0 ∨ 0 = 1)) from ⟨(by omega), (by omega)⟩)⟩, by rw [ht]; exact hP, hD⟩, hS.F ht⟩) hS.2.2 dX3_runsByWeight_26
  · refine lv_iload_n hx hb dX3_runsByWeight_8 rfl (lv_at hl 1 rfl) ?_
    refine lv_aload_n hx hb dX3_runsByWeight_9 rfl (lv_at hl 0 rfl) ?_
    refine va_get (D := G) (ci := 2) (v := .int (Int32.ofInt (fi 5))) (C := RX3) (T := TX3) (N := 14) (ref := RX3) hx hb hts h1w hown hX.1 hP 0 rfl rfl 5 (by decide) h2w (fun _ h9 => h9) rfl dX3_runsByWeight_10 ?_
    have rf5 := hR 5
    refine lv_aload_n hx hb dX3_runsByWeight_13 rfl (lv_at hl 0 rfl) ?_
    refine va_get (D := G) (ci := 2) (v := .int (Int32.ofInt (fi 6))) (C := RX3) (T := TX3) (N := 14) (ref := RX3) hx hb hts h1w hown hX.1 hP 0 rfl rfl 6 (by decide) h3w (fun _ h9 => h9) rfl dX3_runsByWeight_14 ?_
    have rf6 := hR 6
    refine iv_add (x := fi 5) (y := fi 6) hx hb dX3_runsByWeight_17 ?_
    refine iv_wr ?_
    refine iv_top (fun z2 ez2 => ?_)
    have rz2 : inR z2 := ez2 ▸ bWr_r _
    refine iv_icmp_gt (tgt := 25) hx hb (by omega) (by omega) dX3_runsByWeight_18 (by decide) (fun q3 => ?_) (fun q3 => ?_)
    · refine lv_iconst (v := Int32.ofInt 0) hx hb dX3_runsByWeight_25 (by decide +kernel) ?_
      exact W.zret (v := Int32.ofInt (0)) hx hb hr (nz_bool (by omega)) (fun t ht hW => ⟨⟨Int32.ofInt (0), (0), rfl, ⟨rfl, (show (inR 0) ∧ ((0 = 0 ∨ 0 = 1)) from ⟨(by omega), (by omega)⟩)⟩, by rw [ht]; exact hP, hD⟩, hS.F ht⟩) hS.2.2 dX3_runsByWeight_26
    · refine lv_iconst (v := Int32.ofInt 1) hx hb dX3_runsByWeight_21 (by decide +kernel) ?_
      refine lv_goto (tgt := 26) hx hb dX3_runsByWeight_22 (by decide) ?_
      exact W.zret (v := Int32.ofInt (1)) hx hb hr (nz_bool (by omega)) (fun t ht hW => ⟨⟨Int32.ofInt (1), (1), rfl, ⟨rfl, (show (inR 1) ∧ ((1 = 0 ∨ 1 = 1)) from ⟨(by omega), (by omega)⟩)⟩, by rw [ht]; exact hP, hD⟩, hS.F ht⟩) hS.2.2 dX3_runsByWeight_26

set_option maxHeartbeats 4000000 in
set_option maxRecDepth 100000 in
theorem mX3_windingOf (l : Launch) (G : va_G) (k : Nat → ClassId) (ar : Nat → Nat) (fi : Nat → Int) (fa : Nat → Int → Int) (e0 : Int) (sz : Nat) (hR : ∀ j, inR (fi j)) (hRa : ∀ j t, inR (fa j t)) (hB8 : bnd (fa 8) 7 0 4) (hB20 : bnd (fa 20) 600 (-1000) 10000) (hB21 : bnd (fa 21) 4 0 601) (hr_e0 : inR e0) : CNi l G k (EZ k) yX3_windingOf wzX3_windingOf ({ frames := 0, cells := 0, slots := 0, locals := 0 }) [.ref (ar 99), .int (Int32.ofInt (e0))] sz (wP k ar fi fa) (fun (r0 : Int32) (u : Int) => r0 = Int32.ofInt (u) ∧ (inR u) ∧ (True)) (fun (u : Int) => (wP k ar fi fa)) := by
  refine Met.ofW (cc := cX3_windingOf) (maxL := 2) (ret := (some .int)) (by decide) rfl ?_
  intro p e s m args below meth c s₁ B hml hv
  obtain ⟨rfl, hsz, hP, hX, hD0, hZ0⟩ := hv
  have hx := B.exec
  have hb := B.bytes
  have hr := B.returns
  have hts := atoms_spec (ws := wzX3_windingOf) B.pre
  have hown : s.vm.findClass RX3 = some m.cls := findClass_of_methodNamed B.named
  subst hsz
  have hD := hD0.self (sz := s.heap.size)
  have hZ := hZ0
  generalize hAe : va_A (wP k ar fi fa) s.heap.size = A at hD hZ ⊢
  have hA : ∀ q : Nat, s.heap.size ≤ q → A q := fun q h => by rw [← hAe]; exact Or.inr h
  have hS : va_S A s.heap s.heap [] := va_S.rf
  have hl := lv_entry ([.ref (ar 99), .int (Int32.ofInt (e0))]) (n := 2) (Nat.le_of_ble_eq_true rfl)
  rw [lg_entry_eq]
  generalize (lg_sl ([.ref (ar 99), .int (Int32.ofInt (e0))]) ++ List.replicate (2 - (lg_sl ([.ref (ar 99), .int (Int32.ofInt (e0))])).length) Slot.unset).toArray = ls at hl ⊢
  have hl : lv_has ls 2 [(0, .ref (ar 99)), (1, .int (Int32.ofInt (e0)))] := hl
  obtain ⟨H, eH⟩ : ∃ H, H = s.heap := ⟨_, rfl⟩
  rw [← eH] at hP
  have hS : va_S A s.heap H [] := by rw [eH]; exact hS
  have gW : s.heap = H := eH.symm
  refine iv_heap gW ?_
  have h0w := hts (.fieldLink RX3 50 "RopeTown$Plan" "needs" "I") (wz_at 2 22 rfl)
  have h1w : ∀ w ∈ wsX30, w ∈ wzX3_windingOf := fun w h => List.mem_cons_of_mem _ (inlX3 w h)
  have h2w := hts (.fieldLink RX3 53 "RopeTown$Plan" "most" "I") (wz_at 2 23 rfl)
  have h3w := hts (.fieldLink RX3 56 "RopeTown$Plan" "brake" "I") (wz_at 3 0 rfl)
  refine lv_iload_n hx hb dX3_windingOf_0 rfl (lv_at hl 1 rfl) ?_
  refine lv_aload_n hx hb dX3_windingOf_1 rfl (lv_at hl 0 rfl) ?_
  refine va_get (D := G) (ci := 2) (v := .int (Int32.ofInt (fi 4))) (C := RX3) (T := TX3) (N := 14) (ref := RX3) hx hb hts h1w hown hX.1 hP 0 rfl rfl 4 (by decide) h0w (fun _ h9 => h9) rfl dX3_windingOf_2 ?_
  have rf4 := hR 4
  refine iv_icmp_ge (tgt := 15) hx hb (by omega) (by omega) dX3_windingOf_5 (by decide) (fun q1 => ?_) (fun q1 => ?_)
  · refine lv_iload_n hx hb dX3_windingOf_15 rfl (lv_at hl 1 rfl) ?_
    refine lv_aload_n hx hb dX3_windingOf_16 rfl (lv_at hl 0 rfl) ?_
    refine va_get (D := G) (ci := 2) (v := .int (Int32.ofInt (fi 5))) (C := RX3) (T := TX3) (N := 14) (ref := RX3) hx hb hts h1w hown hX.1 hP 0 rfl rfl 5 (by decide) h2w (fun _ h9 => h9) rfl dX3_windingOf_17 ?_
    have rf5 := hR 5
    refine lv_aload_n hx hb dX3_windingOf_20 rfl (lv_at hl 0 rfl) ?_
    refine va_get (D := G) (ci := 2) (v := .int (Int32.ofInt (fi 6))) (C := RX3) (T := TX3) (N := 14) (ref := RX3) hx hb hts h1w hown hX.1 hP 0 rfl rfl 6 (by decide) h3w (fun _ h9 => h9) rfl dX3_windingOf_21 ?_
    have rf6 := hR 6
    refine iv_add (x := fi 5) (y := fi 6) hx hb dX3_windingOf_24 ?_
    refine iv_wr ?_
    refine iv_top (fun z2 ez2 => ?_)
    have rz2 : inR z2 := ez2 ▸ bWr_r _
    refine iv_icmp_le (tgt := 42) hx hb (by omega) (by omega) dX3_windingOf_25 (by decide) (fun q3 => ?_) (fun q3 => ?_)
    · refine lv_iconst (v := Int32.ofInt 0) hx hb dX3_windingOf_42 (by decide +kernel) ?_
      exact W.iret (v := Int32.ofInt (0)) hx hb hr (fun t ht hW => ⟨⟨Int32.ofInt (0), (0), rfl, ⟨rfl, (show (inR 0) ∧ (True) from ⟨(by omega), trivial⟩)⟩, by rw [ht]; exact hP, hD⟩, hS.F ht⟩) hS.2.2 dX3_windingOf_43
    · refine lv_iload_n hx hb dX3_windingOf_28 rfl (lv_at hl 1 rfl) ?_
      refine lv_aload_n hx hb dX3_windingOf_29 rfl (lv_at hl 0 rfl) ?_
      refine va_get (D := G) (ci := 2) (v := .int (Int32.ofInt (fi 5))) (C := RX3) (T := TX3) (N := 14) (ref := RX3) hx hb hts h1w hown hX.1 hP 0 rfl rfl 5 (by decide) h2w (fun _ h9 => h9) rfl dX3_windingOf_30 ?_
      have rf5 := hR 5
      refine iv_sub (x := e0) (y := fi 5) hx hb dX3_windingOf_33 ?_
      refine iv_wr ?_
      refine iv_top (fun z4 ez4 => ?_)
      have rz4 : inR z4 := ez4 ▸ bWr_r _
      refine lv_aload_n hx hb dX3_windingOf_34 rfl (lv_at hl 0 rfl) ?_
      refine va_get (D := G) (ci := 2) (v := .int (Int32.ofInt (fi 6))) (C := RX3) (T := TX3) (N := 14) (ref := RX3) hx hb hts h1w hown hX.1 hP 0 rfl rfl 6 (by decide) h3w (fun _ h9 => h9) rfl dX3_windingOf_35 ?_
      have rf6 := hR 6
      refine iv_sub (x := z4) (y := fi 6) hx hb dX3_windingOf_38 ?_
      refine iv_wr ?_
      refine iv_top (fun z5 ez5 => ?_)
      have rz5 : inR z5 := ez5 ▸ bWr_r _
      refine lv_goto (tgt := 43) hx hb dX3_windingOf_39 (by decide) ?_
      exact W.iret (v := Int32.ofInt (z5)) hx hb hr (fun t ht hW => ⟨⟨Int32.ofInt (z5), (z5), rfl, ⟨rfl, (show (inR z5) ∧ (True) from ⟨(by omega), trivial⟩)⟩, by rw [ht]; exact hP, hD⟩, hS.F ht⟩) hS.2.2 dX3_windingOf_43
  · refine lv_aload_n hx hb dX3_windingOf_8 rfl (lv_at hl 0 rfl) ?_
    refine va_get (D := G) (ci := 2) (v := .int (Int32.ofInt (fi 4))) (C := RX3) (T := TX3) (N := 14) (ref := RX3) hx hb hts h1w hown hX.1 hP 0 rfl rfl 4 (by decide) h0w (fun _ h9 => h9) rfl dX3_windingOf_9 ?_
    have rf4 := hR 4
    refine lv_iload_n hx hb dX3_windingOf_12 rfl (lv_at hl 1 rfl) ?_
    refine iv_sub (x := fi 4) (y := e0) hx hb dX3_windingOf_13 ?_
    refine iv_wr ?_
    refine iv_top (fun z6 ez6 => ?_)
    have rz6 : inR z6 := ez6 ▸ bWr_r _
    exact W.iret (v := Int32.ofInt (z6)) hx hb hr (fun t ht hW => ⟨⟨Int32.ofInt (z6), (z6), rfl, ⟨rfl, (show (inR z6) ∧ (True) from ⟨(by omega), trivial⟩)⟩, by rw [ht]; exact hP, hD⟩, hS.F ht⟩) hS.2.2 dX3_windingOf_14

