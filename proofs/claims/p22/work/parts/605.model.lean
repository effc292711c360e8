set_option maxHeartbeats 4000000 in
set_option maxRecDepth 100000 in
theorem mX10_bucket (l : Launch) (G : va_G) (k : Nat → ClassId) (ar : Nat → Nat) (fi : Nat → Int) (fa : Nat → Int → Int) (fl : Nat → Int64) (b0 : Int) (w0 : Int) (sz : Nat) (hR : ∀ j, inR (fi j)) (hRa : ∀ j t, inR (fa j t)) (hr_b0 : inR b0) (hr_w0 : inR w0) (hth : 0 ≤ fi 12 ∧ fi 12 ≤ 7) (hru : 0 ≤ fi 13 ∧ fi 13 ≤ 4) (hRW : ∀ q9, 0 ≤ q9 → q9 < fi 13 → RWf (fa 10) (fa 8 q9) (fa 9 q9)) : CNi l G k (EZ k) yX10_bucket wzX10_bucket ({ frames := 3, cells := 0, slots := 0, locals := 70 }) [.ref (ar 71), .int (Int32.ofInt (b0)), .int (Int32.ofInt (w0))] sz (wM k ar fi fa fl) (fun (r0 : Int32) (u : Int × (Int → Int) × (Int → Int) × Int) => r0 = Int32.ofInt (u.1) ∧ (inR u.1) ∧ (∀ t, inR (u.2.1 t)) ∧ (∀ t, inR (u.2.2.1 t)) ∧ (inR u.2.2.2) ∧ (True)) (fun (u : Int × (Int → Int) × (Int → Int) × Int) => (wM k ar (uF fi 2 (u.2.2.2)) (uF (uF fa 39 (u.2.1)) 40 (u.2.2.1)) fl)) := by
  refine Met.ofW (cc := cX10_bucket) (maxL := 5) (ret := (some .int)) (by decide) rfl ?_
  intro p e s m args below meth c s₁ B hml hv
  obtain ⟨rfl, hsz, hP, hX, hD0, hZ0⟩ := hv
  have hx := B.exec
  have hb := B.bytes
  have hr := B.returns
  have hts := atoms_spec (ws := wzX10_bucket) B.pre
  have hown : s.vm.findClass RX10 = some m.cls := findClass_of_methodNamed B.named
  subst hsz
  have hD := hD0.self (sz := s.heap.size)
  have hZ := hZ0
  generalize hAe : va_A (wM k ar fi fa fl) s.heap.size = A at hD hZ ⊢
  have hA : ∀ q : Nat, s.heap.size ≤ q → A q := fun q h => by rw [← hAe]; exact Or.inr h
  have hS : va_S A s.heap s.heap [] := va_S.rf
  have hl := lv_entry ([.ref (ar 71), .int (Int32.ofInt (b0)), .int (Int32.ofInt (w0))]) (n := 5) (Nat.le_of_ble_eq_true rfl)
  rw [lg_entry_eq]
  generalize (lg_sl ([.ref (ar 71), .int (Int32.ofInt (b0)), .int (Int32.ofInt (w0))]) ++ List.replicate (5 - (lg_sl ([.ref (ar 71), .int (Int32.ofInt (b0)), .int (Int32.ofInt (w0))])).length) Slot.unset).toArray = ls at hl ⊢
  have hl : lv_has ls 5 [(0, .ref (ar 71)), (1, .int (Int32.ofInt (b0))), (2, .int (Int32.ofInt (w0)))] := hl
  obtain ⟨H, eH⟩ : ∃ H, H = s.heap := ⟨_, rfl⟩
  rw [← eH] at hP
  have hS : va_S A s.heap H [] := by rw [eH]; exact hS
  have gW : s.heap = H := eH.symm
  refine iv_heap gW ?_
  have h0w := hts (.fieldLink RX10 171 "RopeTownModel" "code" "I") (wz_at 8 12 rfl)
  have h1w : ∀ w ∈ wsX100, w ∈ wzX10_bucket := fun w h => List.mem_cons_of_mem _ (inlX10 w h)
  have h2w := hts (.fieldLink RX10 174 "RopeTownModel" "things" "I") (wz_at 21 11 rfl)
  have h3w := hts (.fieldLink RX10 87 "RopeTownModel" "place" "[I") (wz_at 6 17 rfl)
  have h4w := hts (.fieldLink RX10 327 "RopeTownModel" "bucket0" "I") (wz_at 21 13 rfl)
  refine lv_aload_n hx hb dX10_bucket_0 rfl (lv_at hl 0 rfl) ?_
  refine lv_iconst (v := Int32.ofInt 0) hx hb dX10_bucket_1 (by decide +kernel) ?_
  refine iv_put (ci := 7) (v := .int (Int32.ofInt (0))) (ty := .int) (C := RX10) (T := TX10) (N := 71) (ref := RX10) hx hb hts h1w tyX10 tyX10_ok nmX10 hown hX.1 hP hD hS 0 rfl rfl 2 (by decide) h0w (fun _ h9 => h9) rfl (by decide +kernel) rfl rfl (Nat.le_of_ble_eq_true rfl) (wM_F2 _ _ _ _ _) dX10_bucket_2 (fun H locs hP hD hS => ?_)
  refine lv_iload_n hx hb dX10_bucket_5 rfl (lv_at hl 1 rfl) ?_
  refine lv_iconst (v := Int32.ofInt 0) hx hb dX10_bucket_6 (by decide +kernel) ?_
  refine lv_iconst (v := Int32.ofInt 1) hx hb dX10_bucket_7 (by decide +kernel) ?_
  refine c0_i (va_runS (As := [.int (Int32.ofInt (b0)), .int (Int32.ofInt (0)), .int (Int32.ofInt (1))]) (rest := []) ⟨hx, hb, hml, hown, hts⟩ (mX10_isIn l G k b0 0 1 H.size (by omega) (by omega) (by omega)) (cwS 3 hts (gz [.methodLink RX10 177 yX10_isIn, .static yX10_isIn, .initialized RX10] (.code yX10_isIn cX10_isIn 3 (some .boolean)) [(18, 16), (18, 17), (0, 5), (18, 18)] rfl) rfl rfl rfl (by decide +kernel) ⟨Nat.le_of_ble_eq_true rfl, Nat.le_of_ble_eq_true rfl⟩) (cr_pre0 (EZ_ok k) hZ hS hX hP hD hA) rfl rfl hl.1 rfl (lv_room (Nat.le_of_ble_eq_true rfl)) dX10_bucket_8 ⟨Nat.le_of_ble_eq_true rfl, Nat.le_of_ble_eq_true rfl⟩) hP hD hS hA (fun r u H locs hp hP hD hS => ?_)
  obtain ⟨c1, rfl⟩ : ∃ z, z = u := ⟨_, rfl⟩
  obtain ⟨h9, rc1, hp1⟩ : r = Int32.ofInt c1 ∧ (inR c1) ∧ ((c1 = 1 ∧ 0 ≤ b0 ∧ b0 ≤ 1) ∨ (c1 = 0 ∧ (b0 < 0 ∨ 1 < b0))) := hp
  subst h9
  refine iv_if_ne (tgt := 20) hx hb (by omega) dX10_bucket_11 (by decide) (fun q2 => ?_) (fun q2 => ?_)
  · refine lv_iconst (v := Int32.ofInt 0) hx hb dX10_bucket_20 (by decide +kernel) ?_
    refine lv_istore_n (lv' := [(3, .int (Int32.ofInt (0))), (0, .ref (ar 71)), (1, .int (Int32.ofInt (b0))), (2, .int (Int32.ofInt (w0)))]) hx hb dX10_bucket_21 rfl hl (by decide) rfl (fun ls hl => ?_)
    refine lv_iconst (v := Int32.ofInt 0) hx hb dX10_bucket_22 (by decide +kernel) ?_
    refine lv_istore (lv' := [(4, .int (Int32.ofInt (0))), (3, .int (Int32.ofInt (0))), (0, .ref (ar 71)), (1, .int (Int32.ofInt (b0))), (2, .int (Int32.ofInt (w0)))]) hx hb dX10_bucket_23 hl (by decide) rfl (fun ls hl => ?_)
    refine iv_loop (α := Int × Int) (nL := 5) (fun b9 => (wM k ar (uF fi 2 (0)) fa fl)) (fun b9 => [(4, .int (Int32.ofInt (b9.1))), (3, .int (Int32.ofInt (b9.2))), (0, .ref (ar 71)), (1, .int (Int32.ofInt (b0))), (2, .int (Int32.ofInt (w0)))]) (fun b9 => (fi 12 - b9.1).toNat) (fun b9 => inR b9.1 ∧ inR b9.2 ∧ (0 ≤ b9.1)) ?_ (0, 0) (show inR 0 ∧ inR 0 ∧ (0 ≤ 0) from ⟨(by omega), (by omega), (by omega)⟩) hP hD hS hl
    rintro ⟨x4_3, x3_4⟩ ih hi9 H locs ls hP hD hS hl
    obtain ⟨r_x4_3, r_x3_4, hinv⟩ : inR x4_3 ∧ inR x3_4 ∧ (0 ≤ x4_3) := hi9
    obtain ⟨hP, hD⟩ : va_P G vwCl (wM k ar (uF fi 2 (0)) fa fl) H ∧ va_D A (wM k ar (uF fi 2 (0)) fa fl) := ⟨hP, hD⟩
    have hl : lv_has ls 5 [(4, .int (Int32.ofInt (x4_3))), (3, .int (Int32.ofInt (x3_4))), (0, .ref (ar 71)), (1, .int (Int32.ofInt (b0))), (2, .int (Int32.ofInt (w0)))] := hl
    refine lv_iload hx hb dX10_bucket_25 (lv_at hl 0 rfl) ?_
    refine lv_aload_n hx hb dX10_bucket_27 rfl (lv_at hl 2 rfl) ?_
    refine va_get (D := G) (ci := 7) (v := .int (Int32.ofInt (fi 12))) (C := RX10) (T := TX10) (N := 71) (ref := RX10) hx hb hts h1w hown hX.1 hP 0 rfl rfl 12 (by decide) h2w (fun _ h9 => h9) rfl dX10_bucket_28 ?_
    have rf12 := hR 12
    refine iv_icmp_ge (tgt := 65) hx hb (by omega) (by omega) dX10_bucket_31 (by decide) (fun q5 => ?_) (fun q5 => ?_)
    · refine lv_iload_n hx hb dX10_bucket_65 rfl (lv_at hl 4 rfl) ?_
      obtain q6 | q6 | q6 | q6 | q6 | q6 : (w0 < 0 ∨ 4 < w0) ∨ w0 = 0 ∨ w0 = 1 ∨ w0 = 2 ∨ w0 = 3 ∨ w0 = 4 := by omega
      · refine lv_tableOut (tgt := 150) hx hb dX10_bucket_66 (by rw [iz_toInt (by omega)]; exact q6) (by decide) ?_
        refine lv_aload_n hx hb dX10_bucket_150 rfl (lv_at hl 2 rfl) ?_
        refine lv_iconst (v := Int32.ofInt 1) hx hb dX10_bucket_151 (by decide +kernel) ?_
        refine cr_i (va_runV (As := [.int (Int32.ofInt (1))]) (rest := []) ⟨hx, hb, hml, hown, hts⟩ (mX10_fail l G k ar (uF fi 2 (0)) fa fl 1 H.size (iF hR (by omega)) hRa (by omega)) (cwV 1 hts (gz [.methodLink RX10 315 yX10_fail, .instanceMethod yX10_fail, .selects RX10 yX10_fail yX10_fail, .initialized RX10] (.code yX10_fail cX10_fail 2 (some .int)) [(16, 17), (16, 18), (16, 19), (0, 5), (16, 20)] rfl) rfl rfl rfl (by decide +kernel) ⟨Nat.le_of_ble_eq_true rfl, Nat.le_of_ble_eq_true rfl⟩) (cr_preV (EZ_ok k) hZ hS hX hP hD hA (ci := 7) (q0 := 0) rfl rfl) rfl rfl hl.1 rfl (lv_room (Nat.le_of_ble_eq_true rfl)) dX10_bucket_152 ⟨Nat.le_of_ble_eq_true rfl, Nat.le_of_ble_eq_true rfl⟩) hD hS hA (fun r u H locs hp hP hD hS => ?_)
        obtain ⟨c7, c8⟩ := u
        obtain ⟨hP, hD⟩ : va_P G vwCl (wM k ar (uF fi 2 (c8)) fa fl) H ∧ va_D A (wM k ar (uF fi 2 (c8)) fa fl) := ⟨hP, hD⟩
        obtain ⟨h9, rc7, rc8, hp8⟩ : r = Int32.ofInt c7 ∧ (inR c7) ∧ (inR c8) ∧ (c7 = 0 ∧ c8 = 1) := hp
        subst h9
        exact W.iret (v := Int32.ofInt (c7)) hx hb hr (fun t ht hW => ⟨⟨Int32.ofInt (c7), (c7, fa 39, fa 40, c8), rfl, ⟨rfl, (show (inR c7) ∧ (∀ t, inR ((fa 39) t)) ∧ (∀ t, inR ((fa 40) t)) ∧ (inR c8) ∧ (True) from ⟨(by omega), (hRa 39), (hRa 40), (by omega), trivial⟩)⟩, by rw [ht]; exact hP, hD⟩, hS.F ht⟩) hS.2.2 dX10_bucket_155
      · refine lv_tableIn (tgt := 100) hx hb dX10_bucket_66 (by rw [iz_toInt (by omega)]; omega) (by rw [iz_toInt (by omega)]; omega) (off := 34) (by rw [iz_toInt (by omega), q6]; decide +kernel) (by decide) ?_
        refine lv_aload_n hx hb dX10_bucket_100 rfl (lv_at hl 2 rfl) ?_
        refine lv_aload_n hx hb dX10_bucket_101 rfl (lv_at hl 2 rfl) ?_
        refine va_get (D := G) (ci := 7) (v := .ref (ar 32)) (C := RX10) (T := TX10) (N := 71) (ref := RX10) hx hb hts h1w hown hX.1 hP 0 rfl rfl 32 (by decide) h3w (fun _ h9 => h9) rfl dX10_bucket_102 ?_
        refine lv_iload_n hx hb dX10_bucket_105 rfl (lv_at hl 3 rfl) ?_
        refine cr_i (va_runV (As := [.ref (ar 32), .int (Int32.ofInt (b0))]) (rest := []) ⟨hx, hb, hml, hown, hts⟩ (mX10_loadOf_32 l G k ar (uF fi 2 (0)) fa fl b0 H.size (iF hR (by omega)) hRa (by omega) (show 0 ≤ (fi 12) ∧ (fi 12) ≤ 7 from by omega)) (cwV 2 hts (gz [.methodLink RX10 362 yX10_loadOf, .instanceMethod yX10_loadOf, .selects RX10 yX10_loadOf yX10_loadOf, .initialized RX10] (.code yX10_loadOf cX10_loadOf 5 (some .int)) [(26, 0), (26, 1), (26, 2), (0, 5), (26, 3)] rfl) rfl rfl rfl (by decide +kernel) ⟨Nat.le_of_ble_eq_true rfl, Nat.le_of_ble_eq_true rfl⟩) (cr_preV (EZ_ok k) hZ hS hX hP hD hA (ci := 7) (q0 := 0) rfl rfl) rfl rfl hl.1 rfl (lv_room (Nat.le_of_ble_eq_true rfl)) dX10_bucket_106 ⟨Nat.le_of_ble_eq_true rfl, Nat.le_of_ble_eq_true rfl⟩) hD hS hA (fun r u H locs hp hP hD hS => ?_)
        obtain ⟨c9, rfl⟩ : ∃ z, z = u := ⟨_, rfl⟩
        obtain ⟨h9, rc9, hp9⟩ : r = Int32.ofInt c9 ∧ (inR c9) ∧ (True) := hp
        subst h9
        exact W.iret (v := Int32.ofInt (c9)) hx hb hr (fun t ht hW => ⟨⟨Int32.ofInt (c9), (c9, fa 39, fa 40, 0), rfl, ⟨rfl, (show (inR c9) ∧ (∀ t, inR ((fa 39) t)) ∧ (∀ t, inR ((fa 40) t)) ∧ (inR 0) ∧ (True) from ⟨(by omega), (hRa 39), (hRa 40), (by omega), trivial⟩)⟩, by rw [ht]; exact hP, hD⟩, hS.F ht⟩) hS.2.2 dX10_bucket_109
      · refine lv_tableIn (tgt := 110) hx hb dX10_bucket_66 (by rw [iz_toInt (by omega)]; omega) (by rw [iz_toInt (by omega)]; omega) (off := 44) (by rw [iz_toInt (by omega), q6]; decide +kernel) (by decide) ?_
        refine lv_aload_n hx hb dX10_bucket_110 rfl (lv_at hl 2 rfl) ?_
        refine lv_aload_n hx hb dX10_bucket_111 rfl (lv_at hl 2 rfl) ?_
        refine va_get (D := G) (ci := 7) (v := .ref (ar 32)) (C := RX10) (T := TX10) (N := 71) (ref := RX10) hx hb hts h1w hown hX.1 hP 0 rfl rfl 32 (by decide) h3w (fun _ h9 => h9) rfl dX10_bucket_112 ?_
        refine lv_iload_n hx hb dX10_bucket_115 rfl (lv_at hl 3 rfl) ?_
        refine lv_aload_n hx hb dX10_bucket_116 rfl (lv_at hl 2 rfl) ?_
        refine va_get (D := G) (ci := 7) (v := .int (Int32.ofInt (fi 28))) (C := RX10) (T := TX10) (N := 71) (ref := RX10) hx hb hts h1w hown hX.1 hP 0 rfl rfl 28 (by decide) h4w (fun _ h9 => h9) rfl dX10_bucket_117 ?_
        have rf28 := hR 28
        refine cr_i (va_runV (As := [.ref (ar 32), .int (Int32.ofInt (b0)), .int (Int32.ofInt (fi 28))]) (rest := []) ⟨hx, hb, hml, hown, hts⟩ (mX10_sideOf_32 l G k ar (uF fi 2 (0)) fa fl b0 (fi 28) H.size (iF hR (by omega)) hRa (by omega) (hR 28) (show 0 ≤ (fi 12) ∧ (fi 12) ≤ 7 from by omega)) (cwV 3 hts (gz [.methodLink RX10 377 yX10_sideOf, .instanceMethod yX10_sideOf, .selects RX10 yX10_sideOf yX10_sideOf, .initialized RX10] (.code yX10_sideOf cX10_sideOf 4 (some .int)) [(26, 4), (26, 5), (26, 6), (0, 5), (26, 7)] rfl) rfl rfl rfl (by decide +kernel) ⟨Nat.le_of_ble_eq_true rfl, Nat.le_of_ble_eq_true rfl⟩) (cr_preV (EZ_ok k) hZ hS hX hP hD hA (ci := 7) (q0 := 0) rfl rfl) rfl rfl hl.1 rfl (lv_room (Nat.le_of_ble_eq_true rfl)) dX10_bucket_120 ⟨Nat.le_of_ble_eq_true rfl, Nat.le_of_ble_eq_true rfl⟩) hD hS hA (fun r u H locs hp hP hD hS => ?_)
        obtain ⟨c10, rfl⟩ : ∃ z, z = u := ⟨_, rfl⟩
        obtain ⟨h9, rc10, hp10⟩ : r = Int32.ofInt c10 ∧ (inR c10) ∧ (True) := hp
        subst h9
        exact W.iret (v := Int32.ofInt (c10)) hx hb hr (fun t ht hW => ⟨⟨Int32.ofInt (c10), (c10, fa 39, fa 40, 0), rfl, ⟨rfl, (show (inR c10) ∧ (∀ t, inR ((fa 39) t)) ∧ (∀ t, inR ((fa 40) t)) ∧ (inR 0) ∧ (True) from ⟨(by omega), (hRa 39), (hRa 40), (by omega), trivial⟩)⟩, by rw [ht]; exact hP, hD⟩, hS.F ht⟩) hS.2.2 dX10_bucket_123
      · refine lv_tableIn (tgt := 124) hx hb dX10_bucket_66 (by rw [iz_toInt (by omega)]; omega) (by rw [iz_toInt (by omega)]; omega) (off := 58) (by rw [iz_toInt (by omega), q6]; decide +kernel) (by decide) ?_
        refine lv_aload_n hx hb dX10_bucket_124 rfl (lv_at hl 2 rfl) ?_
        refine lv_iload_n hx hb dX10_bucket_125 rfl (lv_at hl 3 rfl) ?_
        refine lv_aload_n hx hb dX10_bucket_126 rfl (lv_at hl 2 rfl) ?_
        refine va_get (D := G) (ci := 7) (v := .int (Int32.ofInt (fi 28))) (C := RX10) (T := TX10) (N := 71) (ref := RX10) hx hb hts h1w hown hX.1 hP 0 rfl rfl 28 (by decide) h4w (fun _ h9 => h9) rfl dX10_bucket_127 ?_
        have rf28 := hR 28
        refine cr_i (va_runV (As := [.int (Int32.ofInt (b0)), .int (Int32.ofInt (fi 28))]) (rest := []) ⟨hx, hb, hml, hown, hts⟩ (mX10_depthOf l G k ar (uF fi 2 (0)) fa fl b0 (fi 28) H.size (iF hR (by omega)) hRa (by omega) (hR 28)) (cwV 2 hts (gz [.methodLink RX10 352 yX10_depthOf, .instanceMethod yX10_depthOf, .selects RX10 yX10_depthOf yX10_depthOf, .initialized RX10] (.code yX10_depthOf cX10_depthOf 3 (some .int)) [(24, 7), (24, 8), (24, 9), (0, 5), (24, 10)] rfl) rfl rfl rfl (by decide +kernel) ⟨Nat.le_of_ble_eq_true rfl, Nat.le_of_ble_eq_true rfl⟩) (cr_preV (EZ_ok k) hZ hS hX hP hD hA (ci := 7) (q0 := 0) rfl rfl) rfl rfl hl.1 rfl (lv_room (Nat.le_of_ble_eq_true rfl)) dX10_bucket_130 ⟨Nat.le_of_ble_eq_true rfl, Nat.le_of_ble_eq_true rfl⟩) hD hS hA (fun r u H locs hp hP hD hS => ?_)
        obtain ⟨c11, rfl⟩ : ∃ z, z = u := ⟨_, rfl⟩
        obtain ⟨h9, rc11, hp11⟩ : r = Int32.ofInt c11 ∧ (inR c11) ∧ (True) := hp
        subst h9
        exact W.iret (v := Int32.ofInt (c11)) hx hb hr (fun t ht hW => ⟨⟨Int32.ofInt (c11), (c11, fa 39, fa 40, 0), rfl, ⟨rfl, (show (inR c11) ∧ (∀ t, inR ((fa 39) t)) ∧ (∀ t, inR ((fa 40) t)) ∧ (inR 0) ∧ (True) from ⟨(by omega), (hRa 39), (hRa 40), (by omega), trivial⟩)⟩, by rw [ht]; exact hP, hD⟩, hS.F ht⟩) hS.2.2 dX10_bucket_133
      · refine lv_tableIn (tgt := 134) hx hb dX10_bucket_66 (by rw [iz_toInt (by omega)]; omega) (by rw [iz_toInt (by omega)]; omega) (off := 68) (by rw [iz_toInt (by omega), q6]; decide +kernel) (by decide) ?_
        refine lv_iload_n hx hb dX10_bucket_134 rfl (lv_at hl 1 rfl) ?_
        exact W.iret (v := Int32.ofInt (x3_4)) hx hb hr (fun t ht hW => ⟨⟨Int32.ofInt (x3_4), (x3_4, fa 39, fa 40, 0), rfl, ⟨rfl, (show (inR x3_4) ∧ (∀ t, inR ((fa 39) t)) ∧ (∀ t, inR ((fa 40) t)) ∧ (inR 0) ∧ (True) from ⟨(by omega), (hRa 39), (hRa 40), (by omega), trivial⟩)⟩, by rw [ht]; exact hP, hD⟩, hS.F ht⟩) hS.2.2 dX10_bucket_135
      · refine lv_tableIn (tgt := 136) hx hb dX10_bucket_66 (by rw [iz_toInt (by omega)]; omega) (by rw [iz_toInt (by omega)]; omega) (off := 70) (by rw [iz_toInt (by omega), q6]; decide +kernel) (by decide) ?_
        refine lv_aload_n hx hb dX10_bucket_136 rfl (lv_at hl 2 rfl) ?_
        refine lv_aload_n hx hb dX10_bucket_137 rfl (lv_at hl 2 rfl) ?_
        refine va_get (D := G) (ci := 7) (v := .ref (ar 32)) (C := RX10) (T := TX10) (N := 71) (ref := RX10) hx hb hts h1w hown hX.1 hP 0 rfl rfl 32 (by decide) h3w (fun _ h9 => h9) rfl dX10_bucket_138 ?_
        refine lv_iload_n hx hb dX10_bucket_141 rfl (lv_at hl 3 rfl) ?_
        refine lv_aload_n hx hb dX10_bucket_142 rfl (lv_at hl 2 rfl) ?_
        refine va_get (D := G) (ci := 7) (v := .int (Int32.ofInt (fi 28))) (C := RX10) (T := TX10) (N := 71) (ref := RX10) hx hb hts h1w hown hX.1 hP 0 rfl rfl 28 (by decide) h4w (fun _ h9 => h9) rfl dX10_bucket_143 ?_
        have rf28 := hR 28
        refine cr_i (va_runV (As := [.ref (ar 32), .int (Int32.ofInt (b0)), .int (Int32.ofInt (fi 28))]) (rest := []) ⟨hx, hb, hml, hown, hts⟩ (mX10_brokenBy_32 l G k ar (uF fi 2 (0)) fa fl b0 (fi 28) H.size (iF hR (by omega)) hRa (by omega) (hR 28) (show 0 ≤ (fi 12) ∧ (fi 12) ≤ 7 from by omega) (show 0 ≤ (fi 13) ∧ (fi 13) ≤ 4 from by omega) (show ∀ q9, 0 ≤ q9 → q9 < (fi 13) → RWf ((fa 10)) ((fa 8) q9) ((fa 9) q9) from by first | exact hRW | omega)) (cwV 3 hts (gz [.methodLink RX10 380 yX10_brokenBy, .instanceMethod yX10_brokenBy, .selects RX10 yX10_brokenBy yX10_brokenBy, .initialized RX10] (.code yX10_brokenBy cX10_brokenBy 5 (some .int)) [(26, 8), (26, 9), (26, 10), (0, 5), (26, 11)] rfl) rfl rfl rfl (by decide +kernel) ⟨Nat.le_of_ble_eq_true rfl, Nat.le_of_ble_eq_true rfl⟩) (cr_preV (EZ_ok k) hZ hS hX hP hD hA (ci := 7) (q0 := 0) rfl rfl) rfl rfl hl.1 rfl (lv_room (Nat.le_of_ble_eq_true rfl)) dX10_bucket_146 ⟨Nat.le_of_ble_eq_true rfl, Nat.le_of_ble_eq_true rfl⟩) hD hS hA (fun r u H locs hp hP hD hS => ?_)
        obtain ⟨c12, c13, c14⟩ := u
        obtain ⟨hP, hD⟩ : va_P G vwCl (wM k ar (uF fi 2 (0)) (uF (uF fa 39 (c13)) 40 (c14)) fl) H ∧ va_D A (wM k ar (uF fi 2 (0)) (uF (uF fa 39 (c13)) 40 (c14)) fl) := ⟨hP, hD⟩
        obtain ⟨h9, rc12, rc13, rc14, hp14⟩ : r = Int32.ofInt c12 ∧ (inR c12) ∧ (∀ t, inR (c13 t)) ∧ (∀ t, inR (c14 t)) ∧ (True) := hp
        subst h9
        exact W.iret (v := Int32.ofInt (c12)) hx hb hr (fun t ht hW => ⟨⟨Int32.ofInt (c12), (c12, c13, c14, 0), rfl, ⟨rfl, (show (inR c12) ∧ (∀ t, inR (c13 t)) ∧ (∀ t, inR (c14 t)) ∧ (inR 0) ∧ (True) from ⟨(by omega), rc13, rc14, (by omega), trivial⟩)⟩, by rw [ht]; exact hP, hD⟩, hS.F ht⟩) hS.2.2 dX10_bucket_149
    · refine lv_iload_n hx hb dX10_bucket_34 rfl (lv_at hl 1 rfl) ?_
      refine lv_aload_n hx hb dX10_bucket_35 rfl (lv_at hl 2 rfl) ?_
      refine va_get (D := G) (ci := 7) (v := .ref (ar 32)) (C := RX10) (T := TX10) (N := 71) (ref := RX10) hx hb hts h1w hown hX.1 hP 0 rfl rfl 32 (by decide) h3w (fun _ h9 => h9) rfl dX10_bucket_36 ?_
      refine lv_iload hx hb dX10_bucket_39 (lv_at hl 0 rfl) ?_
      refine iv_iald hx hb hX.1 hP 11 0 rfl rfl (by omega) (by omega) (by decide) dX10_bucket_41 ?_
      refine iv_top (fun z15 ez15 => ?_)
      have rz15 : inR z15 := ez15 ▸ (hRa 32) _
      have ez15 : z15 = (fa 32) x4_3 := ez15
      refine lv_iload_n hx hb dX10_bucket_42 rfl (lv_at hl 3 rfl) ?_
      refine c0_i (va_runS (As := [.int (Int32.ofInt (z15)), .int (Int32.ofInt (b0))]) (rest := [.int (Int32.ofInt (x3_4))]) ⟨hx, hb, hml, hown, hts⟩ (mX10_isInBucket l G k z15 b0 H.size (by omega) (by omega)) (cwS 2 hts (gz [.methodLink RX10 359 yX10_isInBucket, .static yX10_isInBucket, .initialized RX10] (.code yX10_isInBucket cX10_isInBucket 2 (some .boolean)) [(25, 21), (25, 22), (0, 5), (25, 23)] rfl) rfl rfl rfl (by decide +kernel) ⟨Nat.le_of_ble_eq_true rfl, Nat.le_of_ble_eq_true rfl⟩) (cr_pre0 (EZ_ok k) hZ hS hX hP hD hA) rfl rfl hl.1 rfl (lv_room (Nat.le_of_ble_eq_true rfl)) dX10_bucket_43 ⟨Nat.le_of_ble_eq_true rfl, Nat.le_of_ble_eq_true rfl⟩) hP hD hS hA (fun r u H locs hp hP hD hS => ?_)
      obtain ⟨c16, rfl⟩ : ∃ z, z = u := ⟨_, rfl⟩
      obtain ⟨h9, rc16, hp16⟩ : r = Int32.ofInt c16 ∧ (inR c16) ∧ ((c16 = 0 ∨ c16 = 1)) := hp
      subst h9
      refine iv_if_eq (tgt := 56) hx hb (by omega) dX10_bucket_46 (by decide) (fun q17 => ?_) (fun q17 => ?_)
      · refine lv_iconst (v := Int32.ofInt 0) hx hb dX10_bucket_56 (by decide +kernel) ?_
        refine iv_or hx hb dX10_bucket_57 ?_
        refine iv_top (fun z18 ez18 => ?_)
        have rz18 : inR z18 := ez18 ▸ bOr_r _ _
        refine lv_istore_n (lv' := [(3, .int (Int32.ofInt (z18))), (4, .int (Int32.ofInt (x4_3))), (0, .ref (ar 71)), (1, .int (Int32.ofInt (b0))), (2, .int (Int32.ofInt (w0)))]) hx hb dX10_bucket_58 rfl hl (by decide) rfl (fun ls hl => ?_)
        refine lv_iinc (v := Int32.ofInt (x4_3 + 1)) (lv' := [(4, .int (Int32.ofInt ((x4_3 + 1)))), (3, .int (Int32.ofInt (z18))), (0, .ref (ar 71)), (1, .int (Int32.ofInt (b0))), (2, .int (Int32.ofInt (w0)))]) hx hb dX10_bucket_59 hl (k := 1) rfl (Int32.ofInt_add _ _).symm (by decide) rfl (fun ls hl => ?_)
        refine lv_goto (tgt := 25) hx hb dX10_bucket_62 (by decide) ?_
        have hl : lv_has ls 5 [(4, .int (Int32.ofInt ((x4_3 + 1)))), (3, .int (Int32.ofInt (z18))), (0, .ref (ar 71)), (1, .int (Int32.ofInt (b0))), (2, .int (Int32.ofInt (w0)))] := lv_sub hl [0, 1, 2, 3, 4] rfl
        exact ih ((x4_3 + 1), z18) (show (fi 12 - (x4_3 + 1)).toNat < (fi 12 - x4_3).toNat from by omega) (show inR (x4_3 + 1) ∧ inR z18 ∧ (0 ≤ (x4_3 + 1)) from ⟨(by omega), (by omega), (by omega)⟩) _ _ _ hP hD hS hl
      · refine lv_iconst (v := Int32.ofInt 1) hx hb dX10_bucket_49 (by decide +kernel) ?_
        refine lv_iload hx hb dX10_bucket_50 (lv_at hl 0 rfl) ?_
        refine iv_shl hx hb dX10_bucket_52 ?_
        refine iv_top (fun z19 ez19 => ?_)
        have rz19 : inR z19 := ez19 ▸ bShl_r _ _
        refine lv_goto (tgt := 57) hx hb dX10_bucket_53 (by decide) ?_
        refine iv_or hx hb dX10_bucket_57 ?_
        refine iv_top (fun z20 ez20 => ?_)
        have rz20 : inR z20 := ez20 ▸ bOr_r _ _
        refine lv_istore_n (lv' := [(3, .int (Int32.ofInt (z20))), (4, .int (Int32.ofInt (x4_3))), (0, .ref (ar 71)), (1, .int (Int32.ofInt (b0))), (2, .int (Int32.ofInt (w0)))]) hx hb dX10_bucket_58 rfl hl (by decide) rfl (fun ls hl => ?_)
        refine lv_iinc (v := Int32.ofInt (x4_3 + 1)) (lv' := [(4, .int (Int32.ofInt ((x4_3 + 1)))), (3, .int (Int32.ofInt (z20))), (0, .ref (ar 71)), (1, .int (Int32.ofInt (b0))), (2, .int (Int32.ofInt (w0)))]) hx hb dX10_bucket_59 hl (k := 1) rfl (Int32.ofInt_add _ _).symm (by decide) rfl (fun ls hl => ?_)
        refine lv_goto (tgt := 25) hx hb dX10_bucket_62 (by decide) ?_
        have hl : lv_has ls 5 [(4, .int (Int32.ofInt ((x4_3 + 1)))), (3, .int (Int32.ofInt (z20))), (0, .ref (ar 71)), (1, .int (Int32.ofInt (b0))), (2, .int (Int32.ofInt (w0)))] := lv_sub hl [0, 1, 2, 3, 4] rfl
        exact ih ((x4_3 + 1), z20) (show (fi 12 - (x4_3 + 1)).toNat < (fi 12 - x4_3).toNat from by omega) (show inR (x4_3 + 1) ∧ inR z20 ∧ (0 ≤ (x4_3 + 1)) from ⟨(by omega), (by omega), (by omega)⟩) _ _ _ hP hD hS hl
  · refine lv_aload_n hx hb dX10_bucket_14 rfl (lv_at hl 0 rfl) ?_
    refine lv_iconst (v := Int32.ofInt 1) hx hb dX10_bucket_15 (by decide +kernel) ?_
    refine cr_i (va_runV (As := [.int (Int32.ofInt (1))]) (rest := []) ⟨hx, hb, hml, hown, hts⟩ (mX10_fail l G k ar (uF fi 2 (0)) fa fl 1 H.size (iF hR (by omega)) hRa (by omega)) (cwV 1 hts (gz [.methodLink RX10 315 yX10_fail, .instanceMethod yX10_fail, .selects RX10 yX10_fail yX10_fail, .initialized RX10] (.code yX10_fail cX10_fail 2 (some .int)) [(16, 17), (16, 18), (16, 19), (0, 5), (16, 20)] rfl) rfl rfl rfl (by decide +kernel) ⟨Nat.le_of_ble_eq_true rfl, Nat.le_of_ble_eq_true rfl⟩) (cr_preV (EZ_ok k) hZ hS hX hP hD hA (ci := 7) (q0 := 0) rfl rfl) rfl rfl hl.1 rfl (lv_room (Nat.le_of_ble_eq_true rfl)) dX10_bucket_16 ⟨Nat.le_of_ble_eq_true rfl, Nat.le_of_ble_eq_true rfl⟩) hD hS hA (fun r u H locs hp hP hD hS => ?_)
    obtain ⟨c21, c22⟩ := u
    obtain ⟨hP, hD⟩ : va_P G vwCl (wM k ar (uF fi 2 (c22)) fa fl) H ∧ va_D A (wM k ar (uF fi 2 (c22)) fa fl) := ⟨hP, hD⟩
    obtain ⟨h9, rc21, rc22, hp22⟩ : r = Int32.ofInt c21 ∧ (inR c21) ∧ (inR c22) ∧ (c21 = 0 ∧ c22 = 1) := hp
    subst h9
    exact W.iret (v := Int32.ofInt (c21)) hx hb hr (fun t ht hW => ⟨⟨Int32.ofInt (c21), (c21, fa 39, fa 40, c22), rfl, ⟨rfl, (show (inR c21) ∧ (∀ t, inR ((fa 39) t)) ∧ (∀ t, inR ((fa 40) t)) ∧ (inR c22) ∧ (True) from ⟨(by omega), (hRa 39), (hRa 40), (by omega), trivial⟩)⟩, by rw [ht]; exact hP, hD⟩, hS.F ht⟩) hS.2.2 dX10_bucket_19

