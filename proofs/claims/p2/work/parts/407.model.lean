set_option maxHeartbeats 4000000 in
set_option maxRecDepth 100000 in
theorem mX10_bucket (l : Launch) (G : va_G) (k : Nat → ClassId) (ar : Nat → Nat) (fi : Nat → Int) (fa : Nat → Int → Int) (fl : Nat → Int64) (b0 : Int) (w0 : Int) (sz : Nat) (hR : ∀ j, inR (fi j)) (hRa : ∀ j t, inR (fa j t)) (hr_b0 : inR b0) (hr_w0 : inR w0) (hth : 0 ≤ fi 12 ∧ fi 12 ≤ 7) (hru : 0 ≤ fi 13 ∧ fi 13 ≤ 4) (hRW : ∀ q9, 0 ≤ q9 → q9 < fi 13 → RWf (fa 10) (fa 8 q9) (fa 9 q9)) : CNi l G k (EZ k) yX10_bucket wsX10_bucket ({ frames := 3, cells := 0, slots := 0, locals := 70 }) [.ref (ar 71), .int (Int32.ofInt (b0)), .int (Int32.ofInt (w0))] sz (wM k ar fi fa fl) (fun (r0 : Int32) (u : Int × (Int → Int) × (Int → Int) × Int) => r0 = Int32.ofInt (u.1) ∧ (inR u.1) ∧ (∀ t, inR (u.2.1 t)) ∧ (∀ t, inR (u.2.2.1 t)) ∧ (inR u.2.2.2) ∧ (True)) (fun (u : Int × (Int → Int) × (Int → Int) × Int) => (wM k ar (uF fi 2 (u.2.2.2)) (uF (uF fa 39 (u.2.1)) 40 (u.2.2.1)) fl)) := by
  refine Met.ofW (cc := cX10_bucket) (maxL := 5) (ret := (some .int)) (by decide) rfl ?_
  intro p e s m args below meth c s₁ B hml hv
  obtain ⟨rfl, hsz, hP, hX, hD0, hZ0⟩ := hv
  have hx := B.exec
  have hb := B.bytes
  have hr := B.returns
  have hts := atoms_spec (ws := wsX10_bucket) B.pre
  have hown : s.vm.findClass RX10 = some m.cls := findClass_of_methodNamed B.named
  subst hsz
  have hD := hD0.self (sz := s.heap.size)
  have hZ := hZ0
  generalize hAe : va_A (wM k ar fi fa fl) s.heap.size = A at hD hZ ⊢
  have hA : ∀ q : Nat, s.heap.size ≤ q → A q := fun q h => by rw [← hAe]; exact Or.inr h
  have hS : va_S A s.heap s.heap [] := va_S.rf
  have hl := lv_entry ([.ref (ar 71), .int (Int32.ofInt (b0)), .int (Int32.ofInt (w0))]) (n := 5) (Nat.le_of_ble_eq_true rfl)
  rw [lg_entry_eq]
  generalize (lg_sl ([.ref (ar 71), .int (Int32.ofInt (b0)), .int (Int32.ofInt (w0))]) ++ List.replicate (5 - (lg_sl ([.ref (ar 71), .int (Int32.ofInt (b0)), .int (Int32.ofInt (w0))])).length) Slot.unset).toArray = ls at hl ⊢
  have hl : lv_has ls 5 [(0, .ref (ar 71)), (1, .int (Int32.ofInt (b0))), (2, .int (Int32.ofInt (w0)))] := hl
  obtain ⟨H, eH⟩ : ∃ H, H = s.heap := ⟨_, rfl⟩
  rw [← eH] at hP
  have hS : va_S A s.heap H [] := by rw [eH]; exact hS
  have gW : s.heap = H := eH.symm
  refine iv_heap gW ?_
  have h0w := hts (.fieldLink RX10 171 "RopeTownModel" "code" "I") (by decide +kernel)
  have h1w : ∀ w ∈ wsX100, w ∈ wsX10_bucket := by decide +kernel
  have h2w := hts (.fieldLink RX10 174 "RopeTownModel" "things" "I") (by decide +kernel)
  have h3w := hts (.fieldLink RX10 87 "RopeTownModel" "place" "[I") (by decide +kernel)
  have h4w := hts (.fieldLink RX10 327 "RopeTownModel" "bucket0" "I") (by decide +kernel)
  refine lv_aload_n hx hb dX10_bucket_0 rfl (lv_at hl 0 rfl) ?_
  refine lv_iconst (v := Int32.ofInt 0) hx hb dX10_bucket_1 (by decide +kernel) ?_
  refine iv_put (ci := 7) (v := .int (Int32.ofInt (0))) (ty := .int) (C := RX10) (T := TX10) (N := 71) (ref := RX10) hx hb hts h1w tyX10 tyX10_ok nmX10 hown hX.1 hP hD hS 0 rfl rfl 2 (by decide) h0w (fun _ h9 => h9) rfl (by decide +kernel) rfl rfl (Nat.le_of_ble_eq_true rfl) (wM_F2 _ _ _ _ _) dX10_bucket_2 (fun H locs hP hD hS => ?_)
  refine lv_iload_n hx hb dX10_bucket_5 rfl (lv_at hl 1 rfl) ?_
  refine lv_iconst (v := Int32.ofInt 0) hx hb dX10_bucket_6 (by decide +kernel) ?_
  refine lv_iconst (v := Int32.ofInt 1) hx hb dX10_bucket_7 (by decide +kernel) ?_
  refine c0_i (va_runS (As := [.int (Int32.ofInt (b0)), .int (Int32.ofInt (0)), .int (Int32.ofInt (1))]) (rest := []) ⟨hx, hb, hml, hown, hts⟩ (mX10_isIn l G k b0 0 1 H.size (by omega) (by omega) (by omega)) (cwS 3 hts gX10_bucket_X10_isIn rfl rfl rfl (by decide +kernel) ⟨Nat.le_of_ble_eq_true rfl, Nat.le_of_ble_eq_true rfl⟩) (cr_pre0 (EZ_ok k) hZ hS hX hP hD hA) rfl rfl hl.1 rfl (lv_room (Nat.le_of_ble_eq_true rfl)) dX10_bucket_8 ⟨Nat.le_of_ble_eq_true rfl, Nat.le_of_ble_eq_true rfl⟩) hP hD hS hA (fun r u H locs hp hP hD hS => ?_)
  obtain ⟨c1, rfl⟩ : ∃ z, z = u := ⟨_, rfl⟩
  obtain ⟨h9, rc1, hp1⟩ : r = Int32.ofInt c1 ∧ (inR c1) ∧ ((c1 = 1 ∧ 0 ≤ b0 ∧ b0 ≤ 1) ∨ (c1 = 0 ∧ (b0 < 0 ∨ 1 < b0))) := hp
  subst h9
  refine iv_if_ne (tgt := 20) hx hb (by omega) dX10_bucket_11 (by decide) (fun q2 => ?_) (fun q2 => ?_)
  · refine lv_iconst (v := Int32.ofInt 0) hx hb dX10_bucket_20 (by decide +kernel) ?_
    refine lv_istore_n (lv' := [(3, .int (Int32.ofInt (0))), (0, .ref (ar 71)), (1, .int (Int32.ofInt (b0))), (2, .int (Int32.ofInt (w0)))]) hx hb dX10_bucket_21 rfl hl (by decide) rfl (fun ls hl => ?_)
    refine lv_iconst (v := Int32.ofInt 0) hx hb dX10_bucket_22 (by decide +kernel) ?_
    refine lv_istore (lv' := [(4, .int (Int32.ofInt (0))), (3, .int (Int32.ofInt (0))), (0, .ref (ar 71)), (1, .int (Int32.ofInt (b0))), (2, .int (Int32.ofInt (w0)))]) hx hb dX10_bucket_23 hl (by decide) rfl (fun ls hl => ?_)
    refine iv_loop (α := Int × Int) (nL := 5) (fun b9 => (wM k ar (uF fi 2 (0)) fa fl)) (fun b9 => [(4, .int (Int32.ofInt (b9.1))), (3, .int (Int32.ofInt (b9.2))), (0, .ref (ar 71)), (1, .int (Int32.ofInt (b0))), (2, .int (Int32.ofInt (w0)))]) (fun b9 => (fi 12 - b9.1).toNat) (fun b9 => inR b9.1 ∧ inR b9.2 ∧ (0 ≤ b9.1)) ?_ (0, 0) (show inR 0 ∧ inR 0 ∧ (0 ≤ 0) from ⟨(by omega), (by omega), (by omega)⟩) hP hD hS hl
    rintro ⟨x4_3, x3_4⟩ ih hi9 H locs ls hP hD hS hl
    obtain ⟨r_x4_3, r_x3_4, hinv⟩ : inR x4_3 ∧ inR x3_4 ∧ (0 ≤ x4_3) := hi9
    obtain ⟨hP, hD⟩ : va_P G vwCl (wM k ar (uF fi 2 (0)) fa fl) H ∧ va_D A (wM k ar (uF fi 2 (0)) fa fl) := ⟨hP, hD⟩
    have hl : lv_has ls 5 [(4, .int (Int32.ofInt (x4_3))), (3, .int (Int32.ofInt (x3_4))), (0, .ref (ar 71)), (1, .int (Int32.ofInt (b0))), (2, .int (Int32.ofInt (w0)))] := hl
    refine lv_iload hx hb dX10_bucket_25 (lv_at hl 0 rfl) ?_
    refine lv_aload_n hx hb dX10_bucket_27 rfl (lv_at hl 2 rfl) ?_
    refine va_get (D := G) (ci := 7) (v := .int (Int32.ofInt (fi 12))) (C := RX10) (T := TX10) (N := 71) (ref := RX10) hx hb hts h1w hown hX.1 hP 0 rfl rfl 12 (by decide) h2w (fun _ h9 => h9) rfl dX10_bucket_28 ?_
    have rf12 := hR 12
    refine iv_icmp_ge (tgt := 65) hx hb (by omega) (by omega) dX10_bucket_31 (by decide) (fun q5 => ?_) (fun q5 => ?_)
    · refine lv_iload_n hx hb dX10_bucket_65 rfl (lv_at hl 4 rfl) ?_
      obtain q6 | q6 | q6 | q6 | q6 | q6 : (w0 < 0 ∨ 4 < w0) ∨ w0 = 0 ∨ w0 = 1 ∨ w0 = 2 ∨ w0 = 3 ∨ w0 = 4 := by omega
      · refine lv_tableOut (tgt := 150) hx hb dX10_bucket_66 (by rw [iz_toInt (by omega)]; exact q6) (by decide) ?_
        refine lv_aload_n hx hb dX10_bucket_150 rfl (lv_at hl 2 rfl) ?_
        refine lv_iconst (v := Int32.ofInt 1) hx hb dX10_bucket_151 (by decide +kernel) ?_
        refine cr_i (va_runV (As := [.int (Int32.ofInt (1))]) (rest := []) ⟨hx, hb, hml, hown, hts⟩ (mX10_fail l G k ar (uF fi 2 (0)) fa fl 1 H.size (iF hR (by omega)) hRa (by omega)) (cwV 1 hts gX10_bucket_X10_fail rfl rfl rfl (by decide +kernel) ⟨Nat.le_of_ble_eq_true rfl, Nat.le_of_ble_eq_true rfl⟩) (cr_preV (EZ_ok k) hZ hS hX hP hD hA (ci := 7) (q0 := 0) rfl rfl) rfl rfl hl.1 rfl (lv_room (Nat.le_of_ble_eq_true rfl)) dX10_bucket_152 ⟨Nat.le_of_ble_eq_true rfl, Nat.le_of_ble_eq_true rfl⟩) hD hS hA (fun r u H locs hp hP hD hS => ?_)
        obtain ⟨c7, c8⟩ := u
        obtain ⟨hP, hD⟩ : va_P G vwCl (wM k ar (uF fi 2 (c8)) fa fl) H ∧ va_D A (wM k ar (uF fi 2 (c8)) fa fl) := ⟨hP, hD⟩
        obtain ⟨h9, rc7, rc8, hp8⟩ : r = Int32.ofInt c7 ∧ (inR c7) ∧ (inR c8) ∧ (c7 = 0 ∧ c8 = 1) := hp
        subst h9
        exact W.iret (v := Int32.ofInt (c7)) hx hb hr (fun t ht hW => ⟨⟨Int32.ofInt (c7), (c7, fa 39, fa 40, c8), rfl, ⟨rfl, (show (inR c7) ∧ (∀ t, inR ((fa 39) t)) ∧ (∀ t, inR ((fa 40) t)) ∧ (inR c8) ∧ (True) from ⟨(by omega), (hRa 39), (hRa 40), (by omega), trivial⟩)⟩, by rw [ht]; exact hP, hD⟩, hS.F ht⟩) hS.2.2 dX10_bucket_155
      · refine lv_tableIn (tgt := 100) hx hb dX10_bucket_66 (by rw [iz_toInt (by omega)]; omega) (by rw [iz_toInt (by omega)]; omega) (off := 34) (by rw [iz_toInt (by omega), q6]; decide +kernel) (by decide) ?_
        refine lv_aload_n hx hb dX10_bucket_100 rfl (lv_at hl 2 rfl) ?_
        refine lv_aload_n hx hb dX10_bucket_101 rfl (lv_at hl 2 rfl) ?_
        refine va_get (D := G) (ci := 7) (v := .ref (ar 32)) (C := RX10) (T := TX10) (N := 71) (ref := RX10) hx hb hts h1w hown hX.1 hP 0 rfl rfl 32 (by decide) h3w (fun _ h9 => h9) rfl dX10_bucket_102 ?_
        refine lv_iload_n hx hb dX10_bucket_105 rfl (lv_at hl 3 rfl) ?_
        refine cr_i (va_runV (As := [.ref (ar 32), .int (Int32.ofInt (b0))]) (rest := []) ⟨hx, hb, hml, hown, hts⟩ (mX10_loadOf_32 l G k ar (uF fi 2 (0)) fa fl b0 H.size (iF hR (by omega)) hRa (by omega) (show 0 ≤ (fi 12) ∧ (fi 12) ≤ 7 from by omega)) (cwV 2 hts gX10_bucket_X10_loadOf rfl rfl rfl (by decide +kernel) ⟨Nat.le_of_ble_eq_true rfl, Nat.le_of_ble_eq_true rfl⟩) (cr_preV (EZ_ok k) hZ hS hX hP hD hA (ci := 7) (q0 := 0) rfl rfl) rfl rfl hl.1 rfl (lv_room (Nat.le_of_ble_eq_true rfl)) dX10_bucket_106 ⟨Nat.le_of_ble_eq_true rfl, Nat.le_of_ble_eq_true rfl⟩) hD hS hA (fun r u H locs hp hP hD hS => ?_)
        obtain ⟨c9, rfl⟩ : ∃ z, z = u := ⟨_, rfl⟩
        obtain ⟨h9, rc9, hp9⟩ : r = Int32.ofInt c9 ∧ (inR c9) ∧ (True) := hp
        subst h9
        exact W.iret (v := Int32.ofInt (c9)) hx hb hr (fun t ht hW => ⟨⟨Int32.ofInt (c9), (c9, fa 39, fa 40, 0), rfl, ⟨rfl, (show (inR c9) ∧ (∀ t, inR ((fa 39) t)) ∧ (∀ t, inR ((fa 40) t)) ∧ (inR 0) ∧ (True) from ⟨(by omega), (hRa 39), (hRa 40), (by omega), trivial⟩)⟩, by rw [ht]; exact hP, hD⟩, hS.F ht⟩) hS.2.2 dX10_bucket_109
      · refine lv_tableIn (tgt := 110) hx hb dX10_bucket_66 (by rw [iz_toInt (by omega)]; omega) (by rw [iz_toInt (by omega)]; omega) (off := 44) (by rw [iz_toInt (by omega), q6]; decide +kernel) (by decide) ?_
        refine lv_aload_n hx hb dX10_bucket_110 rfl (lv_at hl 2 rfl) ?_
        refine lv_aload_n hx hb dX10_bucket_111 rfl (lv_at hl 2 rfl) ?_
        refine va_get (D := G) (ci := 7) (v := .ref (ar 32)) (C := RX10) (T := TX10) (N := 71) (ref := RX10) hx hb hts h1w hown hX.1 hP 0 rfl rfl 32 (by decide) h3w (fun _ h9 => h9) rfl dX10_bucket_112 ?_
        refine lv_iload_n hx hb dX10_bucket_115 rfl (lv_at hl 3 rfl) ?_
        refine lv_aload_n hx hb dX10_bucket_116 rfl (lv_at hl 2 rfl) ?_
        refine va_get (D := G) (ci := 7) (v := .int (Int32.ofInt (fi 28))) (C := RX10) (T := TX10) (N := 71) (ref := RX10) hx hb hts h1w hown hX.1 hP 0 rfl rfl 28 (by decide) h4w (fun _ h9 => h9) rfl dX10_bucket_117 ?_
        have rf28 := hR 28
        refine cr_i (va_runV (As := [.ref (ar 32), .int (Int32.ofInt (b0)), .int (Int32.ofInt (fi 28))]) (rest := []) ⟨hx, hb, hml, hown, hts⟩ (mX10_sideOf_32 l G k ar (uF fi 2 (0)) fa fl b0 (fi 28) H.size (iF hR (by omega)) hRa (by omega) (hR 28) (show 0 ≤ (fi 12) ∧ (fi 12) ≤ 7 from by omega)) (cwV 3 hts gX10_bucket_X10_sideOf rfl rfl rfl (by decide +kernel) ⟨Nat.le_of_ble_eq_true rfl, Nat.le_of_ble_eq_true rfl⟩) (cr_preV (EZ_ok k) hZ hS hX hP hD hA (ci := 7) (q0 := 0) rfl rfl) rfl rfl hl.1 rfl (lv_room (Nat.le_of_ble_eq_true rfl)) dX10_bucket_120 ⟨Nat.le_of_ble_eq_true rfl, Nat.le_of_ble_eq_true rfl⟩) hD hS hA (fun r u H locs hp hP hD hS => ?_)
        obtain ⟨c10, rfl⟩ : ∃ z, z = u := ⟨_, rfl⟩
        obtain ⟨h9, rc10, hp10⟩ : r = Int32.ofInt c10 ∧ (inR c10) ∧ (True) := hp
        subst h9
        exact W.iret (v := Int32.ofInt (c10)) hx hb hr (fun t ht hW => ⟨⟨Int32.ofInt (c10), (c10, fa 39, fa 40, 0), rfl, ⟨rfl, (show (inR c10) ∧ (∀ t, inR ((fa 39) t)) ∧ (∀ t, inR ((fa 40) t)) ∧ (inR 0) ∧ (True) from ⟨(by omega), (hRa 39), (hRa 40), (by omega), trivial⟩)⟩, by rw [ht]; exact hP, hD⟩, hS.F ht⟩) hS.2.2 dX10_bucket_123
      · refine lv_tableIn (tgt := 124) hx hb dX10_bucket_66 (by rw [iz_toInt (by omega)]; omega) (by rw [iz_toInt (by omega)]; omega) (off := 58) (by rw [iz_toInt (by omega), q6]; decide +kernel) (by decide) ?_
        refine lv_aload_n hx hb dX10_bucket_124 rfl (lv_at hl 2 rfl) ?_
        refine lv_iload_n hx hb dX10_bucket_125 rfl (lv_at hl 3 rfl) ?_
        refine lv_aload_n hx hb dX10_bucket_126 rfl (lv_at hl 2 rfl) ?_
        refine va_get (D := G) (ci := 7) (v := .int (Int32.ofInt (fi 28))) (C := RX10) (T := TX10) (N := 71) (ref := RX10) hx hb hts h1w hown hX.1 hP 0 rfl rfl 28 (by decide) h4w (fun _ h9 => h9) rfl dX10_bucket_127 ?_
        have rf28 := hR 28
        refine cr_i (va_runV (As := [.int (Int32.ofInt (b0)), .int (Int32.ofInt (fi 28))]) (rest := []) ⟨hx, hb, hml, hown, hts⟩ (mX10_depthOf l G k ar (uF fi 2 (0)) fa fl b0 (fi 28) H.size (iF hR (by omega)) hRa (by omega) (hR 28)) (cwV 2 hts gX10_bucket_X10_depthOf rfl rfl rfl (by decide +kernel) ⟨Nat.le_of_ble_eq_true rfl, Nat.le_of_ble_eq_true rfl⟩) (cr_preV (EZ_ok k) hZ hS hX hP hD hA (ci := 7) (q0 := 0) rfl rfl) rfl rfl hl.1 rfl (lv_room (Nat.le_of_ble_eq_true rfl)) dX10_bucket_130 ⟨Nat.le_of_ble_eq_true rfl, Nat.le_of_ble_eq_true rfl⟩) hD hS hA (fun r u H locs hp hP hD hS => ?_)
        obtain ⟨c11, rfl⟩ : ∃ z, z = u := ⟨_, rfl⟩
        obtain ⟨h9, rc11, hp11⟩ : r = Int32.ofInt c11 ∧ (inR c11) ∧ (True) := hp
        subst h9
        exact W.iret (v := Int32.ofInt (c11)) hx hb hr (fun t ht hW => ⟨⟨Int32.ofInt (c11), (c11, fa 39, fa 40, 0), rfl, ⟨rfl, (show (inR c11) ∧ (∀ t, inR ((fa 39) t)) ∧ (∀ t, inR ((fa 40) t)) ∧ (inR 0) ∧ (True) from ⟨(by omega), (hRa 39), (hRa 40), (by omega), trivial⟩)⟩, by rw [ht]; exact hP, hD⟩, hS.F ht⟩) hS.2.2 dX10_bucket_133
      · refine lv_tableIn (tgt := 134) hx hb dX10_bucket_66 (by rw [iz_toInt (by omega)]; omega) (by rw [iz_toInt (by omega)]; omega) (off := 68) (by rw [iz_toInt (by omega), q6]; decide +kernel) (by decide) ?_
        refine lv_iload_n hx hb dX10_bucket_134 rfl (lv_at hl 1 rfl) ?_
        exact W.iret (v := Int32.ofInt (x3_4)) hx hb hr (fun t ht hW => ⟨⟨Int32.ofInt (x3_4), (x3_4, fa 39, fa 40, 0), rfl, ⟨rfl, (show (inR x3_4) ∧ (∀ t, inR ((fa 39) t)) ∧ (∀ t, inR ((fa 40) t)) ∧ (inR 0) ∧ (True) from ⟨(by omega), (hRa 39), (hRa 40), (by omega), trivial⟩)⟩, by rw [ht]; exact hP, hD⟩, hS.F ht⟩) hS.2.2 dX10_bucket_135
      · refine lv_tableIn (tgt := 136) hx hb dX10_bucket_66 (by rw [iz_toInt (by omega)]; omega) (by rw [iz_toInt (by omega)]; omega) (off := 70) (by rw [iz_toInt (by omega), q6]; decide +kernel) (by decide) ?_
        refine lv_aload_n hx hb dX10_bucket_136 rfl (lv_at hl 2 rfl) ?_
        refine lv_aload_n hx hb dX10_bucket_137 rfl (lv_at hl 2 rfl) ?_
        refine va_get (D := G) (ci := 7) (v := .ref (ar 32)) (C := RX10) (T := TX10) (N := 71) (ref := RX10) hx hb hts h1w hown hX.1 hP 0 rfl rfl 32 (by decide) h3w (fun _ h9 => h9) rfl dX10_bucket_138 ?_
        refine lv_iload_n hx hb dX10_bucket_141 rfl (lv_at hl 3 rfl) ?_
        refine lv_aload_n hx hb dX10_bucket_142 rfl (lv_at hl 2 rfl) ?_
        refine va_get (D := G) (ci := 7) (v := .int (Int32.ofInt (fi 28))) (C := RX10) (T := TX10) (N := 71) (ref := RX10) hx hb hts h1w hown hX.1 hP 0 rfl rfl 28 (by decide) h4w (fun _ h9 => h9) rfl dX10_bucket_143 ?_
        have rf28 := hR 28
        refine cr_i (va_runV (As := [.ref (ar 32), .int (Int32.ofInt (b0)), .int (Int32.ofInt (fi 28))]) (rest := []) ⟨hx, hb, hml, hown, hts⟩ (mX10_brokenBy_32 l G k ar (uF fi 2 (0)) fa fl b0 (fi 28) H.size (iF hR (by omega)) hRa (by omega) (hR 28) (show 0 ≤ (fi 12) ∧ (fi 12) ≤ 7 from by omega) (show 0 ≤ (fi 13) ∧ (fi 13) ≤ 4 from by omega) (show ∀ q9, 0 ≤ q9 → q9 < (fi 13) → RWf ((fa 10)) ((fa 8) q9) ((fa 9) q9) from by first | exact hRW | omega)) (cwV 3 hts gX10_bucket_X10_brokenBy rfl rfl rfl (by decide +kernel) ⟨Nat.le_of_ble_eq_true rfl, Nat.le_of_ble_eq_true rfl⟩) (cr_preV (EZ_ok k) hZ hS hX hP hD hA (ci := 7) (q0 := 0) rfl rfl) rfl rfl hl.1 rfl (lv_room (Nat.le_of_ble_eq_true rfl)) dX10_bucket_146 ⟨Nat.le_of_ble_eq_true rfl, Nat.le_of_ble_eq_true rfl⟩) hD hS hA (fun r u H locs hp hP hD hS => ?_)
        obtain ⟨c12, c13, c14⟩ := u
        obtain ⟨hP, hD⟩ : va_P G vwCl (wM k ar (uF fi 2 (0)) (uF (uF fa 39 (c13)) 40 (c14)) fl) H ∧ va_D A (wM k ar (uF fi 2 (0)) (uF (uF fa 39 (c13)) 40 (c14)) fl) := ⟨hP, hD⟩
        obtain ⟨h9, rc12, rc13, rc14, hp14⟩ : r = Int32.ofInt c12 ∧ (inR c12) ∧ (∀ t, inR (c13 t)) ∧ (∀ t, inR (c14 t)) ∧ (True) := hp
        subst h9
        exact W.iret (v := Int32.ofInt (c12)) hx hb hr (fun t ht hW => ⟨⟨Int32.ofInt (c12), (c12, c13, c14, 0), rfl, ⟨rfl, (show (inR c12) ∧ (∀ t, inR (c13 t)) ∧ (∀ t, inR (c14 t)) ∧ (inR 0) ∧ (True) from ⟨(by omega), rc13, rc14, (by omega), trivial⟩)⟩, by rw [ht]; exact hP, hD⟩, hS.F ht⟩) hS.2.2 dX10_bucket_149
    · refine lv_iload_n hx hb dX10_bucket_34 rfl (lv_at hl 1 rfl) ?_
      refine lv_aload_n hx hb dX10_bucket_35 rfl (lv_at hl 2 rfl) ?_
      refine va_get (D := G) (ci := 7) (v := .ref (ar 32)) (C := RX10) (T := TX10) (N := 71) (ref := RX10) hx hb hts h1w hown hX.1 hP 0 rfl rfl 32 (by decide) h3w (fun _ h9 => h9) rfl dX10_bucket_36 ?_
      refine lv_iload hx hb dX10_bucket_39 (lv_at hl 0 rfl) ?_
      refine iv_iald hx hb hX.1 hP 11 0 rfl rfl (by omega) (by omega) (by decide) dX10_bucket_41 ?_
      refine iv_top (fun z15 ez15 => ?_)
      have rz15 : inR z15 := ez15 ▸ (hRa 32) _
      have ez15 : z15 = (fa 32) x4_3 := ez15
      refine lv_iload_n hx hb dX10_bucket_42 rfl (lv_at hl 3 rfl) ?_
      refine c0_i (va_runS (As := [.int (Int32.ofInt (z15)), .int (Int32.ofInt (b0))]) (rest := [.int (Int32.ofInt (x3_4))]) ⟨hx, hb, hml, hown, hts⟩ (mX10_isInBucket l G k z15 b0 H.size (by omega) (by omega)) (cwS 2 hts gX10_bucket_X10_isInBucket rfl rfl rfl (by decide +kernel) ⟨Nat.le_of_ble_eq_true rfl, Nat.le_of_ble_eq_true rfl⟩) (cr_pre0 (EZ_ok k) hZ hS hX hP hD hA) rfl rfl hl.1 rfl (lv_room (Nat.le_of_ble_eq_true rfl)) dX10_bucket_43 ⟨Nat.le_of_ble_eq_true rfl, Nat.le_of_ble_eq_true rfl⟩) hP hD hS hA (fun r u H locs hp hP hD hS => ?_)
      obtain ⟨c16, rfl⟩ : ∃ z, z = u := ⟨_, rfl⟩
      obtain ⟨h9, rc16, hp16⟩ : r = Int32.ofInt c16 ∧ (inR c16) ∧ ((c16 = 0 ∨ c16 = 1)) := hp
      subst h9
      refine iv_if_eq (tgt := 56) hx hb (by omega) dX10_bucket_46 (by decide) (fun q17 => ?_) (fun q17 => ?_)
      · refine lv_iconst (v := Int32.ofInt 0) hx hb dX10_bucket_56 (by decide +kernel) ?_
        refine iv_or hx hb dX10_bucket_57 ?_
        refine iv_top (fun z18 ez18 => ?_)
        have rz18 : inR z18 := ez18 ▸ bOr_r _ _
        refine lv_istore_n (lv' := [(3, .int (Int32.ofInt (z18))), (4, .int (Int32.ofInt (x4_3))), (0, .ref (ar 71)), (1, .int (Int32.ofInt (b0))), (2, .int (Int32.ofInt (w0)))]) hx hb dX10_bucket_58 rfl hl (by decide) rfl (fun ls hl => ?_)
        refine lv_iinc (v := Int32.ofInt (x4_3 + 1)) (lv' := [(4, .int (Int32.ofInt ((x4_3 + 1)))), (3, .int (Int32.ofInt (z18))), (0, .ref (ar 71)), (1, .int (Int32.ofInt (b0))), (2, .int (Int32.ofInt (w0)))]) hx hb dX10_bucket_59 hl (k := 1) rfl (Int32.ofInt_add _ _).symm (by decide) rfl (fun ls hl => ?_)
        refine lv_goto (tgt := 25) hx hb dX10_bucket_62 (by decide) ?_
        have hl : lv_has ls 5 [(4, .int (Int32.ofInt ((x4_3 + 1)))), (3, .int (Int32.ofInt (z18))), (0, .ref (ar 71)), (1, .int (Int32.ofInt (b0))), (2, .int (Int32.ofInt (w0)))] := lv_sub hl [0, 1, 2, 3, 4] rfl
        exact ih ((x4_3 + 1), z18) (show (fi 12 - (x4_3 + 1)).toNat < (fi 12 - x4_3).toNat from by omega) (show inR (x4_3 + 1) ∧ inR z18 ∧ (0 ≤ (x4_3 + 1)) from ⟨(by omega), (by omega), (by omega)⟩) _ _ _ hP hD hS hl
      · refine lv_iconst (v := Int32.ofInt 1) hx hb dX10_bucket_49 (by decide +kernel) ?_
        refine lv_iload hx hb dX10_bucket_50 (lv_at hl 0 rfl) ?_
        refine iv_shl hx hb dX10_bucket_52 ?_
        refine iv_top (fun z19 ez19 => ?_)
        have rz19 : inR z19 := ez19 ▸ bShl_r _ _
        refine lv_goto (tgt := 57) hx hb dX10_bucket_53 (by decide) ?_
        refine iv_or hx hb dX10_bucket_57 ?_
        refine iv_top (fun z20 ez20 => ?_)
        have rz20 : inR z20 := ez20 ▸ bOr_r _ _
        refine lv_istore_n (lv' := [(3, .int (Int32.ofInt (z20))), (4, .int (Int32.ofInt (x4_3))), (0, .ref (ar 71)), (1, .int (Int32.ofInt (b0))), (2, .int (Int32.ofInt (w0)))]) hx hb dX10_bucket_58 rfl hl (by decide) rfl (fun ls hl => ?_)
        refine lv_iinc (v := Int32.ofInt (x4_3 + 1)) (lv' := [(4, .int (Int32.ofInt ((x4_3 + 1)))), (3, .int (Int32.ofInt (z20))), (0, .ref (ar 71)), (1, .int (Int32.ofInt (b0))), (2, .int (Int32.ofInt (w0)))]) hx hb dX10_bucket_59 hl (k := 1) rfl (Int32.ofInt_add _ _).symm (by decide) rfl (fun ls hl => ?_)
        refine lv_goto (tgt := 25) hx hb dX10_bucket_62 (by decide) ?_
        have hl : lv_has ls 5 [(4, .int (Int32.ofInt ((x4_3 + 1)))), (3, .int (Int32.ofInt (z20))), (0, .ref (ar 71)), (1, .int (Int32.ofInt (b0))), (2, .int (Int32.ofInt (w0)))] := lv_sub hl [0, 1, 2, 3, 4] rfl
        exact ih ((x4_3 + 1), z20) (show (fi 12 - (x4_3 + 1)).toNat < (fi 12 - x4_3).toNat from by omega) (show inR (x4_3 + 1) ∧ inR z20 ∧ (0 ≤ (x4_3 + 1)) from ⟨(by omega), (by omega), (by omega)⟩) _ _ _ hP hD hS hl
  · refine lv_aload_n hx hb dX10_bucket_14 rfl (lv_at hl 0 rfl) ?_
    refine lv_iconst (v := Int32.ofInt 1) hx hb dX10_bucket_15 (by decide +kernel) ?_
    refine cr_i (va_runV (As := [.int (Int32.ofInt (1))]) (rest := []) ⟨hx, hb, hml, hown, hts⟩ (mX10_fail l G k ar (uF fi 2 (0)) fa fl 1 H.size (iF hR (by omega)) hRa (by omega)) (cwV 1 hts gX10_bucket_X10_fail rfl rfl rfl (by decide +kernel) ⟨Nat.le_of_ble_eq_true rfl, Nat.le_of_ble_eq_true rfl⟩) (cr_preV (EZ_ok k) hZ hS hX hP hD hA (ci := 7) (q0 := 0) rfl rfl) rfl rfl hl.1 rfl (lv_room (Nat.le_of_ble_eq_true rfl)) dX10_bucket_16 ⟨Nat.le_of_ble_eq_true rfl, Nat.le_of_ble_eq_true rfl⟩) hD hS hA (fun r u H locs hp hP hD hS => ?_)
    obtain ⟨c21, c22⟩ := u
    obtain ⟨hP, hD⟩ : va_P G vwCl (wM k ar (uF fi 2 (c22)) fa fl) H ∧ va_D A (wM k ar (uF fi 2 (c22)) fa fl) := ⟨hP, hD⟩
    obtain ⟨h9, rc21, rc22, hp22⟩ : r = Int32.ofInt c21 ∧ (inR c21) ∧ (inR c22) ∧ (c21 = 0 ∧ c22 = 1) := hp
    subst h9
    exact W.iret (v := Int32.ofInt (c21)) hx hb hr (fun t ht hW => ⟨⟨Int32.ofInt (c21), (c21, fa 39, fa 40, c22), rfl, ⟨rfl, (show (inR c21) ∧ (∀ t, inR ((fa 39) t)) ∧ (∀ t, inR ((fa 40) t)) ∧ (inR c22) ∧ (True) from ⟨(by omega), (hRa 39), (hRa 40), (by omega), trivial⟩)⟩, by rw [ht]; exact hP, hD⟩, hS.F ht⟩) hS.2.2 dX10_bucket_19

set_option maxHeartbeats 4000000 in
set_option maxRecDepth 100000 in
theorem mX10_tellRide_32 (l : Launch) (G : va_G) (k : Nat → ClassId) (ar : Nat → Nat) (fi : Nat → Int) (fa : Nat → Int → Int) (fl : Nat → Int64) (f0 : Int) (t0 : Int) (sz : Nat) (hR : ∀ j, inR (fi j)) (hRa : ∀ j t, inR (fa j t)) (hr_f0 : inR f0) (hr_t0 : inR t0) (hth : 0 ≤ fi 12 ∧ fi 12 ≤ 7) : CNv l G k (EZ k) yX10_tellRide wsX10_tellRide ({ frames := 3, cells := 0, slots := 0, locals := 68 }) [.ref (ar 71), .ref (ar 32), .int (Int32.ofInt (f0)), .int (Int32.ofInt (t0))] sz (wM k ar fi fa fl) (fun (u : Int × Int × Int) => (inR u.1) ∧ (inR u.2.1) ∧ (inR u.2.2) ∧ (True)) (fun (u : Int × Int × Int) => (wM k ar (uF (uF (uF fi 41 (u.1)) 42 (u.2.1)) 43 (u.2.2)) fa fl)) := by
  refine Met.ofW (cc := cX10_tellRide) (maxL := 8) (ret := none) (by decide) rfl ?_
  intro p e s m args below meth c s₁ B hml hv
  obtain ⟨rfl, hsz, hP, hX, hD0, hZ0⟩ := hv
  have hx := B.exec
  have hb := B.bytes
  have hr := B.returns
  have hts := atoms_spec (ws := wsX10_tellRide) B.pre
  have hown : s.vm.findClass RX10 = some m.cls := findClass_of_methodNamed B.named
  subst hsz
  have hD := hD0.self (sz := s.heap.size)
  have hZ := hZ0
  generalize hAe : va_A (wM k ar fi fa fl) s.heap.size = A at hD hZ ⊢
  have hA : ∀ q : Nat, s.heap.size ≤ q → A q := fun q h => by rw [← hAe]; exact Or.inr h
  have hS : va_S A s.heap s.heap [] := va_S.rf
  have hl := lv_entry ([.ref (ar 71), .ref (ar 32), .int (Int32.ofInt (f0)), .int (Int32.ofInt (t0))]) (n := 8) (Nat.le_of_ble_eq_true rfl)
  rw [lg_entry_eq]
  generalize (lg_sl ([.ref (ar 71), .ref (ar 32), .int (Int32.ofInt (f0)), .int (Int32.ofInt (t0))]) ++ List.replicate (8 - (lg_sl ([.ref (ar 71), .ref (ar 32), .int (Int32.ofInt (f0)), .int (Int32.ofInt (t0))])).length) Slot.unset).toArray = ls at hl ⊢
  have hl : lv_has ls 8 [(0, .ref (ar 71)), (1, .ref (ar 32)), (2, .int (Int32.ofInt (f0))), (3, .int (Int32.ofInt (t0)))] := hl
  obtain ⟨H, eH⟩ : ∃ H, H = s.heap := ⟨_, rfl⟩
  rw [← eH] at hP
  have hS : va_S A s.heap H [] := by rw [eH]; exact hS
  have gW : s.heap = H := eH.symm
  refine iv_heap gW ?_
  have h0w := hts (.constant RX10 383 (1000000000)) (by decide +kernel)
  have h1w := hts (.fieldLink RX10 384 "RopeTownModel" "leastExcess" "I") (by decide +kernel)
  have h2w : ∀ w ∈ wsX100, w ∈ wsX10_tellRide := by decide +kernel
  have h3w := hts (.constant RX10 387 (-1000000000)) (by decide +kernel)
  have h4w := hts (.fieldLink RX10 388 "RopeTownModel" "mostExcess" "I") (by decide +kernel)
  have h5w := hts (.fieldLink RX10 391 "RopeTownModel" "wound" "I") (by decide +kernel)
  have h6w := hts (.methodLink RX10 211 Lib.Math.min.name) (by decide +kernel)
  have h7w := hts (.static Lib.Math.min.name) (by decide +kernel)
  have h8w := hts (.initialized "java/lang/Math") (by decide +kernel)
  have h9w := hts (.code Lib.Math.min.name Lib.Math.min.code 2 (some .int)) (by decide +kernel)
  have h10w := hts (.methodLink RX10 394 Lib.Math.max.name) (by decide +kernel)
  have h11w := hts (.static Lib.Math.max.name) (by decide +kernel)
  have h12w := hts (.code Lib.Math.max.name Lib.Math.max.code 2 (some .int)) (by decide +kernel)
  have h13w := hts (.fieldLink RX10 54 "RopeTownModel" "rule" "[I") (by decide +kernel)
  refine lv_aload_n hx hb dX10_tellRide_0 rfl (lv_at hl 0 rfl) ?_
  refine lv_ldcw (v := Int32.ofInt 1000000000) hx hb hown h0w dX10_tellRide_1 ?_
  refine iv_put (ci := 7) (v := .int (Int32.ofInt (1000000000))) (ty := .int) (C := RX10) (T := TX10) (N := 71) (ref := RX10) hx hb hts h2w tyX10 tyX10_ok nmX10 hown hX.1 hP hD hS 0 rfl rfl 41 (by decide) h1w (fun _ h9 => h9) rfl (by decide +kernel) rfl rfl (Nat.le_of_ble_eq_true rfl) (wM_F41 _ _ _ _ _) dX10_tellRide_4 (fun H locs hP hD hS => ?_)
  refine lv_aload_n hx hb dX10_tellRide_7 rfl (lv_at hl 0 rfl) ?_
  refine lv_ldcw (v := Int32.ofInt (-1000000000)) hx hb hown h3w dX10_tellRide_8 ?_
  refine iv_put (ci := 7) (v := .int (Int32.ofInt ((-1000000000)))) (ty := .int) (C := RX10) (T := TX10) (N := 71) (ref := RX10) hx hb hts h2w tyX10 tyX10_ok nmX10 hown hX.1 hP hD hS 0 rfl rfl 42 (by decide) h4w (fun _ h9 => h9) rfl (by decide +kernel) rfl rfl (Nat.le_of_ble_eq_true rfl) (wM_F42 _ _ _ _ _) dX10_tellRide_11 (fun H locs hP hD hS => ?_)
  refine lv_aload_n hx hb dX10_tellRide_14 rfl (lv_at hl 0 rfl) ?_
  refine lv_iconst (v := Int32.ofInt 0) hx hb dX10_tellRide_15 (by decide +kernel) ?_
  refine iv_put (ci := 7) (v := .int (Int32.ofInt (0))) (ty := .int) (C := RX10) (T := TX10) (N := 71) (ref := RX10) hx hb hts h2w tyX10 tyX10_ok nmX10 hown hX.1 hP hD hS 0 rfl rfl 43 (by decide) h5w (fun _ h9 => h9) rfl (by decide +kernel) rfl rfl (Nat.le_of_ble_eq_true rfl) (wM_F43 _ _ _ _ _) dX10_tellRide_16 (fun H locs hP hD hS => ?_)
  refine lv_iload_n hx hb dX10_tellRide_19 rfl (lv_at hl 3 rfl) ?_
  refine lv_iload_n hx hb dX10_tellRide_20 rfl (lv_at hl 2 rfl) ?_
  refine iv_icmp_le (tgt := 28) hx hb (by omega) (by omega) dX10_tellRide_21 (by decide) (fun q1 => ?_) (fun q1 => ?_)
  · refine lv_iconst (v := Int32.ofInt (-1)) hx hb dX10_tellRide_28 (by decide +kernel) ?_
    refine lv_istore (lv' := [(4, .int (Int32.ofInt ((-1)))), (0, .ref (ar 71)), (1, .ref (ar 32)), (2, .int (Int32.ofInt (f0))), (3, .int (Int32.ofInt (t0)))]) hx hb dX10_tellRide_29 hl (by decide) rfl (fun ls hl => ?_)
    refine iv_join (G := G) (A := A) (H0 := s.heap) (α := Int × Int) (nL := 8) 41 (fun b9 => [.int (Int32.ofInt (b9.2))]) (fun b9 => (wM k ar (uF (uF (uF fi 41 (1000000000)) 42 ((-1000000000))) 43 (0)) fa fl)) (fun b9 => [(4, .int (Int32.ofInt (b9.1))), (0, .ref (ar 71)), (1, .ref (ar 32)), (2, .int (Int32.ofInt (f0))), (3, .int (Int32.ofInt (t0)))]) (fun b9 => inR b9.1 ∧ inR b9.2 ∧ (True)) ?_ (fun J41 => ?_)
    · rintro ⟨x4_2, s0_3⟩ hi9 H locs ls hP hD hS hl
      obtain ⟨r_x4_2, r_s0_3, hinv⟩ : inR x4_2 ∧ inR s0_3 ∧ (True) := hi9
      obtain ⟨hP, hD⟩ : va_P G vwCl (wM k ar (uF (uF (uF fi 41 (1000000000)) 42 ((-1000000000))) 43 (0)) fa fl) H ∧ va_D A (wM k ar (uF (uF (uF fi 41 (1000000000)) 42 ((-1000000000))) 43 (0)) fa fl) := ⟨hP, hD⟩
      have hl : lv_has ls 8 [(4, .int (Int32.ofInt (x4_2))), (0, .ref (ar 71)), (1, .ref (ar 32)), (2, .int (Int32.ofInt (f0))), (3, .int (Int32.ofInt (t0)))] := hl
      refine lv_istore (lv' := [(5, .int (Int32.ofInt (s0_3))), (4, .int (Int32.ofInt (x4_2))), (0, .ref (ar 71)), (1, .ref (ar 32)), (2, .int (Int32.ofInt (f0))), (3, .int (Int32.ofInt (t0)))]) hx hb dX10_tellRide_41 hl (by decide) rfl (fun ls hl => ?_)
      refine lv_iload_n hx hb dX10_tellRide_43 rfl (lv_at hl 4 rfl) ?_
      refine lv_istore (lv' := [(6, .int (Int32.ofInt (f0))), (5, .int (Int32.ofInt (s0_3))), (4, .int (Int32.ofInt (x4_2))), (0, .ref (ar 71)), (1, .ref (ar 32)), (2, .int (Int32.ofInt (f0))), (3, .int (Int32.ofInt (t0)))]) hx hb dX10_tellRide_44 hl (by decide) rfl (fun ls hl => ?_)
      refine iv_loop (α := Int × Int × Int × Int) (nL := 8) (fun b9 => (wM k ar (uF (uF (uF fi 41 (b9.2.1)) 42 (b9.2.2.1)) 43 (b9.2.2.2)) fa fl)) (fun b9 => [(6, .int (Int32.ofInt (b9.1))), (5, .int (Int32.ofInt (s0_3))), (4, .int (Int32.ofInt (x4_2))), (0, .ref (ar 71)), (1, .ref (ar 32)), (2, .int (Int32.ofInt (f0))), (3, .int (Int32.ofInt (t0)))]) (fun b9 => (x4_2 * (t0 - b9.1)).toNat) (fun b9 => inR b9.1 ∧ inR b9.2.1 ∧ inR b9.2.2.1 ∧ inR b9.2.2.2 ∧ (0 ≤ x4_2 * (t0 - b9.1))) ?_ (f0, 1000000000, (-1000000000), 0) (show inR f0 ∧ inR 1000000000 ∧ inR (-1000000000) ∧ inR 0 ∧ (0 ≤ x4_2 * (t0 - f0)) from ⟨(by omega), (by omega), (by omega), (by omega), (by omega)⟩) hP hD hS hl
      rintro ⟨x6_4, n41_5, n42_6, n43_7⟩ ih hi9 H locs ls hP hD hS hl
      obtain ⟨r_x6_4, r_n41_5, r_n42_6, r_n43_7, hinv⟩ : inR x6_4 ∧ inR n41_5 ∧ inR n42_6 ∧ inR n43_7 ∧ (0 ≤ x4_2 * (t0 - x6_4)) := hi9
      obtain ⟨hP, hD⟩ : va_P G vwCl (wM k ar (uF (uF (uF fi 41 (n41_5)) 42 (n42_6)) 43 (n43_7)) fa fl) H ∧ va_D A (wM k ar (uF (uF (uF fi 41 (n41_5)) 42 (n42_6)) 43 (n43_7)) fa fl) := ⟨hP, hD⟩
      have hl : lv_has ls 8 [(6, .int (Int32.ofInt (x6_4))), (5, .int (Int32.ofInt (s0_3))), (4, .int (Int32.ofInt (x4_2))), (0, .ref (ar 71)), (1, .ref (ar 32)), (2, .int (Int32.ofInt (f0))), (3, .int (Int32.ofInt (t0)))] := hl
      refine lv_iload hx hb dX10_tellRide_46 (lv_at hl 0 rfl) ?_
      refine lv_iload_n hx hb dX10_tellRide_48 rfl (lv_at hl 6 rfl) ?_
      refine iv_icmp_eq (tgt := 155) hx hb (by omega) (by omega) dX10_tellRide_49 (by decide) (fun q8 => ?_) (fun q8 => ?_)
      · exact W.vret hx hb hr (fun t ht hW => ⟨⟨(n41_5, n42_6, n43_7), rfl, (show (inR n41_5) ∧ (inR n42_6) ∧ (inR n43_7) ∧ (True) from ⟨(by omega), (by omega), (by omega), trivial⟩), by rw [ht]; exact hP, hD⟩, hS.F ht⟩) hS.2.2 dX10_tellRide_155
      · refine lv_aload_n hx hb dX10_tellRide_52 rfl (lv_at hl 3 rfl) ?_
        refine lv_aload_n hx hb dX10_tellRide_53 rfl (lv_at hl 4 rfl) ?_
        refine lv_iload hx hb dX10_tellRide_54 (lv_at hl 1 rfl) ?_
        refine lv_iload hx hb dX10_tellRide_56 (lv_at hl 0 rfl) ?_
        refine cr_i (va_runV (As := [.ref (ar 32), .int (Int32.ofInt (s0_3)), .int (Int32.ofInt (x6_4))]) (rest := []) ⟨hx, hb, hml, hown, hts⟩ (mX10_sideOf_32 l G k ar (uF (uF (uF fi 41 (n41_5)) 42 (n42_6)) 43 (n43_7)) fa fl s0_3 x6_4 H.size (iF (iF (iF hR (by omega)) (by omega)) (by omega)) hRa (by omega) (by omega) (show 0 ≤ (fi 12) ∧ (fi 12) ≤ 7 from by omega)) (cwV 3 hts gX10_tellRide_X10_sideOf rfl rfl rfl (by decide +kernel) ⟨Nat.le_of_ble_eq_true rfl, Nat.le_of_ble_eq_true rfl⟩) (cr_preV (EZ_ok k) hZ hS hX hP hD hA (ci := 7) (q0 := 0) rfl rfl) rfl rfl hl.1 rfl (lv_room (Nat.le_of_ble_eq_true rfl)) dX10_tellRide_58 ⟨Nat.le_of_ble_eq_true rfl, Nat.le_of_ble_eq_true rfl⟩) hD hS hA (fun r u H locs hp hP hD hS => ?_)
        obtain ⟨c9, rfl⟩ : ∃ z, z = u := ⟨_, rfl⟩
        obtain ⟨h9, rc9, hp9⟩ : r = Int32.ofInt c9 ∧ (inR c9) ∧ (True) := hp
        subst h9
        refine lv_aload_n hx hb dX10_tellRide_61 rfl (lv_at hl 3 rfl) ?_
        refine lv_aload_n hx hb dX10_tellRide_62 rfl (lv_at hl 4 rfl) ?_
        refine lv_iconst (v := Int32.ofInt 1) hx hb dX10_tellRide_63 (by decide +kernel) ?_
        refine lv_iload hx hb dX10_tellRide_64 (lv_at hl 1 rfl) ?_
        refine iv_sub (x := 1) (y := s0_3) hx hb dX10_tellRide_66 ?_
        refine iv_wr ?_
        refine iv_top (fun z10 ez10 => ?_)
        have rz10 : inR z10 := ez10 ▸ bWr_r _
        refine lv_iload hx hb dX10_tellRide_67 (lv_at hl 0 rfl) ?_
        refine cr_i (va_runV (As := [.ref (ar 32), .int (Int32.ofInt (z10)), .int (Int32.ofInt (x6_4))]) (rest := [.int (Int32.ofInt (c9))]) ⟨hx, hb, hml, hown, hts⟩ (mX10_sideOf_32 l G k ar (uF (uF (uF fi 41 (n41_5)) 42 (n42_6)) 43 (n43_7)) fa fl z10 x6_4 H.size (iF (iF (iF hR (by omega)) (by omega)) (by omega)) hRa (by omega) (by omega) (show 0 ≤ (fi 12) ∧ (fi 12) ≤ 7 from by omega)) (cwV 3 hts gX10_tellRide_X10_sideOf rfl rfl rfl (by decide +kernel) ⟨Nat.le_of_ble_eq_true rfl, Nat.le_of_ble_eq_true rfl⟩) (cr_preV (EZ_ok k) hZ hS hX hP hD hA (ci := 7) (q0 := 0) rfl rfl) rfl rfl hl.1 rfl (lv_room (Nat.le_of_ble_eq_true rfl)) dX10_tellRide_69 ⟨Nat.le_of_ble_eq_true rfl, Nat.le_of_ble_eq_true rfl⟩) hD hS hA (fun r u H locs hp hP hD hS => ?_)
        obtain ⟨c11, rfl⟩ : ∃ z, z = u := ⟨_, rfl⟩
        obtain ⟨h9, rc11, hp11⟩ : r = Int32.ofInt c11 ∧ (inR c11) ∧ (True) := hp
        subst h9
        refine iv_sub (x := c9) (y := c11) hx hb dX10_tellRide_72 ?_
        refine iv_wr ?_
        refine iv_top (fun z12 ez12 => ?_)
        have rz12 : inR z12 := ez12 ▸ bWr_r _
        refine lv_istore (lv' := [(7, .int (Int32.ofInt (z12))), (6, .int (Int32.ofInt (x6_4))), (5, .int (Int32.ofInt (s0_3))), (4, .int (Int32.ofInt (x4_2))), (0, .ref (ar 71)), (1, .ref (ar 32)), (2, .int (Int32.ofInt (f0))), (3, .int (Int32.ofInt (t0)))]) hx hb dX10_tellRide_73 hl (by decide) rfl (fun ls hl => ?_)
        refine lv_aload_n hx hb dX10_tellRide_75 rfl (lv_at hl 4 rfl) ?_
        refine lv_aload_n hx hb dX10_tellRide_76 rfl (lv_at hl 4 rfl) ?_
        refine va_get (D := G) (ci := 7) (v := .int (Int32.ofInt (n41_5))) (C := RX10) (T := TX10) (N := 71) (ref := RX10) hx hb hts h2w hown hX.1 hP 0 rfl rfl 41 (by decide) h1w (fun _ h9 => h9) rfl dX10_tellRide_77 ?_
        refine lv_iload hx hb dX10_tellRide_80 (lv_at hl 0 rfl) ?_
        refine iv_mmin hx hb (hml.trans hl.1.symm) hown h6w h7w h8w h9w (Nat.le_of_ble_eq_true rfl) (Nat.le_of_ble_eq_true rfl) (Nat.le_of_ble_eq_true rfl) (Nat.le_of_ble_eq_true rfl) (by omega) (by omega) dX10_tellRide_82 (fun z13 ez13 => ?_)
        have rz13 : inR z13 := by omega
        refine iv_put (ci := 7) (v := .int (Int32.ofInt (z13))) (ty := .int) (C := RX10) (T := TX10) (N := 71) (ref := RX10) hx hb hts h2w tyX10 tyX10_ok nmX10 hown hX.1 hP hD hS 0 rfl rfl 41 (by decide) h1w (fun _ h9 => h9) rfl (by decide +kernel) rfl rfl (Nat.le_of_ble_eq_true rfl) (wM_F41 _ _ _ _ _) dX10_tellRide_85 (fun H locs hP hD hS => ?_)
        obtain ⟨hP, hD⟩ : va_P G vwCl (wM k ar (uF (uF (uF fi 41 (z13)) 42 (n42_6)) 43 (n43_7)) fa fl) H ∧ va_D A (wM k ar (uF (uF (uF fi 41 (z13)) 42 (n42_6)) 43 (n43_7)) fa fl) := ⟨hP, hD⟩
        refine lv_aload_n hx hb dX10_tellRide_88 rfl (lv_at hl 4 rfl) ?_
        refine lv_aload_n hx hb dX10_tellRide_89 rfl (lv_at hl 4 rfl) ?_
        refine va_get (D := G) (ci := 7) (v := .int (Int32.ofInt (n42_6))) (C := RX10) (T := TX10) (N := 71) (ref := RX10) hx hb hts h2w hown hX.1 hP 0 rfl rfl 42 (by decide) h4w (fun _ h9 => h9) rfl dX10_tellRide_90 ?_
        refine lv_iload hx hb dX10_tellRide_93 (lv_at hl 0 rfl) ?_
        refine iv_mmax hx hb (hml.trans hl.1.symm) hown h10w h11w h8w h12w (Nat.le_of_ble_eq_true rfl) (Nat.le_of_ble_eq_true rfl) (Nat.le_of_ble_eq_true rfl) (Nat.le_of_ble_eq_true rfl) (by omega) (by omega) dX10_tellRide_95 (fun z14 ez14 => ?_)
        have rz14 : inR z14 := by omega
        refine iv_put (ci := 7) (v := .int (Int32.ofInt (z14))) (ty := .int) (C := RX10) (T := TX10) (N := 71) (ref := RX10) hx hb hts h2w tyX10 tyX10_ok nmX10 hown hX.1 hP hD hS 0 rfl rfl 42 (by decide) h4w (fun _ h9 => h9) rfl (by decide +kernel) rfl rfl (Nat.le_of_ble_eq_true rfl) (wM_F42 _ _ _ _ _) dX10_tellRide_98 (fun H locs hP hD hS => ?_)
        obtain ⟨hP, hD⟩ : va_P G vwCl (wM k ar (uF (uF (uF fi 41 (z13)) 42 (z14)) 43 (n43_7)) fa fl) H ∧ va_D A (wM k ar (uF (uF (uF fi 41 (z13)) 42 (z14)) 43 (n43_7)) fa fl) := ⟨hP, hD⟩
        refine lv_aload_n hx hb dX10_tellRide_101 rfl (lv_at hl 4 rfl) ?_
        refine lv_dup hx hb dX10_tellRide_102 rfl ?_
        refine va_get (D := G) (ci := 7) (v := .int (Int32.ofInt (n43_7))) (C := RX10) (T := TX10) (N := 71) (ref := RX10) hx hb hts h2w hown hX.1 hP 0 rfl rfl 43 (by decide) h5w (fun _ h9 => h9) rfl dX10_tellRide_103 ?_
        refine lv_iconst (v := Int32.ofInt 0) hx hb dX10_tellRide_106 (by decide +kernel) ?_
        refine lv_aload_n hx hb dX10_tellRide_107 rfl (lv_at hl 4 rfl) ?_
        refine va_get (D := G) (ci := 7) (v := .ref (ar 3)) (C := RX10) (T := TX10) (N := 71) (ref := RX10) hx hb hts h2w hown hX.1 hP 0 rfl rfl 3 (by decide) h13w (fun _ h9 => h9) rfl dX10_tellRide_108 ?_
        refine lv_iconst (v := Int32.ofInt 4) hx hb dX10_tellRide_111 (by decide +kernel) ?_
        refine iv_iald hx hb hX.1 hP 1 0 rfl rfl (by omega) (by omega) (by decide) dX10_tellRide_112 ?_
        refine iv_top (fun z15 ez15 => ?_)
        have rz15 : inR z15 := ez15 ▸ (hRa 3) _
        have ez15 : z15 = (fa 3) 4 := ez15
        refine lv_iload hx hb dX10_tellRide_113 (lv_at hl 0 rfl) ?_
        refine iv_sub (x := z15) (y := z12) hx hb dX10_tellRide_115 ?_
        refine iv_wr ?_
        refine iv_top (fun z16 ez16 => ?_)
        have rz16 : inR z16 := ez16 ▸ bWr_r _
        refine iv_mmax hx hb (hml.trans hl.1.symm) hown h10w h11w h8w h12w (Nat.le_of_ble_eq_true rfl) (Nat.le_of_ble_eq_true rfl) (Nat.le_of_ble_eq_true rfl) (Nat.le_of_ble_eq_true rfl) (by omega) (by omega) dX10_tellRide_116 (fun z17 ez17 => ?_)
        have rz17 : inR z17 := by omega
        refine lv_iconst (v := Int32.ofInt 0) hx hb dX10_tellRide_119 (by decide +kernel) ?_
        refine lv_iload hx hb dX10_tellRide_120 (lv_at hl 0 rfl) ?_
        refine lv_aload_n hx hb dX10_tellRide_122 rfl (lv_at hl 4 rfl) ?_
        refine va_get (D := G) (ci := 7) (v := .ref (ar 3)) (C := RX10) (T := TX10) (N := 71) (ref := RX10) hx hb hts h2w hown hX.1 hP 0 rfl rfl 3 (by decide) h13w (fun _ h9 => h9) rfl dX10_tellRide_123 ?_
        refine lv_iconst (v := Int32.ofInt 5) hx hb dX10_tellRide_126 (by decide +kernel) ?_
        refine iv_iald hx hb hX.1 hP 1 0 rfl rfl (by omega) (by omega) (by decide) dX10_tellRide_127 ?_
        refine iv_top (fun z18 ez18 => ?_)
        have rz18 : inR z18 := ez18 ▸ (hRa 3) _
        have ez18 : z18 = (fa 3) 5 := ez18
        refine iv_sub (x := z12) (y := z18) hx hb dX10_tellRide_128 ?_
        refine iv_wr ?_
        refine iv_top (fun z19 ez19 => ?_)
        have rz19 : inR z19 := ez19 ▸ bWr_r _
        refine lv_aload_n hx hb dX10_tellRide_129 rfl (lv_at hl 4 rfl) ?_
        refine va_get (D := G) (ci := 7) (v := .ref (ar 3)) (C := RX10) (T := TX10) (N := 71) (ref := RX10) hx hb hts h2w hown hX.1 hP 0 rfl rfl 3 (by decide) h13w (fun _ h9 => h9) rfl dX10_tellRide_130 ?_
        refine lv_bipush (v := Int32.ofInt 6) hx hb dX10_tellRide_133 (by decide +kernel) ?_
        refine iv_iald hx hb hX.1 hP 1 0 rfl rfl (by omega) (by omega) (by decide) dX10_tellRide_135 ?_
        refine iv_top (fun z20 ez20 => ?_)
        have rz20 : inR z20 := ez20 ▸ (hRa 3) _
        have ez20 : z20 = (fa 3) 6 := ez20
        refine iv_sub (x := z19) (y := z20) hx hb dX10_tellRide_136 ?_
        refine iv_wr ?_
        refine iv_top (fun z21 ez21 => ?_)
        have rz21 : inR z21 := ez21 ▸ bWr_r _
        refine iv_mmax hx hb (hml.trans hl.1.symm) hown h10w h11w h8w h12w (Nat.le_of_ble_eq_true rfl) (Nat.le_of_ble_eq_true rfl) (Nat.le_of_ble_eq_true rfl) (Nat.le_of_ble_eq_true rfl) (by omega) (by omega) dX10_tellRide_137 (fun z22 ez22 => ?_)
        have rz22 : inR z22 := by omega
        refine iv_add (x := z17) (y := z22) hx hb dX10_tellRide_140 ?_
        refine iv_wr ?_
        refine iv_top (fun z23 ez23 => ?_)
        have rz23 : inR z23 := ez23 ▸ bWr_r _
        refine iv_add (x := n43_7) (y := z23) hx hb dX10_tellRide_141 ?_
        refine iv_wr ?_
        refine iv_top (fun z24 ez24 => ?_)
        have rz24 : inR z24 := ez24 ▸ bWr_r _
        refine iv_put (ci := 7) (v := .int (Int32.ofInt (z24))) (ty := .int) (C := RX10) (T := TX10) (N := 71) (ref := RX10) hx hb hts h2w tyX10 tyX10_ok nmX10 hown hX.1 hP hD hS 0 rfl rfl 43 (by decide) h5w (fun _ h9 => h9) rfl (by decide +kernel) rfl rfl (Nat.le_of_ble_eq_true rfl) (wM_F43 _ _ _ _ _) dX10_tellRide_142 (fun H locs hP hD hS => ?_)
        obtain ⟨hP, hD⟩ : va_P G vwCl (wM k ar (uF (uF (uF fi 41 (z13)) 42 (z14)) 43 (z24)) fa fl) H ∧ va_D A (wM k ar (uF (uF (uF fi 41 (z13)) 42 (z14)) 43 (z24)) fa fl) := ⟨hP, hD⟩
        refine lv_iload hx hb dX10_tellRide_145 (lv_at hl 1 rfl) ?_
        refine lv_iload hx hb dX10_tellRide_147 (lv_at hl 3 rfl) ?_
        refine iv_add (x := x6_4) (y := x4_2) hx hb dX10_tellRide_149 ?_
        refine lv_istore (lv' := [(6, .int (Int32.ofInt ((x6_4 + x4_2)))), (7, .int (Int32.ofInt (z12))), (5, .int (Int32.ofInt (s0_3))), (4, .int (Int32.ofInt (x4_2))), (0, .ref (ar 71)), (1, .ref (ar 32)), (2, .int (Int32.ofInt (f0))), (3, .int (Int32.ofInt (t0)))]) hx hb dX10_tellRide_150 hl (by decide) rfl (fun ls hl => ?_)
        refine lv_goto (tgt := 46) hx hb dX10_tellRide_152 (by decide) ?_
        have hl : lv_has ls 8 [(6, .int (Int32.ofInt ((x6_4 + x4_2)))), (5, .int (Int32.ofInt (s0_3))), (4, .int (Int32.ofInt (x4_2))), (0, .ref (ar 71)), (1, .ref (ar 32)), (2, .int (Int32.ofInt (f0))), (3, .int (Int32.ofInt (t0)))] := lv_sub hl [0, 2, 3, 4, 5, 6, 7] rfl
        exact ih ((x6_4 + x4_2), z13, z14, z24) (show (x4_2 * (t0 - (x6_4 + x4_2))).toNat < (x4_2 * (t0 - x6_4)).toNat from by omega) (show inR (x6_4 + x4_2) ∧ inR z13 ∧ inR z14 ∧ inR z24 ∧ (0 ≤ x4_2 * (t0 - (x6_4 + x4_2))) from ⟨(by omega), (by omega), (by omega), (by omega), (by omega)⟩) _ _ _ hP hD hS hl
    · refine lv_iload_n hx hb dX10_tellRide_31 rfl (lv_at hl 4 rfl) ?_
      refine lv_iload_n hx hb dX10_tellRide_32 rfl (lv_at hl 3 rfl) ?_
      refine iv_icmp_le (tgt := 40) hx hb (by omega) (by omega) dX10_tellRide_33 (by decide) (fun q25 => ?_) (fun q25 => ?_)
      · refine lv_iconst (v := Int32.ofInt 1) hx hb dX10_tellRide_40 (by decide +kernel) ?_
        have hl : lv_has ls 8 [(4, .int (Int32.ofInt ((-1)))), (0, .ref (ar 71)), (1, .ref (ar 32)), (2, .int (Int32.ofInt (f0))), (3, .int (Int32.ofInt (t0)))] := lv_sub hl [0, 1, 2, 3, 4] rfl
        exact J41 ((-1), 1) (show inR (-1) ∧ inR 1 ∧ (True) from ⟨(by omega), (by omega), (by trivial)⟩) _ _ _ hP hD hS hl
      · refine lv_iconst (v := Int32.ofInt 0) hx hb dX10_tellRide_36 (by decide +kernel) ?_
        refine lv_goto (tgt := 41) hx hb dX10_tellRide_37 (by decide) ?_
        have hl : lv_has ls 8 [(4, .int (Int32.ofInt ((-1)))), (0, .ref (ar 71)), (1, .ref (ar 32)), (2, .int (Int32.ofInt (f0))), (3, .int (Int32.ofInt (t0)))] := lv_sub hl [0, 1, 2, 3, 4] rfl
        exact J41 ((-1), 0) (show inR (-1) ∧ inR 0 ∧ (True) from ⟨(by omega), (by omega), (by trivial)⟩) _ _ _ hP hD hS hl
  · refine lv_iconst (v := Int32.ofInt 1) hx hb dX10_tellRide_24 (by decide +kernel) ?_
    refine lv_goto (tgt := 29) hx hb dX10_tellRide_25 (by decide) ?_
    refine lv_istore (lv' := [(4, .int (Int32.ofInt (1))), (0, .ref (ar 71)), (1, .ref (ar 32)), (2, .int (Int32.ofInt (f0))), (3, .int (Int32.ofInt (t0)))]) hx hb dX10_tellRide_29 hl (by decide) rfl (fun ls hl => ?_)
    refine iv_join (G := G) (A := A) (H0 := s.heap) (α := Int × Int) (nL := 8) 41 (fun b9 => [.int (Int32.ofInt (b9.2))]) (fun b9 => (wM k ar (uF (uF (uF fi 41 (1000000000)) 42 ((-1000000000))) 43 (0)) fa fl)) (fun b9 => [(4, .int (Int32.ofInt (b9.1))), (0, .ref (ar 71)), (1, .ref (ar 32)), (2, .int (Int32.ofInt (f0))), (3, .int (Int32.ofInt (t0)))]) (fun b9 => inR b9.1 ∧ inR b9.2 ∧ (True)) ?_ (fun J41 => ?_)
    · rintro ⟨x4_26, s0_27⟩ hi9 H locs ls hP hD hS hl
      obtain ⟨r_x4_26, r_s0_27, hinv⟩ : inR x4_26 ∧ inR s0_27 ∧ (True) := hi9
      obtain ⟨hP, hD⟩ : va_P G vwCl (wM k ar (uF (uF (uF fi 41 (1000000000)) 42 ((-1000000000))) 43 (0)) fa fl) H ∧ va_D A (wM k ar (uF (uF (uF fi 41 (1000000000)) 42 ((-1000000000))) 43 (0)) fa fl) := ⟨hP, hD⟩
      have hl : lv_has ls 8 [(4, .int (Int32.ofInt (x4_26))), (0, .ref (ar 71)), (1, .ref (ar 32)), (2, .int (Int32.ofInt (f0))), (3, .int (Int32.ofInt (t0)))] := hl
      refine lv_istore (lv' := [(5, .int (Int32.ofInt (s0_27))), (4, .int (Int32.ofInt (x4_26))), (0, .ref (ar 71)), (1, .ref (ar 32)), (2, .int (Int32.ofInt (f0))), (3, .int (Int32.ofInt (t0)))]) hx hb dX10_tellRide_41 hl (by decide) rfl (fun ls hl => ?_)
      refine lv_iload_n hx hb dX10_tellRide_43 rfl (lv_at hl 4 rfl) ?_
      refine lv_istore (lv' := [(6, .int (Int32.ofInt (f0))), (5, .int (Int32.ofInt (s0_27))), (4, .int (Int32.ofInt (x4_26))), (0, .ref (ar 71)), (1, .ref (ar 32)), (2, .int (Int32.ofInt (f0))), (3, .int (Int32.ofInt (t0)))]) hx hb dX10_tellRide_44 hl (by decide) rfl (fun ls hl => ?_)
      refine iv_loop (α := Int × Int × Int × Int) (nL := 8) (fun b9 => (wM k ar (uF (uF (uF fi 41 (b9.2.1)) 42 (b9.2.2.1)) 43 (b9.2.2.2)) fa fl)) (fun b9 => [(6, .int (Int32.ofInt (b9.1))), (5, .int (Int32.ofInt (s0_27))), (4, .int (Int32.ofInt (x4_26))), (0, .ref (ar 71)), (1, .ref (ar 32)), (2, .int (Int32.ofInt (f0))), (3, .int (Int32.ofInt (t0)))]) (fun b9 => (x4_26 * (t0 - b9.1)).toNat) (fun b9 => inR b9.1 ∧ inR b9.2.1 ∧ inR b9.2.2.1 ∧ inR b9.2.2.2 ∧ (0 ≤ x4_26 * (t0 - b9.1))) ?_ (f0, 1000000000, (-1000000000), 0) (show inR f0 ∧ inR 1000000000 ∧ inR (-1000000000) ∧ inR 0 ∧ (0 ≤ x4_26 * (t0 - f0)) from ⟨(by omega), (by omega), (by omega), (by omega), (by omega)⟩) hP hD hS hl
      rintro ⟨x6_28, n41_29, n42_30, n43_31⟩ ih hi9 H locs ls hP hD hS hl
      obtain ⟨r_x6_28, r_n41_29, r_n42_30, r_n43_31, hinv⟩ : inR x6_28 ∧ inR n41_29 ∧ inR n42_30 ∧ inR n43_31 ∧ (0 ≤ x4_26 * (t0 - x6_28)) := hi9
      obtain ⟨hP, hD⟩ : va_P G vwCl (wM k ar (uF (uF (uF fi 41 (n41_29)) 42 (n42_30)) 43 (n43_31)) fa fl) H ∧ va_D A (wM k ar (uF (uF (uF fi 41 (n41_29)) 42 (n42_30)) 43 (n43_31)) fa fl) := ⟨hP, hD⟩
      have hl : lv_has ls 8 [(6, .int (Int32.ofInt (x6_28))), (5, .int (Int32.ofInt (s0_27))), (4, .int (Int32.ofInt (x4_26))), (0, .ref (ar 71)), (1, .ref (ar 32)), (2, .int (Int32.ofInt (f0))), (3, .int (Int32.ofInt (t0)))] := hl
      refine lv_iload hx hb dX10_tellRide_46 (lv_at hl 0 rfl) ?_
      refine lv_iload_n hx hb dX10_tellRide_48 rfl (lv_at hl 6 rfl) ?_
      refine iv_icmp_eq (tgt := 155) hx hb (by omega) (by omega) dX10_tellRide_49 (by decide) (fun q32 => ?_) (fun q32 => ?_)
      · exact W.vret hx hb hr (fun t ht hW => ⟨⟨(n41_29, n42_30, n43_31), rfl, (show (inR n41_29) ∧ (inR n42_30) ∧ (inR n43_31) ∧ (True) from ⟨(by omega), (by omega), (by omega), trivial⟩), by rw [ht]; exact hP, hD⟩, hS.F ht⟩) hS.2.2 dX10_tellRide_155
      · refine lv_aload_n hx hb dX10_tellRide_52 rfl (lv_at hl 3 rfl) ?_
        refine lv_aload_n hx hb dX10_tellRide_53 rfl (lv_at hl 4 rfl) ?_
        refine lv_iload hx hb dX10_tellRide_54 (lv_at hl 1 rfl) ?_
        refine lv_iload hx hb dX10_tellRide_56 (lv_at hl 0 rfl) ?_
        refine cr_i (va_runV (As := [.ref (ar 32), .int (Int32.ofInt (s0_27)), .int (Int32.ofInt (x6_28))]) (rest := []) ⟨hx, hb, hml, hown, hts⟩ (mX10_sideOf_32 l G k ar (uF (uF (uF fi 41 (n41_29)) 42 (n42_30)) 43 (n43_31)) fa fl s0_27 x6_28 H.size (iF (iF (iF hR (by omega)) (by omega)) (by omega)) hRa (by omega) (by omega) (show 0 ≤ (fi 12) ∧ (fi 12) ≤ 7 from by omega)) (cwV 3 hts gX10_tellRide_X10_sideOf rfl rfl rfl (by decide +kernel) ⟨Nat.le_of_ble_eq_true rfl, Nat.le_of_ble_eq_true rfl⟩) (cr_preV (EZ_ok k) hZ hS hX hP hD hA (ci := 7) (q0 := 0) rfl rfl) rfl rfl hl.1 rfl (lv_room (Nat.le_of_ble_eq_true rfl)) dX10_tellRide_58 ⟨Nat.le_of_ble_eq_true rfl, Nat.le_of_ble_eq_true rfl⟩) hD hS hA (fun r u H locs hp hP hD hS => ?_)
        obtain ⟨c33, rfl⟩ : ∃ z, z = u := ⟨_, rfl⟩
        obtain ⟨h9, rc33, hp33⟩ : r = Int32.ofInt c33 ∧ (inR c33) ∧ (True) := hp
        subst h9
        refine lv_aload_n hx hb dX10_tellRide_61 rfl (lv_at hl 3 rfl) ?_
        refine lv_aload_n hx hb dX10_tellRide_62 rfl (lv_at hl 4 rfl) ?_
        refine lv_iconst (v := Int32.ofInt 1) hx hb dX10_tellRide_63 (by decide +kernel) ?_
        refine lv_iload hx hb dX10_tellRide_64 (lv_at hl 1 rfl) ?_
        refine iv_sub (x := 1) (y := s0_27) hx hb dX10_tellRide_66 ?_
        refine iv_wr ?_
        refine iv_top (fun z34 ez34 => ?_)
        have rz34 : inR z34 := ez34 ▸ bWr_r _
        refine lv_iload hx hb dX10_tellRide_67 (lv_at hl 0 rfl) ?_
        refine cr_i (va_runV (As := [.ref (ar 32), .int (Int32.ofInt (z34)), .int (Int32.ofInt (x6_28))]) (rest := [.int (Int32.ofInt (c33))]) ⟨hx, hb, hml, hown, hts⟩ (mX10_sideOf_32 l G k ar (uF (uF (uF fi 41 (n41_29)) 42 (n42_30)) 43 (n43_31)) fa fl z34 x6_28 H.size (iF (iF (iF hR (by omega)) (by omega)) (by omega)) hRa (by omega) (by omega) (show 0 ≤ (fi 12) ∧ (fi 12) ≤ 7 from by omega)) (cwV 3 hts gX10_tellRide_X10_sideOf rfl rfl rfl (by decide +kernel) ⟨Nat.le_of_ble_eq_true rfl, Nat.le_of_ble_eq_true rfl⟩) (cr_preV (EZ_ok k) hZ hS hX hP hD hA (ci := 7) (q0 := 0) rfl rfl) rfl rfl hl.1 rfl (lv_room (Nat.le_of_ble_eq_true rfl)) dX10_tellRide_69 ⟨Nat.le_of_ble_eq_true rfl, Nat.le_of_ble_eq_true rfl⟩) hD hS hA (fun r u H locs hp hP hD hS => ?_)
        obtain ⟨c35, rfl⟩ : ∃ z, z = u := ⟨_, rfl⟩
        obtain ⟨h9, rc35, hp35⟩ : r = Int32.ofInt c35 ∧ (inR c35) ∧ (True) := hp
        subst h9
        refine iv_sub (x := c33) (y := c35) hx hb dX10_tellRide_72 ?_
        refine iv_wr ?_
        refine iv_top (fun z36 ez36 => ?_)
        have rz36 : inR z36 := ez36 ▸ bWr_r _
        refine lv_istore (lv' := [(7, .int (Int32.ofInt (z36))), (6, .int (Int32.ofInt (x6_28))), (5, .int (Int32.ofInt (s0_27))), (4, .int (Int32.ofInt (x4_26))), (0, .ref (ar 71)), (1, .ref (ar 32)), (2, .int (Int32.ofInt (f0))), (3, .int (Int32.ofInt (t0)))]) hx hb dX10_tellRide_73 hl (by decide) rfl (fun ls hl => ?_)
        refine lv_aload_n hx hb dX10_tellRide_75 rfl (lv_at hl 4 rfl) ?_
        refine lv_aload_n hx hb dX10_tellRide_76 rfl (lv_at hl 4 rfl) ?_
        refine va_get (D := G) (ci := 7) (v := .int (Int32.ofInt (n41_29))) (C := RX10) (T := TX10) (N := 71) (ref := RX10) hx hb hts h2w hown hX.1 hP 0 rfl rfl 41 (by decide) h1w (fun _ h9 => h9) rfl dX10_tellRide_77 ?_
        refine lv_iload hx hb dX10_tellRide_80 (lv_at hl 0 rfl) ?_
        refine iv_mmin hx hb (hml.trans hl.1.symm) hown h6w h7w h8w h9w (Nat.le_of_ble_eq_true rfl) (Nat.le_of_ble_eq_true rfl) (Nat.le_of_ble_eq_true rfl) (Nat.le_of_ble_eq_true rfl) (by omega) (by omega) dX10_tellRide_82 (fun z37 ez37 => ?_)
        have rz37 : inR z37 := by omega
        refine iv_put (ci := 7) (v := .int (Int32.ofInt (z37))) (ty := .int) (C := RX10) (T := TX10) (N := 71) (ref := RX10) hx hb hts h2w tyX10 tyX10_ok nmX10 hown hX.1 hP hD hS 0 rfl rfl 41 (by decide) h1w (fun _ h9 => h9) rfl (by decide +kernel) rfl rfl (Nat.le_of_ble_eq_true rfl) (wM_F41 _ _ _ _ _) dX10_tellRide_85 (fun H locs hP hD hS => ?_)
        obtain ⟨hP, hD⟩ : va_P G vwCl (wM k ar (uF (uF (uF fi 41 (z37)) 42 (n42_30)) 43 (n43_31)) fa fl) H ∧ va_D A (wM k ar (uF (uF (uF fi 41 (z37)) 42 (n42_30)) 43 (n43_31)) fa fl) := ⟨hP, hD⟩
        refine lv_aload_n hx hb dX10_tellRide_88 rfl (lv_at hl 4 rfl) ?_
        refine lv_aload_n hx hb dX10_tellRide_89 rfl (lv_at hl 4 rfl) ?_
        refine va_get (D := G) (ci := 7) (v := .int (Int32.ofInt (n42_30))) (C := RX10) (T := TX10) (N := 71) (ref := RX10) hx hb hts h2w hown hX.1 hP 0 rfl rfl 42 (by decide) h4w (fun _ h9 => h9) rfl dX10_tellRide_90 ?_
        refine lv_iload hx hb dX10_tellRide_93 (lv_at hl 0 rfl) ?_
        refine iv_mmax hx hb (hml.trans hl.1.symm) hown h10w h11w h8w h12w (Nat.le_of_ble_eq_true rfl) (Nat.le_of_ble_eq_true rfl) (Nat.le_of_ble_eq_true rfl) (Nat.le_of_ble_eq_true rfl) (by omega) (by omega) dX10_tellRide_95 (fun z38 ez38 => ?_)
        have rz38 : inR z38 := by omega
        refine iv_put (ci := 7) (v := .int (Int32.ofInt (z38))) (ty := .int) (C := RX10) (T := TX10) (N := 71) (ref := RX10) hx hb hts h2w tyX10 tyX10_ok nmX10 hown hX.1 hP hD hS 0 rfl rfl 42 (by decide) h4w (fun _ h9 => h9) rfl (by decide +kernel) rfl rfl (Nat.le_of_ble_eq_true rfl) (wM_F42 _ _ _ _ _) dX10_tellRide_98 (fun H locs hP hD hS => ?_)
        obtain ⟨hP, hD⟩ : va_P G vwCl (wM k ar (uF (uF (uF fi 41 (z37)) 42 (z38)) 43 (n43_31)) fa fl) H ∧ va_D A (wM k ar (uF (uF (uF fi 41 (z37)) 42 (z38)) 43 (n43_31)) fa fl) := ⟨hP, hD⟩
        refine lv_aload_n hx hb dX10_tellRide_101 rfl (lv_at hl 4 rfl) ?_
        refine lv_dup hx hb dX10_tellRide_102 rfl ?_
        refine va_get (D := G) (ci := 7) (v := .int (Int32.ofInt (n43_31))) (C := RX10) (T := TX10) (N := 71) (ref := RX10) hx hb hts h2w hown hX.1 hP 0 rfl rfl 43 (by decide) h5w (fun _ h9 => h9) rfl dX10_tellRide_103 ?_
        refine lv_iconst (v := Int32.ofInt 0) hx hb dX10_tellRide_106 (by decide +kernel) ?_
        refine lv_aload_n hx hb dX10_tellRide_107 rfl (lv_at hl 4 rfl) ?_
        refine va_get (D := G) (ci := 7) (v := .ref (ar 3)) (C := RX10) (T := TX10) (N := 71) (ref := RX10) hx hb hts h2w hown hX.1 hP 0 rfl rfl 3 (by decide) h13w (fun _ h9 => h9) rfl dX10_tellRide_108 ?_
        refine lv_iconst (v := Int32.ofInt 4) hx hb dX10_tellRide_111 (by decide +kernel) ?_
        refine iv_iald hx hb hX.1 hP 1 0 rfl rfl (by omega) (by omega) (by decide) dX10_tellRide_112 ?_
        refine iv_top (fun z39 ez39 => ?_)
        have rz39 : inR z39 := ez39 ▸ (hRa 3) _
        have ez39 : z39 = (fa 3) 4 := ez39
        refine lv_iload hx hb dX10_tellRide_113 (lv_at hl 0 rfl) ?_
        refine iv_sub (x := z39) (y := z36) hx hb dX10_tellRide_115 ?_
        refine iv_wr ?_
        refine iv_top (fun z40 ez40 => ?_)
        have rz40 : inR z40 := ez40 ▸ bWr_r _
        refine iv_mmax hx hb (hml.trans hl.1.symm) hown h10w h11w h8w h12w (Nat.le_of_ble_eq_true rfl) (Nat.le_of_ble_eq_true rfl) (Nat.le_of_ble_eq_true rfl) (Nat.le_of_ble_eq_true rfl) (by omega) (by omega) dX10_tellRide_116 (fun z41 ez41 => ?_)
        have rz41 : inR z41 := by omega
        refine lv_iconst (v := Int32.ofInt 0) hx hb dX10_tellRide_119 (by decide +kernel) ?_
        refine lv_iload hx hb dX10_tellRide_120 (lv_at hl 0 rfl) ?_
        refine lv_aload_n hx hb dX10_tellRide_122 rfl (lv_at hl 4 rfl) ?_
        refine va_get (D := G) (ci := 7) (v := .ref (ar 3)) (C := RX10) (T := TX10) (N := 71) (ref := RX10) hx hb hts h2w hown hX.1 hP 0 rfl rfl 3 (by decide) h13w (fun _ h9 => h9) rfl dX10_tellRide_123 ?_
        refine lv_iconst (v := Int32.ofInt 5) hx hb dX10_tellRide_126 (by decide +kernel) ?_
        refine iv_iald hx hb hX.1 hP 1 0 rfl rfl (by omega) (by omega) (by decide) dX10_tellRide_127 ?_
        refine iv_top (fun z42 ez42 => ?_)
        have rz42 : inR z42 := ez42 ▸ (hRa 3) _
        have ez42 : z42 = (fa 3) 5 := ez42
        refine iv_sub (x := z36) (y := z42) hx hb dX10_tellRide_128 ?_
        refine iv_wr ?_
        refine iv_top (fun z43 ez43 => ?_)
        have rz43 : inR z43 := ez43 ▸ bWr_r _
        refine lv_aload_n hx hb dX10_tellRide_129 rfl (lv_at hl 4 rfl) ?_
        refine va_get (D := G) (ci := 7) (v := .ref (ar 3)) (C := RX10) (T := TX10) (N := 71) (ref := RX10) hx hb hts h2w hown hX.1 hP 0 rfl rfl 3 (by decide) h13w (fun _ h9 => h9) rfl dX10_tellRide_130 ?_
        refine lv_bipush (v := Int32.ofInt 6) hx hb dX10_tellRide_133 (by decide +kernel) ?_
        refine iv_iald hx hb hX.1 hP 1 0 rfl rfl (by omega) (by omega) (by decide) dX10_tellRide_135 ?_
        refine iv_top (fun z44 ez44 => ?_)
        have rz44 : inR z44 := ez44 ▸ (hRa 3) _
        have ez44 : z44 = (fa 3) 6 := ez44
        refine iv_sub (x := z43) (y := z44) hx hb dX10_tellRide_136 ?_
        refine iv_wr ?_
        refine iv_top (fun z45 ez45 => ?_)
        have rz45 : inR z45 := ez45 ▸ bWr_r _
        refine iv_mmax hx hb (hml.trans hl.1.symm) hown h10w h11w h8w h12w (Nat.le_of_ble_eq_true rfl) (Nat.le_of_ble_eq_true rfl) (Nat.le_of_ble_eq_true rfl) (Nat.le_of_ble_eq_true rfl) (by omega) (by omega) dX10_tellRide_137 (fun z46 ez46 => ?_)
        have rz46 : inR z46 := by omega
        refine iv_add (x := z41) (y := z46) hx hb dX10_tellRide_140 ?_
        refine iv_wr ?_
        refine iv_top (fun z47 ez47 => ?_)
        have rz47 : inR z47 := ez47 ▸ bWr_r _
        refine iv_add (x := n43_31) (y := z47) hx hb dX10_tellRide_141 ?_
        refine iv_wr ?_
        refine iv_top (fun z48 ez48 => ?_)
        have rz48 : inR z48 := ez48 ▸ bWr_r _
        refine iv_put (ci := 7) (v := .int (Int32.ofInt (z48))) (ty := .int) (C := RX10) (T := TX10) (N := 71) (ref := RX10) hx hb hts h2w tyX10 tyX10_ok nmX10 hown hX.1 hP hD hS 0 rfl rfl 43 (by decide) h5w (fun _ h9 => h9) rfl (by decide +kernel) rfl rfl (Nat.le_of_ble_eq_true rfl) (wM_F43 _ _ _ _ _) dX10_tellRide_142 (fun H locs hP hD hS => ?_)
        obtain ⟨hP, hD⟩ : va_P G vwCl (wM k ar (uF (uF (uF fi 41 (z37)) 42 (z38)) 43 (z48)) fa fl) H ∧ va_D A (wM k ar (uF (uF (uF fi 41 (z37)) 42 (z38)) 43 (z48)) fa fl) := ⟨hP, hD⟩
        refine lv_iload hx hb dX10_tellRide_145 (lv_at hl 1 rfl) ?_
        refine lv_iload hx hb dX10_tellRide_147 (lv_at hl 3 rfl) ?_
        refine iv_add (x := x6_28) (y := x4_26) hx hb dX10_tellRide_149 ?_
        refine lv_istore (lv' := [(6, .int (Int32.ofInt ((x6_28 + x4_26)))), (7, .int (Int32.ofInt (z36))), (5, .int (Int32.ofInt (s0_27))), (4, .int (Int32.ofInt (x4_26))), (0, .ref (ar 71)), (1, .ref (ar 32)), (2, .int (Int32.ofInt (f0))), (3, .int (Int32.ofInt (t0)))]) hx hb dX10_tellRide_150 hl (by decide) rfl (fun ls hl => ?_)
        refine lv_goto (tgt := 46) hx hb dX10_tellRide_152 (by decide) ?_
        have hl : lv_has ls 8 [(6, .int (Int32.ofInt ((x6_28 + x4_26)))), (5, .int (Int32.ofInt (s0_27))), (4, .int (Int32.ofInt (x4_26))), (0, .ref (ar 71)), (1, .ref (ar 32)), (2, .int (Int32.ofInt (f0))), (3, .int (Int32.ofInt (t0)))] := lv_sub hl [0, 2, 3, 4, 5, 6, 7] rfl
        exact ih ((x6_28 + x4_26), z37, z38, z48) (show (x4_26 * (t0 - (x6_28 + x4_26))).toNat < (x4_26 * (t0 - x6_28)).toNat from by omega) (show inR (x6_28 + x4_26) ∧ inR z37 ∧ inR z38 ∧ inR z48 ∧ (0 ≤ x4_26 * (t0 - (x6_28 + x4_26))) from ⟨(by omega), (by omega), (by omega), (by omega), (by omega)⟩) _ _ _ hP hD hS hl
    · refine lv_iload_n hx hb dX10_tellRide_31 rfl (lv_at hl 4 rfl) ?_
      refine lv_iload_n hx hb dX10_tellRide_32 rfl (lv_at hl 3 rfl) ?_
      refine iv_icmp_le (tgt := 40) hx hb (by omega) (by omega) dX10_tellRide_33 (by decide) (fun q49 => ?_) (fun q49 => ?_)
      · refine lv_iconst (v := Int32.ofInt 1) hx hb dX10_tellRide_40 (by decide +kernel) ?_
        have hl : lv_has ls 8 [(4, .int (Int32.ofInt (1))), (0, .ref (ar 71)), (1, .ref (ar 32)), (2, .int (Int32.ofInt (f0))), (3, .int (Int32.ofInt (t0)))] := lv_sub hl [0, 1, 2, 3, 4] rfl
        exact J41 (1, 1) (show inR 1 ∧ inR 1 ∧ (True) from ⟨(by omega), (by omega), (by trivial)⟩) _ _ _ hP hD hS hl
      · refine lv_iconst (v := Int32.ofInt 0) hx hb dX10_tellRide_36 (by decide +kernel) ?_
        refine lv_goto (tgt := 41) hx hb dX10_tellRide_37 (by decide) ?_
        have hl : lv_has ls 8 [(4, .int (Int32.ofInt (1))), (0, .ref (ar 71)), (1, .ref (ar 32)), (2, .int (Int32.ofInt (f0))), (3, .int (Int32.ofInt (t0)))] := lv_sub hl [0, 1, 2, 3, 4] rfl
        exact J41 (1, 0) (show inR 1 ∧ inR 0 ∧ (True) from ⟨(by omega), (by omega), (by trivial)⟩) _ _ _ hP hD hS hl

