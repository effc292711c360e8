set_option maxHeartbeats 4000000 in
set_option maxRecDepth 100000 in
theorem mX10_passes (l : Launch) (G : va_G) (k : Nat → ClassId) (ar : Nat → Nat) (fi : Nat → Int) (fa : Nat → Int → Int) (fl : Nat → Int64) (sx : Nat) (sz : Nat) (hR : ∀ j, inR (fi j)) (hRa : ∀ j t, inR (fa j t)) (hsx : sx < 47) (htk : 0 ≤ fi 22 ∧ fi 22 ≤ fi 23 ∧ fi 23 ≤ fi 19 ∧ fi 19 ≤ 600 ∧ fi 18 = fi 23 ∧ 0 ≤ fi 20 ∧ fi 20 ≤ 4 ∧ (¬ fi 20 = 0 → fi 22 < fi 23)) (hT : ∀ t, 0 ≤ t → t < fi 19 → 0 ≤ fa 16 t ∧ fa 16 t ≤ 255) (hty : TS (fa 16) (fi 19) (fi 24) (fi 22) (fi 23) (fi 20) (fi 21)) : CNi l G k (EZ k) yX10_passes wzX10_passes ({ frames := 5, cells := 0, slots := 0, locals := 108 }) [.ref (ar 71), .ref (k (111 + sx))] sz (wM k ar fi fa fl) (fun (r0 : Int32) (u : Int × Int × Int × Int × Int × Int) => r0 = Int32.ofInt (u.1) ∧ (inR u.1) ∧ (inR u.2.1) ∧ (inR u.2.2.1) ∧ (inR u.2.2.2.1) ∧ (inR u.2.2.2.2.1) ∧ (inR u.2.2.2.2.2) ∧ (((u.1 = 0 ∨ u.1 = 1) ∧ (0 ≤ u.2.2.2.2.1 ∧ u.2.2.2.2.1 ≤ u.2.2.2.2.2 ∧ u.2.2.2.2.2 ≤ fi 19 ∧ fi 19 ≤ 600 ∧ u.2.1 = u.2.2.2.2.2 ∧ 0 ≤ u.2.2.1 ∧ u.2.2.1 ≤ 4 ∧ (¬ u.2.2.1 = 0 → u.2.2.2.2.1 < u.2.2.2.2.2)) ∧ fi 22 ≤ u.2.2.2.2.1) ∧ TS (fa 16) (fi 19) (fi 24) u.2.2.2.2.1 u.2.2.2.2.2 u.2.2.1 u.2.2.2.1 ∧ val (fi 24) (fi 25) u.2.2.2.2.1 = bd (val (fi 24) (fi 25) (fi 22)) (mayF (fa 16) (fi 19) sx) ∧ Isr u.1 (fi 24) (isWd (fa 16) (fi 19) sx (fi 22)))) (fun (u : Int × Int × Int × Int × Int × Int) => (wM k ar (uF (uF (uF (uF (uF fi 18 (u.2.1)) 20 (u.2.2.1)) 21 (u.2.2.2.1)) 22 (u.2.2.2.2.1)) 23 (u.2.2.2.2.2)) fa fl)) := by
  refine Met.ofW (cc := cX10_passes) (maxL := 3) (ret := (some .boolean)) (by decide) rfl ?_
  intro p e s m args below meth c s₁ B hml hv
  obtain ⟨rfl, hsz, hP, hX, hD0, hZ0⟩ := hv
  have hx := B.exec
  have hb := B.bytes
  have hr := B.returns
  have hts := atoms_spec (ws := wzX10_passes) B.pre
  have hown : s.vm.findClass RX10 = some m.cls := findClass_of_methodNamed B.named
  subst hsz
  have hD := hD0.self (sz := s.heap.size)
  have hZ := hZ0
  generalize hAe : va_A (wM k ar fi fa fl) s.heap.size = A at hD hZ ⊢
  have hA : ∀ q : Nat, s.heap.size ≤ q → A q := fun q h => by rw [← hAe]; exact Or.inr h
  have hS : va_S A s.heap s.heap [] := va_S.rf
  have hl := lv_entry ([.ref (ar 71), .ref (k (111 + sx))]) (n := 3) (Nat.le_of_ble_eq_true rfl)
  rw [lg_entry_eq]
  generalize (lg_sl ([.ref (ar 71), .ref (k (111 + sx))]) ++ List.replicate (3 - (lg_sl ([.ref (ar 71), .ref (k (111 + sx))])).length) Slot.unset).toArray = ls at hl ⊢
  have hl : lv_has ls 3 [(0, .ref (ar 71)), (1, .ref (k (111 + sx)))] := hl
  obtain ⟨H, eH⟩ : ∃ H, H = s.heap := ⟨_, rfl⟩
  rw [← eH] at hP
  have hS : va_S A s.heap H [] := by rw [eH]; exact hS
  have gW : s.heap = H := eH.symm
  refine iv_heap gW ?_
  refine lv_aload_n hx hb dX10_passes_0 rfl (lv_at hl 0 rfl) ?_
  refine lv_aload_n hx hb dX10_passes_1 rfl (lv_at hl 1 rfl) ?_
  refine cr_i (va_runV (As := [.ref (k (111 + sx))]) (rest := []) ⟨hx, hb, hml, hown, hts⟩ (mX10_is l G k ar fi fa fl sx H.size hR hRa (show sx < 47 from by omega) (show (fi 20) = 1 → 0 ≤ (fi 22) ∧ (fi 22) ≤ (fi 23) ∧ (fi 23) ≤ 600 from by omega) (show TS ((fa 16)) ((fi 19)) ((fi 24)) ((fi 22)) ((fi 23)) ((fi 20)) ((fi 21)) from by first | assumption | exact TS_any (by assumption))) (cwV 1 hts (gz [.methodLink RX10 237 yX10_is, .instanceMethod yX10_is, .selects RX10 yX10_is yX10_is, .initialized RX10] (.code yX10_is cX10_is 4 (some .boolean)) [(18, 6), (18, 7), (18, 8), (0, 5), (18, 9)] rfl) rfl rfl rfl (by decide +kernel) ⟨Nat.le_of_ble_eq_true rfl, Nat.le_of_ble_eq_true rfl⟩) (cr_preV (EZ_ok k) hZ hS hX hP hD hA (ci := 7) (q0 := 0) rfl rfl) rfl rfl hl.1 rfl (lv_room (Nat.le_of_ble_eq_true rfl)) dX10_passes_2 ⟨Nat.le_of_ble_eq_true rfl, Nat.le_of_ble_eq_true rfl⟩) hD hS hA (fun r u H locs hp hP hD hS => ?_)
  obtain ⟨c1, rfl⟩ : ∃ z, z = u := ⟨_, rfl⟩
  obtain ⟨h9, rc1, hp1⟩ : r = Int32.ofInt c1 ∧ (inR c1) ∧ (((c1 = 0 ∨ c1 = 1) ∧ (c1 = 1 → (fi 24) = 0 ∧ (fi 20) = 1)) ∧ Isr c1 ((fi 24)) (isWd ((fa 16)) ((fi 19)) sx ((fi 22)))) := hp
  subst h9
  obtain ⟨hp1, hI2⟩ := hp1
  refine lv_istore_n (lv' := [(2, .int (Int32.ofInt (c1))), (0, .ref (ar 71)), (1, .ref (k (111 + sx)))]) hx hb dX10_passes_5 rfl hl (by decide) rfl (fun ls hl => ?_)
  refine lv_iload_n hx hb dX10_passes_6 rfl (lv_at hl 0 rfl) ?_
  refine iv_if_eq (tgt := 14) hx hb (by omega) dX10_passes_7 (by decide) (fun q2 => ?_) (fun q2 => ?_)
  · refine lv_iload_n hx hb dX10_passes_14 rfl (lv_at hl 0 rfl) ?_
    exact W.zret (v := Int32.ofInt (c1)) hx hb hr (nz_bool (by omega)) (fun t ht hW => ⟨⟨Int32.ofInt (c1), (c1, fi 18, fi 20, fi 21, fi 22, fi 23), rfl, ⟨rfl, (show (inR c1) ∧ (inR (fi 18)) ∧ (inR (fi 20)) ∧ (inR (fi 21)) ∧ (inR (fi 22)) ∧ (inR (fi 23)) ∧ (((c1 = 0 ∨ c1 = 1) ∧ (0 ≤ (fi 22) ∧ (fi 22) ≤ (fi 23) ∧ (fi 23) ≤ fi 19 ∧ fi 19 ≤ 600 ∧ (fi 18) = (fi 23) ∧ 0 ≤ (fi 20) ∧ (fi 20) ≤ 4 ∧ (¬ (fi 20) = 0 → (fi 22) < (fi 23))) ∧ fi 22 ≤ (fi 22)) ∧ TS (fa 16) (fi 19) (fi 24) (fi 22) (fi 23) (fi 20) (fi 21) ∧ val (fi 24) (fi 25) (fi 22) = bd (val (fi 24) (fi 25) (fi 22)) (mayF (fa 16) (fi 19) sx) ∧ Isr c1 (fi 24) (isWd (fa 16) (fi 19) sx (fi 22))) from ⟨(by omega), (hR 18), (hR 20), (hR 21), (hR 22), (hR 23), (by first | exact ⟨by omega, TS_any hT11, fv_may1 hty hI2 (by omega) hV11 (by omega), hI2⟩ | exact ⟨by omega, hty, fv_may0 hI2 (by omega), hI2⟩)⟩)⟩, by rw [ht]; exact hP, hD⟩, hS.F ht⟩) hS.2.2 dX10_passes_15
  · refine lv_aload_n hx hb dX10_passes_10 rfl (lv_at hl 1 rfl) ?_
    refine cr_v (va_runV (As := []) (rest := []) ⟨hx, hb, hml, hown, hts⟩ (mX10_stepOn l G k ar fi fa fl H.size hR hRa (show 0 ≤ (fi 18) from by omega) (show (fi 18) ≤ (fi 19) from by omega) (show (fi 19) ≤ 600 from by omega) (show ∀ t, 0 ≤ t → t < (fi 19) → 0 ≤ (fa 16) t ∧ (fa 16) t ≤ 255 from by first | exact hT | omega)) (cwV 0 hts (gz [.methodLink RX10 241 yX10_stepOn, .instanceMethod yX10_stepOn, .selects RX10 yX10_stepOn yX10_stepOn, .initialized RX10] (.code yX10_stepOn cX10_stepOn 2 none) [(16, 21), (16, 22), (16, 23), (0, 5), (17, 0)] rfl) rfl rfl rfl (by decide +kernel) ⟨Nat.le_of_ble_eq_true rfl, Nat.le_of_ble_eq_true rfl⟩) (cr_preV (EZ_ok k) hZ hS hX hP hD hA (ci := 7) (q0 := 0) rfl rfl) rfl rfl hl.1 rfl (lv_room (Nat.le_of_ble_eq_true rfl)) dX10_passes_11 ⟨Nat.le_of_ble_eq_true rfl, Nat.le_of_ble_eq_true rfl⟩) hD hS hA (fun u H locs hp hP hD hS => ?_)
    obtain ⟨c3, c4, c5, c6, c7⟩ := u
    obtain ⟨hP, hD⟩ : va_P G vwCl (wM k ar (uF (uF (uF (uF (uF fi 18 (c3)) 20 (c4)) 21 (c5)) 22 (c6)) 23 (c7)) fa fl) H ∧ va_D A (wM k ar (uF (uF (uF (uF (uF fi 18 (c3)) 20 (c4)) 21 (c5)) 22 (c6)) 23 (c7)) fa fl) := ⟨hP, hD⟩
    obtain ⟨rc3, rc4, rc5, rc6, rc7, hp7⟩ : (inR c3) ∧ (inR c4) ∧ (inR c5) ∧ (inR c6) ∧ (inR c7) ∧ (((fi 18) ≤ c6 ∧ c6 ≤ c7 ∧ c7 ≤ (fi 19) ∧ c3 = c7 ∧ 0 ≤ c4 ∧ c4 ≤ 4 ∧ (¬ c4 = 0 → c6 < c7)) ∧ c6 = sk ((fa 16)) ((fi 19)) ((fi 18)) ∧ TS ((fa 16)) ((fi 19)) 0 c6 c7 c4 c5) := hp
    obtain ⟨hp7, hV11, hT11⟩ := hp7
    refine lv_iload_n hx hb dX10_passes_14 rfl (lv_at hl 0 rfl) ?_
    exact W.zret (v := Int32.ofInt (c1)) hx hb hr (nz_bool (by omega)) (fun t ht hW => ⟨⟨Int32.ofInt (c1), (c1, c3, c4, c5, c6, c7), rfl, ⟨rfl, (show (inR c1) ∧ (inR c3) ∧ (inR c4) ∧ (inR c5) ∧ (inR c6) ∧ (inR c7) ∧ (((c1 = 0 ∨ c1 = 1) ∧ (0 ≤ c6 ∧ c6 ≤ c7 ∧ c7 ≤ fi 19 ∧ fi 19 ≤ 600 ∧ c3 = c7 ∧ 0 ≤ c4 ∧ c4 ≤ 4 ∧ (¬ c4 = 0 → c6 < c7)) ∧ fi 22 ≤ c6) ∧ TS (fa 16) (fi 19) (fi 24) c6 c7 c4 c5 ∧ val (fi 24) (fi 25) c6 = bd (val (fi 24) (fi 25) (fi 22)) (mayF (fa 16) (fi 19) sx) ∧ Isr c1 (fi 24) (isWd (fa 16) (fi 19) sx (fi 22))) from ⟨(by omega), (by omega), (by omega), (by omega), (by omega), (by omega), (by first | exact ⟨by omega, TS_any hT11, fv_may1 hty hI2 (by omega) hV11 (by omega), hI2⟩ | exact ⟨by omega, hty, fv_may0 hI2 (by omega), hI2⟩)⟩)⟩, by rw [ht]; exact hP, hD⟩, hS.F ht⟩) hS.2.2 dX10_passes_15

