set_option maxHeartbeats 4000000 in
set_option maxRecDepth 100000 in
theorem mX10_wordIs (l : Launch) (G : va_G) (k : Nat → ClassId) (ar : Nat → Nat) (fi : Nat → Int) (fa : Nat → Int → Int) (fl : Nat → Int64) (sx : Nat) (sz : Nat) (hR : ∀ j, inR (fi j)) (hRa : ∀ j t, inR (fa j t)) (hsx : sx < 47) (htk : 0 ≤ fi 22 ∧ fi 22 ≤ fi 23 ∧ fi 23 ≤ fi 19 ∧ fi 19 ≤ 600 ∧ fi 18 = fi 23 ∧ 0 ≤ fi 20 ∧ fi 20 ≤ 4 ∧ (¬ fi 20 = 0 → fi 22 < fi 23)) : CNv l G k (EZ k) yX10_wordIs wzX10_wordIs ({ frames := 5, cells := 0, slots := 0, locals := 108 }) [.ref (ar 71), .ref (k (111 + sx))] sz (wM k ar fi fa fl) (fun (u : Int × Int × Int × Int × Int × Int × Int) => (inR u.1) ∧ (inR u.2.1) ∧ (inR u.2.2.1) ∧ (inR u.2.2.2.1) ∧ (inR u.2.2.2.2.1) ∧ (inR u.2.2.2.2.2.1) ∧ (inR u.2.2.2.2.2.2) ∧ ((0 ≤ u.2.2.2.1 ∧ u.2.2.2.1 ≤ u.2.2.2.2.1 ∧ u.2.2.2.2.1 ≤ fi 19 ∧ fi 19 ≤ 600 ∧ u.1 = u.2.2.2.2.1 ∧ 0 ≤ u.2.1 ∧ u.2.1 ≤ 4 ∧ (¬ u.2.1 = 0 → u.2.2.2.1 < u.2.2.2.2.1)) ∧ fi 22 ≤ u.2.2.2.1 ∧ (u.2.2.2.2.2.1 = 0 → fi 24 = 0))) (fun (u : Int × Int × Int × Int × Int × Int × Int) => (wM k ar (uF (uF (uF (uF (uF (uF (uF fi 18 (u.1)) 20 (u.2.1)) 21 (u.2.2.1)) 22 (u.2.2.2.1)) 23 (u.2.2.2.2.1)) 24 (u.2.2.2.2.2.1)) 25 (u.2.2.2.2.2.2)) fa fl)) := by
  refine Met.ofW (cc := cX10_wordIs) (maxL := 2) (ret := none) (by decide) rfl ?_
  intro p e s m args below meth c s₁ B hml hv
  obtain ⟨rfl, hsz, hP, hX, hD0, hZ0⟩ := hv
  have hx := B.exec
  have hb := B.bytes
  have hr := B.returns
  have hts := atoms_spec (ws := wzX10_wordIs) B.pre
  have hown : s.vm.findClass RX10 = some m.cls := findClass_of_methodNamed B.named
  subst hsz
  have hD := hD0.self (sz := s.heap.size)
  have hZ := hZ0
  generalize hAe : va_A (wM k ar fi fa fl) s.heap.size = A at hD hZ ⊢
  have hA : ∀ q : Nat, s.heap.size ≤ q → A q := fun q h => by rw [← hAe]; exact Or.inr h
  have hS : va_S A s.heap s.heap [] := va_S.rf
  have hl := lv_entry ([.ref (ar 71), .ref (k (111 + sx))]) (n := 2) (Nat.le_of_ble_eq_true rfl)
  rw [lg_entry_eq]
  generalize (lg_sl ([.ref (ar 71), .ref (k (111 + sx))]) ++ List.replicate (2 - (lg_sl ([.ref (ar 71), .ref (k (111 + sx))])).length) Slot.unset).toArray = ls at hl ⊢
  have hl : lv_has ls 2 [(0, .ref (ar 71)), (1, .ref (k (111 + sx)))] := hl
  obtain ⟨H, eH⟩ : ∃ H, H = s.heap := ⟨_, rfl⟩
  rw [← eH] at hP
  have hS : va_S A s.heap H [] := by rw [eH]; exact hS
  have gW : s.heap = H := eH.symm
  refine iv_heap gW ?_
  have h0w := hts (.fieldLink RX10 223 "RopeTownModel" "bad" "I") (wz_at 16 11 rfl)
  have h1w : ∀ w ∈ wsX100, w ∈ wzX10_wordIs := fun w h => List.mem_cons_of_mem _ (inlX10 w h)
  refine lv_aload_n hx hb dX10_wordIs_0 rfl (lv_at hl 0 rfl) ?_
  refine va_get (D := G) (ci := 7) (v := .int (Int32.ofInt (fi 24))) (C := RX10) (T := TX10) (N := 71) (ref := RX10) hx hb hts h1w hown hX.1 hP 0 rfl rfl 24 (by decide) h0w (fun _ h9 => h9) rfl dX10_wordIs_1 ?_
  have rf24 := hR 24
  refine iv_if_ne (tgt := 20) hx hb (by omega) dX10_wordIs_4 (by decide) (fun q1 => ?_) (fun q1 => ?_)
  · refine lv_aload_n hx hb dX10_wordIs_20 rfl (lv_at hl 0 rfl) ?_
    refine va_get (D := G) (ci := 7) (v := .int (Int32.ofInt (fi 24))) (C := RX10) (T := TX10) (N := 71) (ref := RX10) hx hb hts h1w hown hX.1 hP 0 rfl rfl 24 (by decide) h0w (fun _ h9 => h9) rfl dX10_wordIs_21 ?_
    have rf24 := hR 24
    refine iv_if_ne (tgt := 31) hx hb (by omega) dX10_wordIs_24 (by decide) (fun q2 => ?_) (fun q2 => ?_)
    · exact W.vret hx hb hr (fun t ht hW => ⟨⟨(fi 18, fi 20, fi 21, fi 22, fi 23, fi 24, fi 25), rfl, (show (inR (fi 18)) ∧ (inR (fi 20)) ∧ (inR (fi 21)) ∧ (inR (fi 22)) ∧ (inR (fi 23)) ∧ (inR (fi 24)) ∧ (inR (fi 25)) ∧ ((0 ≤ (fi 22) ∧ (fi 22) ≤ (fi 23) ∧ (fi 23) ≤ fi 19 ∧ fi 19 ≤ 600 ∧ (fi 18) = (fi 23) ∧ 0 ≤ (fi 20) ∧ (fi 20) ≤ 4 ∧ (¬ (fi 20) = 0 → (fi 22) < (fi 23))) ∧ fi 22 ≤ (fi 22) ∧ ((fi 24) = 0 → fi 24 = 0)) from ⟨(hR 18), (hR 20), (hR 21), (hR 22), (hR 23), (hR 24), (hR 25), (by omega)⟩), by rw [ht]; exact hP, hD⟩, hS.F ht⟩) hS.2.2 dX10_wordIs_31
    · refine lv_aload_n hx hb dX10_wordIs_27 rfl (lv_at hl 0 rfl) ?_
      refine cr_v (va_runV (As := []) (rest := []) ⟨hx, hb, hml, hown, hts⟩ (mX10_stepOn l G k ar fi fa fl H.size hR hRa (show 0 ≤ (fi 18) from by omega) (show (fi 18) ≤ (fi 19) from by omega) (show (fi 19) ≤ 600 from by omega)) (cwV 0 hts (gz [.methodLink RX10 241 yX10_stepOn, .instanceMethod yX10_stepOn, .selects RX10 yX10_stepOn yX10_stepOn, .initialized RX10] (.code yX10_stepOn cX10_stepOn 2 none) [(16, 21), (16, 22), (16, 23), (0, 5), (17, 0)] rfl) rfl rfl rfl (by decide +kernel) ⟨Nat.le_of_ble_eq_true rfl, Nat.le_of_ble_eq_true rfl⟩) (cr_preV (EZ_ok k) hZ hS hX hP hD hA (ci := 7) (q0 := 0) rfl rfl) rfl rfl hl.1 rfl (lv_room (Nat.le_of_ble_eq_true rfl)) dX10_wordIs_28 ⟨Nat.le_of_ble_eq_true rfl, Nat.le_of_ble_eq_true rfl⟩) hD hS hA (fun u H locs hp hP hD hS => ?_)
      obtain ⟨c3, c4, c5, c6, c7⟩ := u
      obtain ⟨hP, hD⟩ : va_P G vwCl (wM k ar (uF (uF (uF (uF (uF fi 18 (c3)) 20 (c4)) 21 (c5)) 22 (c6)) 23 (c7)) fa fl) H ∧ va_D A (wM k ar (uF (uF (uF (uF (uF fi 18 (c3)) 20 (c4)) 21 (c5)) 22 (c6)) 23 (c7)) fa fl) := ⟨hP, hD⟩
      obtain ⟨rc3, rc4, rc5, rc6, rc7, hp7⟩ : (inR c3) ∧ (inR c4) ∧ (inR c5) ∧ (inR c6) ∧ (inR c7) ∧ ((fi 18) ≤ c6 ∧ c6 ≤ c7 ∧ c7 ≤ (fi 19) ∧ c3 = c7 ∧ 0 ≤ c4 ∧ c4 ≤ 4 ∧ (¬ c4 = 0 → c6 < c7)) := hp
      exact W.vret hx hb hr (fun t ht hW => ⟨⟨(c3, c4, c5, c6, c7, fi 24, fi 25), rfl, (show (inR c3) ∧ (inR c4) ∧ (inR c5) ∧ (inR c6) ∧ (inR c7) ∧ (inR (fi 24)) ∧ (inR (fi 25)) ∧ ((0 ≤ c6 ∧ c6 ≤ c7 ∧ c7 ≤ fi 19 ∧ fi 19 ≤ 600 ∧ c3 = c7 ∧ 0 ≤ c4 ∧ c4 ≤ 4 ∧ (¬ c4 = 0 → c6 < c7)) ∧ fi 22 ≤ c6 ∧ ((fi 24) = 0 → fi 24 = 0)) from ⟨(by omega), (by omega), (by omega), (by omega), (by omega), (hR 24), (hR 25), (by omega)⟩), by rw [ht]; exact hP, hD⟩, hS.F ht⟩) hS.2.2 dX10_wordIs_31
  · refine lv_aload_n hx hb dX10_wordIs_7 rfl (lv_at hl 0 rfl) ?_
    refine lv_aload_n hx hb dX10_wordIs_8 rfl (lv_at hl 1 rfl) ?_
    refine cr_i (va_runV (As := [.ref (k (111 + sx))]) (rest := []) ⟨hx, hb, hml, hown, hts⟩ (mX10_is l G k ar fi fa fl sx H.size hR hRa (show sx < 47 from by omega) (show (fi 20) = 1 → 0 ≤ (fi 22) ∧ (fi 22) ≤ (fi 23) ∧ (fi 23) ≤ 600 from by omega)) (cwV 1 hts (gz [.methodLink RX10 237 yX10_is, .instanceMethod yX10_is, .selects RX10 yX10_is yX10_is, .initialized RX10] (.code yX10_is cX10_is 4 (some .boolean)) [(18, 6), (18, 7), (18, 8), (0, 5), (18, 9)] rfl) rfl rfl rfl (by decide +kernel) ⟨Nat.le_of_ble_eq_true rfl, Nat.le_of_ble_eq_true rfl⟩) (cr_preV (EZ_ok k) hZ hS hX hP hD hA (ci := 7) (q0 := 0) rfl rfl) rfl rfl hl.1 rfl (lv_room (Nat.le_of_ble_eq_true rfl)) dX10_wordIs_9 ⟨Nat.le_of_ble_eq_true rfl, Nat.le_of_ble_eq_true rfl⟩) hD hS hA (fun r u H locs hp hP hD hS => ?_)
    obtain ⟨c8, rfl⟩ : ∃ z, z = u := ⟨_, rfl⟩
    obtain ⟨h9, rc8, hp8⟩ : r = Int32.ofInt c8 ∧ (inR c8) ∧ ((c8 = 0 ∨ c8 = 1) ∧ (c8 = 1 → (fi 24) = 0 ∧ (fi 20) = 1)) := hp
    subst h9
    refine iv_if_ne (tgt := 20) hx hb (by omega) dX10_wordIs_12 (by decide) (fun q9 => ?_) (fun q9 => ?_)
    · refine lv_aload_n hx hb dX10_wordIs_20 rfl (lv_at hl 0 rfl) ?_
      refine va_get (D := G) (ci := 7) (v := .int (Int32.ofInt (fi 24))) (C := RX10) (T := TX10) (N := 71) (ref := RX10) hx hb hts h1w hown hX.1 hP 0 rfl rfl 24 (by decide) h0w (fun _ h9 => h9) rfl dX10_wordIs_21 ?_
      have rf24 := hR 24
      refine iv_if_ne (tgt := 31) hx hb (by omega) dX10_wordIs_24 (by decide) (fun q10 => ?_) (fun q10 => ?_)
      · exact W.vret hx hb hr (fun t ht hW => ⟨⟨(fi 18, fi 20, fi 21, fi 22, fi 23, fi 24, fi 25), rfl, (show (inR (fi 18)) ∧ (inR (fi 20)) ∧ (inR (fi 21)) ∧ (inR (fi 22)) ∧ (inR (fi 23)) ∧ (inR (fi 24)) ∧ (inR (fi 25)) ∧ ((0 ≤ (fi 22) ∧ (fi 22) ≤ (fi 23) ∧ (fi 23) ≤ fi 19 ∧ fi 19 ≤ 600 ∧ (fi 18) = (fi 23) ∧ 0 ≤ (fi 20) ∧ (fi 20) ≤ 4 ∧ (¬ (fi 20) = 0 → (fi 22) < (fi 23))) ∧ fi 22 ≤ (fi 22) ∧ ((fi 24) = 0 → fi 24 = 0)) from ⟨(hR 18), (hR 20), (hR 21), (hR 22), (hR 23), (hR 24), (hR 25), (by omega)⟩), by rw [ht]; exact hP, hD⟩, hS.F ht⟩) hS.2.2 dX10_wordIs_31
      · refine lv_aload_n hx hb dX10_wordIs_27 rfl (lv_at hl 0 rfl) ?_
        refine cr_v (va_runV (As := []) (rest := []) ⟨hx, hb, hml, hown, hts⟩ (mX10_stepOn l G k ar fi fa fl H.size hR hRa (show 0 ≤ (fi 18) from by omega) (show (fi 18) ≤ (fi 19) from by omega) (show (fi 19) ≤ 600 from by omega)) (cwV 0 hts (gz [.methodLink RX10 241 yX10_stepOn, .instanceMethod yX10_stepOn, .selects RX10 yX10_stepOn yX10_stepOn, .initialized RX10] (.code yX10_stepOn cX10_stepOn 2 none) [(16, 21), (16, 22), (16, 23), (0, 5), (17, 0)] rfl) rfl rfl rfl (by decide +kernel) ⟨Nat.le_of_ble_eq_true rfl, Nat.le_of_ble_eq_true rfl⟩) (cr_preV (EZ_ok k) hZ hS hX hP hD hA (ci := 7) (q0 := 0) rfl rfl) rfl rfl hl.1 rfl (lv_room (Nat.le_of_ble_eq_true rfl)) dX10_wordIs_28 ⟨Nat.le_of_ble_eq_true rfl, Nat.le_of_ble_eq_true rfl⟩) hD hS hA (fun u H locs hp hP hD hS => ?_)
        obtain ⟨c11, c12, c13, c14, c15⟩ := u
        obtain ⟨hP, hD⟩ : va_P G vwCl (wM k ar (uF (uF (uF (uF (uF fi 18 (c11)) 20 (c12)) 21 (c13)) 22 (c14)) 23 (c15)) fa fl) H ∧ va_D A (wM k ar (uF (uF (uF (uF (uF fi 18 (c11)) 20 (c12)) 21 (c13)) 22 (c14)) 23 (c15)) fa fl) := ⟨hP, hD⟩
        obtain ⟨rc11, rc12, rc13, rc14, rc15, hp15⟩ : (inR c11) ∧ (inR c12) ∧ (inR c13) ∧ (inR c14) ∧ (inR c15) ∧ ((fi 18) ≤ c14 ∧ c14 ≤ c15 ∧ c15 ≤ (fi 19) ∧ c11 = c15 ∧ 0 ≤ c12 ∧ c12 ≤ 4 ∧ (¬ c12 = 0 → c14 < c15)) := hp
        exact W.vret hx hb hr (fun t ht hW => ⟨⟨(c11, c12, c13, c14, c15, fi 24, fi 25), rfl, (show (inR c11) ∧ (inR c12) ∧ (inR c13) ∧ (inR c14) ∧ (inR c15) ∧ (inR (fi 24)) ∧ (inR (fi 25)) ∧ ((0 ≤ c14 ∧ c14 ≤ c15 ∧ c15 ≤ fi 19 ∧ fi 19 ≤ 600 ∧ c11 = c15 ∧ 0 ≤ c12 ∧ c12 ≤ 4 ∧ (¬ c12 = 0 → c14 < c15)) ∧ fi 22 ≤ c14 ∧ ((fi 24) = 0 → fi 24 = 0)) from ⟨(by omega), (by omega), (by omega), (by omega), (by omega), (hR 24), (hR 25), (by omega)⟩), by rw [ht]; exact hP, hD⟩, hS.F ht⟩) hS.2.2 dX10_wordIs_31
    · refine lv_aload_n hx hb dX10_wordIs_15 rfl (lv_at hl 0 rfl) ?_
      refine lv_iconst (v := Int32.ofInt 1) hx hb dX10_wordIs_16 (by decide +kernel) ?_
      refine cr_v (va_runV (As := [.int (Int32.ofInt (1))]) (rest := []) ⟨hx, hb, hml, hown, hts⟩ (mX10_wrong l G k ar fi fa fl 1 H.size hR hRa (by omega)) (cwV 1 hts (gz [.methodLink RX10 244 yX10_wrong, .instanceMethod yX10_wrong, .selects RX10 yX10_wrong yX10_wrong, .initialized RX10] (.code yX10_wrong cX10_wrong 2 none) [(18, 12), (18, 13), (18, 14), (0, 5), (18, 15)] rfl) rfl rfl rfl (by decide +kernel) ⟨Nat.le_of_ble_eq_true rfl, Nat.le_of_ble_eq_true rfl⟩) (cr_preV (EZ_ok k) hZ hS hX hP hD hA (ci := 7) (q0 := 0) rfl rfl) rfl rfl hl.1 rfl (lv_room (Nat.le_of_ble_eq_true rfl)) dX10_wordIs_17 ⟨Nat.le_of_ble_eq_true rfl, Nat.le_of_ble_eq_true rfl⟩) hD hS hA (fun u H locs hp hP hD hS => ?_)
      obtain ⟨c16, c17⟩ := u
      obtain ⟨hP, hD⟩ : va_P G vwCl (wM k ar (uF (uF fi 24 (c16)) 25 (c17)) fa fl) H ∧ va_D A (wM k ar (uF (uF fi 24 (c16)) 25 (c17)) fa fl) := ⟨hP, hD⟩
      obtain ⟨rc16, rc17, hp17⟩ : (inR c16) ∧ (inR c17) ∧ ((¬ (fi 24) = 0 → c16 = (fi 24)) ∧ ((fi 24) = 0 → c16 = 1)) := hp
      refine lv_aload_n hx hb dX10_wordIs_20 rfl (lv_at hl 0 rfl) ?_
      refine va_get (D := G) (ci := 7) (v := .int (Int32.ofInt (c16))) (C := RX10) (T := TX10) (N := 71) (ref := RX10) hx hb hts h1w hown hX.1 hP 0 rfl rfl 24 (by decide) h0w (fun _ h9 => h9) rfl dX10_wordIs_21 ?_
      refine iv_if_ne (tgt := 31) hx hb (by omega) dX10_wordIs_24 (by decide) (fun q18 => ?_) (fun q18 => ?_)
      · exact W.vret hx hb hr (fun t ht hW => ⟨⟨(fi 18, fi 20, fi 21, fi 22, fi 23, c16, c17), rfl, (show (inR (fi 18)) ∧ (inR (fi 20)) ∧ (inR (fi 21)) ∧ (inR (fi 22)) ∧ (inR (fi 23)) ∧ (inR c16) ∧ (inR c17) ∧ ((0 ≤ (fi 22) ∧ (fi 22) ≤ (fi 23) ∧ (fi 23) ≤ fi 19 ∧ fi 19 ≤ 600 ∧ (fi 18) = (fi 23) ∧ 0 ≤ (fi 20) ∧ (fi 20) ≤ 4 ∧ (¬ (fi 20) = 0 → (fi 22) < (fi 23))) ∧ fi 22 ≤ (fi 22) ∧ (c16 = 0 → fi 24 = 0)) from ⟨(hR 18), (hR 20), (hR 21), (hR 22), (hR 23), (by omega), (by omega), (by omega)⟩), by rw [ht]; exact hP, hD⟩, hS.F ht⟩) hS.2.2 dX10_wordIs_31
      · refine lv_aload_n hx hb dX10_wordIs_27 rfl (lv_at hl 0 rfl) ?_
        refine cr_v (va_runV (As := []) (rest := []) ⟨hx, hb, hml, hown, hts⟩ (mX10_stepOn l G k ar (uF (uF fi 24 (c16)) 25 (c17)) fa fl H.size (iF (iF hR (by omega)) (by omega)) hRa (show 0 ≤ (fi 18) from by omega) (show (fi 18) ≤ (fi 19) from by omega) (show (fi 19) ≤ 600 from by omega)) (cwV 0 hts (gz [.methodLink RX10 241 yX10_stepOn, .instanceMethod yX10_stepOn, .selects RX10 yX10_stepOn yX10_stepOn, .initialized RX10] (.code yX10_stepOn cX10_stepOn 2 none) [(16, 21), (16, 22), (16, 23), (0, 5), (17, 0)] rfl) rfl rfl rfl (by decide +kernel) ⟨Nat.le_of_ble_eq_true rfl, Nat.le_of_ble_eq_true rfl⟩) (cr_preV (EZ_ok k) hZ hS hX hP hD hA (ci := 7) (q0 := 0) rfl rfl) rfl rfl hl.1 rfl (lv_room (Nat.le_of_ble_eq_true rfl)) dX10_wordIs_28 ⟨Nat.le_of_ble_eq_true rfl, Nat.le_of_ble_eq_true rfl⟩) hD hS hA (fun u H locs hp hP hD hS => ?_)
        obtain ⟨c19, c20, c21, c22, c23⟩ := u
        obtain ⟨hP, hD⟩ : va_P G vwCl (wM k ar (uF (uF (uF (uF (uF (uF (uF fi 18 (c19)) 20 (c20)) 21 (c21)) 22 (c22)) 23 (c23)) 24 (c16)) 25 (c17)) fa fl) H ∧ va_D A (wM k ar (uF (uF (uF (uF (uF (uF (uF fi 18 (c19)) 20 (c20)) 21 (c21)) 22 (c22)) 23 (c23)) 24 (c16)) 25 (c17)) fa fl) := ⟨hP, hD⟩
        obtain ⟨rc19, rc20, rc21, rc22, rc23, hp23⟩ : (inR c19) ∧ (inR c20) ∧ (inR c21) ∧ (inR c22) ∧ (inR c23) ∧ ((fi 18) ≤ c22 ∧ c22 ≤ c23 ∧ c23 ≤ (fi 19) ∧ c19 = c23 ∧ 0 ≤ c20 ∧ c20 ≤ 4 ∧ (¬ c20 = 0 → c22 < c23)) := hp
        exact W.vret hx hb hr (fun t ht hW => ⟨⟨(c19, c20, c21, c22, c23, c16, c17), rfl, (show (inR c19) ∧ (inR c20) ∧ (inR c21) ∧ (inR c22) ∧ (inR c23) ∧ (inR c16) ∧ (inR c17) ∧ ((0 ≤ c22 ∧ c22 ≤ c23 ∧ c23 ≤ fi 19 ∧ fi 19 ≤ 600 ∧ c19 = c23 ∧ 0 ≤ c20 ∧ c20 ≤ 4 ∧ (¬ c20 = 0 → c22 < c23)) ∧ fi 22 ≤ c22 ∧ (c16 = 0 → fi 24 = 0)) from ⟨(by omega), (by omega), (by omega), (by omega), (by omega), (by omega), (by omega), (by omega)⟩), by rw [ht]; exact hP, hD⟩, hS.F ht⟩) hS.2.2 dX10_wordIs_31

set_option maxHeartbeats 4000000 in
set_option maxRecDepth 100000 in
theorem mX10_mark (l : Launch) (G : va_G) (k : Nat → ClassId) (ar : Nat → Nat) (fi : Nat → Int) (fa : Nat → Int → Int) (fl : Nat → Int64) (c0 : Int) (sz : Nat) (hR : ∀ j, inR (fi j)) (hRa : ∀ j t, inR (fa j t)) (hr_c0 : inR c0) (htk : 0 ≤ fi 22 ∧ fi 22 ≤ fi 23 ∧ fi 23 ≤ fi 19 ∧ fi 19 ≤ 600 ∧ fi 18 = fi 23 ∧ 0 ≤ fi 20 ∧ fi 20 ≤ 4 ∧ (¬ fi 20 = 0 → fi 22 < fi 23)) : CNv l G k (EZ k) yX10_mark wzX10_mark ({ frames := 2, cells := 0, slots := 0, locals := 45 }) [.ref (ar 71), .int (Int32.ofInt (c0))] sz (wM k ar fi fa fl) (fun (u : Int × Int × Int × Int × Int × Int × Int) => (inR u.1) ∧ (inR u.2.1) ∧ (inR u.2.2.1) ∧ (inR u.2.2.2.1) ∧ (inR u.2.2.2.2.1) ∧ (inR u.2.2.2.2.2.1) ∧ (inR u.2.2.2.2.2.2) ∧ ((0 ≤ u.2.2.2.1 ∧ u.2.2.2.1 ≤ u.2.2.2.2.1 ∧ u.2.2.2.2.1 ≤ fi 19 ∧ fi 19 ≤ 600 ∧ u.1 = u.2.2.2.2.1 ∧ 0 ≤ u.2.1 ∧ u.2.1 ≤ 4 ∧ (¬ u.2.1 = 0 → u.2.2.2.1 < u.2.2.2.2.1)) ∧ fi 22 ≤ u.2.2.2.1 ∧ (u.2.2.2.2.2.1 = 0 → fi 24 = 0 ∧ fi 22 < u.2.2.2.1))) (fun (u : Int × Int × Int × Int × Int × Int × Int) => (wM k ar (uF (uF (uF (uF (uF (uF (uF fi 18 (u.1)) 20 (u.2.1)) 21 (u.2.2.1)) 22 (u.2.2.2.1)) 23 (u.2.2.2.2.1)) 24 (u.2.2.2.2.2.1)) 25 (u.2.2.2.2.2.2)) fa fl)) := by
  refine Met.ofW (cc := cX10_mark) (maxL := 2) (ret := none) (by decide) rfl ?_
  intro p e s m args below meth c s₁ B hml hv
  obtain ⟨rfl, hsz, hP, hX, hD0, hZ0⟩ := hv
  have hx := B.exec
  have hb := B.bytes
  have hr := B.returns
  have hts := atoms_spec (ws := wzX10_mark) B.pre
  have hown : s.vm.findClass RX10 = some m.cls := findClass_of_methodNamed B.named
  subst hsz
  have hD := hD0.self (sz := s.heap.size)
  have hZ := hZ0
  generalize hAe : va_A (wM k ar fi fa fl) s.heap.size = A at hD hZ ⊢
  have hA : ∀ q : Nat, s.heap.size ≤ q → A q := fun q h => by rw [← hAe]; exact Or.inr h
  have hS : va_S A s.heap s.heap [] := va_S.rf
  have hl := lv_entry ([.ref (ar 71), .int (Int32.ofInt (c0))]) (n := 2) (Nat.le_of_ble_eq_true rfl)
  rw [lg_entry_eq]
  generalize (lg_sl ([.ref (ar 71), .int (Int32.ofInt (c0))]) ++ List.replicate (2 - (lg_sl ([.ref (ar 71), .int (Int32.ofInt (c0))])).length) Slot.unset).toArray = ls at hl ⊢
  have hl : lv_has ls 2 [(0, .ref (ar 71)), (1, .int (Int32.ofInt (c0)))] := hl
  obtain ⟨H, eH⟩ : ∃ H, H = s.heap := ⟨_, rfl⟩
  rw [← eH] at hP
  have hS : va_S A s.heap H [] := by rw [eH]; exact hS
  have gW : s.heap = H := eH.symm
  refine iv_heap gW ?_
  have h0w := hts (.fieldLink RX10 223 "RopeTownModel" "bad" "I") (wz_at 16 11 rfl)
  have h1w : ∀ w ∈ wsX100, w ∈ wzX10_mark := fun w h => List.mem_cons_of_mem _ (inlX10 w h)
  refine lv_aload_n hx hb dX10_mark_0 rfl (lv_at hl 0 rfl) ?_
  refine va_get (D := G) (ci := 7) (v := .int (Int32.ofInt (fi 24))) (C := RX10) (T := TX10) (N := 71) (ref := RX10) hx hb hts h1w hown hX.1 hP 0 rfl rfl 24 (by decide) h0w (fun _ h9 => h9) rfl dX10_mark_1 ?_
  have rf24 := hR 24
  refine iv_if_ne (tgt := 20) hx hb (by omega) dX10_mark_4 (by decide) (fun q1 => ?_) (fun q1 => ?_)
  · refine lv_aload_n hx hb dX10_mark_20 rfl (lv_at hl 0 rfl) ?_
    refine va_get (D := G) (ci := 7) (v := .int (Int32.ofInt (fi 24))) (C := RX10) (T := TX10) (N := 71) (ref := RX10) hx hb hts h1w hown hX.1 hP 0 rfl rfl 24 (by decide) h0w (fun _ h9 => h9) rfl dX10_mark_21 ?_
    have rf24 := hR 24
    refine iv_if_ne (tgt := 31) hx hb (by omega) dX10_mark_24 (by decide) (fun q2 => ?_) (fun q2 => ?_)
    · exact W.vret hx hb hr (fun t ht hW => ⟨⟨(fi 18, fi 20, fi 21, fi 22, fi 23, fi 24, fi 25), rfl, (show (inR (fi 18)) ∧ (inR (fi 20)) ∧ (inR (fi 21)) ∧ (inR (fi 22)) ∧ (inR (fi 23)) ∧ (inR (fi 24)) ∧ (inR (fi 25)) ∧ ((0 ≤ (fi 22) ∧ (fi 22) ≤ (fi 23) ∧ (fi 23) ≤ fi 19 ∧ fi 19 ≤ 600 ∧ (fi 18) = (fi 23) ∧ 0 ≤ (fi 20) ∧ (fi 20) ≤ 4 ∧ (¬ (fi 20) = 0 → (fi 22) < (fi 23))) ∧ fi 22 ≤ (fi 22) ∧ ((fi 24) = 0 → fi 24 = 0 ∧ fi 22 < (fi 22))) from ⟨(hR 18), (hR 20), (hR 21), (hR 22), (hR 23), (hR 24), (hR 25), (by omega)⟩), by rw [ht]; exact hP, hD⟩, hS.F ht⟩) hS.2.2 dX10_mark_31
    · refine lv_aload_n hx hb dX10_mark_27 rfl (lv_at hl 0 rfl) ?_
      refine cr_v (va_runV (As := []) (rest := []) ⟨hx, hb, hml, hown, hts⟩ (mX10_stepOn l G k ar fi fa fl H.size hR hRa (show 0 ≤ (fi 18) from by omega) (show (fi 18) ≤ (fi 19) from by omega) (show (fi 19) ≤ 600 from by omega)) (cwV 0 hts (gz [.methodLink RX10 241 yX10_stepOn, .instanceMethod yX10_stepOn, .selects RX10 yX10_stepOn yX10_stepOn, .initialized RX10] (.code yX10_stepOn cX10_stepOn 2 none) [(16, 21), (16, 22), (16, 23), (0, 5), (17, 0)] rfl) rfl rfl rfl (by decide +kernel) ⟨Nat.le_of_ble_eq_true rfl, Nat.le_of_ble_eq_true rfl⟩) (cr_preV (EZ_ok k) hZ hS hX hP hD hA (ci := 7) (q0 := 0) rfl rfl) rfl rfl hl.1 rfl (lv_room (Nat.le_of_ble_eq_true rfl)) dX10_mark_28 ⟨Nat.le_of_ble_eq_true rfl, Nat.le_of_ble_eq_true rfl⟩) hD hS hA (fun u H locs hp hP hD hS => ?_)
      obtain ⟨c3, c4, c5, c6, c7⟩ := u
      obtain ⟨hP, hD⟩ : va_P G vwCl (wM k ar (uF (uF (uF (uF (uF fi 18 (c3)) 20 (c4)) 21 (c5)) 22 (c6)) 23 (c7)) fa fl) H ∧ va_D A (wM k ar (uF (uF (uF (uF (uF fi 18 (c3)) 20 (c4)) 21 (c5)) 22 (c6)) 23 (c7)) fa fl) := ⟨hP, hD⟩
      obtain ⟨rc3, rc4, rc5, rc6, rc7, hp7⟩ : (inR c3) ∧ (inR c4) ∧ (inR c5) ∧ (inR c6) ∧ (inR c7) ∧ ((fi 18) ≤ c6 ∧ c6 ≤ c7 ∧ c7 ≤ (fi 19) ∧ c3 = c7 ∧ 0 ≤ c4 ∧ c4 ≤ 4 ∧ (¬ c4 = 0 → c6 < c7)) := hp
      exact W.vret hx hb hr (fun t ht hW => ⟨⟨(c3, c4, c5, c6, c7, fi 24, fi 25), rfl, (show (inR c3) ∧ (inR c4) ∧ (inR c5) ∧ (inR c6) ∧ (inR c7) ∧ (inR (fi 24)) ∧ (inR (fi 25)) ∧ ((0 ≤ c6 ∧ c6 ≤ c7 ∧ c7 ≤ fi 19 ∧ fi 19 ≤ 600 ∧ c3 = c7 ∧ 0 ≤ c4 ∧ c4 ≤ 4 ∧ (¬ c4 = 0 → c6 < c7)) ∧ fi 22 ≤ c6 ∧ ((fi 24) = 0 → fi 24 = 0 ∧ fi 22 < c6)) from ⟨(by omega), (by omega), (by omega), (by omega), (by omega), (hR 24), (hR 25), (by omega)⟩), by rw [ht]; exact hP, hD⟩, hS.F ht⟩) hS.2.2 dX10_mark_31
  · refine lv_aload_n hx hb dX10_mark_7 rfl (lv_at hl 0 rfl) ?_
    refine lv_iload_n hx hb dX10_mark_8 rfl (lv_at hl 1 rfl) ?_
    refine cr_i (va_runV (As := [.int (Int32.ofInt (c0))]) (rest := []) ⟨hx, hb, hml, hown, hts⟩ (mX10_isMarked l G k ar fi fa fl c0 H.size hR hRa (by omega) (show (fi 20) = 3 → 0 ≤ (fi 22) ∧ (fi 22) < 600 from by omega)) (cwV 1 hts (gz [.methodLink RX10 247 yX10_isMarked, .instanceMethod yX10_isMarked, .selects RX10 yX10_isMarked yX10_isMarked, .initialized RX10] (.code yX10_isMarked cX10_isMarked 2 (some .boolean)) [(19, 23), (20, 0), (20, 1), (0, 5), (20, 2)] rfl) rfl rfl rfl (by decide +kernel) ⟨Nat.le_of_ble_eq_true rfl, Nat.le_of_ble_eq_true rfl⟩) (cr_preV (EZ_ok k) hZ hS hX hP hD hA (ci := 7) (q0 := 0) rfl rfl) rfl rfl hl.1 rfl (lv_room (Nat.le_of_ble_eq_true rfl)) dX10_mark_9 ⟨Nat.le_of_ble_eq_true rfl, Nat.le_of_ble_eq_true rfl⟩) hD hS hA (fun r u H locs hp hP hD hS => ?_)
    obtain ⟨c8, rfl⟩ : ∃ z, z = u := ⟨_, rfl⟩
    obtain ⟨h9, rc8, hp8⟩ : r = Int32.ofInt c8 ∧ (inR c8) ∧ ((c8 = 0 ∨ c8 = 1) ∧ (c8 = 1 → (fi 24) = 0 ∧ (fi 20) = 3)) := hp
    subst h9
    refine iv_if_ne (tgt := 20) hx hb (by omega) dX10_mark_12 (by decide) (fun q9 => ?_) (fun q9 => ?_)
    · refine lv_aload_n hx hb dX10_mark_20 rfl (lv_at hl 0 rfl) ?_
      refine va_get (D := G) (ci := 7) (v := .int (Int32.ofInt (fi 24))) (C := RX10) (T := TX10) (N := 71) (ref := RX10) hx hb hts h1w hown hX.1 hP 0 rfl rfl 24 (by decide) h0w (fun _ h9 => h9) rfl dX10_mark_21 ?_
      have rf24 := hR 24
      refine iv_if_ne (tgt := 31) hx hb (by omega) dX10_mark_24 (by decide) (fun q10 => ?_) (fun q10 => ?_)
      · exact W.vret hx hb hr (fun t ht hW => ⟨⟨(fi 18, fi 20, fi 21, fi 22, fi 23, fi 24, fi 25), rfl, (show (inR (fi 18)) ∧ (inR (fi 20)) ∧ (inR (fi 21)) ∧ (inR (fi 22)) ∧ (inR (fi 23)) ∧ (inR (fi 24)) ∧ (inR (fi 25)) ∧ ((0 ≤ (fi 22) ∧ (fi 22) ≤ (fi 23) ∧ (fi 23) ≤ fi 19 ∧ fi 19 ≤ 600 ∧ (fi 18) = (fi 23) ∧ 0 ≤ (fi 20) ∧ (fi 20) ≤ 4 ∧ (¬ (fi 20) = 0 → (fi 22) < (fi 23))) ∧ fi 22 ≤ (fi 22) ∧ ((fi 24) = 0 → fi 24 = 0 ∧ fi 22 < (fi 22))) from ⟨(hR 18), (hR 20), (hR 21), (hR 22), (hR 23), (hR 24), (hR 25), (by omega)⟩), by rw [ht]; exact hP, hD⟩, hS.F ht⟩) hS.2.2 dX10_mark_31
      · refine lv_aload_n hx hb dX10_mark_27 rfl (lv_at hl 0 rfl) ?_
        refine cr_v (va_runV (As := []) (rest := []) ⟨hx, hb, hml, hown, hts⟩ (mX10_stepOn l G k ar fi fa fl H.size hR hRa (show 0 ≤ (fi 18) from by omega) (show (fi 18) ≤ (fi 19) from by omega) (show (fi 19) ≤ 600 from by omega)) (cwV 0 hts (gz [.methodLink RX10 241 yX10_stepOn, .instanceMethod yX10_stepOn, .selects RX10 yX10_stepOn yX10_stepOn, .initialized RX10] (.code yX10_stepOn cX10_stepOn 2 none) [(16, 21), (16, 22), (16, 23), (0, 5), (17, 0)] rfl) rfl rfl rfl (by decide +kernel) ⟨Nat.le_of_ble_eq_true rfl, Nat.le_of_ble_eq_true rfl⟩) (cr_preV (EZ_ok k) hZ hS hX hP hD hA (ci := 7) (q0 := 0) rfl rfl) rfl rfl hl.1 rfl (lv_room (Nat.le_of_ble_eq_true rfl)) dX10_mark_28 ⟨Nat.le_of_ble_eq_true rfl, Nat.le_of_ble_eq_true rfl⟩) hD hS hA (fun u H locs hp hP hD hS => ?_)
        obtain ⟨c11, c12, c13, c14, c15⟩ := u
        obtain ⟨hP, hD⟩ : va_P G vwCl (wM k ar (uF (uF (uF (uF (uF fi 18 (c11)) 20 (c12)) 21 (c13)) 22 (c14)) 23 (c15)) fa fl) H ∧ va_D A (wM k ar (uF (uF (uF (uF (uF fi 18 (c11)) 20 (c12)) 21 (c13)) 22 (c14)) 23 (c15)) fa fl) := ⟨hP, hD⟩
        obtain ⟨rc11, rc12, rc13, rc14, rc15, hp15⟩ : (inR c11) ∧ (inR c12) ∧ (inR c13) ∧ (inR c14) ∧ (inR c15) ∧ ((fi 18) ≤ c14 ∧ c14 ≤ c15 ∧ c15 ≤ (fi 19) ∧ c11 = c15 ∧ 0 ≤ c12 ∧ c12 ≤ 4 ∧ (¬ c12 = 0 → c14 < c15)) := hp
        exact W.vret hx hb hr (fun t ht hW => ⟨⟨(c11, c12, c13, c14, c15, fi 24, fi 25), rfl, (show (inR c11) ∧ (inR c12) ∧ (inR c13) ∧ (inR c14) ∧ (inR c15) ∧ (inR (fi 24)) ∧ (inR (fi 25)) ∧ ((0 ≤ c14 ∧ c14 ≤ c15 ∧ c15 ≤ fi 19 ∧ fi 19 ≤ 600 ∧ c11 = c15 ∧ 0 ≤ c12 ∧ c12 ≤ 4 ∧ (¬ c12 = 0 → c14 < c15)) ∧ fi 22 ≤ c14 ∧ ((fi 24) = 0 → fi 24 = 0 ∧ fi 22 < c14)) from ⟨(by omega), (by omega), (by omega), (by omega), (by omega), (hR 24), (hR 25), (by omega)⟩), by rw [ht]; exact hP, hD⟩, hS.F ht⟩) hS.2.2 dX10_mark_31
    · refine lv_aload_n hx hb dX10_mark_15 rfl (lv_at hl 0 rfl) ?_
      refine lv_iconst (v := Int32.ofInt 1) hx hb dX10_mark_16 (by decide +kernel) ?_
      refine cr_v (va_runV (As := [.int (Int32.ofInt (1))]) (rest := []) ⟨hx, hb, hml, hown, hts⟩ (mX10_wrong l G k ar fi fa fl 1 H.size hR hRa (by omega)) (cwV 1 hts (gz [.methodLink RX10 244 yX10_wrong, .instanceMethod yX10_wrong, .selects RX10 yX10_wrong yX10_wrong, .initialized RX10] (.code yX10_wrong cX10_wrong 2 none) [(18, 12), (18, 13), (18, 14), (0, 5), (18, 15)] rfl) rfl rfl rfl (by decide +kernel) ⟨Nat.le_of_ble_eq_true rfl, Nat.le_of_ble_eq_true rfl⟩) (cr_preV (EZ_ok k) hZ hS hX hP hD hA (ci := 7) (q0 := 0) rfl rfl) rfl rfl hl.1 rfl (lv_room (Nat.le_of_ble_eq_true rfl)) dX10_mark_17 ⟨Nat.le_of_ble_eq_true rfl, Nat.le_of_ble_eq_true rfl⟩) hD hS hA (fun u H locs hp hP hD hS => ?_)
      obtain ⟨c16, c17⟩ := u
      obtain ⟨hP, hD⟩ : va_P G vwCl (wM k ar (uF (uF fi 24 (c16)) 25 (c17)) fa fl) H ∧ va_D A (wM k ar (uF (uF fi 24 (c16)) 25 (c17)) fa fl) := ⟨hP, hD⟩
      obtain ⟨rc16, rc17, hp17⟩ : (inR c16) ∧ (inR c17) ∧ ((¬ (fi 24) = 0 → c16 = (fi 24)) ∧ ((fi 24) = 0 → c16 = 1)) := hp
      refine lv_aload_n hx hb dX10_mark_20 rfl (lv_at hl 0 rfl) ?_
      refine va_get (D := G) (ci := 7) (v := .int (Int32.ofInt (c16))) (C := RX10) (T := TX10) (N := 71) (ref := RX10) hx hb hts h1w hown hX.1 hP 0 rfl rfl 24 (by decide) h0w (fun _ h9 => h9) rfl dX10_mark_21 ?_
      refine iv_if_ne (tgt := 31) hx hb (by omega) dX10_mark_24 (by decide) (fun q18 => ?_) (fun q18 => ?_)
      · exact W.vret hx hb hr (fun t ht hW => ⟨⟨(fi 18, fi 20, fi 21, fi 22, fi 23, c16, c17), rfl, (show (inR (fi 18)) ∧ (inR (fi 20)) ∧ (inR (fi 21)) ∧ (inR (fi 22)) ∧ (inR (fi 23)) ∧ (inR c16) ∧ (inR c17) ∧ ((0 ≤ (fi 22) ∧ (fi 22) ≤ (fi 23) ∧ (fi 23) ≤ fi 19 ∧ fi 19 ≤ 600 ∧ (fi 18) = (fi 23) ∧ 0 ≤ (fi 20) ∧ (fi 20) ≤ 4 ∧ (¬ (fi 20) = 0 → (fi 22) < (fi 23))) ∧ fi 22 ≤ (fi 22) ∧ (c16 = 0 → fi 24 = 0 ∧ fi 22 < (fi 22))) from ⟨(hR 18), (hR 20), (hR 21), (hR 22), (hR 23), (by omega), (by omega), (by omega)⟩), by rw [ht]; exact hP, hD⟩, hS.F ht⟩) hS.2.2 dX10_mark_31
      · refine lv_aload_n hx hb dX10_mark_27 rfl (lv_at hl 0 rfl) ?_
        refine cr_v (va_runV (As := []) (rest := []) ⟨hx, hb, hml, hown, hts⟩ (mX10_stepOn l G k ar (uF (uF fi 24 (c16)) 25 (c17)) fa fl H.size (iF (iF hR (by omega)) (by omega)) hRa (show 0 ≤ (fi 18) from by omega) (show (fi 18) ≤ (fi 19) from by omega) (show (fi 19) ≤ 600 from by omega)) (cwV 0 hts (gz [.methodLink RX10 241 yX10_stepOn, .instanceMethod yX10_stepOn, .selects RX10 yX10_stepOn yX10_stepOn, .initialized RX10] (.code yX10_stepOn cX10_stepOn 2 none) [(16, 21), (16, 22), (16, 23), (0, 5), (17, 0)] rfl) rfl rfl rfl (by decide +kernel) ⟨Nat.le_of_ble_eq_true rfl, Nat.le_of_ble_eq_true rfl⟩) (cr_preV (EZ_ok k) hZ hS hX hP hD hA (ci := 7) (q0 := 0) rfl rfl) rfl rfl hl.1 rfl (lv_room (Nat.le_of_ble_eq_true rfl)) dX10_mark_28 ⟨Nat.le_of_ble_eq_true rfl, Nat.le_of_ble_eq_true rfl⟩) hD hS hA (fun u H locs hp hP hD hS => ?_)
        obtain ⟨c19, c20, c21, c22, c23⟩ := u
        obtain ⟨hP, hD⟩ : va_P G vwCl (wM k ar (uF (uF (uF (uF (uF (uF (uF fi 18 (c19)) 20 (c20)) 21 (c21)) 22 (c22)) 23 (c23)) 24 (c16)) 25 (c17)) fa fl) H ∧ va_D A (wM k ar (uF (uF (uF (uF (uF (uF (uF fi 18 (c19)) 20 (c20)) 21 (c21)) 22 (c22)) 23 (c23)) 24 (c16)) 25 (c17)) fa fl) := ⟨hP, hD⟩
        obtain ⟨rc19, rc20, rc21, rc22, rc23, hp23⟩ : (inR c19) ∧ (inR c20) ∧ (inR c21) ∧ (inR c22) ∧ (inR c23) ∧ ((fi 18) ≤ c22 ∧ c22 ≤ c23 ∧ c23 ≤ (fi 19) ∧ c19 = c23 ∧ 0 ≤ c20 ∧ c20 ≤ 4 ∧ (¬ c20 = 0 → c22 < c23)) := hp
        exact W.vret hx hb hr (fun t ht hW => ⟨⟨(c19, c20, c21, c22, c23, c16, c17), rfl, (show (inR c19) ∧ (inR c20) ∧ (inR c21) ∧ (inR c22) ∧ (inR c23) ∧ (inR c16) ∧ (inR c17) ∧ ((0 ≤ c22 ∧ c22 ≤ c23 ∧ c23 ≤ fi 19 ∧ fi 19 ≤ 600 ∧ c19 = c23 ∧ 0 ≤ c20 ∧ c20 ≤ 4 ∧ (¬ c20 = 0 → c22 < c23)) ∧ fi 22 ≤ c22 ∧ (c16 = 0 → fi 24 = 0 ∧ fi 22 < c22)) from ⟨(by omega), (by omega), (by omega), (by omega), (by omega), (by omega), (by omega), (by omega)⟩), by rw [ht]; exact hP, hD⟩, hS.F ht⟩) hS.2.2 dX10_mark_31

set_option maxHeartbeats 4000000 in
set_option maxRecDepth 100000 in
theorem mX10_readNumber (l : Launch) (G : va_G) (k : Nat → ClassId) (ar : Nat → Nat) (fi : Nat → Int) (fa : Nat → Int → Int) (fl : Nat → Int64) (l0 : Int) (t0 : Int) (sz : Nat) (hR : ∀ j, inR (fi j)) (hRa : ∀ j t, inR (fa j t)) (hr_l0 : inR l0) (hr_t0 : inR t0) (htk : 0 ≤ fi 22 ∧ fi 22 ≤ fi 23 ∧ fi 23 ≤ fi 19 ∧ fi 19 ≤ 600 ∧ fi 18 = fi 23 ∧ 0 ≤ fi 20 ∧ fi 20 ≤ 4 ∧ (¬ fi 20 = 0 → fi 22 < fi 23)) : CNi l G k (EZ k) yX10_readNumber wzX10_readNumber ({ frames := 2, cells := 0, slots := 0, locals := 45 }) [.ref (ar 71), .int (Int32.ofInt (l0)), .int (Int32.ofInt (t0))] sz (wM k ar fi fa fl) (fun (r0 : Int32) (u : Int × Int × Int × Int × Int × Int × Int × Int) => r0 = Int32.ofInt (u.1) ∧ (inR u.1) ∧ (inR u.2.1) ∧ (inR u.2.2.1) ∧ (inR u.2.2.2.1) ∧ (inR u.2.2.2.2.1) ∧ (inR u.2.2.2.2.2.1) ∧ (inR u.2.2.2.2.2.2.1) ∧ (inR u.2.2.2.2.2.2.2) ∧ ((0 ≤ u.2.2.2.2.1 ∧ u.2.2.2.2.1 ≤ u.2.2.2.2.2.1 ∧ u.2.2.2.2.2.1 ≤ fi 19 ∧ fi 19 ≤ 600 ∧ u.2.1 = u.2.2.2.2.2.1 ∧ 0 ≤ u.2.2.1 ∧ u.2.2.1 ≤ 4 ∧ (¬ u.2.2.1 = 0 → u.2.2.2.2.1 < u.2.2.2.2.2.1)) ∧ fi 22 ≤ u.2.2.2.2.1 ∧ (u.2.2.2.2.2.2.1 = 0 → fi 24 = 0 ∧ fi 22 < u.2.2.2.2.1 ∧ l0 ≤ u.1 ∧ u.1 ≤ t0))) (fun (u : Int × Int × Int × Int × Int × Int × Int × Int) => (wM k ar (uF (uF (uF (uF (uF (uF (uF fi 18 (u.2.1)) 20 (u.2.2.1)) 21 (u.2.2.2.1)) 22 (u.2.2.2.2.1)) 23 (u.2.2.2.2.2.1)) 24 (u.2.2.2.2.2.2.1)) 25 (u.2.2.2.2.2.2.2)) fa fl)) := by
  refine Met.ofW (cc := cX10_readNumber) (maxL := 4) (ret := (some .int)) (by decide) rfl ?_
  intro p e s m args below meth c s₁ B hml hv
  obtain ⟨rfl, hsz, hP, hX, hD0, hZ0⟩ := hv
  have hx := B.exec
  have hb := B.bytes
  have hr := B.returns
  have hts := atoms_spec (ws := wzX10_readNumber) B.pre
  have hown : s.vm.findClass RX10 = some m.cls := findClass_of_methodNamed B.named
  subst hsz
  have hD := hD0.self (sz := s.heap.size)
  have hZ := hZ0
  generalize hAe : va_A (wM k ar fi fa fl) s.heap.size = A at hD hZ ⊢
  have hA : ∀ q : Nat, s.heap.size ≤ q → A q := fun q h => by rw [← hAe]; exact Or.inr h
  have hS : va_S A s.heap s.heap [] := va_S.rf
  have hl := lv_entry ([.ref (ar 71), .int (Int32.ofInt (l0)), .int (Int32.ofInt (t0))]) (n := 4) (Nat.le_of_ble_eq_true rfl)
  rw [lg_entry_eq]
  generalize (lg_sl ([.ref (ar 71), .int (Int32.ofInt (l0)), .int (Int32.ofInt (t0))]) ++ List.replicate (4 - (lg_sl ([.ref (ar 71), .int (Int32.ofInt (l0)), .int (Int32.ofInt (t0))])).length) Slot.unset).toArray = ls at hl ⊢
  have hl : lv_has ls 4 [(0, .ref (ar 71)), (1, .int (Int32.ofInt (l0))), (2, .int (Int32.ofInt (t0)))] := hl
  obtain ⟨H, eH⟩ : ∃ H, H = s.heap := ⟨_, rfl⟩
  rw [← eH] at hP
  have hS : va_S A s.heap H [] := by rw [eH]; exact hS
  have gW : s.heap = H := eH.symm
  refine iv_heap gW ?_
  have h0w := hts (.fieldLink RX10 223 "RopeTownModel" "bad" "I") (wz_at 16 11 rfl)
  have h1w : ∀ w ∈ wsX100, w ∈ wzX10_readNumber := fun w h => List.mem_cons_of_mem _ (inlX10 w h)
  have h2w := hts (.fieldLink RX10 197 "RopeTownModel" "token" "I") (wz_at 16 15 rfl)
  have h3w := hts (.fieldLink RX10 220 "RopeTownModel" "ends" "I") (wz_at 17 8 rfl)
  have h4w := hts (.fieldLink RX10 194 "RopeTownModel" "begins" "I") (wz_at 17 1 rfl)
  have h5w := hts (.fieldLink RX10 207 "RopeTownModel" "number" "I") (wz_at 17 2 rfl)
  refine lv_aload_n hx hb dX10_readNumber_0 rfl (lv_at hl 0 rfl) ?_
  refine va_get (D := G) (ci := 7) (v := .int (Int32.ofInt (fi 24))) (C := RX10) (T := TX10) (N := 71) (ref := RX10) hx hb hts h1w hown hX.1 hP 0 rfl rfl 24 (by decide) h0w (fun _ h9 => h9) rfl dX10_readNumber_1 ?_
  have rf24 := hR 24
  refine iv_if_eq (tgt := 9) hx hb (by omega) dX10_readNumber_4 (by decide) (fun q1 => ?_) (fun q1 => ?_)
  · refine lv_aload_n hx hb dX10_readNumber_9 rfl (lv_at hl 0 rfl) ?_
    refine va_get (D := G) (ci := 7) (v := .int (Int32.ofInt (fi 20))) (C := RX10) (T := TX10) (N := 71) (ref := RX10) hx hb hts h1w hown hX.1 hP 0 rfl rfl 20 (by decide) h2w (fun _ h9 => h9) rfl dX10_readNumber_10 ?_
    have rf20 := hR 20
    refine lv_iconst (v := Int32.ofInt 2) hx hb dX10_readNumber_13 (by decide +kernel) ?_
    refine iv_icmp_eq (tgt := 25) hx hb (by omega) (by omega) dX10_readNumber_14 (by decide) (fun q2 => ?_) (fun q2 => ?_)
    · refine lv_aload_n hx hb dX10_readNumber_25 rfl (lv_at hl 0 rfl) ?_
      refine va_get (D := G) (ci := 7) (v := .int (Int32.ofInt (fi 23))) (C := RX10) (T := TX10) (N := 71) (ref := RX10) hx hb hts h1w hown hX.1 hP 0 rfl rfl 23 (by decide) h3w (fun _ h9 => h9) rfl dX10_readNumber_26 ?_
      have rf23 := hR 23
      refine lv_aload_n hx hb dX10_readNumber_29 rfl (lv_at hl 0 rfl) ?_
      refine va_get (D := G) (ci := 7) (v := .int (Int32.ofInt (fi 22))) (C := RX10) (T := TX10) (N := 71) (ref := RX10) hx hb hts h1w hown hX.1 hP 0 rfl rfl 22 (by decide) h4w (fun _ h9 => h9) rfl dX10_readNumber_30 ?_
      have rf22 := hR 22
      refine iv_sub (x := fi 23) (y := fi 22) hx hb dX10_readNumber_33 ?_
      refine lv_iconst (v := Int32.ofInt 4) hx hb dX10_readNumber_34 (by decide +kernel) ?_
      refine iv_icmp_gt (tgt := 54) hx hb (by omega) (by omega) dX10_readNumber_35 (by decide) (fun q3 => ?_) (fun q3 => ?_)
      · refine lv_aload_n hx hb dX10_readNumber_54 rfl (lv_at hl 0 rfl) ?_
        refine lv_iconst (v := Int32.ofInt 2) hx hb dX10_readNumber_55 (by decide +kernel) ?_
        refine cr_v (va_runV (As := [.int (Int32.ofInt (2))]) (rest := []) ⟨hx, hb, hml, hown, hts⟩ (mX10_wrong l G k ar fi fa fl 2 H.size hR hRa (by omega)) (cwV 1 hts (gz [.methodLink RX10 244 yX10_wrong, .instanceMethod yX10_wrong, .selects RX10 yX10_wrong yX10_wrong, .initialized RX10] (.code yX10_wrong cX10_wrong 2 none) [(18, 12), (18, 13), (18, 14), (0, 5), (18, 15)] rfl) rfl rfl rfl (by decide +kernel) ⟨Nat.le_of_ble_eq_true rfl, Nat.le_of_ble_eq_true rfl⟩) (cr_preV (EZ_ok k) hZ hS hX hP hD hA (ci := 7) (q0 := 0) rfl rfl) rfl rfl hl.1 rfl (lv_room (Nat.le_of_ble_eq_true rfl)) dX10_readNumber_56 ⟨Nat.le_of_ble_eq_true rfl, Nat.le_of_ble_eq_true rfl⟩) hD hS hA (fun u H locs hp hP hD hS => ?_)
        obtain ⟨c4, c5⟩ := u
        obtain ⟨hP, hD⟩ : va_P G vwCl (wM k ar (uF (uF fi 24 (c4)) 25 (c5)) fa fl) H ∧ va_D A (wM k ar (uF (uF fi 24 (c4)) 25 (c5)) fa fl) := ⟨hP, hD⟩
        obtain ⟨rc4, rc5, hp5⟩ : (inR c4) ∧ (inR c5) ∧ ((¬ (fi 24) = 0 → c4 = (fi 24)) ∧ ((fi 24) = 0 → c4 = 2)) := hp
        refine lv_aload_n hx hb dX10_readNumber_59 rfl (lv_at hl 0 rfl) ?_
        refine va_get (D := G) (ci := 7) (v := .int (Int32.ofInt (fi 21))) (C := RX10) (T := TX10) (N := 71) (ref := RX10) hx hb hts h1w hown hX.1 hP 0 rfl rfl 21 (by decide) h5w (fun _ h9 => h9) rfl dX10_readNumber_60 ?_
        have rf21 := hR 21
        refine lv_istore_n (lv' := [(3, .int (Int32.ofInt (fi 21))), (0, .ref (ar 71)), (1, .int (Int32.ofInt (l0))), (2, .int (Int32.ofInt (t0)))]) hx hb dX10_readNumber_63 rfl hl (by decide) rfl (fun ls hl => ?_)
        refine lv_aload_n hx hb dX10_readNumber_64 rfl (lv_at hl 1 rfl) ?_
        refine va_get (D := G) (ci := 7) (v := .int (Int32.ofInt (c4))) (C := RX10) (T := TX10) (N := 71) (ref := RX10) hx hb hts h1w hown hX.1 hP 0 rfl rfl 24 (by decide) h0w (fun _ h9 => h9) rfl dX10_readNumber_65 ?_
        refine iv_if_ne (tgt := 75) hx hb (by omega) dX10_readNumber_68 (by decide) (fun q6 => ?_) (fun q6 => ?_)
        · refine lv_iload_n hx hb dX10_readNumber_75 rfl (lv_at hl 0 rfl) ?_
          exact W.iret (v := Int32.ofInt (fi 21)) hx hb hr (fun t ht hW => ⟨⟨Int32.ofInt (fi 21), (fi 21, fi 18, fi 20, fi 21, fi 22, fi 23, c4, c5), rfl, ⟨rfl, (show (inR (fi 21)) ∧ (inR (fi 18)) ∧ (inR (fi 20)) ∧ (inR (fi 21)) ∧ (inR (fi 22)) ∧ (inR (fi 23)) ∧ (inR c4) ∧ (inR c5) ∧ ((0 ≤ (fi 22) ∧ (fi 22) ≤ (fi 23) ∧ (fi 23) ≤ fi 19 ∧ fi 19 ≤ 600 ∧ (fi 18) = (fi 23) ∧ 0 ≤ (fi 20) ∧ (fi 20) ≤ 4 ∧ (¬ (fi 20) = 0 → (fi 22) < (fi 23))) ∧ fi 22 ≤ (fi 22) ∧ (c4 = 0 → fi 24 = 0 ∧ fi 22 < (fi 22) ∧ l0 ≤ (fi 21) ∧ (fi 21) ≤ t0)) from ⟨(hR 21), (hR 18), (hR 20), (hR 21), (hR 22), (hR 23), (by omega), (by omega), (by omega)⟩)⟩, by rw [ht]; exact hP, hD⟩, hS.F ht⟩) hS.2.2 dX10_readNumber_76
        · refine lv_aload_n hx hb dX10_readNumber_71 rfl (lv_at hl 1 rfl) ?_
          refine cr_v (va_runV (As := []) (rest := []) ⟨hx, hb, hml, hown, hts⟩ (mX10_stepOn l G k ar (uF (uF fi 24 (c4)) 25 (c5)) fa fl H.size (iF (iF hR (by omega)) (by omega)) hRa (show 0 ≤ (fi 18) from by omega) (show (fi 18) ≤ (fi 19) from by omega) (show (fi 19) ≤ 600 from by omega)) (cwV 0 hts (gz [.methodLink RX10 241 yX10_stepOn, .instanceMethod yX10_stepOn, .selects RX10 yX10_stepOn yX10_stepOn, .initialized RX10] (.code yX10_stepOn cX10_stepOn 2 none) [(16, 21), (16, 22), (16, 23), (0, 5), (17, 0)] rfl) rfl rfl rfl (by decide +kernel) ⟨Nat.le_of_ble_eq_true rfl, Nat.le_of_ble_eq_true rfl⟩) (cr_preV (EZ_ok k) hZ hS hX hP hD hA (ci := 7) (q0 := 0) rfl rfl) rfl rfl hl.1 rfl (lv_room (Nat.le_of_ble_eq_true rfl)) dX10_readNumber_72 ⟨Nat.le_of_ble_eq_true rfl, Nat.le_of_ble_eq_true rfl⟩) hD hS hA (fun u H locs hp hP hD hS => ?_)
          obtain ⟨c7, c8, c9, c10, c11⟩ := u
          obtain ⟨hP, hD⟩ : va_P G vwCl (wM k ar (uF (uF (uF (uF (uF (uF (uF fi 18 (c7)) 20 (c8)) 21 (c9)) 22 (c10)) 23 (c11)) 24 (c4)) 25 (c5)) fa fl) H ∧ va_D A (wM k ar (uF (uF (uF (uF (uF (uF (uF fi 18 (c7)) 20 (c8)) 21 (c9)) 22 (c10)) 23 (c11)) 24 (c4)) 25 (c5)) fa fl) := ⟨hP, hD⟩
          obtain ⟨rc7, rc8, rc9, rc10, rc11, hp11⟩ : (inR c7) ∧ (inR c8) ∧ (inR c9) ∧ (inR c10) ∧ (inR c11) ∧ ((fi 18) ≤ c10 ∧ c10 ≤ c11 ∧ c11 ≤ (fi 19) ∧ c7 = c11 ∧ 0 ≤ c8 ∧ c8 ≤ 4 ∧ (¬ c8 = 0 → c10 < c11)) := hp
          refine lv_iload_n hx hb dX10_readNumber_75 rfl (lv_at hl 0 rfl) ?_
          exact W.iret (v := Int32.ofInt (fi 21)) hx hb hr (fun t ht hW => ⟨⟨Int32.ofInt (fi 21), (fi 21, c7, c8, c9, c10, c11, c4, c5), rfl, ⟨rfl, (show (inR (fi 21)) ∧ (inR c7) ∧ (inR c8) ∧ (inR c9) ∧ (inR c10) ∧ (inR c11) ∧ (inR c4) ∧ (inR c5) ∧ ((0 ≤ c10 ∧ c10 ≤ c11 ∧ c11 ≤ fi 19 ∧ fi 19 ≤ 600 ∧ c7 = c11 ∧ 0 ≤ c8 ∧ c8 ≤ 4 ∧ (¬ c8 = 0 → c10 < c11)) ∧ fi 22 ≤ c10 ∧ (c4 = 0 → fi 24 = 0 ∧ fi 22 < c10 ∧ l0 ≤ (fi 21) ∧ (fi 21) ≤ t0)) from ⟨(hR 21), (by omega), (by omega), (by omega), (by omega), (by omega), (by omega), (by omega), (by omega)⟩)⟩, by rw [ht]; exact hP, hD⟩, hS.F ht⟩) hS.2.2 dX10_readNumber_76
      · refine lv_aload_n hx hb dX10_readNumber_38 rfl (lv_at hl 0 rfl) ?_
        refine va_get (D := G) (ci := 7) (v := .int (Int32.ofInt (fi 21))) (C := RX10) (T := TX10) (N := 71) (ref := RX10) hx hb hts h1w hown hX.1 hP 0 rfl rfl 21 (by decide) h5w (fun _ h9 => h9) rfl dX10_readNumber_39 ?_
        have rf21 := hR 21
        refine lv_iload_n hx hb dX10_readNumber_42 rfl (lv_at hl 1 rfl) ?_
        refine iv_icmp_lt (tgt := 54) hx hb (by omega) (by omega) dX10_readNumber_43 (by decide) (fun q12 => ?_) (fun q12 => ?_)
        · refine lv_aload_n hx hb dX10_readNumber_54 rfl (lv_at hl 0 rfl) ?_
          refine lv_iconst (v := Int32.ofInt 2) hx hb dX10_readNumber_55 (by decide +kernel) ?_
          refine cr_v (va_runV (As := [.int (Int32.ofInt (2))]) (rest := []) ⟨hx, hb, hml, hown, hts⟩ (mX10_wrong l G k ar fi fa fl 2 H.size hR hRa (by omega)) (cwV 1 hts (gz [.methodLink RX10 244 yX10_wrong, .instanceMethod yX10_wrong, .selects RX10 yX10_wrong yX10_wrong, .initialized RX10] (.code yX10_wrong cX10_wrong 2 none) [(18, 12), (18, 13), (18, 14), (0, 5), (18, 15)] rfl) rfl rfl rfl (by decide +kernel) ⟨Nat.le_of_ble_eq_true rfl, Nat.le_of_ble_eq_true rfl⟩) (cr_preV (EZ_ok k) hZ hS hX hP hD hA (ci := 7) (q0 := 0) rfl rfl) rfl rfl hl.1 rfl (lv_room (Nat.le_of_ble_eq_true rfl)) dX10_readNumber_56 ⟨Nat.le_of_ble_eq_true rfl, Nat.le_of_ble_eq_true rfl⟩) hD hS hA (fun u H locs hp hP hD hS => ?_)
          obtain ⟨c13, c14⟩ := u
          obtain ⟨hP, hD⟩ : va_P G vwCl (wM k ar (uF (uF fi 24 (c13)) 25 (c14)) fa fl) H ∧ va_D A (wM k ar (uF (uF fi 24 (c13)) 25 (c14)) fa fl) := ⟨hP, hD⟩
          obtain ⟨rc13, rc14, hp14⟩ : (inR c13) ∧ (inR c14) ∧ ((¬ (fi 24) = 0 → c13 = (fi 24)) ∧ ((fi 24) = 0 → c13 = 2)) := hp
          refine lv_aload_n hx hb dX10_readNumber_59 rfl (lv_at hl 0 rfl) ?_
          refine va_get (D := G) (ci := 7) (v := .int (Int32.ofInt (fi 21))) (C := RX10) (T := TX10) (N := 71) (ref := RX10) hx hb hts h1w hown hX.1 hP 0 rfl rfl 21 (by decide) h5w (fun _ h9 => h9) rfl dX10_readNumber_60 ?_
          have rf21 := hR 21
          refine lv_istore_n (lv' := [(3, .int (Int32.ofInt (fi 21))), (0, .ref (ar 71)), (1, .int (Int32.ofInt (l0))), (2, .int (Int32.ofInt (t0)))]) hx hb dX10_readNumber_63 rfl hl (by decide) rfl (fun ls hl => ?_)
          refine lv_aload_n hx hb dX10_readNumber_64 rfl (lv_at hl 1 rfl) ?_
          refine va_get (D := G) (ci := 7) (v := .int (Int32.ofInt (c13))) (C := RX10) (T := TX10) (N := 71) (ref := RX10) hx hb hts h1w hown hX.1 hP 0 rfl rfl 24 (by decide) h0w (fun _ h9 => h9) rfl dX10_readNumber_65 ?_
          refine iv_if_ne (tgt := 75) hx hb (by omega) dX10_readNumber_68 (by decide) (fun q15 => ?_) (fun q15 => ?_)
          · refine lv_iload_n hx hb dX10_readNumber_75 rfl (lv_at hl 0 rfl) ?_
            exact W.iret (v := Int32.ofInt (fi 21)) hx hb hr (fun t ht hW => ⟨⟨Int32.ofInt (fi 21), (fi 21, fi 18, fi 20, fi 21, fi 22, fi 23, c13, c14), rfl, ⟨rfl, (show (inR (fi 21)) ∧ (inR (fi 18)) ∧ (inR (fi 20)) ∧ (inR (fi 21)) ∧ (inR (fi 22)) ∧ (inR (fi 23)) ∧ (inR c13) ∧ (inR c14) ∧ ((0 ≤ (fi 22) ∧ (fi 22) ≤ (fi 23) ∧ (fi 23) ≤ fi 19 ∧ fi 19 ≤ 600 ∧ (fi 18) = (fi 23) ∧ 0 ≤ (fi 20) ∧ (fi 20) ≤ 4 ∧ (¬ (fi 20) = 0 → (fi 22) < (fi 23))) ∧ fi 22 ≤ (fi 22) ∧ (c13 = 0 → fi 24 = 0 ∧ fi 22 < (fi 22) ∧ l0 ≤ (fi 21) ∧ (fi 21) ≤ t0)) from ⟨(hR 21), (hR 18), (hR 20), (hR 21), (hR 22), (hR 23), (by omega), (by omega), (by omega)⟩)⟩, by rw [ht]; exact hP, hD⟩, hS.F ht⟩) hS.2.2 dX10_readNumber_76
          · refine lv_aload_n hx hb dX10_readNumber_71 rfl (lv_at hl 1 rfl) ?_
            refine cr_v (va_runV (As := []) (rest := []) ⟨hx, hb, hml, hown, hts⟩ (mX10_stepOn l G k ar (uF (uF fi 24 (c13)) 25 (c14)) fa fl H.size (iF (iF hR (by omega)) (by omega)) hRa (show 0 ≤ (fi 18) from by omega) (show (fi 18) ≤ (fi 19) from by omega) (show (fi 19) ≤ 600 from by omega)) (cwV 0 hts (gz [.methodLink RX10 241 yX10_stepOn, .instanceMethod yX10_stepOn, .selects RX10 yX10_stepOn yX10_stepOn, .initialized RX10] (.code yX10_stepOn cX10_stepOn 2 none) [(16, 21), (16, 22), (16, 23), (0, 5), (17, 0)] rfl) rfl rfl rfl (by decide +kernel) ⟨Nat.le_of_ble_eq_true rfl, Nat.le_of_ble_eq_true rfl⟩) (cr_preV (EZ_ok k) hZ hS hX hP hD hA (ci := 7) (q0 := 0) rfl rfl) rfl rfl hl.1 rfl (lv_room (Nat.le_of_ble_eq_true rfl)) dX10_readNumber_72 ⟨Nat.le_of_ble_eq_true rfl, Nat.le_of_ble_eq_true rfl⟩) hD hS hA (fun u H locs hp hP hD hS => ?_)
            obtain ⟨c16, c17, c18, c19, c20⟩ := u
            obtain ⟨hP, hD⟩ : va_P G vwCl (wM k ar (uF (uF (uF (uF (uF (uF (uF fi 18 (c16)) 20 (c17)) 21 (c18)) 22 (c19)) 23 (c20)) 24 (c13)) 25 (c14)) fa fl) H ∧ va_D A (wM k ar (uF (uF (uF (uF (uF (uF (uF fi 18 (c16)) 20 (c17)) 21 (c18)) 22 (c19)) 23 (c20)) 24 (c13)) 25 (c14)) fa fl) := ⟨hP, hD⟩
            obtain ⟨rc16, rc17, rc18, rc19, rc20, hp20⟩ : (inR c16) ∧ (inR c17) ∧ (inR c18) ∧ (inR c19) ∧ (inR c20) ∧ ((fi 18) ≤ c19 ∧ c19 ≤ c20 ∧ c20 ≤ (fi 19) ∧ c16 = c20 ∧ 0 ≤ c17 ∧ c17 ≤ 4 ∧ (¬ c17 = 0 → c19 < c20)) := hp
            refine lv_iload_n hx hb dX10_readNumber_75 rfl (lv_at hl 0 rfl) ?_
            exact W.iret (v := Int32.ofInt (fi 21)) hx hb hr (fun t ht hW => ⟨⟨Int32.ofInt (fi 21), (fi 21, c16, c17, c18, c19, c20, c13, c14), rfl, ⟨rfl, (show (inR (fi 21)) ∧ (inR c16) ∧ (inR c17) ∧ (inR c18) ∧ (inR c19) ∧ (inR c20) ∧ (inR c13) ∧ (inR c14) ∧ ((0 ≤ c19 ∧ c19 ≤ c20 ∧ c20 ≤ fi 19 ∧ fi 19 ≤ 600 ∧ c16 = c20 ∧ 0 ≤ c17 ∧ c17 ≤ 4 ∧ (¬ c17 = 0 → c19 < c20)) ∧ fi 22 ≤ c19 ∧ (c13 = 0 → fi 24 = 0 ∧ fi 22 < c19 ∧ l0 ≤ (fi 21) ∧ (fi 21) ≤ t0)) from ⟨(hR 21), (by omega), (by omega), (by omega), (by omega), (by omega), (by omega), (by omega), (by omega)⟩)⟩, by rw [ht]; exact hP, hD⟩, hS.F ht⟩) hS.2.2 dX10_readNumber_76
        · refine lv_aload_n hx hb dX10_readNumber_46 rfl (lv_at hl 0 rfl) ?_
          refine va_get (D := G) (ci := 7) (v := .int (Int32.ofInt (fi 21))) (C := RX10) (T := TX10) (N := 71) (ref := RX10) hx hb hts h1w hown hX.1 hP 0 rfl rfl 21 (by decide) h5w (fun _ h9 => h9) rfl dX10_readNumber_47 ?_
          have rf21 := hR 21
          refine lv_iload_n hx hb dX10_readNumber_50 rfl (lv_at hl 2 rfl) ?_
          refine iv_icmp_le (tgt := 59) hx hb (by omega) (by omega) dX10_readNumber_51 (by decide) (fun q21 => ?_) (fun q21 => ?_)
          · refine lv_aload_n hx hb dX10_readNumber_59 rfl (lv_at hl 0 rfl) ?_
            refine va_get (D := G) (ci := 7) (v := .int (Int32.ofInt (fi 21))) (C := RX10) (T := TX10) (N := 71) (ref := RX10) hx hb hts h1w hown hX.1 hP 0 rfl rfl 21 (by decide) h5w (fun _ h9 => h9) rfl dX10_readNumber_60 ?_
            have rf21 := hR 21
            refine lv_istore_n (lv' := [(3, .int (Int32.ofInt (fi 21))), (0, .ref (ar 71)), (1, .int (Int32.ofInt (l0))), (2, .int (Int32.ofInt (t0)))]) hx hb dX10_readNumber_63 rfl hl (by decide) rfl (fun ls hl => ?_)
            refine lv_aload_n hx hb dX10_readNumber_64 rfl (lv_at hl 1 rfl) ?_
            refine va_get (D := G) (ci := 7) (v := .int (Int32.ofInt (fi 24))) (C := RX10) (T := TX10) (N := 71) (ref := RX10) hx hb hts h1w hown hX.1 hP 0 rfl rfl 24 (by decide) h0w (fun _ h9 => h9) rfl dX10_readNumber_65 ?_
            have rf24 := hR 24
            refine iv_if_ne (tgt := 75) hx hb (by omega) dX10_readNumber_68 (by decide) (fun q22 => ?_) (fun q22 => ?_)
            · refine lv_iload_n hx hb dX10_readNumber_75 rfl (lv_at hl 0 rfl) ?_
              exact W.iret (v := Int32.ofInt (fi 21)) hx hb hr (fun t ht hW => ⟨⟨Int32.ofInt (fi 21), (fi 21, fi 18, fi 20, fi 21, fi 22, fi 23, fi 24, fi 25), rfl, ⟨rfl, (show (inR (fi 21)) ∧ (inR (fi 18)) ∧ (inR (fi 20)) ∧ (inR (fi 21)) ∧ (inR (fi 22)) ∧ (inR (fi 23)) ∧ (inR (fi 24)) ∧ (inR (fi 25)) ∧ ((0 ≤ (fi 22) ∧ (fi 22) ≤ (fi 23) ∧ (fi 23) ≤ fi 19 ∧ fi 19 ≤ 600 ∧ (fi 18) = (fi 23) ∧ 0 ≤ (fi 20) ∧ (fi 20) ≤ 4 ∧ (¬ (fi 20) = 0 → (fi 22) < (fi 23))) ∧ fi 22 ≤ (fi 22) ∧ ((fi 24) = 0 → fi 24 = 0 ∧ fi 22 < (fi 22) ∧ l0 ≤ (fi 21) ∧ (fi 21) ≤ t0)) from ⟨(hR 21), (hR 18), (hR 20), (hR 21), (hR 22), (hR 23), (hR 24), (hR 25), (by omega)⟩)⟩, by rw [ht]; exact hP, hD⟩, hS.F ht⟩) hS.2.2 dX10_readNumber_76
            · refine lv_aload_n hx hb dX10_readNumber_71 rfl (lv_at hl 1 rfl) ?_
              refine cr_v (va_runV (As := []) (rest := []) ⟨hx, hb, hml, hown, hts⟩ (mX10_stepOn l G k ar fi fa fl H.size hR hRa (show 0 ≤ (fi 18) from by omega) (show (fi 18) ≤ (fi 19) from by omega) (show (fi 19) ≤ 600 from by omega)) (cwV 0 hts (gz [.methodLink RX10 241 yX10_stepOn, .instanceMethod yX10_stepOn, .selects RX10 yX10_stepOn yX10_stepOn, .initialized RX10] (.code yX10_stepOn cX10_stepOn 2 none) [(16, 21), (16, 22), (16, 23), (0, 5), (17, 0)] rfl) rfl rfl rfl (by decide +kernel) ⟨Nat.le_of_ble_eq_true rfl, Nat.le_of_ble_eq_true rfl⟩) (cr_preV (EZ_ok k) hZ hS hX hP hD hA (ci := 7) (q0 := 0) rfl rfl) rfl rfl hl.1 rfl (lv_room (Nat.le_of_ble_eq_true rfl)) dX10_readNumber_72 ⟨Nat.le_of_ble_eq_true rfl, Nat.le_of_ble_eq_true rfl⟩) hD hS hA (fun u H locs hp hP hD hS => ?_)
              obtain ⟨c23, c24, c25, c26, c27⟩ := u
              obtain ⟨hP, hD⟩ : va_P G vwCl (wM k ar (uF (uF (uF (uF (uF fi 18 (c23)) 20 (c24)) 21 (c25)) 22 (c26)) 23 (c27)) fa fl) H ∧ va_D A (wM k ar (uF (uF (uF (uF (uF fi 18 (c23)) 20 (c24)) 21 (c25)) 22 (c26)) 23 (c27)) fa fl) := ⟨hP, hD⟩
              obtain ⟨rc23, rc24, rc25, rc26, rc27, hp27⟩ : (inR c23) ∧ (inR c24) ∧ (inR c25) ∧ (inR c26) ∧ (inR c27) ∧ ((fi 18) ≤ c26 ∧ c26 ≤ c27 ∧ c27 ≤ (fi 19) ∧ c23 = c27 ∧ 0 ≤ c24 ∧ c24 ≤ 4 ∧ (¬ c24 = 0 → c26 < c27)) := hp
              refine lv_iload_n hx hb dX10_readNumber_75 rfl (lv_at hl 0 rfl) ?_
              exact W.iret (v := Int32.ofInt (fi 21)) hx hb hr (fun t ht hW => ⟨⟨Int32.ofInt (fi 21), (fi 21, c23, c24, c25, c26, c27, fi 24, fi 25), rfl, ⟨rfl, (show (inR (fi 21)) ∧ (inR c23) ∧ (inR c24) ∧ (inR c25) ∧ (inR c26) ∧ (inR c27) ∧ (inR (fi 24)) ∧ (inR (fi 25)) ∧ ((0 ≤ c26 ∧ c26 ≤ c27 ∧ c27 ≤ fi 19 ∧ fi 19 ≤ 600 ∧ c23 = c27 ∧ 0 ≤ c24 ∧ c24 ≤ 4 ∧ (¬ c24 = 0 → c26 < c27)) ∧ fi 22 ≤ c26 ∧ ((fi 24) = 0 → fi 24 = 0 ∧ fi 22 < c26 ∧ l0 ≤ (fi 21) ∧ (fi 21) ≤ t0)) from ⟨(hR 21), (by omega), (by omega), (by omega), (by omega), (by omega), (hR 24), (hR 25), (by omega)⟩)⟩, by rw [ht]; exact hP, hD⟩, hS.F ht⟩) hS.2.2 dX10_readNumber_76
          · refine lv_aload_n hx hb dX10_readNumber_54 rfl (lv_at hl 0 rfl) ?_
            refine lv_iconst (v := Int32.ofInt 2) hx hb dX10_readNumber_55 (by decide +kernel) ?_
            refine cr_v (va_runV (As := [.int (Int32.ofInt (2))]) (rest := []) ⟨hx, hb, hml, hown, hts⟩ (mX10_wrong l G k ar fi fa fl 2 H.size hR hRa (by omega)) (cwV 1 hts (gz [.methodLink RX10 244 yX10_wrong, .instanceMethod yX10_wrong, .selects RX10 yX10_wrong yX10_wrong, .initialized RX10] (.code yX10_wrong cX10_wrong 2 none) [(18, 12), (18, 13), (18, 14), (0, 5), (18, 15)] rfl) rfl rfl rfl (by decide +kernel) ⟨Nat.le_of_ble_eq_true rfl, Nat.le_of_ble_eq_true rfl⟩) (cr_preV (EZ_ok k) hZ hS hX hP hD hA (ci := 7) (q0 := 0) rfl rfl) rfl rfl hl.1 rfl (lv_room (Nat.le_of_ble_eq_true rfl)) dX10_readNumber_56 ⟨Nat.le_of_ble_eq_true rfl, Nat.le_of_ble_eq_true rfl⟩) hD hS hA (fun u H locs hp hP hD hS => ?_)
            obtain ⟨c28, c29⟩ := u
            obtain ⟨hP, hD⟩ : va_P G vwCl (wM k ar (uF (uF fi 24 (c28)) 25 (c29)) fa fl) H ∧ va_D A (wM k ar (uF (uF fi 24 (c28)) 25 (c29)) fa fl) := ⟨hP, hD⟩
            obtain ⟨rc28, rc29, hp29⟩ : (inR c28) ∧ (inR c29) ∧ ((¬ (fi 24) = 0 → c28 = (fi 24)) ∧ ((fi 24) = 0 → c28 = 2)) := hp
            refine lv_aload_n hx hb dX10_readNumber_59 rfl (lv_at hl 0 rfl) ?_
            refine va_get (D := G) (ci := 7) (v := .int (Int32.ofInt (fi 21))) (C := RX10) (T := TX10) (N := 71) (ref := RX10) hx hb hts h1w hown hX.1 hP 0 rfl rfl 21 (by decide) h5w (fun _ h9 => h9) rfl dX10_readNumber_60 ?_
            have rf21 := hR 21
            refine lv_istore_n (lv' := [(3, .int (Int32.ofInt (fi 21))), (0, .ref (ar 71)), (1, .int (Int32.ofInt (l0))), (2, .int (Int32.ofInt (t0)))]) hx hb dX10_readNumber_63 rfl hl (by decide) rfl (fun ls hl => ?_)
            refine lv_aload_n hx hb dX10_readNumber_64 rfl (lv_at hl 1 rfl) ?_
            refine va_get (D := G) (ci := 7) (v := .int (Int32.ofInt (c28))) (C := RX10) (T := TX10) (N := 71) (ref := RX10) hx hb hts h1w hown hX.1 hP 0 rfl rfl 24 (by decide) h0w (fun _ h9 => h9) rfl dX10_readNumber_65 ?_
            refine iv_if_ne (tgt := 75) hx hb (by omega) dX10_readNumber_68 (by decide) (fun q30 => ?_) (fun q30 => ?_)
            · refine lv_iload_n hx hb dX10_readNumber_75 rfl (lv_at hl 0 rfl) ?_
              exact W.iret (v := Int32.ofInt (fi 21)) hx hb hr (fun t ht hW => ⟨⟨Int32.ofInt (fi 21), (fi 21, fi 18, fi 20, fi 21, fi 22, fi 23, c28, c29), rfl, ⟨rfl, (show (inR (fi 21)) ∧ (inR (fi 18)) ∧ (inR (fi 20)) ∧ (inR (fi 21)) ∧ (inR (fi 22)) ∧ (inR (fi 23)) ∧ (inR c28) ∧ (inR c29) ∧ ((0 ≤ (fi 22) ∧ (fi 22) ≤ (fi 23) ∧ (fi 23) ≤ fi 19 ∧ fi 19 ≤ 600 ∧ (fi 18) = (fi 23) ∧ 0 ≤ (fi 20) ∧ (fi 20) ≤ 4 ∧ (¬ (fi 20) = 0 → (fi 22) < (fi 23))) ∧ fi 22 ≤ (fi 22) ∧ (c28 = 0 → fi 24 = 0 ∧ fi 22 < (fi 22) ∧ l0 ≤ (fi 21) ∧ (fi 21) ≤ t0)) from ⟨(hR 21), (hR 18), (hR 20), (hR 21), (hR 22), (hR 23), (by omega), (by omega), (by omega)⟩)⟩, by rw [ht]; exact hP, hD⟩, hS.F ht⟩) hS.2.2 dX10_readNumber_76
            · refine lv_aload_n hx hb dX10_readNumber_71 rfl (lv_at hl 1 rfl) ?_
              refine cr_v (va_runV (As := []) (rest := []) ⟨hx, hb, hml, hown, hts⟩ (mX10_stepOn l G k ar (uF (uF fi 24 (c28)) 25 (c29)) fa fl H.size (iF (iF hR (by omega)) (by omega)) hRa (show 0 ≤ (fi 18) from by omega) (show (fi 18) ≤ (fi 19) from by omega) (show (fi 19) ≤ 600 from by omega)) (cwV 0 hts (gz [.methodLink RX10 241 yX10_stepOn, .instanceMethod yX10_stepOn, .selects RX10 yX10_stepOn yX10_stepOn, .initialized RX10] (.code yX10_stepOn cX10_stepOn 2 none) [(16, 21), (16, 22), (16, 23), (0, 5), (17, 0)] rfl) rfl rfl rfl (by decide +kernel) ⟨Nat.le_of_ble_eq_true rfl, Nat.le_of_ble_eq_true rfl⟩) (cr_preV (EZ_ok k) hZ hS hX hP hD hA (ci := 7) (q0 := 0) rfl rfl) rfl rfl hl.1 rfl (lv_room (Nat.le_of_ble_eq_true rfl)) dX10_readNumber_72 ⟨Nat.le_of_ble_eq_true rfl, Nat.le_of_ble_eq_true rfl⟩) hD hS hA (fun u H locs hp hP hD hS => ?_)
              obtain ⟨c31, c32, c33, c34, c35⟩ := u
              obtain ⟨hP, hD⟩ : va_P G vwCl (wM k ar (uF (uF (uF (uF (uF (uF (uF fi 18 (c31)) 20 (c32)) 21 (c33)) 22 (c34)) 23 (c35)) 24 (c28)) 25 (c29)) fa fl) H ∧ va_D A (wM k ar (uF (uF (uF (uF (uF (uF (uF fi 18 (c31)) 20 (c32)) 21 (c33)) 22 (c34)) 23 (c35)) 24 (c28)) 25 (c29)) fa fl) := ⟨hP, hD⟩
              obtain ⟨rc31, rc32, rc33, rc34, rc35, hp35⟩ : (inR c31) ∧ (inR c32) ∧ (inR c33) ∧ (inR c34) ∧ (inR c35) ∧ ((fi 18) ≤ c34 ∧ c34 ≤ c35 ∧ c35 ≤ (fi 19) ∧ c31 = c35 ∧ 0 ≤ c32 ∧ c32 ≤ 4 ∧ (¬ c32 = 0 → c34 < c35)) := hp
              refine lv_iload_n hx hb dX10_readNumber_75 rfl (lv_at hl 0 rfl) ?_
              exact W.iret (v := Int32.ofInt (fi 21)) hx hb hr (fun t ht hW => ⟨⟨Int32.ofInt (fi 21), (fi 21, c31, c32, c33, c34, c35, c28, c29), rfl, ⟨rfl, (show (inR (fi 21)) ∧ (inR c31) ∧ (inR c32) ∧ (inR c33) ∧ (inR c34) ∧ (inR c35) ∧ (inR c28) ∧ (inR c29) ∧ ((0 ≤ c34 ∧ c34 ≤ c35 ∧ c35 ≤ fi 19 ∧ fi 19 ≤ 600 ∧ c31 = c35 ∧ 0 ≤ c32 ∧ c32 ≤ 4 ∧ (¬ c32 = 0 → c34 < c35)) ∧ fi 22 ≤ c34 ∧ (c28 = 0 → fi 24 = 0 ∧ fi 22 < c34 ∧ l0 ≤ (fi 21) ∧ (fi 21) ≤ t0)) from ⟨(hR 21), (by omega), (by omega), (by omega), (by omega), (by omega), (by omega), (by omega), (by omega)⟩)⟩, by rw [ht]; exact hP, hD⟩, hS.F ht⟩) hS.2.2 dX10_readNumber_76
    · refine lv_aload_n hx hb dX10_readNumber_17 rfl (lv_at hl 0 rfl) ?_
      refine lv_iconst (v := Int32.ofInt 1) hx hb dX10_readNumber_18 (by decide +kernel) ?_
      refine cr_v (va_runV (As := [.int (Int32.ofInt (1))]) (rest := []) ⟨hx, hb, hml, hown, hts⟩ (mX10_wrong l G k ar fi fa fl 1 H.size hR hRa (by omega)) (cwV 1 hts (gz [.methodLink RX10 244 yX10_wrong, .instanceMethod yX10_wrong, .selects RX10 yX10_wrong yX10_wrong, .initialized RX10] (.code yX10_wrong cX10_wrong 2 none) [(18, 12), (18, 13), (18, 14), (0, 5), (18, 15)] rfl) rfl rfl rfl (by decide +kernel) ⟨Nat.le_of_ble_eq_true rfl, Nat.le_of_ble_eq_true rfl⟩) (cr_preV (EZ_ok k) hZ hS hX hP hD hA (ci := 7) (q0 := 0) rfl rfl) rfl rfl hl.1 rfl (lv_room (Nat.le_of_ble_eq_true rfl)) dX10_readNumber_19 ⟨Nat.le_of_ble_eq_true rfl, Nat.le_of_ble_eq_true rfl⟩) hD hS hA (fun u H locs hp hP hD hS => ?_)
      obtain ⟨c36, c37⟩ := u
      obtain ⟨hP, hD⟩ : va_P G vwCl (wM k ar (uF (uF fi 24 (c36)) 25 (c37)) fa fl) H ∧ va_D A (wM k ar (uF (uF fi 24 (c36)) 25 (c37)) fa fl) := ⟨hP, hD⟩
      obtain ⟨rc36, rc37, hp37⟩ : (inR c36) ∧ (inR c37) ∧ ((¬ (fi 24) = 0 → c36 = (fi 24)) ∧ ((fi 24) = 0 → c36 = 1)) := hp
      refine lv_goto (tgt := 59) hx hb dX10_readNumber_22 (by decide) ?_
      refine lv_aload_n hx hb dX10_readNumber_59 rfl (lv_at hl 0 rfl) ?_
      refine va_get (D := G) (ci := 7) (v := .int (Int32.ofInt (fi 21))) (C := RX10) (T := TX10) (N := 71) (ref := RX10) hx hb hts h1w hown hX.1 hP 0 rfl rfl 21 (by decide) h5w (fun _ h9 => h9) rfl dX10_readNumber_60 ?_
      have rf21 := hR 21
      refine lv_istore_n (lv' := [(3, .int (Int32.ofInt (fi 21))), (0, .ref (ar 71)), (1, .int (Int32.ofInt (l0))), (2, .int (Int32.ofInt (t0)))]) hx hb dX10_readNumber_63 rfl hl (by decide) rfl (fun ls hl => ?_)
      refine lv_aload_n hx hb dX10_readNumber_64 rfl (lv_at hl 1 rfl) ?_
      refine va_get (D := G) (ci := 7) (v := .int (Int32.ofInt (c36))) (C := RX10) (T := TX10) (N := 71) (ref := RX10) hx hb hts h1w hown hX.1 hP 0 rfl rfl 24 (by decide) h0w (fun _ h9 => h9) rfl dX10_readNumber_65 ?_
      refine iv_if_ne (tgt := 75) hx hb (by omega) dX10_readNumber_68 (by decide) (fun q38 => ?_) (fun q38 => ?_)
      · refine lv_iload_n hx hb dX10_readNumber_75 rfl (lv_at hl 0 rfl) ?_
        exact W.iret (v := Int32.ofInt (fi 21)) hx hb hr (fun t ht hW => ⟨⟨Int32.ofInt (fi 21), (fi 21, fi 18, fi 20, fi 21, fi 22, fi 23, c36, c37), rfl, ⟨rfl, (show (inR (fi 21)) ∧ (inR (fi 18)) ∧ (inR (fi 20)) ∧ (inR (fi 21)) ∧ (inR (fi 22)) ∧ (inR (fi 23)) ∧ (inR c36) ∧ (inR c37) ∧ ((0 ≤ (fi 22) ∧ (fi 22) ≤ (fi 23) ∧ (fi 23) ≤ fi 19 ∧ fi 19 ≤ 600 ∧ (fi 18) = (fi 23) ∧ 0 ≤ (fi 20) ∧ (fi 20) ≤ 4 ∧ (¬ (fi 20) = 0 → (fi 22) < (fi 23))) ∧ fi 22 ≤ (fi 22) ∧ (c36 = 0 → fi 24 = 0 ∧ fi 22 < (fi 22) ∧ l0 ≤ (fi 21) ∧ (fi 21) ≤ t0)) from ⟨(hR 21), (hR 18), (hR 20), (hR 21), (hR 22), (hR 23), (by omega), (by omega), (by omega)⟩)⟩, by rw [ht]; exact hP, hD⟩, hS.F ht⟩) hS.2.2 dX10_readNumber_76
      · refine lv_aload_n hx hb dX10_readNumber_71 rfl (lv_at hl 1 rfl) ?_
        refine cr_v (va_runV (As := []) (rest := []) ⟨hx, hb, hml, hown, hts⟩ (mX10_stepOn l G k ar (uF (uF fi 24 (c36)) 25 (c37)) fa fl H.size (iF (iF hR (by omega)) (by omega)) hRa (show 0 ≤ (fi 18) from by omega) (show (fi 18) ≤ (fi 19) from by omega) (show (fi 19) ≤ 600 from by omega)) (cwV 0 hts (gz [.methodLink RX10 241 yX10_stepOn, .instanceMethod yX10_stepOn, .selects RX10 yX10_stepOn yX10_stepOn, .initialized RX10] (.code yX10_stepOn cX10_stepOn 2 none) [(16, 21), (16, 22), (16, 23), (0, 5), (17, 0)] rfl) rfl rfl rfl (by decide +kernel) ⟨Nat.le_of_ble_eq_true rfl, Nat.le_of_ble_eq_true rfl⟩) (cr_preV (EZ_ok k) hZ hS hX hP hD hA (ci := 7) (q0 := 0) rfl rfl) rfl rfl hl.1 rfl (lv_room (Nat.le_of_ble_eq_true rfl)) dX10_readNumber_72 ⟨Nat.le_of_ble_eq_true rfl, Nat.le_of_ble_eq_true rfl⟩) hD hS hA (fun u H locs hp hP hD hS => ?_)
        obtain ⟨c39, c40, c41, c42, c43⟩ := u
        obtain ⟨hP, hD⟩ : va_P G vwCl (wM k ar (uF (uF (uF (uF (uF (uF (uF fi 18 (c39)) 20 (c40)) 21 (c41)) 22 (c42)) 23 (c43)) 24 (c36)) 25 (c37)) fa fl) H ∧ va_D A (wM k ar (uF (uF (uF (uF (uF (uF (uF fi 18 (c39)) 20 (c40)) 21 (c41)) 22 (c42)) 23 (c43)) 24 (c36)) 25 (c37)) fa fl) := ⟨hP, hD⟩
        obtain ⟨rc39, rc40, rc41, rc42, rc43, hp43⟩ : (inR c39) ∧ (inR c40) ∧ (inR c41) ∧ (inR c42) ∧ (inR c43) ∧ ((fi 18) ≤ c42 ∧ c42 ≤ c43 ∧ c43 ≤ (fi 19) ∧ c39 = c43 ∧ 0 ≤ c40 ∧ c40 ≤ 4 ∧ (¬ c40 = 0 → c42 < c43)) := hp
        refine lv_iload_n hx hb dX10_readNumber_75 rfl (lv_at hl 0 rfl) ?_
        exact W.iret (v := Int32.ofInt (fi 21)) hx hb hr (fun t ht hW => ⟨⟨Int32.ofInt (fi 21), (fi 21, c39, c40, c41, c42, c43, c36, c37), rfl, ⟨rfl, (show (inR (fi 21)) ∧ (inR c39) ∧ (inR c40) ∧ (inR c41) ∧ (inR c42) ∧ (inR c43) ∧ (inR c36) ∧ (inR c37) ∧ ((0 ≤ c42 ∧ c42 ≤ c43 ∧ c43 ≤ fi 19 ∧ fi 19 ≤ 600 ∧ c39 = c43 ∧ 0 ≤ c40 ∧ c40 ≤ 4 ∧ (¬ c40 = 0 → c42 < c43)) ∧ fi 22 ≤ c42 ∧ (c36 = 0 → fi 24 = 0 ∧ fi 22 < c42 ∧ l0 ≤ (fi 21) ∧ (fi 21) ≤ t0)) from ⟨(hR 21), (by omega), (by omega), (by omega), (by omega), (by omega), (by omega), (by omega), (by omega)⟩)⟩, by rw [ht]; exact hP, hD⟩, hS.F ht⟩) hS.2.2 dX10_readNumber_76
  · refine lv_iconst (v := Int32.ofInt 0) hx hb dX10_readNumber_7 (by decide +kernel) ?_
    exact W.iret (v := Int32.ofInt (0)) hx hb hr (fun t ht hW => ⟨⟨Int32.ofInt (0), (0, fi 18, fi 20, fi 21, fi 22, fi 23, fi 24, fi 25), rfl, ⟨rfl, (show (inR 0) ∧ (inR (fi 18)) ∧ (inR (fi 20)) ∧ (inR (fi 21)) ∧ (inR (fi 22)) ∧ (inR (fi 23)) ∧ (inR (fi 24)) ∧ (inR (fi 25)) ∧ ((0 ≤ (fi 22) ∧ (fi 22) ≤ (fi 23) ∧ (fi 23) ≤ fi 19 ∧ fi 19 ≤ 600 ∧ (fi 18) = (fi 23) ∧ 0 ≤ (fi 20) ∧ (fi 20) ≤ 4 ∧ (¬ (fi 20) = 0 → (fi 22) < (fi 23))) ∧ fi 22 ≤ (fi 22) ∧ ((fi 24) = 0 → fi 24 = 0 ∧ fi 22 < (fi 22) ∧ l0 ≤ 0 ∧ 0 ≤ t0)) from ⟨(by omega), (hR 18), (hR 20), (hR 21), (hR 22), (hR 23), (hR 24), (hR 25), (by omega)⟩)⟩, by rw [ht]; exact hP, hD⟩, hS.F ht⟩) hS.2.2 dX10_readNumber_8

