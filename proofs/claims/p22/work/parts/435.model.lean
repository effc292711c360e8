set_option maxHeartbeats 4000000 in
set_option maxRecDepth 100000 in
theorem mX10_readThing (l : Launch) (G : va_G) (k : Nat → ClassId) (ar : Nat → Nat) (fi : Nat → Int) (fa : Nat → Int → Int) (fl : Nat → Int64) (w0 : Int) (sz : Nat) (hR : ∀ j, inR (fi j)) (hRa : ∀ j t, inR (fa j t)) (hr_w0 : inR w0) (htk : 0 ≤ fi 22 ∧ fi 22 ≤ fi 23 ∧ fi 23 ≤ fi 19 ∧ fi 19 ≤ 600 ∧ fi 18 = fi 23 ∧ 0 ≤ fi 20 ∧ fi 20 ≤ 4 ∧ (¬ fi 20 = 0 → fi 22 < fi 23)) (hrt : 0 ≤ fi 14 ∧ fi 14 < 7) (hT : ∀ t, 0 ≤ t → t < fi 19 → 0 ≤ fa 16 t ∧ fa 16 t ≤ 255) (hty : TS (fa 16) (fi 19) (fi 24) (fi 22) (fi 23) (fi 20) (fi 21)) : CNv l G k (EZ k) yX10_readThing wzX10_readThing ({ frames := 6, cells := 0, slots := 0, locals := 130 }) [.ref (ar 71), .int (Int32.ofInt (w0))] sz (wM k ar fi fa fl) (fun (u : (Int → Int) × (Int → Int) × (Int → Int) × (Int → Int) × Int × Int × Int × Int × Int × Int × Int × Int) => (∀ t, inR (u.1 t)) ∧ (∀ t, inR (u.2.1 t)) ∧ (∀ t, inR (u.2.2.1 t)) ∧ (∀ t, inR (u.2.2.2.1 t)) ∧ (inR u.2.2.2.2.1) ∧ (inR u.2.2.2.2.2.1) ∧ (inR u.2.2.2.2.2.2.1) ∧ (inR u.2.2.2.2.2.2.2.1) ∧ (inR u.2.2.2.2.2.2.2.2.1) ∧ (inR u.2.2.2.2.2.2.2.2.2.1) ∧ (inR u.2.2.2.2.2.2.2.2.2.2.1) ∧ (inR u.2.2.2.2.2.2.2.2.2.2.2) ∧ (((0 ≤ u.2.2.2.2.2.2.2.2.1 ∧ u.2.2.2.2.2.2.2.2.1 ≤ u.2.2.2.2.2.2.2.2.2.1 ∧ u.2.2.2.2.2.2.2.2.2.1 ≤ fi 19 ∧ fi 19 ≤ 600 ∧ u.2.2.2.2.2.1 = u.2.2.2.2.2.2.2.2.2.1 ∧ 0 ≤ u.2.2.2.2.2.2.1 ∧ u.2.2.2.2.2.2.1 ≤ 4 ∧ (¬ u.2.2.2.2.2.2.1 = 0 → u.2.2.2.2.2.2.2.2.1 < u.2.2.2.2.2.2.2.2.2.1)) ∧ fi 22 ≤ u.2.2.2.2.2.2.2.2.1 ∧ (u.2.2.2.2.2.2.2.2.2.2.1 = 0 → fi 24 = 0) ∧ u.2.2.2.2.1 = fi 14 + 1) ∧ TS (fa 16) (fi 19) u.2.2.2.2.2.2.2.2.2.2.1 u.2.2.2.2.2.2.2.2.1 u.2.2.2.2.2.2.2.2.2.1 u.2.2.2.2.2.2.1 u.2.2.2.2.2.2.2.1 ∧ val u.2.2.2.2.2.2.2.2.2.2.1 u.2.2.2.2.2.2.2.2.2.2.2 u.2.2.2.2.2.2.2.2.1 = bd (val (fi 24) (fi 25) (fi 22)) (thF (fa 16) (fi 19) (fa 3 7) w0))) (fun (u : (Int → Int) × (Int → Int) × (Int → Int) × (Int → Int) × Int × Int × Int × Int × Int × Int × Int × Int) => (wM k ar (uF (uF (uF (uF (uF (uF (uF (uF fi 14 (u.2.2.2.2.1)) 18 (u.2.2.2.2.2.1)) 20 (u.2.2.2.2.2.2.1)) 21 (u.2.2.2.2.2.2.2.1)) 22 (u.2.2.2.2.2.2.2.2.1)) 23 (u.2.2.2.2.2.2.2.2.2.1)) 24 (u.2.2.2.2.2.2.2.2.2.2.1)) 25 (u.2.2.2.2.2.2.2.2.2.2.2)) (uF (uF (uF (uF fa 4 (u.1)) 5 (u.2.1)) 6 (u.2.2.1)) 7 (u.2.2.2.1)) fl)) := by
  refine Met.ofW (cc := cX10_readThing) (maxL := 3) (ret := none) (by decide) rfl ?_
  intro p e s m args below meth c s₁ B hml hv
  obtain ⟨rfl, hsz, hP, hX, hD0, hZ0⟩ := hv
  have hx := B.exec
  have hb := B.bytes
  have hr := B.returns
  have hts := atoms_spec (ws := wzX10_readThing) B.pre
  have hown : s.vm.findClass RX10 = some m.cls := findClass_of_methodNamed B.named
  subst hsz
  have hD := hD0.self (sz := s.heap.size)
  have hZ := hZ0
  generalize hAe : va_A (wM k ar fi fa fl) s.heap.size = A at hD hZ ⊢
  have hA : ∀ q : Nat, s.heap.size ≤ q → A q := fun q h => by rw [← hAe]; exact Or.inr h
  have hS : va_S A s.heap s.heap [] := va_S.rf
  have hl := lv_entry ([.ref (ar 71), .int (Int32.ofInt (w0))]) (n := 3) (Nat.le_of_ble_eq_true rfl)
  rw [lg_entry_eq]
  generalize (lg_sl ([.ref (ar 71), .int (Int32.ofInt (w0))]) ++ List.replicate (3 - (lg_sl ([.ref (ar 71), .int (Int32.ofInt (w0))])).length) Slot.unset).toArray = ls at hl ⊢
  have hl : lv_has ls 3 [(0, .ref (ar 71)), (1, .int (Int32.ofInt (w0)))] := hl
  obtain ⟨H, eH⟩ : ∃ H, H = s.heap := ⟨_, rfl⟩
  rw [← eH] at hP
  have hS : va_S A s.heap H [] := by rw [eH]; exact hS
  have gW : s.heap = H := eH.symm
  refine iv_heap gW ?_
  have h0w := hts (.fieldLink RX10 290 "RopeTownModel" "readThings" "I") (wz_at 16 13 rfl)
  have h1w : ∀ w ∈ wsX100, w ∈ wzX10_readThing := fun w h => List.mem_cons_of_mem _ (inlX10 w h)
  have h2w := hts (.fieldLink RX10 57 "RopeTownModel" "kind" "[I") (wz_at 6 7 rfl)
  have h3w := hts (.fieldLink RX10 60 "RopeTownModel" "weight" "[I") (wz_at 6 8 rfl)
  have h4w := hts (.fieldLink RX10 62 "RopeTownModel" "begins0" "[I") (wz_at 6 9 rfl)
  have h5w := hts (.fieldLink RX10 54 "RopeTownModel" "rule" "[I") (wz_at 6 6 rfl)
  have h6w := hts (.fieldLink RX10 65 "RopeTownModel" "aim" "[I") (wz_at 6 10 rfl)
  refine lv_bipush (v := Int32.ofInt 7) hx hb dX10_readThing_0 (by decide +kernel) ?_
  refine lv_aload_n hx hb dX10_readThing_2 rfl (lv_at hl 0 rfl) ?_
  refine va_get (D := G) (ci := 7) (v := .int (Int32.ofInt (fi 14))) (C := RX10) (T := TX10) (N := 71) (ref := RX10) hx hb hts h1w hown hX.1 hP 0 rfl rfl 14 (by decide) h0w (fun _ h9 => h9) rfl dX10_readThing_3 ?_
  have rf14 := hR 14
  refine iv_add (x := 7) (y := fi 14) hx hb dX10_readThing_6 ?_
  refine lv_istore_n (lv' := [(2, .int (Int32.ofInt ((7 + fi 14)))), (0, .ref (ar 71)), (1, .int (Int32.ofInt (w0)))]) hx hb dX10_readThing_7 rfl hl (by decide) rfl (fun ls hl => ?_)
  refine lv_aload_n hx hb dX10_readThing_8 rfl (lv_at hl 1 rfl) ?_
  refine va_get (D := G) (ci := 7) (v := .ref (ar 4)) (C := RX10) (T := TX10) (N := 71) (ref := RX10) hx hb hts h1w hown hX.1 hP 0 rfl rfl 4 (by decide) h2w (fun _ h9 => h9) rfl dX10_readThing_9 ?_
  refine lv_iload_n hx hb dX10_readThing_12 rfl (lv_at hl 0 rfl) ?_
  refine lv_iload_n hx hb dX10_readThing_13 rfl (lv_at hl 2 rfl) ?_
  refine iv_iast hx hb hX.1 hP hD hS 2 0 rfl rfl (wM_A4 _ _ _ _ _) (by omega) (by omega) (by decide) dX10_readThing_14 (fun H locs hP hD hS => ?_)
  obtain ⟨g1, eg1, rg1⟩ : ∃ z, z = uA (fa 4) ((7 + fi 14)) (w0) ∧ ∀ t, inR (z t) := ⟨_, rfl, iU (hRa 4) (by omega)⟩
  rw [← eg1] at hP hD
  refine lv_aload_n hx hb dX10_readThing_15 rfl (lv_at hl 1 rfl) ?_
  refine va_get (D := G) (ci := 7) (v := .ref (ar 5)) (C := RX10) (T := TX10) (N := 71) (ref := RX10) hx hb hts h1w hown hX.1 hP 0 rfl rfl 5 (by decide) h3w (fun _ h9 => h9) rfl dX10_readThing_16 ?_
  refine lv_iload_n hx hb dX10_readThing_19 rfl (lv_at hl 0 rfl) ?_
  refine lv_aload_n hx hb dX10_readThing_20 rfl (lv_at hl 1 rfl) ?_
  refine lv_iconst (v := Int32.ofInt 1) hx hb dX10_readThing_21 (by decide +kernel) ?_
  refine lv_bipush (v := Int32.ofInt 99) hx hb dX10_readThing_22 (by decide +kernel) ?_
  refine cr_i (va_runV (As := [.int (Int32.ofInt (1)), .int (Int32.ofInt (99))]) (rest := [.int (Int32.ofInt ((7 + fi 14))), .ref (ar 5)]) ⟨hx, hb, hml, hown, hts⟩ (mX10_readNumber l G k ar fi (uF fa 4 (g1)) fl 1 99 H.size hR (iG hRa rg1) (by omega) (by omega) (show 0 ≤ (fi 22) ∧ (fi 22) ≤ (fi 23) ∧ (fi 23) ≤ (fi 19) ∧ (fi 19) ≤ 600 ∧ (fi 18) = (fi 23) ∧ 0 ≤ (fi 20) ∧ (fi 20) ≤ 4 ∧ (¬ (fi 20) = 0 → (fi 22) < (fi 23)) from by omega) (show ∀ t, 0 ≤ t → t < (fi 19) → 0 ≤ (fa 16) t ∧ (fa 16) t ≤ 255 from by first | exact hT | omega) (show TS ((fa 16)) ((fi 19)) ((fi 24)) ((fi 22)) ((fi 23)) ((fi 20)) ((fi 21)) from by first | assumption | exact TS_any (by assumption))) (cwV 2 hts (gz [.methodLink RX10 253 yX10_readNumber, .instanceMethod yX10_readNumber, .selects RX10 yX10_readNumber yX10_readNumber, .initialized RX10] (.code yX10_readNumber cX10_readNumber 4 (some .int)) [(19, 3), (19, 4), (19, 5), (0, 5), (19, 6)] rfl) rfl rfl rfl (by decide +kernel) ⟨Nat.le_of_ble_eq_true rfl, Nat.le_of_ble_eq_true rfl⟩) (cr_preV (EZ_ok k) hZ hS hX hP hD hA (ci := 7) (q0 := 0) rfl rfl) rfl rfl hl.1 rfl (lv_room (Nat.le_of_ble_eq_true rfl)) dX10_readThing_24 ⟨Nat.le_of_ble_eq_true rfl, Nat.le_of_ble_eq_true rfl⟩) hD hS hA (fun r u H locs hp hP hD hS => ?_)
  obtain ⟨c2, c3, c4, c5, c6, c7, c8, c9⟩ := u
  obtain ⟨hP, hD⟩ : va_P G vwCl (wM k ar (uF (uF (uF (uF (uF (uF (uF fi 18 (c3)) 20 (c4)) 21 (c5)) 22 (c6)) 23 (c7)) 24 (c8)) 25 (c9)) (uF fa 4 (g1)) fl) H ∧ va_D A (wM k ar (uF (uF (uF (uF (uF (uF (uF fi 18 (c3)) 20 (c4)) 21 (c5)) 22 (c6)) 23 (c7)) 24 (c8)) 25 (c9)) (uF fa 4 (g1)) fl) := ⟨hP, hD⟩
  obtain ⟨h9, rc2, rc3, rc4, rc5, rc6, rc7, rc8, rc9, hp9⟩ : r = Int32.ofInt c2 ∧ (inR c2) ∧ (inR c3) ∧ (inR c4) ∧ (inR c5) ∧ (inR c6) ∧ (inR c7) ∧ (inR c8) ∧ (inR c9) ∧ (((0 ≤ c6 ∧ c6 ≤ c7 ∧ c7 ≤ (fi 19) ∧ (fi 19) ≤ 600 ∧ c3 = c7 ∧ 0 ≤ c4 ∧ c4 ≤ 4 ∧ (¬ c4 = 0 → c6 < c7)) ∧ (fi 22) ≤ c6 ∧ (c8 = 0 → (fi 24) = 0 ∧ (fi 22) < c6 ∧ 1 ≤ c2 ∧ c2 ≤ 99)) ∧ TS ((fa 16)) ((fi 19)) c8 c6 c7 c4 c5 ∧ val c8 c9 c6 = bd (val ((fi 24)) ((fi 25)) ((fi 22))) (numF ((fa 16)) ((fi 19)) 1 99) ∧ Nvr c8 c2 (dv ((fa 16)) ((fi 22)) (en ((fa 16)) ((fi 19)) ((fi 22))))) := hp
  subst h9
  obtain ⟨hp9, hT24, hV24, hN24⟩ := hp9
  refine iv_iast hx hb hX.1 hP hD hS 3 0 rfl rfl (wM_A5 _ _ _ _ _) (by omega) (by omega) (by decide) dX10_readThing_27 (fun H locs hP hD hS => ?_)
  obtain ⟨hP, hD⟩ : va_P G vwCl (wM k ar (uF (uF (uF (uF (uF (uF (uF fi 18 (c3)) 20 (c4)) 21 (c5)) 22 (c6)) 23 (c7)) 24 (c8)) 25 (c9)) (uF (uF fa 4 (g1)) 5 (uA (fa 5) ((7 + fi 14)) (c2))) fl) H ∧ va_D A (wM k ar (uF (uF (uF (uF (uF (uF (uF fi 18 (c3)) 20 (c4)) 21 (c5)) 22 (c6)) 23 (c7)) 24 (c8)) 25 (c9)) (uF (uF fa 4 (g1)) 5 (uA (fa 5) ((7 + fi 14)) (c2))) fl) := ⟨hP, hD⟩
  obtain ⟨g10, eg10, rg10⟩ : ∃ z, z = uA (fa 5) ((7 + fi 14)) (c2) ∧ ∀ t, inR (z t) := ⟨_, rfl, iU (hRa 5) (by omega)⟩
  rw [← eg10] at hP hD
  refine lv_aload_n hx hb dX10_readThing_28 rfl (lv_at hl 1 rfl) ?_
  refine va_ldcSw hx hb hown (hX.2.2.2.2 29 (RX10, 293, "at") rfl) dX10_readThing_29 ?_
  refine cr_v (va_runV (As := [.ref (k 129)]) (rest := []) ⟨hx, hb, hml, hown, hts⟩ (mX10_wordIs l G k ar (uF (uF (uF (uF (uF (uF (uF fi 18 (c3)) 20 (c4)) 21 (c5)) 22 (c6)) 23 (c7)) 24 (c8)) 25 (c9)) (uF (uF fa 4 (g1)) 5 (g10)) fl 18 H.size (iF (iF (iF (iF (iF (iF (iF hR (by omega)) (by omega)) (by omega)) (by omega)) (by omega)) (by omega)) (by omega)) (iG (iG hRa rg1) rg10) (show 18 < 47 from by omega) (show 0 ≤ c6 ∧ c6 ≤ c7 ∧ c7 ≤ (fi 19) ∧ (fi 19) ≤ 600 ∧ c3 = c7 ∧ 0 ≤ c4 ∧ c4 ≤ 4 ∧ (¬ c4 = 0 → c6 < c7) from by omega) (show ∀ t, 0 ≤ t → t < (fi 19) → 0 ≤ (fa 16) t ∧ (fa 16) t ≤ 255 from by first | exact hT | omega) (show TS ((fa 16)) ((fi 19)) (c8) (c6) (c7) (c4) (c5) from by first | assumption | exact TS_any (by assumption))) (cwV 1 hts (gz [.methodLink RX10 294 yX10_wordIs, .instanceMethod yX10_wordIs, .selects RX10 yX10_wordIs yX10_wordIs, .initialized RX10] (.code yX10_wordIs cX10_wordIs 2 none) [(19, 11), (19, 12), (19, 13), (0, 5), (19, 14)] rfl) rfl rfl rfl (by decide +kernel) ⟨Nat.le_of_ble_eq_true rfl, Nat.le_of_ble_eq_true rfl⟩) (cr_preV (EZ_ok k) hZ hS hX hP hD hA (ci := 7) (q0 := 0) rfl rfl) rfl rfl hl.1 rfl (lv_room (Nat.le_of_ble_eq_true rfl)) dX10_readThing_32 ⟨Nat.le_of_ble_eq_true rfl, Nat.le_of_ble_eq_true rfl⟩) hD hS hA (fun u H locs hp hP hD hS => ?_)
  obtain ⟨c11, c12, c13, c14, c15, c16, c17⟩ := u
  obtain ⟨hP, hD⟩ : va_P G vwCl (wM k ar (uF (uF (uF (uF (uF (uF (uF fi 18 (c11)) 20 (c12)) 21 (c13)) 22 (c14)) 23 (c15)) 24 (c16)) 25 (c17)) (uF (uF fa 4 (g1)) 5 (g10)) fl) H ∧ va_D A (wM k ar (uF (uF (uF (uF (uF (uF (uF fi 18 (c11)) 20 (c12)) 21 (c13)) 22 (c14)) 23 (c15)) 24 (c16)) 25 (c17)) (uF (uF fa 4 (g1)) 5 (g10)) fl) := ⟨hP, hD⟩
  obtain ⟨rc11, rc12, rc13, rc14, rc15, rc16, rc17, hp17⟩ : (inR c11) ∧ (inR c12) ∧ (inR c13) ∧ (inR c14) ∧ (inR c15) ∧ (inR c16) ∧ (inR c17) ∧ (((0 ≤ c14 ∧ c14 ≤ c15 ∧ c15 ≤ (fi 19) ∧ (fi 19) ≤ 600 ∧ c11 = c15 ∧ 0 ≤ c12 ∧ c12 ≤ 4 ∧ (¬ c12 = 0 → c14 < c15)) ∧ c6 ≤ c14 ∧ (c16 = 0 → c8 = 0)) ∧ TS ((fa 16)) ((fi 19)) c16 c14 c15 c12 c13 ∧ val c16 c17 c14 = bd (val (c8) (c9) (c6)) (wdF ((fa 16)) ((fi 19)) 18)) := hp
  obtain ⟨hp17, hT32, hV32⟩ := hp17
  refine lv_aload_n hx hb dX10_readThing_35 rfl (lv_at hl 1 rfl) ?_
  refine va_get (D := G) (ci := 7) (v := .ref (ar 6)) (C := RX10) (T := TX10) (N := 71) (ref := RX10) hx hb hts h1w hown hX.1 hP 0 rfl rfl 6 (by decide) h4w (fun _ h9 => h9) rfl dX10_readThing_36 ?_
  refine lv_iload_n hx hb dX10_readThing_39 rfl (lv_at hl 0 rfl) ?_
  refine lv_aload_n hx hb dX10_readThing_40 rfl (lv_at hl 1 rfl) ?_
  refine lv_iconst (v := Int32.ofInt 0) hx hb dX10_readThing_41 (by decide +kernel) ?_
  refine lv_aload_n hx hb dX10_readThing_42 rfl (lv_at hl 1 rfl) ?_
  refine va_get (D := G) (ci := 7) (v := .ref (ar 3)) (C := RX10) (T := TX10) (N := 71) (ref := RX10) hx hb hts h1w hown hX.1 hP 0 rfl rfl 3 (by decide) h5w (fun _ h9 => h9) rfl dX10_readThing_43 ?_
  refine lv_bipush (v := Int32.ofInt 7) hx hb dX10_readThing_46 (by decide +kernel) ?_
  refine iv_iald hx hb hX.1 hP 1 0 rfl rfl (by omega) (by omega) (by decide) dX10_readThing_48 ?_
  refine iv_top (fun z18 ez18 => ?_)
  have rz18 : inR z18 := ez18 ▸ (hRa 3) _
  have ez18 : z18 = (fa 3) 7 := ez18
  have hz49 := ez18
  refine cr_i (va_runV (As := [.int (Int32.ofInt (0)), .int (Int32.ofInt (z18))]) (rest := [.int (Int32.ofInt ((7 + fi 14))), .ref (ar 6)]) ⟨hx, hb, hml, hown, hts⟩ (mX10_readNumber l G k ar (uF (uF (uF (uF (uF (uF (uF fi 18 (c11)) 20 (c12)) 21 (c13)) 22 (c14)) 23 (c15)) 24 (c16)) 25 (c17)) (uF (uF fa 4 (g1)) 5 (g10)) fl 0 z18 H.size (iF (iF (iF (iF (iF (iF (iF hR (by omega)) (by omega)) (by omega)) (by omega)) (by omega)) (by omega)) (by omega)) (iG (iG hRa rg1) rg10) (by omega) (by omega) (show 0 ≤ c14 ∧ c14 ≤ c15 ∧ c15 ≤ (fi 19) ∧ (fi 19) ≤ 600 ∧ c11 = c15 ∧ 0 ≤ c12 ∧ c12 ≤ 4 ∧ (¬ c12 = 0 → c14 < c15) from by omega) (show ∀ t, 0 ≤ t → t < (fi 19) → 0 ≤ (fa 16) t ∧ (fa 16) t ≤ 255 from by first | exact hT | omega) (show TS ((fa 16)) ((fi 19)) (c16) (c14) (c15) (c12) (c13) from by first | assumption | exact TS_any (by assumption))) (cwV 2 hts (gz [.methodLink RX10 253 yX10_readNumber, .instanceMethod yX10_readNumber, .selects RX10 yX10_readNumber yX10_readNumber, .initialized RX10] (.code yX10_readNumber cX10_readNumber 4 (some .int)) [(19, 3), (19, 4), (19, 5), (0, 5), (19, 6)] rfl) rfl rfl rfl (by decide +kernel) ⟨Nat.le_of_ble_eq_true rfl, Nat.le_of_ble_eq_true rfl⟩) (cr_preV (EZ_ok k) hZ hS hX hP hD hA (ci := 7) (q0 := 0) rfl rfl) rfl rfl hl.1 rfl (lv_room (Nat.le_of_ble_eq_true rfl)) dX10_readThing_49 ⟨Nat.le_of_ble_eq_true rfl, Nat.le_of_ble_eq_true rfl⟩) hD hS hA (fun r u H locs hp hP hD hS => ?_)
  obtain ⟨c19, c20, c21, c22, c23, c24, c25, c26⟩ := u
  obtain ⟨hP, hD⟩ : va_P G vwCl (wM k ar (uF (uF (uF (uF (uF (uF (uF fi 18 (c20)) 20 (c21)) 21 (c22)) 22 (c23)) 23 (c24)) 24 (c25)) 25 (c26)) (uF (uF fa 4 (g1)) 5 (g10)) fl) H ∧ va_D A (wM k ar (uF (uF (uF (uF (uF (uF (uF fi 18 (c20)) 20 (c21)) 21 (c22)) 22 (c23)) 23 (c24)) 24 (c25)) 25 (c26)) (uF (uF fa 4 (g1)) 5 (g10)) fl) := ⟨hP, hD⟩
  obtain ⟨h9, rc19, rc20, rc21, rc22, rc23, rc24, rc25, rc26, hp26⟩ : r = Int32.ofInt c19 ∧ (inR c19) ∧ (inR c20) ∧ (inR c21) ∧ (inR c22) ∧ (inR c23) ∧ (inR c24) ∧ (inR c25) ∧ (inR c26) ∧ (((0 ≤ c23 ∧ c23 ≤ c24 ∧ c24 ≤ (fi 19) ∧ (fi 19) ≤ 600 ∧ c20 = c24 ∧ 0 ≤ c21 ∧ c21 ≤ 4 ∧ (¬ c21 = 0 → c23 < c24)) ∧ c14 ≤ c23 ∧ (c25 = 0 → c16 = 0 ∧ c14 < c23 ∧ 0 ≤ c19 ∧ c19 ≤ z18)) ∧ TS ((fa 16)) ((fi 19)) c25 c23 c24 c21 c22 ∧ val c25 c26 c23 = bd (val (c16) (c17) (c14)) (numF ((fa 16)) ((fi 19)) 0 z18) ∧ Nvr c25 c19 (dv ((fa 16)) (c14) (en ((fa 16)) ((fi 19)) (c14)))) := hp
  subst h9
  obtain ⟨hp26, hT49, hV49, hN49⟩ := hp26
  rw [hz49] at hV49
  have hTH := th_0 (what := w0) hV24 hV32 hV49
  refine iv_iast hx hb hX.1 hP hD hS 4 0 rfl rfl (wM_A6 _ _ _ _ _) (by omega) (by omega) (by decide) dX10_readThing_52 (fun H locs hP hD hS => ?_)
  obtain ⟨hP, hD⟩ : va_P G vwCl (wM k ar (uF (uF (uF (uF (uF (uF (uF fi 18 (c20)) 20 (c21)) 21 (c22)) 22 (c23)) 23 (c24)) 24 (c25)) 25 (c26)) (uF (uF (uF fa 4 (g1)) 5 (g10)) 6 (uA (fa 6) ((7 + fi 14)) (c19))) fl) H ∧ va_D A (wM k ar (uF (uF (uF (uF (uF (uF (uF fi 18 (c20)) 20 (c21)) 21 (c22)) 22 (c23)) 23 (c24)) 24 (c25)) 25 (c26)) (uF (uF (uF fa 4 (g1)) 5 (g10)) 6 (uA (fa 6) ((7 + fi 14)) (c19))) fl) := ⟨hP, hD⟩
  obtain ⟨g27, eg27, rg27⟩ : ∃ z, z = uA (fa 6) ((7 + fi 14)) (c19) ∧ ∀ t, inR (z t) := ⟨_, rfl, iU (hRa 6) (by omega)⟩
  rw [← eg27] at hP hD
  refine lv_aload_n hx hb dX10_readThing_53 rfl (lv_at hl 1 rfl) ?_
  refine va_get (D := G) (ci := 7) (v := .ref (ar 7)) (C := RX10) (T := TX10) (N := 71) (ref := RX10) hx hb hts h1w hown hX.1 hP 0 rfl rfl 7 (by decide) h6w (fun _ h9 => h9) rfl dX10_readThing_54 ?_
  refine lv_iload_n hx hb dX10_readThing_57 rfl (lv_at hl 0 rfl) ?_
  refine lv_iconst (v := Int32.ofInt (-1)) hx hb dX10_readThing_58 (by decide +kernel) ?_
  refine iv_iast hx hb hX.1 hP hD hS 5 0 rfl rfl (wM_A7 _ _ _ _ _) (by omega) (by omega) (by decide) dX10_readThing_59 (fun H locs hP hD hS => ?_)
  obtain ⟨hP, hD⟩ : va_P G vwCl (wM k ar (uF (uF (uF (uF (uF (uF (uF fi 18 (c20)) 20 (c21)) 21 (c22)) 22 (c23)) 23 (c24)) 24 (c25)) 25 (c26)) (uF (uF (uF (uF fa 4 (g1)) 5 (g10)) 6 (g27)) 7 (uA (fa 7) ((7 + fi 14)) ((-1)))) fl) H ∧ va_D A (wM k ar (uF (uF (uF (uF (uF (uF (uF fi 18 (c20)) 20 (c21)) 21 (c22)) 22 (c23)) 23 (c24)) 24 (c25)) 25 (c26)) (uF (uF (uF (uF fa 4 (g1)) 5 (g10)) 6 (g27)) 7 (uA (fa 7) ((7 + fi 14)) ((-1)))) fl) := ⟨hP, hD⟩
  obtain ⟨g28, eg28, rg28⟩ : ∃ z, z = uA (fa 7) ((7 + fi 14)) ((-1)) ∧ ∀ t, inR (z t) := ⟨_, rfl, iU (hRa 7) (by omega)⟩
  rw [← eg28] at hP hD
  refine iv_join (G := G) (A := A) (H0 := s.heap) (α := Int × Int × Int × Int × Int × Int × Int × (Int → Int)) (nL := 3) 93 (fun b9 => []) (fun b9 => (wM k ar (uF (uF (uF (uF (uF (uF (uF fi 18 (b9.1)) 20 (b9.2.1)) 21 (b9.2.2.1)) 22 (b9.2.2.2.1)) 23 (b9.2.2.2.2.1)) 24 (b9.2.2.2.2.2.1)) 25 (b9.2.2.2.2.2.2.1)) (uF (uF (uF (uF fa 4 (g1)) 5 (g10)) 6 (g27)) 7 (b9.2.2.2.2.2.2.2)) fl)) (fun b9 => [(2, .int (Int32.ofInt ((7 + fi 14)))), (0, .ref (ar 71)), (1, .int (Int32.ofInt (w0)))]) (fun b9 => inR b9.1 ∧ inR b9.2.1 ∧ inR b9.2.2.1 ∧ inR b9.2.2.2.1 ∧ inR b9.2.2.2.2.1 ∧ inR b9.2.2.2.2.2.1 ∧ inR b9.2.2.2.2.2.2.1 ∧ (∀ t, inR (b9.2.2.2.2.2.2.2 t)) ∧ (((0 ≤ b9.2.2.2.1 ∧ b9.2.2.2.1 ≤ b9.2.2.2.2.1 ∧ b9.2.2.2.2.1 ≤ fi 19 ∧ fi 19 ≤ 600 ∧ b9.1 = b9.2.2.2.2.1 ∧ 0 ≤ b9.2.1 ∧ b9.2.1 ≤ 4 ∧ (¬ b9.2.1 = 0 → b9.2.2.2.1 < b9.2.2.2.2.1)) ∧ fi 22 ≤ b9.2.2.2.1 ∧ (b9.2.2.2.2.2.1 = 0 → fi 24 = 0)) ∧ TS (fa 16) (fi 19) b9.2.2.2.2.2.1 b9.2.2.2.1 b9.2.2.2.2.1 b9.2.1 b9.2.2.1 ∧ val b9.2.2.2.2.2.1 b9.2.2.2.2.2.2.1 b9.2.2.2.1 = bd (val (fi 24) (fi 25) (fi 22)) (thF (fa 16) (fi 19) (fa 3 7) w0))) ?_ (fun J93 => ?_)
  · rintro ⟨n18_29, n20_30, n21_31, n22_32, n23_33, n24_34, n25_35, g7_36⟩ hi9 H locs ls hP hD hS hl
    obtain ⟨r_n18_29, r_n20_30, r_n21_31, r_n22_32, r_n23_33, r_n24_34, r_n25_35, r_g7_36, hinv⟩ : inR n18_29 ∧ inR n20_30 ∧ inR n21_31 ∧ inR n22_32 ∧ inR n23_33 ∧ inR n24_34 ∧ inR n25_35 ∧ (∀ t, inR (g7_36 t)) ∧ (((0 ≤ n22_32 ∧ n22_32 ≤ n23_33 ∧ n23_33 ≤ fi 19 ∧ fi 19 ≤ 600 ∧ n18_29 = n23_33 ∧ 0 ≤ n20_30 ∧ n20_30 ≤ 4 ∧ (¬ n20_30 = 0 → n22_32 < n23_33)) ∧ fi 22 ≤ n22_32 ∧ (n24_34 = 0 → fi 24 = 0)) ∧ TS (fa 16) (fi 19) n24_34 n22_32 n23_33 n20_30 n21_31 ∧ val n24_34 n25_35 n22_32 = bd (val (fi 24) (fi 25) (fi 22)) (thF (fa 16) (fi 19) (fa 3 7) w0)) := hi9
    obtain ⟨hinv, hTJ, hVJ⟩ := hinv
    obtain ⟨hP, hD⟩ : va_P G vwCl (wM k ar (uF (uF (uF (uF (uF (uF (uF fi 18 (n18_29)) 20 (n20_30)) 21 (n21_31)) 22 (n22_32)) 23 (n23_33)) 24 (n24_34)) 25 (n25_35)) (uF (uF (uF (uF fa 4 (g1)) 5 (g10)) 6 (g27)) 7 (g7_36)) fl) H ∧ va_D A (wM k ar (uF (uF (uF (uF (uF (uF (uF fi 18 (n18_29)) 20 (n20_30)) 21 (n21_31)) 22 (n22_32)) 23 (n23_33)) 24 (n24_34)) 25 (n25_35)) (uF (uF (uF (uF fa 4 (g1)) 5 (g10)) 6 (g27)) 7 (g7_36)) fl) := ⟨hP, hD⟩
    have hl : lv_has ls 3 [(2, .int (Int32.ofInt ((7 + fi 14)))), (0, .ref (ar 71)), (1, .int (Int32.ofInt (w0)))] := hl
    refine lv_aload_n hx hb dX10_readThing_93 rfl (lv_at hl 1 rfl) ?_
    refine lv_dup hx hb dX10_readThing_94 rfl ?_
    refine va_get (D := G) (ci := 7) (v := .int (Int32.ofInt (fi 14))) (C := RX10) (T := TX10) (N := 71) (ref := RX10) hx hb hts h1w hown hX.1 hP 0 rfl rfl 14 (by decide) h0w (fun _ h9 => h9) rfl dX10_readThing_95 ?_
    have rf14 := hR 14
    refine lv_iconst (v := Int32.ofInt 1) hx hb dX10_readThing_98 (by decide +kernel) ?_
    refine iv_add (x := fi 14) (y := 1) hx hb dX10_readThing_99 ?_
    refine iv_put (ci := 7) (v := .int (Int32.ofInt ((fi 14 + 1)))) (ty := .int) (C := RX10) (T := TX10) (N := 71) (ref := RX10) hx hb hts h1w tyX10 tyX10_ok nmX10 hown hX.1 hP hD hS 0 rfl rfl 14 (by decide) h0w (fun _ h9 => h9) rfl (by decide +kernel) rfl rfl (Nat.le_of_ble_eq_true rfl) (wM_F14 _ _ _ _ _) dX10_readThing_100 (fun H locs hP hD hS => ?_)
    obtain ⟨hP, hD⟩ : va_P G vwCl (wM k ar (uF (uF (uF (uF (uF (uF (uF (uF fi 14 ((fi 14 + 1))) 18 (n18_29)) 20 (n20_30)) 21 (n21_31)) 22 (n22_32)) 23 (n23_33)) 24 (n24_34)) 25 (n25_35)) (uF (uF (uF (uF fa 4 (g1)) 5 (g10)) 6 (g27)) 7 (g7_36)) fl) H ∧ va_D A (wM k ar (uF (uF (uF (uF (uF (uF (uF (uF fi 14 ((fi 14 + 1))) 18 (n18_29)) 20 (n20_30)) 21 (n21_31)) 22 (n22_32)) 23 (n23_33)) 24 (n24_34)) 25 (n25_35)) (uF (uF (uF (uF fa 4 (g1)) 5 (g10)) 6 (g27)) 7 (g7_36)) fl) := ⟨hP, hD⟩
    exact W.vret hx hb hr (fun t ht hW => ⟨⟨(g1, g10, g27, g7_36, (fi 14 + 1), n18_29, n20_30, n21_31, n22_32, n23_33, n24_34, n25_35), rfl, (show (∀ t, inR (g1 t)) ∧ (∀ t, inR (g10 t)) ∧ (∀ t, inR (g27 t)) ∧ (∀ t, inR (g7_36 t)) ∧ (inR (fi 14 + 1)) ∧ (inR n18_29) ∧ (inR n20_30) ∧ (inR n21_31) ∧ (inR n22_32) ∧ (inR n23_33) ∧ (inR n24_34) ∧ (inR n25_35) ∧ (((0 ≤ n22_32 ∧ n22_32 ≤ n23_33 ∧ n23_33 ≤ fi 19 ∧ fi 19 ≤ 600 ∧ n18_29 = n23_33 ∧ 0 ≤ n20_30 ∧ n20_30 ≤ 4 ∧ (¬ n20_30 = 0 → n22_32 < n23_33)) ∧ fi 22 ≤ n22_32 ∧ (n24_34 = 0 → fi 24 = 0) ∧ (fi 14 + 1) = fi 14 + 1) ∧ TS (fa 16) (fi 19) n24_34 n22_32 n23_33 n20_30 n21_31 ∧ val n24_34 n25_35 n22_32 = bd (val (fi 24) (fi 25) (fi 22)) (thF (fa 16) (fi 19) (fa 3 7) w0)) from ⟨rg1, rg10, rg27, r_g7_36, (by omega), (by omega), (by omega), (by omega), (by omega), (by omega), (by omega), (by omega), (by exact ⟨by omega, hTJ, hVJ⟩)⟩), by rw [ht]; exact hP, hD⟩, hS.F ht⟩) hS.2.2 dX10_readThing_103
  · refine lv_iload_n hx hb dX10_readThing_60 rfl (lv_at hl 2 rfl) ?_
    refine lv_iconst (v := Int32.ofInt 2) hx hb dX10_readThing_61 (by decide +kernel) ?_
    refine iv_icmp_eq (tgt := 93) hx hb (by omega) (by omega) dX10_readThing_62 (by decide) (fun q37 => ?_) (fun q37 => ?_)
    · have hl : lv_has ls 3 [(2, .int (Int32.ofInt ((7 + fi 14)))), (0, .ref (ar 71)), (1, .int (Int32.ofInt (w0)))] := lv_sub hl [0, 1, 2] rfl
      exact J93 (c20, c21, c22, c23, c24, c25, c26, g28) (show inR c20 ∧ inR c21 ∧ inR c22 ∧ inR c23 ∧ inR c24 ∧ inR c25 ∧ inR c26 ∧ (∀ t, inR (g28 t)) ∧ (((0 ≤ c23 ∧ c23 ≤ c24 ∧ c24 ≤ fi 19 ∧ fi 19 ≤ 600 ∧ c20 = c24 ∧ 0 ≤ c21 ∧ c21 ≤ 4 ∧ (¬ c21 = 0 → c23 < c24)) ∧ fi 22 ≤ c23 ∧ (c25 = 0 → fi 24 = 0)) ∧ TS (fa 16) (fi 19) c25 c23 c24 c21 c22 ∧ val c25 c26 c23 = bd (val (fi 24) (fi 25) (fi 22)) (thF (fa 16) (fi 19) (fa 3 7) w0)) from ⟨(by omega), (by omega), (by omega), (by omega), (by omega), (by omega), (by omega), rg28, (by first | exact ⟨by omega, hT89, th_t hTH (by omega) hI69 (by omega) hV69 hV89⟩ | exact ⟨by omega, hT69, th_n hTH (by omega) hI69 (by omega) hV69⟩ | exact ⟨by omega, hT49, th_s hTH (by omega)⟩)⟩) _ _ _ hP hD hS hl
    · refine lv_aload_n hx hb dX10_readThing_65 rfl (lv_at hl 1 rfl) ?_
      refine va_ldcSw hx hb hown (hX.2.2.2.2 30 (RX10, 298, "to") rfl) dX10_readThing_66 ?_
      refine cr_i (va_runV (As := [.ref (k 130)]) (rest := []) ⟨hx, hb, hml, hown, hts⟩ (mX10_passes l G k ar (uF (uF (uF (uF (uF (uF (uF fi 18 (c20)) 20 (c21)) 21 (c22)) 22 (c23)) 23 (c24)) 24 (c25)) 25 (c26)) (uF (uF (uF (uF fa 4 (g1)) 5 (g10)) 6 (g27)) 7 (g28)) fl 19 H.size (iF (iF (iF (iF (iF (iF (iF hR (by omega)) (by omega)) (by omega)) (by omega)) (by omega)) (by omega)) (by omega)) (iG (iG (iG (iG hRa rg1) rg10) rg27) rg28) (show 19 < 47 from by omega) (show 0 ≤ c23 ∧ c23 ≤ c24 ∧ c24 ≤ (fi 19) ∧ (fi 19) ≤ 600 ∧ c20 = c24 ∧ 0 ≤ c21 ∧ c21 ≤ 4 ∧ (¬ c21 = 0 → c23 < c24) from by omega) (show ∀ t, 0 ≤ t → t < (fi 19) → 0 ≤ (fa 16) t ∧ (fa 16) t ≤ 255 from by first | exact hT | omega) (show TS ((fa 16)) ((fi 19)) (c25) (c23) (c24) (c21) (c22) from by first | assumption | exact TS_any (by assumption))) (cwV 1 hts (gz [.methodLink RX10 300 yX10_passes, .instanceMethod yX10_passes, .selects RX10 yX10_passes yX10_passes, .initialized RX10] (.code yX10_passes cX10_passes 3 (some .boolean)) [(19, 15), (19, 16), (19, 17), (0, 5), (19, 18)] rfl) rfl rfl rfl (by decide +kernel) ⟨Nat.le_of_ble_eq_true rfl, Nat.le_of_ble_eq_true rfl⟩) (cr_preV (EZ_ok k) hZ hS hX hP hD hA (ci := 7) (q0 := 0) rfl rfl) rfl rfl hl.1 rfl (lv_room (Nat.le_of_ble_eq_true rfl)) dX10_readThing_69 ⟨Nat.le_of_ble_eq_true rfl, Nat.le_of_ble_eq_true rfl⟩) hD hS hA (fun r u H locs hp hP hD hS => ?_)
      obtain ⟨c38, c39, c40, c41, c42, c43⟩ := u
      obtain ⟨hP, hD⟩ : va_P G vwCl (wM k ar (uF (uF (uF (uF (uF (uF (uF fi 18 (c39)) 20 (c40)) 21 (c41)) 22 (c42)) 23 (c43)) 24 (c25)) 25 (c26)) (uF (uF (uF (uF fa 4 (g1)) 5 (g10)) 6 (g27)) 7 (g28)) fl) H ∧ va_D A (wM k ar (uF (uF (uF (uF (uF (uF (uF fi 18 (c39)) 20 (c40)) 21 (c41)) 22 (c42)) 23 (c43)) 24 (c25)) 25 (c26)) (uF (uF (uF (uF fa 4 (g1)) 5 (g10)) 6 (g27)) 7 (g28)) fl) := ⟨hP, hD⟩
      obtain ⟨h9, rc38, rc39, rc40, rc41, rc42, rc43, hp43⟩ : r = Int32.ofInt c38 ∧ (inR c38) ∧ (inR c39) ∧ (inR c40) ∧ (inR c41) ∧ (inR c42) ∧ (inR c43) ∧ (((c38 = 0 ∨ c38 = 1) ∧ (0 ≤ c42 ∧ c42 ≤ c43 ∧ c43 ≤ (fi 19) ∧ (fi 19) ≤ 600 ∧ c39 = c43 ∧ 0 ≤ c40 ∧ c40 ≤ 4 ∧ (¬ c40 = 0 → c42 < c43)) ∧ c23 ≤ c42) ∧ TS ((fa 16)) ((fi 19)) (c25) c42 c43 c40 c41 ∧ val (c25) (c26) c42 = bd (val (c25) (c26) (c23)) (mayF ((fa 16)) ((fi 19)) 19) ∧ Isr c38 (c25) (isWd ((fa 16)) ((fi 19)) 19 (c23))) := hp
      subst h9
      obtain ⟨hp43, hT69, hV69, hI69⟩ := hp43
      refine iv_if_eq (tgt := 93) hx hb (by omega) dX10_readThing_72 (by decide) (fun q44 => ?_) (fun q44 => ?_)
      · have hl : lv_has ls 3 [(2, .int (Int32.ofInt ((7 + fi 14)))), (0, .ref (ar 71)), (1, .int (Int32.ofInt (w0)))] := lv_sub hl [0, 1, 2] rfl
        exact J93 (c39, c40, c41, c42, c43, c25, c26, g28) (show inR c39 ∧ inR c40 ∧ inR c41 ∧ inR c42 ∧ inR c43 ∧ inR c25 ∧ inR c26 ∧ (∀ t, inR (g28 t)) ∧ (((0 ≤ c42 ∧ c42 ≤ c43 ∧ c43 ≤ fi 19 ∧ fi 19 ≤ 600 ∧ c39 = c43 ∧ 0 ≤ c40 ∧ c40 ≤ 4 ∧ (¬ c40 = 0 → c42 < c43)) ∧ fi 22 ≤ c42 ∧ (c25 = 0 → fi 24 = 0)) ∧ TS (fa 16) (fi 19) c25 c42 c43 c40 c41 ∧ val c25 c26 c42 = bd (val (fi 24) (fi 25) (fi 22)) (thF (fa 16) (fi 19) (fa 3 7) w0)) from ⟨(by omega), (by omega), (by omega), (by omega), (by omega), (by omega), (by omega), rg28, (by first | exact ⟨by omega, hT89, th_t hTH (by omega) hI69 (by omega) hV69 hV89⟩ | exact ⟨by omega, hT69, th_n hTH (by omega) hI69 (by omega) hV69⟩ | exact ⟨by omega, hT49, th_s hTH (by omega)⟩)⟩) _ _ _ hP hD hS hl
      · refine lv_aload_n hx hb dX10_readThing_75 rfl (lv_at hl 1 rfl) ?_
        refine va_get (D := G) (ci := 7) (v := .ref (ar 7)) (C := RX10) (T := TX10) (N := 71) (ref := RX10) hx hb hts h1w hown hX.1 hP 0 rfl rfl 7 (by decide) h6w (fun _ h9 => h9) rfl dX10_readThing_76 ?_
        refine lv_iload_n hx hb dX10_readThing_79 rfl (lv_at hl 0 rfl) ?_
        refine lv_aload_n hx hb dX10_readThing_80 rfl (lv_at hl 1 rfl) ?_
        refine lv_iconst (v := Int32.ofInt 0) hx hb dX10_readThing_81 (by decide +kernel) ?_
        refine lv_aload_n hx hb dX10_readThing_82 rfl (lv_at hl 1 rfl) ?_
        refine va_get (D := G) (ci := 7) (v := .ref (ar 3)) (C := RX10) (T := TX10) (N := 71) (ref := RX10) hx hb hts h1w hown hX.1 hP 0 rfl rfl 3 (by decide) h5w (fun _ h9 => h9) rfl dX10_readThing_83 ?_
        refine lv_bipush (v := Int32.ofInt 7) hx hb dX10_readThing_86 (by decide +kernel) ?_
        refine iv_iald hx hb hX.1 hP 1 0 rfl rfl (by omega) (by omega) (by decide) dX10_readThing_88 ?_
        refine iv_top (fun z45 ez45 => ?_)
        have rz45 : inR z45 := ez45 ▸ (hRa 3) _
        have ez45 : z45 = (fa 3) 7 := ez45
        have hz89 := ez45
        refine cr_i (va_runV (As := [.int (Int32.ofInt (0)), .int (Int32.ofInt (z45))]) (rest := [.int (Int32.ofInt ((7 + fi 14))), .ref (ar 7)]) ⟨hx, hb, hml, hown, hts⟩ (mX10_readNumber l G k ar (uF (uF (uF (uF (uF (uF (uF fi 18 (c39)) 20 (c40)) 21 (c41)) 22 (c42)) 23 (c43)) 24 (c25)) 25 (c26)) (uF (uF (uF (uF fa 4 (g1)) 5 (g10)) 6 (g27)) 7 (g28)) fl 0 z45 H.size (iF (iF (iF (iF (iF (iF (iF hR (by omega)) (by omega)) (by omega)) (by omega)) (by omega)) (by omega)) (by omega)) (iG (iG (iG (iG hRa rg1) rg10) rg27) rg28) (by omega) (by omega) (show 0 ≤ c42 ∧ c42 ≤ c43 ∧ c43 ≤ (fi 19) ∧ (fi 19) ≤ 600 ∧ c39 = c43 ∧ 0 ≤ c40 ∧ c40 ≤ 4 ∧ (¬ c40 = 0 → c42 < c43) from by omega) (show ∀ t, 0 ≤ t → t < (fi 19) → 0 ≤ (fa 16) t ∧ (fa 16) t ≤ 255 from by first | exact hT | omega) (show TS ((fa 16)) ((fi 19)) (c25) (c42) (c43) (c40) (c41) from by first | assumption | exact TS_any (by assumption))) (cwV 2 hts (gz [.methodLink RX10 253 yX10_readNumber, .instanceMethod yX10_readNumber, .selects RX10 yX10_readNumber yX10_readNumber, .initialized RX10] (.code yX10_readNumber cX10_readNumber 4 (some .int)) [(19, 3), (19, 4), (19, 5), (0, 5), (19, 6)] rfl) rfl rfl rfl (by decide +kernel) ⟨Nat.le_of_ble_eq_true rfl, Nat.le_of_ble_eq_true rfl⟩) (cr_preV (EZ_ok k) hZ hS hX hP hD hA (ci := 7) (q0 := 0) rfl rfl) rfl rfl hl.1 rfl (lv_room (Nat.le_of_ble_eq_true rfl)) dX10_readThing_89 ⟨Nat.le_of_ble_eq_true rfl, Nat.le_of_ble_eq_true rfl⟩) hD hS hA (fun r u H locs hp hP hD hS => ?_)
        obtain ⟨c46, c47, c48, c49, c50, c51, c52, c53⟩ := u
        obtain ⟨hP, hD⟩ : va_P G vwCl (wM k ar (uF (uF (uF (uF (uF (uF (uF fi 18 (c47)) 20 (c48)) 21 (c49)) 22 (c50)) 23 (c51)) 24 (c52)) 25 (c53)) (uF (uF (uF (uF fa 4 (g1)) 5 (g10)) 6 (g27)) 7 (g28)) fl) H ∧ va_D A (wM k ar (uF (uF (uF (uF (uF (uF (uF fi 18 (c47)) 20 (c48)) 21 (c49)) 22 (c50)) 23 (c51)) 24 (c52)) 25 (c53)) (uF (uF (uF (uF fa 4 (g1)) 5 (g10)) 6 (g27)) 7 (g28)) fl) := ⟨hP, hD⟩
        obtain ⟨h9, rc46, rc47, rc48, rc49, rc50, rc51, rc52, rc53, hp53⟩ : r = Int32.ofInt c46 ∧ (inR c46) ∧ (inR c47) ∧ (inR c48) ∧ (inR c49) ∧ (inR c50) ∧ (inR c51) ∧ (inR c52) ∧ (inR c53) ∧ (((0 ≤ c50 ∧ c50 ≤ c51 ∧ c51 ≤ (fi 19) ∧ (fi 19) ≤ 600 ∧ c47 = c51 ∧ 0 ≤ c48 ∧ c48 ≤ 4 ∧ (¬ c48 = 0 → c50 < c51)) ∧ c42 ≤ c50 ∧ (c52 = 0 → c25 = 0 ∧ c42 < c50 ∧ 0 ≤ c46 ∧ c46 ≤ z45)) ∧ TS ((fa 16)) ((fi 19)) c52 c50 c51 c48 c49 ∧ val c52 c53 c50 = bd (val (c25) (c26) (c42)) (numF ((fa 16)) ((fi 19)) 0 z45) ∧ Nvr c52 c46 (dv ((fa 16)) (c42) (en ((fa 16)) ((fi 19)) (c42)))) := hp
        subst h9
        obtain ⟨hp53, hT89, hV89, hN89⟩ := hp53
        rw [hz89] at hV89
        refine iv_iast hx hb hX.1 hP hD hS 5 0 rfl rfl (wM_A7 _ _ _ _ _) (by omega) (by omega) (by decide) dX10_readThing_92 (fun H locs hP hD hS => ?_)
        obtain ⟨hP, hD⟩ : va_P G vwCl (wM k ar (uF (uF (uF (uF (uF (uF (uF fi 18 (c47)) 20 (c48)) 21 (c49)) 22 (c50)) 23 (c51)) 24 (c52)) 25 (c53)) (uF (uF (uF (uF fa 4 (g1)) 5 (g10)) 6 (g27)) 7 (uA (g28) ((7 + fi 14)) (c46))) fl) H ∧ va_D A (wM k ar (uF (uF (uF (uF (uF (uF (uF fi 18 (c47)) 20 (c48)) 21 (c49)) 22 (c50)) 23 (c51)) 24 (c52)) 25 (c53)) (uF (uF (uF (uF fa 4 (g1)) 5 (g10)) 6 (g27)) 7 (uA (g28) ((7 + fi 14)) (c46))) fl) := ⟨hP, hD⟩
        obtain ⟨g54, eg54, rg54⟩ : ∃ z, z = uA (g28) ((7 + fi 14)) (c46) ∧ ∀ t, inR (z t) := ⟨_, rfl, iU rg28 (by omega)⟩
        rw [← eg54] at hP hD
        have hl : lv_has ls 3 [(2, .int (Int32.ofInt ((7 + fi 14)))), (0, .ref (ar 71)), (1, .int (Int32.ofInt (w0)))] := lv_sub hl [0, 1, 2] rfl
        exact J93 (c47, c48, c49, c50, c51, c52, c53, g54) (show inR c47 ∧ inR c48 ∧ inR c49 ∧ inR c50 ∧ inR c51 ∧ inR c52 ∧ inR c53 ∧ (∀ t, inR (g54 t)) ∧ (((0 ≤ c50 ∧ c50 ≤ c51 ∧ c51 ≤ fi 19 ∧ fi 19 ≤ 600 ∧ c47 = c51 ∧ 0 ≤ c48 ∧ c48 ≤ 4 ∧ (¬ c48 = 0 → c50 < c51)) ∧ fi 22 ≤ c50 ∧ (c52 = 0 → fi 24 = 0)) ∧ TS (fa 16) (fi 19) c52 c50 c51 c48 c49 ∧ val c52 c53 c50 = bd (val (fi 24) (fi 25) (fi 22)) (thF (fa 16) (fi 19) (fa 3 7) w0)) from ⟨(by omega), (by omega), (by omega), (by omega), (by omega), (by omega), (by omega), rg54, (by first | exact ⟨by omega, hT89, th_t hTH (by omega) hI69 (by omega) hV69 hV89⟩ | exact ⟨by omega, hT69, th_n hTH (by omega) hI69 (by omega) hV69⟩ | exact ⟨by omega, hT49, th_s hTH (by omega)⟩)⟩) _ _ _ hP hD hS hl

