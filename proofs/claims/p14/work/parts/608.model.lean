set_option maxHeartbeats 4000000 in
set_option maxRecDepth 100000 in
theorem mX10_tellRide_44 (l : Launch) (G : va_G) (k : Nat → ClassId) (ar : Nat → Nat) (fi : Nat → Int) (fa : Nat → Int → Int) (fl : Nat → Int64) (f0 : Int) (t0 : Int) (sz : Nat) (hR : ∀ j, inR (fi j)) (hRa : ∀ j t, inR (fa j t)) (hr_f0 : inR f0) (hr_t0 : inR t0) (hth : 0 ≤ fi 12 ∧ fi 12 ≤ 7) : CNv l G k (EZ k) yX10_tellRide wzX10_tellRide ({ frames := 3, cells := 0, slots := 0, locals := 68 }) [.ref (ar 71), .ref (ar 44), .int (Int32.ofInt (f0)), .int (Int32.ofInt (t0))] sz (wM k ar fi fa fl) (fun (u : Int × Int × Int) => (inR u.1) ∧ (inR u.2.1) ∧ (inR u.2.2) ∧ (LM u.1 u.2.1 (exM (gs (lc (fa 44) (fa 5) 0) (fi 12)) (gs (lc (fa 44) (fa 5) 1) (fi 12)) (fa 3 3) (fa 3 0) (stD f0 t0)) f0 t0)) (fun (u : Int × Int × Int) => (wM k ar (uF (uF (uF fi 41 (u.1)) 42 (u.2.1)) 43 (u.2.2)) fa fl)) := by
  refine Met.ofW (cc := cX10_tellRide) (maxL := 8) (ret := none) (by decide) rfl ?_
  intro p e s m args below meth c s₁ B hml hv
  obtain ⟨rfl, hsz, hP, hX, hD0, hZ0⟩ := hv
  have hx := B.exec
  have hb := B.bytes
  have hr := B.returns
  have hts := atoms_spec (ws := wzX10_tellRide) B.pre
  have hown : s.vm.findClass RX10 = some m.cls := findClass_of_methodNamed B.named
  subst hsz
  have hD := hD0.self (sz := s.heap.size)
  have hZ := hZ0
  generalize hAe : va_A (wM k ar fi fa fl) s.heap.size = A at hD hZ ⊢
  have hA : ∀ q : Nat, s.heap.size ≤ q → A q := fun q h => by rw [← hAe]; exact Or.inr h
  have hS : va_S A s.heap s.heap [] := va_S.rf
  have hl := lv_entry ([.ref (ar 71), .ref (ar 44), .int (Int32.ofInt (f0)), .int (Int32.ofInt (t0))]) (n := 8) (Nat.le_of_ble_eq_true rfl)
  rw [lg_entry_eq]
  generalize (lg_sl ([.ref (ar 71), .ref (ar 44), .int (Int32.ofInt (f0)), .int (Int32.ofInt (t0))]) ++ List.replicate (8 - (lg_sl ([.ref (ar 71), .ref (ar 44), .int (Int32.ofInt (f0)), .int (Int32.ofInt (t0))])).length) Slot.unset).toArray = ls at hl ⊢
  have hl : lv_has ls 8 [(0, .ref (ar 71)), (1, .ref (ar 44)), (2, .int (Int32.ofInt (f0))), (3, .int (Int32.ofInt (t0)))] := hl
  obtain ⟨H, eH⟩ : ∃ H, H = s.heap := ⟨_, rfl⟩
  rw [← eH] at hP
  have hS : va_S A s.heap H [] := by rw [eH]; exact hS
  have gW : s.heap = H := eH.symm
  refine iv_heap gW ?_
  have h0w := hts (.constant RX10 383 (1000000000)) (wz_at 30 23 rfl)
  have h1w := hts (.fieldLink RX10 384 "RopeTownModel" "leastExcess" "I") (wz_at 31 0 rfl)
  have h2w : ∀ w ∈ wsX100, w ∈ wzX10_tellRide := fun w h => List.mem_cons_of_mem _ (inlX10 w h)
  have h3w := hts (.constant RX10 387 (-1000000000)) (wz_at 31 1 rfl)
  have h4w := hts (.fieldLink RX10 388 "RopeTownModel" "mostExcess" "I") (wz_at 31 2 rfl)
  have h5w := hts (.fieldLink RX10 391 "RopeTownModel" "wound" "I") (wz_at 30 6 rfl)
  have h6w := hts (.methodLink RX10 211 Lib.Math.min.name) (wz_at 17 4 rfl)
  have h7w := hts (.static Lib.Math.min.name) (wz_at 17 5 rfl)
  have h8w := hts (.initialized "java/lang/Math") (wz_at 17 6 rfl)
  have h9w := hts (.code Lib.Math.min.name Lib.Math.min.code 2 (some .int)) (wz_at 17 7 rfl)
  have h10w := hts (.methodLink RX10 394 Lib.Math.max.name) (wz_at 31 3 rfl)
  have h11w := hts (.static Lib.Math.max.name) (wz_at 31 4 rfl)
  have h12w := hts (.code Lib.Math.max.name Lib.Math.max.code 2 (some .int)) (wz_at 31 5 rfl)
  have h13w := hts (.fieldLink RX10 54 "RopeTownModel" "rule" "[I") (wz_at 6 6 rfl)
  refine lv_aload_n hx hb dX10_tellRide_0 rfl (lv_at hl 0 rfl) ?_
  refine lv_ldcw (v := Int32.ofInt 1000000000) hx hb hown h0w dX10_tellRide_1 ?_
  refine iv_put (ci := 7) (v := .int (Int32.ofInt (1000000000))) (ty := .int) (C := RX10) (T := TX10) (N := 71) (ref := RX10) hx hb hts h2w tyX10 tyX10_ok nmX10 hown hX.1 hP hD hS 0 rfl rfl 41 (by decide) h1w (fun _ h9 => h9) rfl (by decide +kernel) rfl rfl (Nat.le_of_ble_eq_true rfl) (wM_F41 _ _ _ _ _) dX10_tellRide_4 (fun H locs hP hD hS => ?_)
  refine lv_aload_n hx hb dX10_tellRide_7 rfl (lv_at hl 0 rfl) ?_
  refine lv_ldcw (v := Int32.ofInt (-1000000000)) hx hb hown h3w dX10_tellRide_8 ?_
  refine iv_put (ci := 7) (v := .int (Int32.ofInt ((-1000000000)))) (ty := .int) (C := RX10) (T := TX10) (N := 71) (ref := RX10) hx hb hts h2w tyX10 tyX10_ok nmX10 hown hX.1 hP hD hS 0 rfl rfl 42 (by decide) h4w (fun _ h9 => h9) rfl (by decide +kernel) rfl rfl (Nat.le_of_ble_eq_true rfl) (wM_F42 _ _ _ _ _) dX10_tellRide_11 (fun H locs hP hD hS => ?_)
  refine lv_aload_n hx hb dX10_tellRide_14 rfl (lv_at hl 0 rfl) ?_
  refine lv_iconst (v := Int32.ofInt 0) hx hb dX10_tellRide_15 (by decide +kernel) ?_
  refine iv_put (ci := 7) (v := .int (Int32.ofInt (0))) (ty := .int) (C := RX10) (T := TX10) (N := 71) (ref := RX10) hx hb hts h2w tyX10 tyX10_ok nmX10 hown hX.1 hP hD hS 0 rfl rfl 43 (by decide) h5w (fun _ h9 => h9) rfl (by decide +kernel) rfl rfl (Nat.le_of_ble_eq_true rfl) (wM_F43 _ _ _ _ _) dX10_tellRide_16 (fun H locs hP hD hS => ?_)
  refine lv_iload_n hx hb dX10_tellRide_19 rfl (lv_at hl 3 rfl) ?_
  refine lv_iload_n hx hb dX10_tellRide_20 rfl (lv_at hl 2 rfl) ?_
  refine iv_icmp_le (tgt := 28) hx hb (by omega) (by omega) dX10_tellRide_21 (by decide) (fun q1 => ?_) (fun q1 => ?_)
  · refine lv_iconst (v := Int32.ofInt (-1)) hx hb dX10_tellRide_28 (by decide +kernel) ?_
    refine lv_istore (lv' := [(4, .int (Int32.ofInt ((-1)))), (0, .ref (ar 71)), (1, .ref (ar 44)), (2, .int (Int32.ofInt (f0))), (3, .int (Int32.ofInt (t0)))]) hx hb dX10_tellRide_29 hl (by decide) rfl (fun ls hl => ?_)
    refine lv_iload_n hx hb dX10_tellRide_31 rfl (lv_at hl 4 rfl) ?_
    refine lv_iload_n hx hb dX10_tellRide_32 rfl (lv_at hl 3 rfl) ?_
    refine iv_icmp_le (tgt := 40) hx hb (by omega) (by omega) dX10_tellRide_33 (by decide) (fun q2 => ?_) (fun q2 => ?_)
    · refine lv_iconst (v := Int32.ofInt 1) hx hb dX10_tellRide_40 (by decide +kernel) ?_
      refine lv_istore (lv' := [(5, .int (Int32.ofInt (1))), (4, .int (Int32.ofInt ((-1)))), (0, .ref (ar 71)), (1, .ref (ar 44)), (2, .int (Int32.ofInt (f0))), (3, .int (Int32.ofInt (t0)))]) hx hb dX10_tellRide_41 hl (by decide) rfl (fun ls hl => ?_)
      refine lv_iload_n hx hb dX10_tellRide_43 rfl (lv_at hl 4 rfl) ?_
      refine lv_istore (lv' := [(6, .int (Int32.ofInt (f0))), (5, .int (Int32.ofInt (1))), (4, .int (Int32.ofInt ((-1)))), (0, .ref (ar 71)), (1, .ref (ar 44)), (2, .int (Int32.ofInt (f0))), (3, .int (Int32.ofInt (t0)))]) hx hb dX10_tellRide_44 hl (by decide) rfl (fun ls hl => ?_)
      refine iv_loop (α := Int × Int × Int × Int) (nL := 8) (fun b9 => (wM k ar (uF (uF (uF fi 41 (b9.2.1)) 42 (b9.2.2.1)) 43 (b9.2.2.2)) fa fl)) (fun b9 => [(6, .int (Int32.ofInt (b9.1))), (5, .int (Int32.ofInt (1))), (4, .int (Int32.ofInt ((-1)))), (0, .ref (ar 71)), (1, .ref (ar 44)), (2, .int (Int32.ofInt (f0))), (3, .int (Int32.ofInt (t0)))]) (fun b9 => ((-1) * (t0 - b9.1)).toNat) (fun b9 => inR b9.1 ∧ inR b9.2.1 ∧ inR b9.2.2.1 ∧ inR b9.2.2.2 ∧ ((0 ≤ (-1) * (t0 - b9.1) ∧ 0 ≤ (-1) * (b9.1 - f0)) ∧ LMk b9.2.1 b9.2.2.1 (exM (gs (lc (fa 44) (fa 5) 0) (fi 12)) (gs (lc (fa 44) (fa 5) 1) (fi 12)) (fa 3 3) (fa 3 0) ((-1))) f0 ((-1)) (((-1)) * (b9.1 - f0)).toNat)) ?_ (f0, 1000000000, (-1000000000), 0) (show inR f0 ∧ inR 1000000000 ∧ inR (-1000000000) ∧ inR 0 ∧ ((0 ≤ (-1) * (t0 - f0) ∧ 0 ≤ (-1) * (f0 - f0)) ∧ LMk 1000000000 (-1000000000) (exM (gs (lc (fa 44) (fa 5) 0) (fi 12)) (gs (lc (fa 44) (fa 5) 1) (fi 12)) (fa 3 3) (fa 3 0) ((-1))) f0 ((-1)) (((-1)) * (f0 - f0)).toNat) from ⟨(by omega), (by omega), (by omega), (by omega), (by exact ⟨by omega, lm_0 rfl rfl (by omega)⟩)⟩) hP hD hS hl
      rintro ⟨x6_3, n41_4, n42_5, n43_6⟩ ih hi9 H locs ls hP hD hS hl
      obtain ⟨r_x6_3, r_n41_4, r_n42_5, r_n43_6, hinv⟩ : inR x6_3 ∧ inR n41_4 ∧ inR n42_5 ∧ inR n43_6 ∧ ((0 ≤ (-1) * (t0 - x6_3) ∧ 0 ≤ (-1) * (x6_3 - f0)) ∧ LMk n41_4 n42_5 (exM (gs (lc (fa 44) (fa 5) 0) (fi 12)) (gs (lc (fa 44) (fa 5) 1) (fi 12)) (fa 3 3) (fa 3 0) ((-1))) f0 ((-1)) (((-1)) * (x6_3 - f0)).toNat) := hi9
      obtain ⟨hinv, hLM⟩ := hinv
      obtain ⟨hP, hD⟩ : va_P G vwCl (wM k ar (uF (uF (uF fi 41 (n41_4)) 42 (n42_5)) 43 (n43_6)) fa fl) H ∧ va_D A (wM k ar (uF (uF (uF fi 41 (n41_4)) 42 (n42_5)) 43 (n43_6)) fa fl) := ⟨hP, hD⟩
      have hl : lv_has ls 8 [(6, .int (Int32.ofInt (x6_3))), (5, .int (Int32.ofInt (1))), (4, .int (Int32.ofInt ((-1)))), (0, .ref (ar 71)), (1, .ref (ar 44)), (2, .int (Int32.ofInt (f0))), (3, .int (Int32.ofInt (t0)))] := hl
      refine lv_iload hx hb dX10_tellRide_46 (lv_at hl 0 rfl) ?_
      refine lv_iload_n hx hb dX10_tellRide_48 rfl (lv_at hl 6 rfl) ?_
      refine iv_icmp_eq (tgt := 155) hx hb (by omega) (by omega) dX10_tellRide_49 (by decide) (fun q7 => ?_) (fun q7 => ?_)
      · exact W.vret hx hb hr (fun t ht hW => ⟨⟨(n41_4, n42_5, n43_6), rfl, (show (inR n41_4) ∧ (inR n42_5) ∧ (inR n43_6) ∧ (LM n41_4 n42_5 (exM (gs (lc (fa 44) (fa 5) 0) (fi 12)) (gs (lc (fa 44) (fa 5) 1) (fi 12)) (fa 3 3) (fa 3 0) (stD f0 t0)) f0 t0) from ⟨(by omega), (by omega), (by omega), (by first | (exfalso; omega) | (have hq1 : ((-1) : Int) = 1 := (by decide); exact lm_x hLM (stD_up (by omega)) (by omega)) | (have hq1 : ((-1) : Int) = -1 := (by decide); exact lm_x hLM (stD_dn (by omega)) (by omega)))⟩), by rw [ht]; exact hP, hD⟩, hS.F ht⟩) hS.2.2 dX10_tellRide_155
      · refine lv_aload_n hx hb dX10_tellRide_52 rfl (lv_at hl 3 rfl) ?_
        refine lv_aload_n hx hb dX10_tellRide_53 rfl (lv_at hl 4 rfl) ?_
        refine lv_iload hx hb dX10_tellRide_54 (lv_at hl 1 rfl) ?_
        refine lv_iload hx hb dX10_tellRide_56 (lv_at hl 0 rfl) ?_
        refine cr_i (va_runV (As := [.ref (ar 44), .int (Int32.ofInt (1)), .int (Int32.ofInt (x6_3))]) (rest := []) ⟨hx, hb, hml, hown, hts⟩ (mX10_sideOf_44 l G k ar (uF (uF (uF fi 41 (n41_4)) 42 (n42_5)) 43 (n43_6)) fa fl 1 x6_3 H.size (iF (iF (iF hR (by omega)) (by omega)) (by omega)) hRa (by omega) (by omega) (show 0 ≤ (fi 12) ∧ (fi 12) ≤ 7 from by omega) (show 1 = 0 ∨ 1 = 1 from by omega)) (cwV 3 hts (gz [.methodLink RX10 377 yX10_sideOf, .instanceMethod yX10_sideOf, .selects RX10 yX10_sideOf yX10_sideOf, .initialized RX10] (.code yX10_sideOf cX10_sideOf 4 (some .int)) [(26, 4), (26, 5), (26, 6), (0, 5), (26, 7)] rfl) rfl rfl rfl (by decide +kernel) ⟨Nat.le_of_ble_eq_true rfl, Nat.le_of_ble_eq_true rfl⟩) (cr_preV (EZ_ok k) hZ hS hX hP hD hA (ci := 7) (q0 := 0) rfl rfl) rfl rfl hl.1 rfl (lv_room (Nat.le_of_ble_eq_true rfl)) dX10_tellRide_58 ⟨Nat.le_of_ble_eq_true rfl, Nat.le_of_ble_eq_true rfl⟩) hD hS hA (fun r u H locs hp hP hD hS => ?_)
        obtain ⟨c8, rfl⟩ : ∃ z, z = u := ⟨_, rfl⟩
        obtain ⟨h9, rc8, hp8⟩ : r = Int32.ofInt c8 ∧ (inR c8) ∧ (c8 = sdV (gs (lc ((fa 44)) ((fa 5)) 1) ((fi 12))) ((fa 3) 3) (buD 1 x6_3 ((fa 3) 0))) := hp
        subst h9
        have hSd58 := hp8
        refine lv_aload_n hx hb dX10_tellRide_61 rfl (lv_at hl 3 rfl) ?_
        refine lv_aload_n hx hb dX10_tellRide_62 rfl (lv_at hl 4 rfl) ?_
        refine lv_iconst (v := Int32.ofInt 1) hx hb dX10_tellRide_63 (by decide +kernel) ?_
        refine lv_iload hx hb dX10_tellRide_64 (lv_at hl 1 rfl) ?_
        refine iv_sub (x := 1) (y := 1) hx hb dX10_tellRide_66 ?_
        refine iv_is (z := 0) (by decide) ?_
        refine lv_iload hx hb dX10_tellRide_67 (lv_at hl 0 rfl) ?_
        refine cr_i (va_runV (As := [.ref (ar 44), .int (Int32.ofInt (0)), .int (Int32.ofInt (x6_3))]) (rest := [.int (Int32.ofInt (c8))]) ⟨hx, hb, hml, hown, hts⟩ (mX10_sideOf_44 l G k ar (uF (uF (uF fi 41 (n41_4)) 42 (n42_5)) 43 (n43_6)) fa fl 0 x6_3 H.size (iF (iF (iF hR (by omega)) (by omega)) (by omega)) hRa (by omega) (by omega) (show 0 ≤ (fi 12) ∧ (fi 12) ≤ 7 from by omega) (show 0 = 0 ∨ 0 = 1 from by omega)) (cwV 3 hts (gz [.methodLink RX10 377 yX10_sideOf, .instanceMethod yX10_sideOf, .selects RX10 yX10_sideOf yX10_sideOf, .initialized RX10] (.code yX10_sideOf cX10_sideOf 4 (some .int)) [(26, 4), (26, 5), (26, 6), (0, 5), (26, 7)] rfl) rfl rfl rfl (by decide +kernel) ⟨Nat.le_of_ble_eq_true rfl, Nat.le_of_ble_eq_true rfl⟩) (cr_preV (EZ_ok k) hZ hS hX hP hD hA (ci := 7) (q0 := 0) rfl rfl) rfl rfl hl.1 rfl (lv_room (Nat.le_of_ble_eq_true rfl)) dX10_tellRide_69 ⟨Nat.le_of_ble_eq_true rfl, Nat.le_of_ble_eq_true rfl⟩) hD hS hA (fun r u H locs hp hP hD hS => ?_)
        obtain ⟨c9, rfl⟩ : ∃ z, z = u := ⟨_, rfl⟩
        obtain ⟨h9, rc9, hp9⟩ : r = Int32.ofInt c9 ∧ (inR c9) ∧ (c9 = sdV (gs (lc ((fa 44)) ((fa 5)) 0) ((fi 12))) ((fa 3) 3) (buD 0 x6_3 ((fa 3) 0))) := hp
        subst h9
        have hSd69 := hp9
        refine iv_sub (x := c8) (y := c9) hx hb dX10_tellRide_72 ?_
        refine iv_wr ?_
        refine iv_top (fun z10 ez10 => ?_)
        have rz10 : inR z10 := ez10 ▸ bWr_r _
        refine lv_istore (lv' := [(7, .int (Int32.ofInt (z10))), (6, .int (Int32.ofInt (x6_3))), (5, .int (Int32.ofInt (1))), (4, .int (Int32.ofInt ((-1)))), (0, .ref (ar 71)), (1, .ref (ar 44)), (2, .int (Int32.ofInt (f0))), (3, .int (Int32.ofInt (t0)))]) hx hb dX10_tellRide_73 hl (by decide) rfl (fun ls hl => ?_)
        have hv7 := ez10
        refine lv_aload_n hx hb dX10_tellRide_75 rfl (lv_at hl 4 rfl) ?_
        refine lv_aload_n hx hb dX10_tellRide_76 rfl (lv_at hl 4 rfl) ?_
        refine va_get (D := G) (ci := 7) (v := .int (Int32.ofInt (n41_4))) (C := RX10) (T := TX10) (N := 71) (ref := RX10) hx hb hts h2w hown hX.1 hP 0 rfl rfl 41 (by decide) h1w (fun _ h9 => h9) rfl dX10_tellRide_77 ?_
        refine lv_iload hx hb dX10_tellRide_80 (lv_at hl 0 rfl) ?_
        refine iv_mmin hx hb (hml.trans hl.1.symm) hown h6w h7w h8w h9w (Nat.le_of_ble_eq_true rfl) (Nat.le_of_ble_eq_true rfl) (Nat.le_of_ble_eq_true rfl) (Nat.le_of_ble_eq_true rfl) (by omega) (by omega) dX10_tellRide_82 (fun z11 ez11 => ?_)
        have rz11 : inR z11 := by omega
        have hmn := ez11
        refine iv_put (ci := 7) (v := .int (Int32.ofInt (z11))) (ty := .int) (C := RX10) (T := TX10) (N := 71) (ref := RX10) hx hb hts h2w tyX10 tyX10_ok nmX10 hown hX.1 hP hD hS 0 rfl rfl 41 (by decide) h1w (fun _ h9 => h9) rfl (by decide +kernel) rfl rfl (Nat.le_of_ble_eq_true rfl) (wM_F41 _ _ _ _ _) dX10_tellRide_85 (fun H locs hP hD hS => ?_)
        obtain ⟨hP, hD⟩ : va_P G vwCl (wM k ar (uF (uF (uF fi 41 (z11)) 42 (n42_5)) 43 (n43_6)) fa fl) H ∧ va_D A (wM k ar (uF (uF (uF fi 41 (z11)) 42 (n42_5)) 43 (n43_6)) fa fl) := ⟨hP, hD⟩
        refine lv_aload_n hx hb dX10_tellRide_88 rfl (lv_at hl 4 rfl) ?_
        refine lv_aload_n hx hb dX10_tellRide_89 rfl (lv_at hl 4 rfl) ?_
        refine va_get (D := G) (ci := 7) (v := .int (Int32.ofInt (n42_5))) (C := RX10) (T := TX10) (N := 71) (ref := RX10) hx hb hts h2w hown hX.1 hP 0 rfl rfl 42 (by decide) h4w (fun _ h9 => h9) rfl dX10_tellRide_90 ?_
        refine lv_iload hx hb dX10_tellRide_93 (lv_at hl 0 rfl) ?_
        refine iv_mmax hx hb (hml.trans hl.1.symm) hown h10w h11w h8w h12w (Nat.le_of_ble_eq_true rfl) (Nat.le_of_ble_eq_true rfl) (Nat.le_of_ble_eq_true rfl) (Nat.le_of_ble_eq_true rfl) (by omega) (by omega) dX10_tellRide_95 (fun z12 ez12 => ?_)
        have rz12 : inR z12 := by omega
        have hmx := ez12
        refine iv_put (ci := 7) (v := .int (Int32.ofInt (z12))) (ty := .int) (C := RX10) (T := TX10) (N := 71) (ref := RX10) hx hb hts h2w tyX10 tyX10_ok nmX10 hown hX.1 hP hD hS 0 rfl rfl 42 (by decide) h4w (fun _ h9 => h9) rfl (by decide +kernel) rfl rfl (Nat.le_of_ble_eq_true rfl) (wM_F42 _ _ _ _ _) dX10_tellRide_98 (fun H locs hP hD hS => ?_)
        obtain ⟨hP, hD⟩ : va_P G vwCl (wM k ar (uF (uF (uF fi 41 (z11)) 42 (z12)) 43 (n43_6)) fa fl) H ∧ va_D A (wM k ar (uF (uF (uF fi 41 (z11)) 42 (z12)) 43 (n43_6)) fa fl) := ⟨hP, hD⟩
        refine lv_aload_n hx hb dX10_tellRide_101 rfl (lv_at hl 4 rfl) ?_
        refine lv_dup hx hb dX10_tellRide_102 rfl ?_
        refine va_get (D := G) (ci := 7) (v := .int (Int32.ofInt (n43_6))) (C := RX10) (T := TX10) (N := 71) (ref := RX10) hx hb hts h2w hown hX.1 hP 0 rfl rfl 43 (by decide) h5w (fun _ h9 => h9) rfl dX10_tellRide_103 ?_
        refine lv_iconst (v := Int32.ofInt 0) hx hb dX10_tellRide_106 (by decide +kernel) ?_
        refine lv_aload_n hx hb dX10_tellRide_107 rfl (lv_at hl 4 rfl) ?_
        refine va_get (D := G) (ci := 7) (v := .ref (ar 3)) (C := RX10) (T := TX10) (N := 71) (ref := RX10) hx hb hts h2w hown hX.1 hP 0 rfl rfl 3 (by decide) h13w (fun _ h9 => h9) rfl dX10_tellRide_108 ?_
        refine lv_iconst (v := Int32.ofInt 4) hx hb dX10_tellRide_111 (by decide +kernel) ?_
        refine iv_iald hx hb hX.1 hP 1 0 rfl rfl (by omega) (by omega) (by decide) dX10_tellRide_112 ?_
        refine iv_top (fun z13 ez13 => ?_)
        have rz13 : inR z13 := ez13 ▸ (hRa 3) _
        have ez13 : z13 = (fa 3) 4 := ez13
        refine lv_iload hx hb dX10_tellRide_113 (lv_at hl 0 rfl) ?_
        refine iv_sub (x := z13) (y := z10) hx hb dX10_tellRide_115 ?_
        refine iv_wr ?_
        refine iv_top (fun z14 ez14 => ?_)
        have rz14 : inR z14 := ez14 ▸ bWr_r _
        refine iv_mmax hx hb (hml.trans hl.1.symm) hown h10w h11w h8w h12w (Nat.le_of_ble_eq_true rfl) (Nat.le_of_ble_eq_true rfl) (Nat.le_of_ble_eq_true rfl) (Nat.le_of_ble_eq_true rfl) (by omega) (by omega) dX10_tellRide_116 (fun z15 ez15 => ?_)
        have rz15 : inR z15 := by omega
        refine lv_iconst (v := Int32.ofInt 0) hx hb dX10_tellRide_119 (by decide +kernel) ?_
        refine lv_iload hx hb dX10_tellRide_120 (lv_at hl 0 rfl) ?_
        refine lv_aload_n hx hb dX10_tellRide_122 rfl (lv_at hl 4 rfl) ?_
        refine va_get (D := G) (ci := 7) (v := .ref (ar 3)) (C := RX10) (T := TX10) (N := 71) (ref := RX10) hx hb hts h2w hown hX.1 hP 0 rfl rfl 3 (by decide) h13w (fun _ h9 => h9) rfl dX10_tellRide_123 ?_
        refine lv_iconst (v := Int32.ofInt 5) hx hb dX10_tellRide_126 (by decide +kernel) ?_
        refine iv_iald hx hb hX.1 hP 1 0 rfl rfl (by omega) (by omega) (by decide) dX10_tellRide_127 ?_
        refine iv_top (fun z16 ez16 => ?_)
        have rz16 : inR z16 := ez16 ▸ (hRa 3) _
        have ez16 : z16 = (fa 3) 5 := ez16
        refine iv_sub (x := z10) (y := z16) hx hb dX10_tellRide_128 ?_
        refine iv_wr ?_
        refine iv_top (fun z17 ez17 => ?_)
        have rz17 : inR z17 := ez17 ▸ bWr_r _
        refine lv_aload_n hx hb dX10_tellRide_129 rfl (lv_at hl 4 rfl) ?_
        refine va_get (D := G) (ci := 7) (v := .ref (ar 3)) (C := RX10) (T := TX10) (N := 71) (ref := RX10) hx hb hts h2w hown hX.1 hP 0 rfl rfl 3 (by decide) h13w (fun _ h9 => h9) rfl dX10_tellRide_130 ?_
        refine lv_bipush (v := Int32.ofInt 6) hx hb dX10_tellRide_133 (by decide +kernel) ?_
        refine iv_iald hx hb hX.1 hP 1 0 rfl rfl (by omega) (by omega) (by decide) dX10_tellRide_135 ?_
        refine iv_top (fun z18 ez18 => ?_)
        have rz18 : inR z18 := ez18 ▸ (hRa 3) _
        have ez18 : z18 = (fa 3) 6 := ez18
        refine iv_sub (x := z17) (y := z18) hx hb dX10_tellRide_136 ?_
        refine iv_wr ?_
        refine iv_top (fun z19 ez19 => ?_)
        have rz19 : inR z19 := ez19 ▸ bWr_r _
        refine iv_mmax hx hb (hml.trans hl.1.symm) hown h10w h11w h8w h12w (Nat.le_of_ble_eq_true rfl) (Nat.le_of_ble_eq_true rfl) (Nat.le_of_ble_eq_true rfl) (Nat.le_of_ble_eq_true rfl) (by omega) (by omega) dX10_tellRide_137 (fun z20 ez20 => ?_)
        have rz20 : inR z20 := by omega
        refine iv_add (x := z15) (y := z20) hx hb dX10_tellRide_140 ?_
        refine iv_wr ?_
        refine iv_top (fun z21 ez21 => ?_)
        have rz21 : inR z21 := ez21 ▸ bWr_r _
        refine iv_add (x := n43_6) (y := z21) hx hb dX10_tellRide_141 ?_
        refine iv_wr ?_
        refine iv_top (fun z22 ez22 => ?_)
        have rz22 : inR z22 := ez22 ▸ bWr_r _
        refine iv_put (ci := 7) (v := .int (Int32.ofInt (z22))) (ty := .int) (C := RX10) (T := TX10) (N := 71) (ref := RX10) hx hb hts h2w tyX10 tyX10_ok nmX10 hown hX.1 hP hD hS 0 rfl rfl 43 (by decide) h5w (fun _ h9 => h9) rfl (by decide +kernel) rfl rfl (Nat.le_of_ble_eq_true rfl) (wM_F43 _ _ _ _ _) dX10_tellRide_142 (fun H locs hP hD hS => ?_)
        obtain ⟨hP, hD⟩ : va_P G vwCl (wM k ar (uF (uF (uF fi 41 (z11)) 42 (z12)) 43 (z22)) fa fl) H ∧ va_D A (wM k ar (uF (uF (uF fi 41 (z11)) 42 (z12)) 43 (z22)) fa fl) := ⟨hP, hD⟩
        refine lv_iload hx hb dX10_tellRide_145 (lv_at hl 1 rfl) ?_
        refine lv_iload hx hb dX10_tellRide_147 (lv_at hl 3 rfl) ?_
        refine iv_add (x := x6_3) (y := (-1)) hx hb dX10_tellRide_149 ?_
        refine lv_istore (lv' := [(6, .int (Int32.ofInt ((x6_3 + (-1))))), (7, .int (Int32.ofInt (z10))), (5, .int (Int32.ofInt (1))), (4, .int (Int32.ofInt ((-1)))), (0, .ref (ar 71)), (1, .ref (ar 44)), (2, .int (Int32.ofInt (f0))), (3, .int (Int32.ofInt (t0)))]) hx hb dX10_tellRide_150 hl (by decide) rfl (fun ls hl => ?_)
        refine lv_goto (tgt := 46) hx hb dX10_tellRide_152 (by decide) ?_
        have hl : lv_has ls 8 [(6, .int (Int32.ofInt ((x6_3 + (-1))))), (5, .int (Int32.ofInt (1))), (4, .int (Int32.ofInt ((-1)))), (0, .ref (ar 71)), (1, .ref (ar 44)), (2, .int (Int32.ofInt (f0))), (3, .int (Int32.ofInt (t0)))] := lv_sub hl [0, 2, 3, 4, 5, 6, 7] rfl
        exact ih ((x6_3 + (-1)), z11, z12, z22) (show ((-1) * (t0 - (x6_3 + (-1)))).toNat < ((-1) * (t0 - x6_3)).toNat from by omega) (show inR (x6_3 + (-1)) ∧ inR z11 ∧ inR z12 ∧ inR z22 ∧ ((0 ≤ (-1) * (t0 - (x6_3 + (-1))) ∧ 0 ≤ (-1) * ((x6_3 + (-1)) - f0)) ∧ LMk z11 z12 (exM (gs (lc (fa 44) (fa 5) 0) (fi 12)) (gs (lc (fa 44) (fa 5) 1) (fi 12)) (fa 3 3) (fa 3 0) ((-1))) f0 ((-1)) (((-1)) * ((x6_3 + (-1)) - f0)).toNat) from ⟨(by omega), (by omega), (by omega), (by omega), (by first | (exfalso; omega) | (have hq1 : ((-1) : Int) = 1 := (by decide); exact ⟨by omega, lm_s hLM (by omega) (by omega) (ex_up hSd58 hSd69 hv7) hmn hmx rfl⟩) | (have hq1 : ((-1) : Int) = -1 := (by decide); exact ⟨by omega, lm_s hLM (by omega) (by omega) (ex_dn hSd58 hSd69 hv7) hmn hmx rfl⟩))⟩) _ _ _ hP hD hS hl
    · refine lv_iconst (v := Int32.ofInt 0) hx hb dX10_tellRide_36 (by decide +kernel) ?_
      refine lv_goto (tgt := 41) hx hb dX10_tellRide_37 (by decide) ?_
      refine lv_istore (lv' := [(5, .int (Int32.ofInt (0))), (4, .int (Int32.ofInt ((-1)))), (0, .ref (ar 71)), (1, .ref (ar 44)), (2, .int (Int32.ofInt (f0))), (3, .int (Int32.ofInt (t0)))]) hx hb dX10_tellRide_41 hl (by decide) rfl (fun ls hl => ?_)
      refine lv_iload_n hx hb dX10_tellRide_43 rfl (lv_at hl 4 rfl) ?_
      refine lv_istore (lv' := [(6, .int (Int32.ofInt (f0))), (5, .int (Int32.ofInt (0))), (4, .int (Int32.ofInt ((-1)))), (0, .ref (ar 71)), (1, .ref (ar 44)), (2, .int (Int32.ofInt (f0))), (3, .int (Int32.ofInt (t0)))]) hx hb dX10_tellRide_44 hl (by decide) rfl (fun ls hl => ?_)
      refine iv_loop (α := Int × Int × Int × Int) (nL := 8) (fun b9 => (wM k ar (uF (uF (uF fi 41 (b9.2.1)) 42 (b9.2.2.1)) 43 (b9.2.2.2)) fa fl)) (fun b9 => [(6, .int (Int32.ofInt (b9.1))), (5, .int (Int32.ofInt (0))), (4, .int (Int32.ofInt ((-1)))), (0, .ref (ar 71)), (1, .ref (ar 44)), (2, .int (Int32.ofInt (f0))), (3, .int (Int32.ofInt (t0)))]) (fun b9 => ((-1) * (t0 - b9.1)).toNat) (fun b9 => inR b9.1 ∧ inR b9.2.1 ∧ inR b9.2.2.1 ∧ inR b9.2.2.2 ∧ ((0 ≤ (-1) * (t0 - b9.1) ∧ 0 ≤ (-1) * (b9.1 - f0)) ∧ LMk b9.2.1 b9.2.2.1 (exM (gs (lc (fa 44) (fa 5) 0) (fi 12)) (gs (lc (fa 44) (fa 5) 1) (fi 12)) (fa 3 3) (fa 3 0) ((-1))) f0 ((-1)) (((-1)) * (b9.1 - f0)).toNat)) ?_ (f0, 1000000000, (-1000000000), 0) (show inR f0 ∧ inR 1000000000 ∧ inR (-1000000000) ∧ inR 0 ∧ ((0 ≤ (-1) * (t0 - f0) ∧ 0 ≤ (-1) * (f0 - f0)) ∧ LMk 1000000000 (-1000000000) (exM (gs (lc (fa 44) (fa 5) 0) (fi 12)) (gs (lc (fa 44) (fa 5) 1) (fi 12)) (fa 3 3) (fa 3 0) ((-1))) f0 ((-1)) (((-1)) * (f0 - f0)).toNat) from ⟨(by omega), (by omega), (by omega), (by omega), (by exact ⟨by omega, lm_0 rfl rfl (by omega)⟩)⟩) hP hD hS hl
      rintro ⟨x6_23, n41_24, n42_25, n43_26⟩ ih hi9 H locs ls hP hD hS hl
      obtain ⟨r_x6_23, r_n41_24, r_n42_25, r_n43_26, hinv⟩ : inR x6_23 ∧ inR n41_24 ∧ inR n42_25 ∧ inR n43_26 ∧ ((0 ≤ (-1) * (t0 - x6_23) ∧ 0 ≤ (-1) * (x6_23 - f0)) ∧ LMk n41_24 n42_25 (exM (gs (lc (fa 44) (fa 5) 0) (fi 12)) (gs (lc (fa 44) (fa 5) 1) (fi 12)) (fa 3 3) (fa 3 0) ((-1))) f0 ((-1)) (((-1)) * (x6_23 - f0)).toNat) := hi9
      obtain ⟨hinv, hLM⟩ := hinv
      obtain ⟨hP, hD⟩ : va_P G vwCl (wM k ar (uF (uF (uF fi 41 (n41_24)) 42 (n42_25)) 43 (n43_26)) fa fl) H ∧ va_D A (wM k ar (uF (uF (uF fi 41 (n41_24)) 42 (n42_25)) 43 (n43_26)) fa fl) := ⟨hP, hD⟩
      have hl : lv_has ls 8 [(6, .int (Int32.ofInt (x6_23))), (5, .int (Int32.ofInt (0))), (4, .int (Int32.ofInt ((-1)))), (0, .ref (ar 71)), (1, .ref (ar 44)), (2, .int (Int32.ofInt (f0))), (3, .int (Int32.ofInt (t0)))] := hl
      refine lv_iload hx hb dX10_tellRide_46 (lv_at hl 0 rfl) ?_
      refine lv_iload_n hx hb dX10_tellRide_48 rfl (lv_at hl 6 rfl) ?_
      refine iv_icmp_eq (tgt := 155) hx hb (by omega) (by omega) dX10_tellRide_49 (by decide) (fun q27 => ?_) (fun q27 => ?_)
      · exact W.vret hx hb hr (fun t ht hW => ⟨⟨(n41_24, n42_25, n43_26), rfl, (show (inR n41_24) ∧ (inR n42_25) ∧ (inR n43_26) ∧ (LM n41_24 n42_25 (exM (gs (lc (fa 44) (fa 5) 0) (fi 12)) (gs (lc (fa 44) (fa 5) 1) (fi 12)) (fa 3 3) (fa 3 0) (stD f0 t0)) f0 t0) from ⟨(by omega), (by omega), (by omega), (by first | (exfalso; omega) | (have hq1 : ((-1) : Int) = 1 := (by decide); exact lm_x hLM (stD_up (by omega)) (by omega)) | (have hq1 : ((-1) : Int) = -1 := (by decide); exact lm_x hLM (stD_dn (by omega)) (by omega)))⟩), by rw [ht]; exact hP, hD⟩, hS.F ht⟩) hS.2.2 dX10_tellRide_155
      · refine lv_aload_n hx hb dX10_tellRide_52 rfl (lv_at hl 3 rfl) ?_
        refine lv_aload_n hx hb dX10_tellRide_53 rfl (lv_at hl 4 rfl) ?_
        refine lv_iload hx hb dX10_tellRide_54 (lv_at hl 1 rfl) ?_
        refine lv_iload hx hb dX10_tellRide_56 (lv_at hl 0 rfl) ?_
        refine cr_i (va_runV (As := [.ref (ar 44), .int (Int32.ofInt (0)), .int (Int32.ofInt (x6_23))]) (rest := []) ⟨hx, hb, hml, hown, hts⟩ (mX10_sideOf_44 l G k ar (uF (uF (uF fi 41 (n41_24)) 42 (n42_25)) 43 (n43_26)) fa fl 0 x6_23 H.size (iF (iF (iF hR (by omega)) (by omega)) (by omega)) hRa (by omega) (by omega) (show 0 ≤ (fi 12) ∧ (fi 12) ≤ 7 from by omega) (show 0 = 0 ∨ 0 = 1 from by omega)) (cwV 3 hts (gz [.methodLink RX10 377 yX10_sideOf, .instanceMethod yX10_sideOf, .selects RX10 yX10_sideOf yX10_sideOf, .initialized RX10] (.code yX10_sideOf cX10_sideOf 4 (some .int)) [(26, 4), (26, 5), (26, 6), (0, 5), (26, 7)] rfl) rfl rfl rfl (by decide +kernel) ⟨Nat.le_of_ble_eq_true rfl, Nat.le_of_ble_eq_true rfl⟩) (cr_preV (EZ_ok k) hZ hS hX hP hD hA (ci := 7) (q0 := 0) rfl rfl) rfl rfl hl.1 rfl (lv_room (Nat.le_of_ble_eq_true rfl)) dX10_tellRide_58 ⟨Nat.le_of_ble_eq_true rfl, Nat.le_of_ble_eq_true rfl⟩) hD hS hA (fun r u H locs hp hP hD hS => ?_)
        obtain ⟨c28, rfl⟩ : ∃ z, z = u := ⟨_, rfl⟩
        obtain ⟨h9, rc28, hp28⟩ : r = Int32.ofInt c28 ∧ (inR c28) ∧ (c28 = sdV (gs (lc ((fa 44)) ((fa 5)) 0) ((fi 12))) ((fa 3) 3) (buD 0 x6_23 ((fa 3) 0))) := hp
        subst h9
        have hSd58 := hp28
        refine lv_aload_n hx hb dX10_tellRide_61 rfl (lv_at hl 3 rfl) ?_
        refine lv_aload_n hx hb dX10_tellRide_62 rfl (lv_at hl 4 rfl) ?_
        refine lv_iconst (v := Int32.ofInt 1) hx hb dX10_tellRide_63 (by decide +kernel) ?_
        refine lv_iload hx hb dX10_tellRide_64 (lv_at hl 1 rfl) ?_
        refine iv_sub (x := 1) (y := 0) hx hb dX10_tellRide_66 ?_
        refine iv_is (z := 1) (by decide) ?_
        refine lv_iload hx hb dX10_tellRide_67 (lv_at hl 0 rfl) ?_
        refine cr_i (va_runV (As := [.ref (ar 44), .int (Int32.ofInt (1)), .int (Int32.ofInt (x6_23))]) (rest := [.int (Int32.ofInt (c28))]) ⟨hx, hb, hml, hown, hts⟩ (mX10_sideOf_44 l G k ar (uF (uF (uF fi 41 (n41_24)) 42 (n42_25)) 43 (n43_26)) fa fl 1 x6_23 H.size (iF (iF (iF hR (by omega)) (by omega)) (by omega)) hRa (by omega) (by omega) (show 0 ≤ (fi 12) ∧ (fi 12) ≤ 7 from by omega) (show 1 = 0 ∨ 1 = 1 from by omega)) (cwV 3 hts (gz [.methodLink RX10 377 yX10_sideOf, .instanceMethod yX10_sideOf, .selects RX10 yX10_sideOf yX10_sideOf, .initialized RX10] (.code yX10_sideOf cX10_sideOf 4 (some .int)) [(26, 4), (26, 5), (26, 6), (0, 5), (26, 7)] rfl) rfl rfl rfl (by decide +kernel) ⟨Nat.le_of_ble_eq_true rfl, Nat.le_of_ble_eq_true rfl⟩) (cr_preV (EZ_ok k) hZ hS hX hP hD hA (ci := 7) (q0 := 0) rfl rfl) rfl rfl hl.1 rfl (lv_room (Nat.le_of_ble_eq_true rfl)) dX10_tellRide_69 ⟨Nat.le_of_ble_eq_true rfl, Nat.le_of_ble_eq_true rfl⟩) hD hS hA (fun r u H locs hp hP hD hS => ?_)
        obtain ⟨c29, rfl⟩ : ∃ z, z = u := ⟨_, rfl⟩
        obtain ⟨h9, rc29, hp29⟩ : r = Int32.ofInt c29 ∧ (inR c29) ∧ (c29 = sdV (gs (lc ((fa 44)) ((fa 5)) 1) ((fi 12))) ((fa 3) 3) (buD 1 x6_23 ((fa 3) 0))) := hp
        subst h9
        have hSd69 := hp29
        refine iv_sub (x := c28) (y := c29) hx hb dX10_tellRide_72 ?_
        refine iv_wr ?_
        refine iv_top (fun z30 ez30 => ?_)
        have rz30 : inR z30 := ez30 ▸ bWr_r _
        refine lv_istore (lv' := [(7, .int (Int32.ofInt (z30))), (6, .int (Int32.ofInt (x6_23))), (5, .int (Int32.ofInt (0))), (4, .int (Int32.ofInt ((-1)))), (0, .ref (ar 71)), (1, .ref (ar 44)), (2, .int (Int32.ofInt (f0))), (3, .int (Int32.ofInt (t0)))]) hx hb dX10_tellRide_73 hl (by decide) rfl (fun ls hl => ?_)
        have hv7 := ez30
        refine lv_aload_n hx hb dX10_tellRide_75 rfl (lv_at hl 4 rfl) ?_
        refine lv_aload_n hx hb dX10_tellRide_76 rfl (lv_at hl 4 rfl) ?_
        refine va_get (D := G) (ci := 7) (v := .int (Int32.ofInt (n41_24))) (C := RX10) (T := TX10) (N := 71) (ref := RX10) hx hb hts h2w hown hX.1 hP 0 rfl rfl 41 (by decide) h1w (fun _ h9 => h9) rfl dX10_tellRide_77 ?_
        refine lv_iload hx hb dX10_tellRide_80 (lv_at hl 0 rfl) ?_
        refine iv_mmin hx hb (hml.trans hl.1.symm) hown h6w h7w h8w h9w (Nat.le_of_ble_eq_true rfl) (Nat.le_of_ble_eq_true rfl) (Nat.le_of_ble_eq_true rfl) (Nat.le_of_ble_eq_true rfl) (by omega) (by omega) dX10_tellRide_82 (fun z31 ez31 => ?_)
        have rz31 : inR z31 := by omega
        have hmn := ez31
        refine iv_put (ci := 7) (v := .int (Int32.ofInt (z31))) (ty := .int) (C := RX10) (T := TX10) (N := 71) (ref := RX10) hx hb hts h2w tyX10 tyX10_ok nmX10 hown hX.1 hP hD hS 0 rfl rfl 41 (by decide) h1w (fun _ h9 => h9) rfl (by decide +kernel) rfl rfl (Nat.le_of_ble_eq_true rfl) (wM_F41 _ _ _ _ _) dX10_tellRide_85 (fun H locs hP hD hS => ?_)
        obtain ⟨hP, hD⟩ : va_P G vwCl (wM k ar (uF (uF (uF fi 41 (z31)) 42 (n42_25)) 43 (n43_26)) fa fl) H ∧ va_D A (wM k ar (uF (uF (uF fi 41 (z31)) 42 (n42_25)) 43 (n43_26)) fa fl) := ⟨hP, hD⟩
        refine lv_aload_n hx hb dX10_tellRide_88 rfl (lv_at hl 4 rfl) ?_
        refine lv_aload_n hx hb dX10_tellRide_89 rfl (lv_at hl 4 rfl) ?_
        refine va_get (D := G) (ci := 7) (v := .int (Int32.ofInt (n42_25))) (C := RX10) (T := TX10) (N := 71) (ref := RX10) hx hb hts h2w hown hX.1 hP 0 rfl rfl 42 (by decide) h4w (fun _ h9 => h9) rfl dX10_tellRide_90 ?_
        refine lv_iload hx hb dX10_tellRide_93 (lv_at hl 0 rfl) ?_
        refine iv_mmax hx hb (hml.trans hl.1.symm) hown h10w h11w h8w h12w (Nat.le_of_ble_eq_true rfl) (Nat.le_of_ble_eq_true rfl) (Nat.le_of_ble_eq_true rfl) (Nat.le_of_ble_eq_true rfl) (by omega) (by omega) dX10_tellRide_95 (fun z32 ez32 => ?_)
        have rz32 : inR z32 := by omega
        have hmx := ez32
        refine iv_put (ci := 7) (v := .int (Int32.ofInt (z32))) (ty := .int) (C := RX10) (T := TX10) (N := 71) (ref := RX10) hx hb hts h2w tyX10 tyX10_ok nmX10 hown hX.1 hP hD hS 0 rfl rfl 42 (by decide) h4w (fun _ h9 => h9) rfl (by decide +kernel) rfl rfl (Nat.le_of_ble_eq_true rfl) (wM_F42 _ _ _ _ _) dX10_tellRide_98 (fun H locs hP hD hS => ?_)
        obtain ⟨hP, hD⟩ : va_P G vwCl (wM k ar (uF (uF (uF fi 41 (z31)) 42 (z32)) 43 (n43_26)) fa fl) H ∧ va_D A (wM k ar (uF (uF (uF fi 41 (z31)) 42 (z32)) 43 (n43_26)) fa fl) := ⟨hP, hD⟩
        refine lv_aload_n hx hb dX10_tellRide_101 rfl (lv_at hl 4 rfl) ?_
        refine lv_dup hx hb dX10_tellRide_102 rfl ?_
        refine va_get (D := G) (ci := 7) (v := .int (Int32.ofInt (n43_26))) (C := RX10) (T := TX10) (N := 71) (ref := RX10) hx hb hts h2w hown hX.1 hP 0 rfl rfl 43 (by decide) h5w (fun _ h9 => h9) rfl dX10_tellRide_103 ?_
        refine lv_iconst (v := Int32.ofInt 0) hx hb dX10_tellRide_106 (by decide +kernel) ?_
        refine lv_aload_n hx hb dX10_tellRide_107 rfl (lv_at hl 4 rfl) ?_
        refine va_get (D := G) (ci := 7) (v := .ref (ar 3)) (C := RX10) (T := TX10) (N := 71) (ref := RX10) hx hb hts h2w hown hX.1 hP 0 rfl rfl 3 (by decide) h13w (fun _ h9 => h9) rfl dX10_tellRide_108 ?_
        refine lv_iconst (v := Int32.ofInt 4) hx hb dX10_tellRide_111 (by decide +kernel) ?_
        refine iv_iald hx hb hX.1 hP 1 0 rfl rfl (by omega) (by omega) (by decide) dX10_tellRide_112 ?_
        refine iv_top (fun z33 ez33 => ?_)
        have rz33 : inR z33 := ez33 ▸ (hRa 3) _
        have ez33 : z33 = (fa 3) 4 := ez33
        refine lv_iload hx hb dX10_tellRide_113 (lv_at hl 0 rfl) ?_
        refine iv_sub (x := z33) (y := z30) hx hb dX10_tellRide_115 ?_
        refine iv_wr ?_
        refine iv_top (fun z34 ez34 => ?_)
        have rz34 : inR z34 := ez34 ▸ bWr_r _
        refine iv_mmax hx hb (hml.trans hl.1.symm) hown h10w h11w h8w h12w (Nat.le_of_ble_eq_true rfl) (Nat.le_of_ble_eq_true rfl) (Nat.le_of_ble_eq_true rfl) (Nat.le_of_ble_eq_true rfl) (by omega) (by omega) dX10_tellRide_116 (fun z35 ez35 => ?_)
        have rz35 : inR z35 := by omega
        refine lv_iconst (v := Int32.ofInt 0) hx hb dX10_tellRide_119 (by decide +kernel) ?_
        refine lv_iload hx hb dX10_tellRide_120 (lv_at hl 0 rfl) ?_
        refine lv_aload_n hx hb dX10_tellRide_122 rfl (lv_at hl 4 rfl) ?_
        refine va_get (D := G) (ci := 7) (v := .ref (ar 3)) (C := RX10) (T := TX10) (N := 71) (ref := RX10) hx hb hts h2w hown hX.1 hP 0 rfl rfl 3 (by decide) h13w (fun _ h9 => h9) rfl dX10_tellRide_123 ?_
        refine lv_iconst (v := Int32.ofInt 5) hx hb dX10_tellRide_126 (by decide +kernel) ?_
        refine iv_iald hx hb hX.1 hP 1 0 rfl rfl (by omega) (by omega) (by decide) dX10_tellRide_127 ?_
        refine iv_top (fun z36 ez36 => ?_)
        have rz36 : inR z36 := ez36 ▸ (hRa 3) _
        have ez36 : z36 = (fa 3) 5 := ez36
        refine iv_sub (x := z30) (y := z36) hx hb dX10_tellRide_128 ?_
        refine iv_wr ?_
        refine iv_top (fun z37 ez37 => ?_)
        have rz37 : inR z37 := ez37 ▸ bWr_r _
        refine lv_aload_n hx hb dX10_tellRide_129 rfl (lv_at hl 4 rfl) ?_
        refine va_get (D := G) (ci := 7) (v := .ref (ar 3)) (C := RX10) (T := TX10) (N := 71) (ref := RX10) hx hb hts h2w hown hX.1 hP 0 rfl rfl 3 (by decide) h13w (fun _ h9 => h9) rfl dX10_tellRide_130 ?_
        refine lv_bipush (v := Int32.ofInt 6) hx hb dX10_tellRide_133 (by decide +kernel) ?_
        refine iv_iald hx hb hX.1 hP 1 0 rfl rfl (by omega) (by omega) (by decide) dX10_tellRide_135 ?_
        refine iv_top (fun z38 ez38 => ?_)
        have rz38 : inR z38 := ez38 ▸ (hRa 3) _
        have ez38 : z38 = (fa 3) 6 := ez38
        refine iv_sub (x := z37) (y := z38) hx hb dX10_tellRide_136 ?_
        refine iv_wr ?_
        refine iv_top (fun z39 ez39 => ?_)
        have rz39 : inR z39 := ez39 ▸ bWr_r _
        refine iv_mmax hx hb (hml.trans hl.1.symm) hown h10w h11w h8w h12w (Nat.le_of_ble_eq_true rfl) (Nat.le_of_ble_eq_true rfl) (Nat.le_of_ble_eq_true rfl) (Nat.le_of_ble_eq_true rfl) (by omega) (by omega) dX10_tellRide_137 (fun z40 ez40 => ?_)
        have rz40 : inR z40 := by omega
        refine iv_add (x := z35) (y := z40) hx hb dX10_tellRide_140 ?_
        refine iv_wr ?_
        refine iv_top (fun z41 ez41 => ?_)
        have rz41 : inR z41 := ez41 ▸ bWr_r _
        refine iv_add (x := n43_26) (y := z41) hx hb dX10_tellRide_141 ?_
        refine iv_wr ?_
        refine iv_top (fun z42 ez42 => ?_)
        have rz42 : inR z42 := ez42 ▸ bWr_r _
        refine iv_put (ci := 7) (v := .int (Int32.ofInt (z42))) (ty := .int) (C := RX10) (T := TX10) (N := 71) (ref := RX10) hx hb hts h2w tyX10 tyX10_ok nmX10 hown hX.1 hP hD hS 0 rfl rfl 43 (by decide) h5w (fun _ h9 => h9) rfl (by decide +kernel) rfl rfl (Nat.le_of_ble_eq_true rfl) (wM_F43 _ _ _ _ _) dX10_tellRide_142 (fun H locs hP hD hS => ?_)
        obtain ⟨hP, hD⟩ : va_P G vwCl (wM k ar (uF (uF (uF fi 41 (z31)) 42 (z32)) 43 (z42)) fa fl) H ∧ va_D A (wM k ar (uF (uF (uF fi 41 (z31)) 42 (z32)) 43 (z42)) fa fl) := ⟨hP, hD⟩
        refine lv_iload hx hb dX10_tellRide_145 (lv_at hl 1 rfl) ?_
        refine lv_iload hx hb dX10_tellRide_147 (lv_at hl 3 rfl) ?_
        refine iv_add (x := x6_23) (y := (-1)) hx hb dX10_tellRide_149 ?_
        refine lv_istore (lv' := [(6, .int (Int32.ofInt ((x6_23 + (-1))))), (7, .int (Int32.ofInt (z30))), (5, .int (Int32.ofInt (0))), (4, .int (Int32.ofInt ((-1)))), (0, .ref (ar 71)), (1, .ref (ar 44)), (2, .int (Int32.ofInt (f0))), (3, .int (Int32.ofInt (t0)))]) hx hb dX10_tellRide_150 hl (by decide) rfl (fun ls hl => ?_)
        refine lv_goto (tgt := 46) hx hb dX10_tellRide_152 (by decide) ?_
        have hl : lv_has ls 8 [(6, .int (Int32.ofInt ((x6_23 + (-1))))), (5, .int (Int32.ofInt (0))), (4, .int (Int32.ofInt ((-1)))), (0, .ref (ar 71)), (1, .ref (ar 44)), (2, .int (Int32.ofInt (f0))), (3, .int (Int32.ofInt (t0)))] := lv_sub hl [0, 2, 3, 4, 5, 6, 7] rfl
        exact ih ((x6_23 + (-1)), z31, z32, z42) (show ((-1) * (t0 - (x6_23 + (-1)))).toNat < ((-1) * (t0 - x6_23)).toNat from by omega) (show inR (x6_23 + (-1)) ∧ inR z31 ∧ inR z32 ∧ inR z42 ∧ ((0 ≤ (-1) * (t0 - (x6_23 + (-1))) ∧ 0 ≤ (-1) * ((x6_23 + (-1)) - f0)) ∧ LMk z31 z32 (exM (gs (lc (fa 44) (fa 5) 0) (fi 12)) (gs (lc (fa 44) (fa 5) 1) (fi 12)) (fa 3 3) (fa 3 0) ((-1))) f0 ((-1)) (((-1)) * ((x6_23 + (-1)) - f0)).toNat) from ⟨(by omega), (by omega), (by omega), (by omega), (by first | (exfalso; omega) | (have hq1 : ((-1) : Int) = 1 := (by decide); exact ⟨by omega, lm_s hLM (by omega) (by omega) (ex_up hSd58 hSd69 hv7) hmn hmx rfl⟩) | (have hq1 : ((-1) : Int) = -1 := (by decide); exact ⟨by omega, lm_s hLM (by omega) (by omega) (ex_dn hSd58 hSd69 hv7) hmn hmx rfl⟩))⟩) _ _ _ hP hD hS hl
  · refine lv_iconst (v := Int32.ofInt 1) hx hb dX10_tellRide_24 (by decide +kernel) ?_
    refine lv_goto (tgt := 29) hx hb dX10_tellRide_25 (by decide) ?_
    refine lv_istore (lv' := [(4, .int (Int32.ofInt (1))), (0, .ref (ar 71)), (1, .ref (ar 44)), (2, .int (Int32.ofInt (f0))), (3, .int (Int32.ofInt (t0)))]) hx hb dX10_tellRide_29 hl (by decide) rfl (fun ls hl => ?_)
    refine lv_iload_n hx hb dX10_tellRide_31 rfl (lv_at hl 4 rfl) ?_
    refine lv_iload_n hx hb dX10_tellRide_32 rfl (lv_at hl 3 rfl) ?_
    refine iv_icmp_le (tgt := 40) hx hb (by omega) (by omega) dX10_tellRide_33 (by decide) (fun q43 => ?_) (fun q43 => ?_)
    · refine lv_iconst (v := Int32.ofInt 1) hx hb dX10_tellRide_40 (by decide +kernel) ?_
      refine lv_istore (lv' := [(5, .int (Int32.ofInt (1))), (4, .int (Int32.ofInt (1))), (0, .ref (ar 71)), (1, .ref (ar 44)), (2, .int (Int32.ofInt (f0))), (3, .int (Int32.ofInt (t0)))]) hx hb dX10_tellRide_41 hl (by decide) rfl (fun ls hl => ?_)
      refine lv_iload_n hx hb dX10_tellRide_43 rfl (lv_at hl 4 rfl) ?_
      refine lv_istore (lv' := [(6, .int (Int32.ofInt (f0))), (5, .int (Int32.ofInt (1))), (4, .int (Int32.ofInt (1))), (0, .ref (ar 71)), (1, .ref (ar 44)), (2, .int (Int32.ofInt (f0))), (3, .int (Int32.ofInt (t0)))]) hx hb dX10_tellRide_44 hl (by decide) rfl (fun ls hl => ?_)
      refine iv_loop (α := Int × Int × Int × Int) (nL := 8) (fun b9 => (wM k ar (uF (uF (uF fi 41 (b9.2.1)) 42 (b9.2.2.1)) 43 (b9.2.2.2)) fa fl)) (fun b9 => [(6, .int (Int32.ofInt (b9.1))), (5, .int (Int32.ofInt (1))), (4, .int (Int32.ofInt (1))), (0, .ref (ar 71)), (1, .ref (ar 44)), (2, .int (Int32.ofInt (f0))), (3, .int (Int32.ofInt (t0)))]) (fun b9 => (1 * (t0 - b9.1)).toNat) (fun b9 => inR b9.1 ∧ inR b9.2.1 ∧ inR b9.2.2.1 ∧ inR b9.2.2.2 ∧ ((0 ≤ 1 * (t0 - b9.1) ∧ 0 ≤ 1 * (b9.1 - f0)) ∧ LMk b9.2.1 b9.2.2.1 (exM (gs (lc (fa 44) (fa 5) 0) (fi 12)) (gs (lc (fa 44) (fa 5) 1) (fi 12)) (fa 3 3) (fa 3 0) (1)) f0 (1) ((1) * (b9.1 - f0)).toNat)) ?_ (f0, 1000000000, (-1000000000), 0) (show inR f0 ∧ inR 1000000000 ∧ inR (-1000000000) ∧ inR 0 ∧ ((0 ≤ 1 * (t0 - f0) ∧ 0 ≤ 1 * (f0 - f0)) ∧ LMk 1000000000 (-1000000000) (exM (gs (lc (fa 44) (fa 5) 0) (fi 12)) (gs (lc (fa 44) (fa 5) 1) (fi 12)) (fa 3 3) (fa 3 0) (1)) f0 (1) ((1) * (f0 - f0)).toNat) from ⟨(by omega), (by omega), (by omega), (by omega), (by exact ⟨by omega, lm_0 rfl rfl (by omega)⟩)⟩) hP hD hS hl
      rintro ⟨x6_44, n41_45, n42_46, n43_47⟩ ih hi9 H locs ls hP hD hS hl
      obtain ⟨r_x6_44, r_n41_45, r_n42_46, r_n43_47, hinv⟩ : inR x6_44 ∧ inR n41_45 ∧ inR n42_46 ∧ inR n43_47 ∧ ((0 ≤ 1 * (t0 - x6_44) ∧ 0 ≤ 1 * (x6_44 - f0)) ∧ LMk n41_45 n42_46 (exM (gs (lc (fa 44) (fa 5) 0) (fi 12)) (gs (lc (fa 44) (fa 5) 1) (fi 12)) (fa 3 3) (fa 3 0) (1)) f0 (1) ((1) * (x6_44 - f0)).toNat) := hi9
      obtain ⟨hinv, hLM⟩ := hinv
      obtain ⟨hP, hD⟩ : va_P G vwCl (wM k ar (uF (uF (uF fi 41 (n41_45)) 42 (n42_46)) 43 (n43_47)) fa fl) H ∧ va_D A (wM k ar (uF (uF (uF fi 41 (n41_45)) 42 (n42_46)) 43 (n43_47)) fa fl) := ⟨hP, hD⟩
      have hl : lv_has ls 8 [(6, .int (Int32.ofInt (x6_44))), (5, .int (Int32.ofInt (1))), (4, .int (Int32.ofInt (1))), (0, .ref (ar 71)), (1, .ref (ar 44)), (2, .int (Int32.ofInt (f0))), (3, .int (Int32.ofInt (t0)))] := hl
      refine lv_iload hx hb dX10_tellRide_46 (lv_at hl 0 rfl) ?_
      refine lv_iload_n hx hb dX10_tellRide_48 rfl (lv_at hl 6 rfl) ?_
      refine iv_icmp_eq (tgt := 155) hx hb (by omega) (by omega) dX10_tellRide_49 (by decide) (fun q48 => ?_) (fun q48 => ?_)
      · exact W.vret hx hb hr (fun t ht hW => ⟨⟨(n41_45, n42_46, n43_47), rfl, (show (inR n41_45) ∧ (inR n42_46) ∧ (inR n43_47) ∧ (LM n41_45 n42_46 (exM (gs (lc (fa 44) (fa 5) 0) (fi 12)) (gs (lc (fa 44) (fa 5) 1) (fi 12)) (fa 3 3) (fa 3 0) (stD f0 t0)) f0 t0) from ⟨(by omega), (by omega), (by omega), (by first | (exfalso; omega) | (have hq1 : (1 : Int) = 1 := (by decide); exact lm_x hLM (stD_up (by omega)) (by omega)) | (have hq1 : (1 : Int) = -1 := (by decide); exact lm_x hLM (stD_dn (by omega)) (by omega)))⟩), by rw [ht]; exact hP, hD⟩, hS.F ht⟩) hS.2.2 dX10_tellRide_155
      · refine lv_aload_n hx hb dX10_tellRide_52 rfl (lv_at hl 3 rfl) ?_
        refine lv_aload_n hx hb dX10_tellRide_53 rfl (lv_at hl 4 rfl) ?_
        refine lv_iload hx hb dX10_tellRide_54 (lv_at hl 1 rfl) ?_
        refine lv_iload hx hb dX10_tellRide_56 (lv_at hl 0 rfl) ?_
        refine cr_i (va_runV (As := [.ref (ar 44), .int (Int32.ofInt (1)), .int (Int32.ofInt (x6_44))]) (rest := []) ⟨hx, hb, hml, hown, hts⟩ (mX10_sideOf_44 l G k ar (uF (uF (uF fi 41 (n41_45)) 42 (n42_46)) 43 (n43_47)) fa fl 1 x6_44 H.size (iF (iF (iF hR (by omega)) (by omega)) (by omega)) hRa (by omega) (by omega) (show 0 ≤ (fi 12) ∧ (fi 12) ≤ 7 from by omega) (show 1 = 0 ∨ 1 = 1 from by omega)) (cwV 3 hts (gz [.methodLink RX10 377 yX10_sideOf, .instanceMethod yX10_sideOf, .selects RX10 yX10_sideOf yX10_sideOf, .initialized RX10] (.code yX10_sideOf cX10_sideOf 4 (some .int)) [(26, 4), (26, 5), (26, 6), (0, 5), (26, 7)] rfl) rfl rfl rfl (by decide +kernel) ⟨Nat.le_of_ble_eq_true rfl, Nat.le_of_ble_eq_true rfl⟩) (cr_preV (EZ_ok k) hZ hS hX hP hD hA (ci := 7) (q0 := 0) rfl rfl) rfl rfl hl.1 rfl (lv_room (Nat.le_of_ble_eq_true rfl)) dX10_tellRide_58 ⟨Nat.le_of_ble_eq_true rfl, Nat.le_of_ble_eq_true rfl⟩) hD hS hA (fun r u H locs hp hP hD hS => ?_)
        obtain ⟨c49, rfl⟩ : ∃ z, z = u := ⟨_, rfl⟩
        obtain ⟨h9, rc49, hp49⟩ : r = Int32.ofInt c49 ∧ (inR c49) ∧ (c49 = sdV (gs (lc ((fa 44)) ((fa 5)) 1) ((fi 12))) ((fa 3) 3) (buD 1 x6_44 ((fa 3) 0))) := hp
        subst h9
        have hSd58 := hp49
        refine lv_aload_n hx hb dX10_tellRide_61 rfl (lv_at hl 3 rfl) ?_
        refine lv_aload_n hx hb dX10_tellRide_62 rfl (lv_at hl 4 rfl) ?_
        refine lv_iconst (v := Int32.ofInt 1) hx hb dX10_tellRide_63 (by decide +kernel) ?_
        refine lv_iload hx hb dX10_tellRide_64 (lv_at hl 1 rfl) ?_
        refine iv_sub (x := 1) (y := 1) hx hb dX10_tellRide_66 ?_
        refine iv_is (z := 0) (by decide) ?_
        refine lv_iload hx hb dX10_tellRide_67 (lv_at hl 0 rfl) ?_
        refine cr_i (va_runV (As := [.ref (ar 44), .int (Int32.ofInt (0)), .int (Int32.ofInt (x6_44))]) (rest := [.int (Int32.ofInt (c49))]) ⟨hx, hb, hml, hown, hts⟩ (mX10_sideOf_44 l G k ar (uF (uF (uF fi 41 (n41_45)) 42 (n42_46)) 43 (n43_47)) fa fl 0 x6_44 H.size (iF (iF (iF hR (by omega)) (by omega)) (by omega)) hRa (by omega) (by omega) (show 0 ≤ (fi 12) ∧ (fi 12) ≤ 7 from by omega) (show 0 = 0 ∨ 0 = 1 from by omega)) (cwV 3 hts (gz [.methodLink RX10 377 yX10_sideOf, .instanceMethod yX10_sideOf, .selects RX10 yX10_sideOf yX10_sideOf, .initialized RX10] (.code yX10_sideOf cX10_sideOf 4 (some .int)) [(26, 4), (26, 5), (26, 6), (0, 5), (26, 7)] rfl) rfl rfl rfl (by decide +kernel) ⟨Nat.le_of_ble_eq_true rfl, Nat.le_of_ble_eq_true rfl⟩) (cr_preV (EZ_ok k) hZ hS hX hP hD hA (ci := 7) (q0 := 0) rfl rfl) rfl rfl hl.1 rfl (lv_room (Nat.le_of_ble_eq_true rfl)) dX10_tellRide_69 ⟨Nat.le_of_ble_eq_true rfl, Nat.le_of_ble_eq_true rfl⟩) hD hS hA (fun r u H locs hp hP hD hS => ?_)
        obtain ⟨c50, rfl⟩ : ∃ z, z = u := ⟨_, rfl⟩
        obtain ⟨h9, rc50, hp50⟩ : r = Int32.ofInt c50 ∧ (inR c50) ∧ (c50 = sdV (gs (lc ((fa 44)) ((fa 5)) 0) ((fi 12))) ((fa 3) 3) (buD 0 x6_44 ((fa 3) 0))) := hp
        subst h9
        have hSd69 := hp50
        refine iv_sub (x := c49) (y := c50) hx hb dX10_tellRide_72 ?_
        refine iv_wr ?_
        refine iv_top (fun z51 ez51 => ?_)
        have rz51 : inR z51 := ez51 ▸ bWr_r _
        refine lv_istore (lv' := [(7, .int (Int32.ofInt (z51))), (6, .int (Int32.ofInt (x6_44))), (5, .int (Int32.ofInt (1))), (4, .int (Int32.ofInt (1))), (0, .ref (ar 71)), (1, .ref (ar 44)), (2, .int (Int32.ofInt (f0))), (3, .int (Int32.ofInt (t0)))]) hx hb dX10_tellRide_73 hl (by decide) rfl (fun ls hl => ?_)
        have hv7 := ez51
        refine lv_aload_n hx hb dX10_tellRide_75 rfl (lv_at hl 4 rfl) ?_
        refine lv_aload_n hx hb dX10_tellRide_76 rfl (lv_at hl 4 rfl) ?_
        refine va_get (D := G) (ci := 7) (v := .int (Int32.ofInt (n41_45))) (C := RX10) (T := TX10) (N := 71) (ref := RX10) hx hb hts h2w hown hX.1 hP 0 rfl rfl 41 (by decide) h1w (fun _ h9 => h9) rfl dX10_tellRide_77 ?_
        refine lv_iload hx hb dX10_tellRide_80 (lv_at hl 0 rfl) ?_
        refine iv_mmin hx hb (hml.trans hl.1.symm) hown h6w h7w h8w h9w (Nat.le_of_ble_eq_true rfl) (Nat.le_of_ble_eq_true rfl) (Nat.le_of_ble_eq_true rfl) (Nat.le_of_ble_eq_true rfl) (by omega) (by omega) dX10_tellRide_82 (fun z52 ez52 => ?_)
        have rz52 : inR z52 := by omega
        have hmn := ez52
        refine iv_put (ci := 7) (v := .int (Int32.ofInt (z52))) (ty := .int) (C := RX10) (T := TX10) (N := 71) (ref := RX10) hx hb hts h2w tyX10 tyX10_ok nmX10 hown hX.1 hP hD hS 0 rfl rfl 41 (by decide) h1w (fun _ h9 => h9) rfl (by decide +kernel) rfl rfl (Nat.le_of_ble_eq_true rfl) (wM_F41 _ _ _ _ _) dX10_tellRide_85 (fun H locs hP hD hS => ?_)
        obtain ⟨hP, hD⟩ : va_P G vwCl (wM k ar (uF (uF (uF fi 41 (z52)) 42 (n42_46)) 43 (n43_47)) fa fl) H ∧ va_D A (wM k ar (uF (uF (uF fi 41 (z52)) 42 (n42_46)) 43 (n43_47)) fa fl) := ⟨hP, hD⟩
        refine lv_aload_n hx hb dX10_tellRide_88 rfl (lv_at hl 4 rfl) ?_
        refine lv_aload_n hx hb dX10_tellRide_89 rfl (lv_at hl 4 rfl) ?_
        refine va_get (D := G) (ci := 7) (v := .int (Int32.ofInt (n42_46))) (C := RX10) (T := TX10) (N := 71) (ref := RX10) hx hb hts h2w hown hX.1 hP 0 rfl rfl 42 (by decide) h4w (fun _ h9 => h9) rfl dX10_tellRide_90 ?_
        refine lv_iload hx hb dX10_tellRide_93 (lv_at hl 0 rfl) ?_
        refine iv_mmax hx hb (hml.trans hl.1.symm) hown h10w h11w h8w h12w (Nat.le_of_ble_eq_true rfl) (Nat.le_of_ble_eq_true rfl) (Nat.le_of_ble_eq_true rfl) (Nat.le_of_ble_eq_true rfl) (by omega) (by omega) dX10_tellRide_95 (fun z53 ez53 => ?_)
        have rz53 : inR z53 := by omega
        have hmx := ez53
        refine iv_put (ci := 7) (v := .int (Int32.ofInt (z53))) (ty := .int) (C := RX10) (T := TX10) (N := 71) (ref := RX10) hx hb hts h2w tyX10 tyX10_ok nmX10 hown hX.1 hP hD hS 0 rfl rfl 42 (by decide) h4w (fun _ h9 => h9) rfl (by decide +kernel) rfl rfl (Nat.le_of_ble_eq_true rfl) (wM_F42 _ _ _ _ _) dX10_tellRide_98 (fun H locs hP hD hS => ?_)
        obtain ⟨hP, hD⟩ : va_P G vwCl (wM k ar (uF (uF (uF fi 41 (z52)) 42 (z53)) 43 (n43_47)) fa fl) H ∧ va_D A (wM k ar (uF (uF (uF fi 41 (z52)) 42 (z53)) 43 (n43_47)) fa fl) := ⟨hP, hD⟩
        refine lv_aload_n hx hb dX10_tellRide_101 rfl (lv_at hl 4 rfl) ?_
        refine lv_dup hx hb dX10_tellRide_102 rfl ?_
        refine va_get (D := G) (ci := 7) (v := .int (Int32.ofInt (n43_47))) (C := RX10) (T := TX10) (N := 71) (ref := RX10) hx hb hts h2w hown hX.1 hP 0 rfl rfl 43 (by decide) h5w (fun _ h9 => h9) rfl dX10_tellRide_103 ?_
        refine lv_iconst (v := Int32.ofInt 0) hx hb dX10_tellRide_106 (by decide +kernel) ?_
        refine lv_aload_n hx hb dX10_tellRide_107 rfl (lv_at hl 4 rfl) ?_
        refine va_get (D := G) (ci := 7) (v := .ref (ar 3)) (C := RX10) (T := TX10) (N := 71) (ref := RX10) hx hb hts h2w hown hX.1 hP 0 rfl rfl 3 (by decide) h13w (fun _ h9 => h9) rfl dX10_tellRide_108 ?_
        refine lv_iconst (v := Int32.ofInt 4) hx hb dX10_tellRide_111 (by decide +kernel) ?_
        refine iv_iald hx hb hX.1 hP 1 0 rfl rfl (by omega) (by omega) (by decide) dX10_tellRide_112 ?_
        refine iv_top (fun z54 ez54 => ?_)
        have rz54 : inR z54 := ez54 ▸ (hRa 3) _
        have ez54 : z54 = (fa 3) 4 := ez54
        refine lv_iload hx hb dX10_tellRide_113 (lv_at hl 0 rfl) ?_
        refine iv_sub (x := z54) (y := z51) hx hb dX10_tellRide_115 ?_
        refine iv_wr ?_
        refine iv_top (fun z55 ez55 => ?_)
        have rz55 : inR z55 := ez55 ▸ bWr_r _
        refine iv_mmax hx hb (hml.trans hl.1.symm) hown h10w h11w h8w h12w (Nat.le_of_ble_eq_true rfl) (Nat.le_of_ble_eq_true rfl) (Nat.le_of_ble_eq_true rfl) (Nat.le_of_ble_eq_true rfl) (by omega) (by omega) dX10_tellRide_116 (fun z56 ez56 => ?_)
        have rz56 : inR z56 := by omega
        refine lv_iconst (v := Int32.ofInt 0) hx hb dX10_tellRide_119 (by decide +kernel) ?_
        refine lv_iload hx hb dX10_tellRide_120 (lv_at hl 0 rfl) ?_
        refine lv_aload_n hx hb dX10_tellRide_122 rfl (lv_at hl 4 rfl) ?_
        refine va_get (D := G) (ci := 7) (v := .ref (ar 3)) (C := RX10) (T := TX10) (N := 71) (ref := RX10) hx hb hts h2w hown hX.1 hP 0 rfl rfl 3 (by decide) h13w (fun _ h9 => h9) rfl dX10_tellRide_123 ?_
        refine lv_iconst (v := Int32.ofInt 5) hx hb dX10_tellRide_126 (by decide +kernel) ?_
        refine iv_iald hx hb hX.1 hP 1 0 rfl rfl (by omega) (by omega) (by decide) dX10_tellRide_127 ?_
        refine iv_top (fun z57 ez57 => ?_)
        have rz57 : inR z57 := ez57 ▸ (hRa 3) _
        have ez57 : z57 = (fa 3) 5 := ez57
        refine iv_sub (x := z51) (y := z57) hx hb dX10_tellRide_128 ?_
        refine iv_wr ?_
        refine iv_top (fun z58 ez58 => ?_)
        have rz58 : inR z58 := ez58 ▸ bWr_r _
        refine lv_aload_n hx hb dX10_tellRide_129 rfl (lv_at hl 4 rfl) ?_
        refine va_get (D := G) (ci := 7) (v := .ref (ar 3)) (C := RX10) (T := TX10) (N := 71) (ref := RX10) hx hb hts h2w hown hX.1 hP 0 rfl rfl 3 (by decide) h13w (fun _ h9 => h9) rfl dX10_tellRide_130 ?_
        refine lv_bipush (v := Int32.ofInt 6) hx hb dX10_tellRide_133 (by decide +kernel) ?_
        refine iv_iald hx hb hX.1 hP 1 0 rfl rfl (by omega) (by omega) (by decide) dX10_tellRide_135 ?_
        refine iv_top (fun z59 ez59 => ?_)
        have rz59 : inR z59 := ez59 ▸ (hRa 3) _
        have ez59 : z59 = (fa 3) 6 := ez59
        refine iv_sub (x := z58) (y := z59) hx hb dX10_tellRide_136 ?_
        refine iv_wr ?_
        refine iv_top (fun z60 ez60 => ?_)
        have rz60 : inR z60 := ez60 ▸ bWr_r _
        refine iv_mmax hx hb (hml.trans hl.1.symm) hown h10w h11w h8w h12w (Nat.le_of_ble_eq_true rfl) (Nat.le_of_ble_eq_true rfl) (Nat.le_of_ble_eq_true rfl) (Nat.le_of_ble_eq_true rfl) (by omega) (by omega) dX10_tellRide_137 (fun z61 ez61 => ?_)
        have rz61 : inR z61 := by omega
        refine iv_add (x := z56) (y := z61) hx hb dX10_tellRide_140 ?_
        refine iv_wr ?_
        refine iv_top (fun z62 ez62 => ?_)
        have rz62 : inR z62 := ez62 ▸ bWr_r _
        refine iv_add (x := n43_47) (y := z62) hx hb dX10_tellRide_141 ?_
        refine iv_wr ?_
        refine iv_top (fun z63 ez63 => ?_)
        have rz63 : inR z63 := ez63 ▸ bWr_r _
        refine iv_put (ci := 7) (v := .int (Int32.ofInt (z63))) (ty := .int) (C := RX10) (T := TX10) (N := 71) (ref := RX10) hx hb hts h2w tyX10 tyX10_ok nmX10 hown hX.1 hP hD hS 0 rfl rfl 43 (by decide) h5w (fun _ h9 => h9) rfl (by decide +kernel) rfl rfl (Nat.le_of_ble_eq_true rfl) (wM_F43 _ _ _ _ _) dX10_tellRide_142 (fun H locs hP hD hS => ?_)
        obtain ⟨hP, hD⟩ : va_P G vwCl (wM k ar (uF (uF (uF fi 41 (z52)) 42 (z53)) 43 (z63)) fa fl) H ∧ va_D A (wM k ar (uF (uF (uF fi 41 (z52)) 42 (z53)) 43 (z63)) fa fl) := ⟨hP, hD⟩
        refine lv_iload hx hb dX10_tellRide_145 (lv_at hl 1 rfl) ?_
        refine lv_iload hx hb dX10_tellRide_147 (lv_at hl 3 rfl) ?_
        refine iv_add (x := x6_44) (y := 1) hx hb dX10_tellRide_149 ?_
        refine lv_istore (lv' := [(6, .int (Int32.ofInt ((x6_44 + 1)))), (7, .int (Int32.ofInt (z51))), (5, .int (Int32.ofInt (1))), (4, .int (Int32.ofInt (1))), (0, .ref (ar 71)), (1, .ref (ar 44)), (2, .int (Int32.ofInt (f0))), (3, .int (Int32.ofInt (t0)))]) hx hb dX10_tellRide_150 hl (by decide) rfl (fun ls hl => ?_)
        refine lv_goto (tgt := 46) hx hb dX10_tellRide_152 (by decide) ?_
        have hl : lv_has ls 8 [(6, .int (Int32.ofInt ((x6_44 + 1)))), (5, .int (Int32.ofInt (1))), (4, .int (Int32.ofInt (1))), (0, .ref (ar 71)), (1, .ref (ar 44)), (2, .int (Int32.ofInt (f0))), (3, .int (Int32.ofInt (t0)))] := lv_sub hl [0, 2, 3, 4, 5, 6, 7] rfl
        exact ih ((x6_44 + 1), z52, z53, z63) (show (1 * (t0 - (x6_44 + 1))).toNat < (1 * (t0 - x6_44)).toNat from by omega) (show inR (x6_44 + 1) ∧ inR z52 ∧ inR z53 ∧ inR z63 ∧ ((0 ≤ 1 * (t0 - (x6_44 + 1)) ∧ 0 ≤ 1 * ((x6_44 + 1) - f0)) ∧ LMk z52 z53 (exM (gs (lc (fa 44) (fa 5) 0) (fi 12)) (gs (lc (fa 44) (fa 5) 1) (fi 12)) (fa 3 3) (fa 3 0) (1)) f0 (1) ((1) * ((x6_44 + 1) - f0)).toNat) from ⟨(by omega), (by omega), (by omega), (by omega), (by first | (exfalso; omega) | (have hq1 : (1 : Int) = 1 := (by decide); exact ⟨by omega, lm_s hLM (by omega) (by omega) (ex_up hSd58 hSd69 hv7) hmn hmx rfl⟩) | (have hq1 : (1 : Int) = -1 := (by decide); exact ⟨by omega, lm_s hLM (by omega) (by omega) (ex_dn hSd58 hSd69 hv7) hmn hmx rfl⟩))⟩) _ _ _ hP hD hS hl
    · refine lv_iconst (v := Int32.ofInt 0) hx hb dX10_tellRide_36 (by decide +kernel) ?_
      refine lv_goto (tgt := 41) hx hb dX10_tellRide_37 (by decide) ?_
      refine lv_istore (lv' := [(5, .int (Int32.ofInt (0))), (4, .int (Int32.ofInt (1))), (0, .ref (ar 71)), (1, .ref (ar 44)), (2, .int (Int32.ofInt (f0))), (3, .int (Int32.ofInt (t0)))]) hx hb dX10_tellRide_41 hl (by decide) rfl (fun ls hl => ?_)
      refine lv_iload_n hx hb dX10_tellRide_43 rfl (lv_at hl 4 rfl) ?_
      refine lv_istore (lv' := [(6, .int (Int32.ofInt (f0))), (5, .int (Int32.ofInt (0))), (4, .int (Int32.ofInt (1))), (0, .ref (ar 71)), (1, .ref (ar 44)), (2, .int (Int32.ofInt (f0))), (3, .int (Int32.ofInt (t0)))]) hx hb dX10_tellRide_44 hl (by decide) rfl (fun ls hl => ?_)
      refine iv_loop (α := Int × Int × Int × Int) (nL := 8) (fun b9 => (wM k ar (uF (uF (uF fi 41 (b9.2.1)) 42 (b9.2.2.1)) 43 (b9.2.2.2)) fa fl)) (fun b9 => [(6, .int (Int32.ofInt (b9.1))), (5, .int (Int32.ofInt (0))), (4, .int (Int32.ofInt (1))), (0, .ref (ar 71)), (1, .ref (ar 44)), (2, .int (Int32.ofInt (f0))), (3, .int (Int32.ofInt (t0)))]) (fun b9 => (1 * (t0 - b9.1)).toNat) (fun b9 => inR b9.1 ∧ inR b9.2.1 ∧ inR b9.2.2.1 ∧ inR b9.2.2.2 ∧ ((0 ≤ 1 * (t0 - b9.1) ∧ 0 ≤ 1 * (b9.1 - f0)) ∧ LMk b9.2.1 b9.2.2.1 (exM (gs (lc (fa 44) (fa 5) 0) (fi 12)) (gs (lc (fa 44) (fa 5) 1) (fi 12)) (fa 3 3) (fa 3 0) (1)) f0 (1) ((1) * (b9.1 - f0)).toNat)) ?_ (f0, 1000000000, (-1000000000), 0) (show inR f0 ∧ inR 1000000000 ∧ inR (-1000000000) ∧ inR 0 ∧ ((0 ≤ 1 * (t0 - f0) ∧ 0 ≤ 1 * (f0 - f0)) ∧ LMk 1000000000 (-1000000000) (exM (gs (lc (fa 44) (fa 5) 0) (fi 12)) (gs (lc (fa 44) (fa 5) 1) (fi 12)) (fa 3 3) (fa 3 0) (1)) f0 (1) ((1) * (f0 - f0)).toNat) from ⟨(by omega), (by omega), (by omega), (by omega), (by exact ⟨by omega, lm_0 rfl rfl (by omega)⟩)⟩) hP hD hS hl
      rintro ⟨x6_64, n41_65, n42_66, n43_67⟩ ih hi9 H locs ls hP hD hS hl
      obtain ⟨r_x6_64, r_n41_65, r_n42_66, r_n43_67, hinv⟩ : inR x6_64 ∧ inR n41_65 ∧ inR n42_66 ∧ inR n43_67 ∧ ((0 ≤ 1 * (t0 - x6_64) ∧ 0 ≤ 1 * (x6_64 - f0)) ∧ LMk n41_65 n42_66 (exM (gs (lc (fa 44) (fa 5) 0) (fi 12)) (gs (lc (fa 44) (fa 5) 1) (fi 12)) (fa 3 3) (fa 3 0) (1)) f0 (1) ((1) * (x6_64 - f0)).toNat) := hi9
      obtain ⟨hinv, hLM⟩ := hinv
      obtain ⟨hP, hD⟩ : va_P G vwCl (wM k ar (uF (uF (uF fi 41 (n41_65)) 42 (n42_66)) 43 (n43_67)) fa fl) H ∧ va_D A (wM k ar (uF (uF (uF fi 41 (n41_65)) 42 (n42_66)) 43 (n43_67)) fa fl) := ⟨hP, hD⟩
      have hl : lv_has ls 8 [(6, .int (Int32.ofInt (x6_64))), (5, .int (Int32.ofInt (0))), (4, .int (Int32.ofInt (1))), (0, .ref (ar 71)), (1, .ref (ar 44)), (2, .int (Int32.ofInt (f0))), (3, .int (Int32.ofInt (t0)))] := hl
      refine lv_iload hx hb dX10_tellRide_46 (lv_at hl 0 rfl) ?_
      refine lv_iload_n hx hb dX10_tellRide_48 rfl (lv_at hl 6 rfl) ?_
      refine iv_icmp_eq (tgt := 155) hx hb (by omega) (by omega) dX10_tellRide_49 (by decide) (fun q68 => ?_) (fun q68 => ?_)
      · exact W.vret hx hb hr (fun t ht hW => ⟨⟨(n41_65, n42_66, n43_67), rfl, (show (inR n41_65) ∧ (inR n42_66) ∧ (inR n43_67) ∧ (LM n41_65 n42_66 (exM (gs (lc (fa 44) (fa 5) 0) (fi 12)) (gs (lc (fa 44) (fa 5) 1) (fi 12)) (fa 3 3) (fa 3 0) (stD f0 t0)) f0 t0) from ⟨(by omega), (by omega), (by omega), (by first | (exfalso; omega) | (have hq1 : (1 : Int) = 1 := (by decide); exact lm_x hLM (stD_up (by omega)) (by omega)) | (have hq1 : (1 : Int) = -1 := (by decide); exact lm_x hLM (stD_dn (by omega)) (by omega)))⟩), by rw [ht]; exact hP, hD⟩, hS.F ht⟩) hS.2.2 dX10_tellRide_155
      · refine lv_aload_n hx hb dX10_tellRide_52 rfl (lv_at hl 3 rfl) ?_
        refine lv_aload_n hx hb dX10_tellRide_53 rfl (lv_at hl 4 rfl) ?_
        refine lv_iload hx hb dX10_tellRide_54 (lv_at hl 1 rfl) ?_
        refine lv_iload hx hb dX10_tellRide_56 (lv_at hl 0 rfl) ?_
        refine cr_i (va_runV (As := [.ref (ar 44), .int (Int32.ofInt (0)), .int (Int32.ofInt (x6_64))]) (rest := []) ⟨hx, hb, hml, hown, hts⟩ (mX10_sideOf_44 l G k ar (uF (uF (uF fi 41 (n41_65)) 42 (n42_66)) 43 (n43_67)) fa fl 0 x6_64 H.size (iF (iF (iF hR (by omega)) (by omega)) (by omega)) hRa (by omega) (by omega) (show 0 ≤ (fi 12) ∧ (fi 12) ≤ 7 from by omega) (show 0 = 0 ∨ 0 = 1 from by omega)) (cwV 3 hts (gz [.methodLink RX10 377 yX10_sideOf, .instanceMethod yX10_sideOf, .selects RX10 yX10_sideOf yX10_sideOf, .initialized RX10] (.code yX10_sideOf cX10_sideOf 4 (some .int)) [(26, 4), (26, 5), (26, 6), (0, 5), (26, 7)] rfl) rfl rfl rfl (by decide +kernel) ⟨Nat.le_of_ble_eq_true rfl, Nat.le_of_ble_eq_true rfl⟩) (cr_preV (EZ_ok k) hZ hS hX hP hD hA (ci := 7) (q0 := 0) rfl rfl) rfl rfl hl.1 rfl (lv_room (Nat.le_of_ble_eq_true rfl)) dX10_tellRide_58 ⟨Nat.le_of_ble_eq_true rfl, Nat.le_of_ble_eq_true rfl⟩) hD hS hA (fun r u H locs hp hP hD hS => ?_)
        obtain ⟨c69, rfl⟩ : ∃ z, z = u := ⟨_, rfl⟩
        obtain ⟨h9, rc69, hp69⟩ : r = Int32.ofInt c69 ∧ (inR c69) ∧ (c69 = sdV (gs (lc ((fa 44)) ((fa 5)) 0) ((fi 12))) ((fa 3) 3) (buD 0 x6_64 ((fa 3) 0))) := hp
        subst h9
        have hSd58 := hp69
        refine lv_aload_n hx hb dX10_tellRide_61 rfl (lv_at hl 3 rfl) ?_
        refine lv_aload_n hx hb dX10_tellRide_62 rfl (lv_at hl 4 rfl) ?_
        refine lv_iconst (v := Int32.ofInt 1) hx hb dX10_tellRide_63 (by decide +kernel) ?_
        refine lv_iload hx hb dX10_tellRide_64 (lv_at hl 1 rfl) ?_
        refine iv_sub (x := 1) (y := 0) hx hb dX10_tellRide_66 ?_
        refine iv_is (z := 1) (by decide) ?_
        refine lv_iload hx hb dX10_tellRide_67 (lv_at hl 0 rfl) ?_
        refine cr_i (va_runV (As := [.ref (ar 44), .int (Int32.ofInt (1)), .int (Int32.ofInt (x6_64))]) (rest := [.int (Int32.ofInt (c69))]) ⟨hx, hb, hml, hown, hts⟩ (mX10_sideOf_44 l G k ar (uF (uF (uF fi 41 (n41_65)) 42 (n42_66)) 43 (n43_67)) fa fl 1 x6_64 H.size (iF (iF (iF hR (by omega)) (by omega)) (by omega)) hRa (by omega) (by omega) (show 0 ≤ (fi 12) ∧ (fi 12) ≤ 7 from by omega) (show 1 = 0 ∨ 1 = 1 from by omega)) (cwV 3 hts (gz [.methodLink RX10 377 yX10_sideOf, .instanceMethod yX10_sideOf, .selects RX10 yX10_sideOf yX10_sideOf, .initialized RX10] (.code yX10_sideOf cX10_sideOf 4 (some .int)) [(26, 4), (26, 5), (26, 6), (0, 5), (26, 7)] rfl) rfl rfl rfl (by decide +kernel) ⟨Nat.le_of_ble_eq_true rfl, Nat.le_of_ble_eq_true rfl⟩) (cr_preV (EZ_ok k) hZ hS hX hP hD hA (ci := 7) (q0 := 0) rfl rfl) rfl rfl hl.1 rfl (lv_room (Nat.le_of_ble_eq_true rfl)) dX10_tellRide_69 ⟨Nat.le_of_ble_eq_true rfl, Nat.le_of_ble_eq_true rfl⟩) hD hS hA (fun r u H locs hp hP hD hS => ?_)
        obtain ⟨c70, rfl⟩ : ∃ z, z = u := ⟨_, rfl⟩
        obtain ⟨h9, rc70, hp70⟩ : r = Int32.ofInt c70 ∧ (inR c70) ∧ (c70 = sdV (gs (lc ((fa 44)) ((fa 5)) 1) ((fi 12))) ((fa 3) 3) (buD 1 x6_64 ((fa 3) 0))) := hp
        subst h9
        have hSd69 := hp70
        refine iv_sub (x := c69) (y := c70) hx hb dX10_tellRide_72 ?_
        refine iv_wr ?_
        refine iv_top (fun z71 ez71 => ?_)
        have rz71 : inR z71 := ez71 ▸ bWr_r _
        refine lv_istore (lv' := [(7, .int (Int32.ofInt (z71))), (6, .int (Int32.ofInt (x6_64))), (5, .int (Int32.ofInt (0))), (4, .int (Int32.ofInt (1))), (0, .ref (ar 71)), (1, .ref (ar 44)), (2, .int (Int32.ofInt (f0))), (3, .int (Int32.ofInt (t0)))]) hx hb dX10_tellRide_73 hl (by decide) rfl (fun ls hl => ?_)
        have hv7 := ez71
        refine lv_aload_n hx hb dX10_tellRide_75 rfl (lv_at hl 4 rfl) ?_
        refine lv_aload_n hx hb dX10_tellRide_76 rfl (lv_at hl 4 rfl) ?_
        refine va_get (D := G) (ci := 7) (v := .int (Int32.ofInt (n41_65))) (C := RX10) (T := TX10) (N := 71) (ref := RX10) hx hb hts h2w hown hX.1 hP 0 rfl rfl 41 (by decide) h1w (fun _ h9 => h9) rfl dX10_tellRide_77 ?_
        refine lv_iload hx hb dX10_tellRide_80 (lv_at hl 0 rfl) ?_
        refine iv_mmin hx hb (hml.trans hl.1.symm) hown h6w h7w h8w h9w (Nat.le_of_ble_eq_true rfl) (Nat.le_of_ble_eq_true rfl) (Nat.le_of_ble_eq_true rfl) (Nat.le_of_ble_eq_true rfl) (by omega) (by omega) dX10_tellRide_82 (fun z72 ez72 => ?_)
        have rz72 : inR z72 := by omega
        have hmn := ez72
        refine iv_put (ci := 7) (v := .int (Int32.ofInt (z72))) (ty := .int) (C := RX10) (T := TX10) (N := 71) (ref := RX10) hx hb hts h2w tyX10 tyX10_ok nmX10 hown hX.1 hP hD hS 0 rfl rfl 41 (by decide) h1w (fun _ h9 => h9) rfl (by decide +kernel) rfl rfl (Nat.le_of_ble_eq_true rfl) (wM_F41 _ _ _ _ _) dX10_tellRide_85 (fun H locs hP hD hS => ?_)
        obtain ⟨hP, hD⟩ : va_P G vwCl (wM k ar (uF (uF (uF fi 41 (z72)) 42 (n42_66)) 43 (n43_67)) fa fl) H ∧ va_D A (wM k ar (uF (uF (uF fi 41 (z72)) 42 (n42_66)) 43 (n43_67)) fa fl) := ⟨hP, hD⟩
        refine lv_aload_n hx hb dX10_tellRide_88 rfl (lv_at hl 4 rfl) ?_
        refine lv_aload_n hx hb dX10_tellRide_89 rfl (lv_at hl 4 rfl) ?_
        refine va_get (D := G) (ci := 7) (v := .int (Int32.ofInt (n42_66))) (C := RX10) (T := TX10) (N := 71) (ref := RX10) hx hb hts h2w hown hX.1 hP 0 rfl rfl 42 (by decide) h4w (fun _ h9 => h9) rfl dX10_tellRide_90 ?_
        refine lv_iload hx hb dX10_tellRide_93 (lv_at hl 0 rfl) ?_
        refine iv_mmax hx hb (hml.trans hl.1.symm) hown h10w h11w h8w h12w (Nat.le_of_ble_eq_true rfl) (Nat.le_of_ble_eq_true rfl) (Nat.le_of_ble_eq_true rfl) (Nat.le_of_ble_eq_true rfl) (by omega) (by omega) dX10_tellRide_95 (fun z73 ez73 => ?_)
        have rz73 : inR z73 := by omega
        have hmx := ez73
        refine iv_put (ci := 7) (v := .int (Int32.ofInt (z73))) (ty := .int) (C := RX10) (T := TX10) (N := 71) (ref := RX10) hx hb hts h2w tyX10 tyX10_ok nmX10 hown hX.1 hP hD hS 0 rfl rfl 42 (by decide) h4w (fun _ h9 => h9) rfl (by decide +kernel) rfl rfl (Nat.le_of_ble_eq_true rfl) (wM_F42 _ _ _ _ _) dX10_tellRide_98 (fun H locs hP hD hS => ?_)
        obtain ⟨hP, hD⟩ : va_P G vwCl (wM k ar (uF (uF (uF fi 41 (z72)) 42 (z73)) 43 (n43_67)) fa fl) H ∧ va_D A (wM k ar (uF (uF (uF fi 41 (z72)) 42 (z73)) 43 (n43_67)) fa fl) := ⟨hP, hD⟩
        refine lv_aload_n hx hb dX10_tellRide_101 rfl (lv_at hl 4 rfl) ?_
        refine lv_dup hx hb dX10_tellRide_102 rfl ?_
        refine va_get (D := G) (ci := 7) (v := .int (Int32.ofInt (n43_67))) (C := RX10) (T := TX10) (N := 71) (ref := RX10) hx hb hts h2w hown hX.1 hP 0 rfl rfl 43 (by decide) h5w (fun _ h9 => h9) rfl dX10_tellRide_103 ?_
        refine lv_iconst (v := Int32.ofInt 0) hx hb dX10_tellRide_106 (by decide +kernel) ?_
        refine lv_aload_n hx hb dX10_tellRide_107 rfl (lv_at hl 4 rfl) ?_
        refine va_get (D := G) (ci := 7) (v := .ref (ar 3)) (C := RX10) (T := TX10) (N := 71) (ref := RX10) hx hb hts h2w hown hX.1 hP 0 rfl rfl 3 (by decide) h13w (fun _ h9 => h9) rfl dX10_tellRide_108 ?_
        refine lv_iconst (v := Int32.ofInt 4) hx hb dX10_tellRide_111 (by decide +kernel) ?_
        refine iv_iald hx hb hX.1 hP 1 0 rfl rfl (by omega) (by omega) (by decide) dX10_tellRide_112 ?_
        refine iv_top (fun z74 ez74 => ?_)
        have rz74 : inR z74 := ez74 ▸ (hRa 3) _
        have ez74 : z74 = (fa 3) 4 := ez74
        refine lv_iload hx hb dX10_tellRide_113 (lv_at hl 0 rfl) ?_
        refine iv_sub (x := z74) (y := z71) hx hb dX10_tellRide_115 ?_
        refine iv_wr ?_
        refine iv_top (fun z75 ez75 => ?_)
        have rz75 : inR z75 := ez75 ▸ bWr_r _
        refine iv_mmax hx hb (hml.trans hl.1.symm) hown h10w h11w h8w h12w (Nat.le_of_ble_eq_true rfl) (Nat.le_of_ble_eq_true rfl) (Nat.le_of_ble_eq_true rfl) (Nat.le_of_ble_eq_true rfl) (by omega) (by omega) dX10_tellRide_116 (fun z76 ez76 => ?_)
        have rz76 : inR z76 := by omega
        refine lv_iconst (v := Int32.ofInt 0) hx hb dX10_tellRide_119 (by decide +kernel) ?_
        refine lv_iload hx hb dX10_tellRide_120 (lv_at hl 0 rfl) ?_
        refine lv_aload_n hx hb dX10_tellRide_122 rfl (lv_at hl 4 rfl) ?_
        refine va_get (D := G) (ci := 7) (v := .ref (ar 3)) (C := RX10) (T := TX10) (N := 71) (ref := RX10) hx hb hts h2w hown hX.1 hP 0 rfl rfl 3 (by decide) h13w (fun _ h9 => h9) rfl dX10_tellRide_123 ?_
        refine lv_iconst (v := Int32.ofInt 5) hx hb dX10_tellRide_126 (by decide +kernel) ?_
        refine iv_iald hx hb hX.1 hP 1 0 rfl rfl (by omega) (by omega) (by decide) dX10_tellRide_127 ?_
        refine iv_top (fun z77 ez77 => ?_)
        have rz77 : inR z77 := ez77 ▸ (hRa 3) _
        have ez77 : z77 = (fa 3) 5 := ez77
        refine iv_sub (x := z71) (y := z77) hx hb dX10_tellRide_128 ?_
        refine iv_wr ?_
        refine iv_top (fun z78 ez78 => ?_)
        have rz78 : inR z78 := ez78 ▸ bWr_r _
        refine lv_aload_n hx hb dX10_tellRide_129 rfl (lv_at hl 4 rfl) ?_
        refine va_get (D := G) (ci := 7) (v := .ref (ar 3)) (C := RX10) (T := TX10) (N := 71) (ref := RX10) hx hb hts h2w hown hX.1 hP 0 rfl rfl 3 (by decide) h13w (fun _ h9 => h9) rfl dX10_tellRide_130 ?_
        refine lv_bipush (v := Int32.ofInt 6) hx hb dX10_tellRide_133 (by decide +kernel) ?_
        refine iv_iald hx hb hX.1 hP 1 0 rfl rfl (by omega) (by omega) (by decide) dX10_tellRide_135 ?_
        refine iv_top (fun z79 ez79 => ?_)
        have rz79 : inR z79 := ez79 ▸ (hRa 3) _
        have ez79 : z79 = (fa 3) 6 := ez79
        refine iv_sub (x := z78) (y := z79) hx hb dX10_tellRide_136 ?_
        refine iv_wr ?_
        refine iv_top (fun z80 ez80 => ?_)
        have rz80 : inR z80 := ez80 ▸ bWr_r _
        refine iv_mmax hx hb (hml.trans hl.1.symm) hown h10w h11w h8w h12w (Nat.le_of_ble_eq_true rfl) (Nat.le_of_ble_eq_true rfl) (Nat.le_of_ble_eq_true rfl) (Nat.le_of_ble_eq_true rfl) (by omega) (by omega) dX10_tellRide_137 (fun z81 ez81 => ?_)
        have rz81 : inR z81 := by omega
        refine iv_add (x := z76) (y := z81) hx hb dX10_tellRide_140 ?_
        refine iv_wr ?_
        refine iv_top (fun z82 ez82 => ?_)
        have rz82 : inR z82 := ez82 ▸ bWr_r _
        refine iv_add (x := n43_67) (y := z82) hx hb dX10_tellRide_141 ?_
        refine iv_wr ?_
        refine iv_top (fun z83 ez83 => ?_)
        have rz83 : inR z83 := ez83 ▸ bWr_r _
        refine iv_put (ci := 7) (v := .int (Int32.ofInt (z83))) (ty := .int) (C := RX10) (T := TX10) (N := 71) (ref := RX10) hx hb hts h2w tyX10 tyX10_ok nmX10 hown hX.1 hP hD hS 0 rfl rfl 43 (by decide) h5w (fun _ h9 => h9) rfl (by decide +kernel) rfl rfl (Nat.le_of_ble_eq_true rfl) (wM_F43 _ _ _ _ _) dX10_tellRide_142 (fun H locs hP hD hS => ?_)
        obtain ⟨hP, hD⟩ : va_P G vwCl (wM k ar (uF (uF (uF fi 41 (z72)) 42 (z73)) 43 (z83)) fa fl) H ∧ va_D A (wM k ar (uF (uF (uF fi 41 (z72)) 42 (z73)) 43 (z83)) fa fl) := ⟨hP, hD⟩
        refine lv_iload hx hb dX10_tellRide_145 (lv_at hl 1 rfl) ?_
        refine lv_iload hx hb dX10_tellRide_147 (lv_at hl 3 rfl) ?_
        refine iv_add (x := x6_64) (y := 1) hx hb dX10_tellRide_149 ?_
        refine lv_istore (lv' := [(6, .int (Int32.ofInt ((x6_64 + 1)))), (7, .int (Int32.ofInt (z71))), (5, .int (Int32.ofInt (0))), (4, .int (Int32.ofInt (1))), (0, .ref (ar 71)), (1, .ref (ar 44)), (2, .int (Int32.ofInt (f0))), (3, .int (Int32.ofInt (t0)))]) hx hb dX10_tellRide_150 hl (by decide) rfl (fun ls hl => ?_)
        refine lv_goto (tgt := 46) hx hb dX10_tellRide_152 (by decide) ?_
        have hl : lv_has ls 8 [(6, .int (Int32.ofInt ((x6_64 + 1)))), (5, .int (Int32.ofInt (0))), (4, .int (Int32.ofInt (1))), (0, .ref (ar 71)), (1, .ref (ar 44)), (2, .int (Int32.ofInt (f0))), (3, .int (Int32.ofInt (t0)))] := lv_sub hl [0, 2, 3, 4, 5, 6, 7] rfl
        exact ih ((x6_64 + 1), z72, z73, z83) (show (1 * (t0 - (x6_64 + 1))).toNat < (1 * (t0 - x6_64)).toNat from by omega) (show inR (x6_64 + 1) ∧ inR z72 ∧ inR z73 ∧ inR z83 ∧ ((0 ≤ 1 * (t0 - (x6_64 + 1)) ∧ 0 ≤ 1 * ((x6_64 + 1) - f0)) ∧ LMk z72 z73 (exM (gs (lc (fa 44) (fa 5) 0) (fi 12)) (gs (lc (fa 44) (fa 5) 1) (fi 12)) (fa 3 3) (fa 3 0) (1)) f0 (1) ((1) * ((x6_64 + 1) - f0)).toNat) from ⟨(by omega), (by omega), (by omega), (by omega), (by first | (exfalso; omega) | (have hq1 : (1 : Int) = 1 := (by decide); exact ⟨by omega, lm_s hLM (by omega) (by omega) (ex_up hSd58 hSd69 hv7) hmn hmx rfl⟩) | (have hq1 : (1 : Int) = -1 := (by decide); exact ⟨by omega, lm_s hLM (by omega) (by omega) (ex_dn hSd58 hSd69 hv7) hmn hmx rfl⟩))⟩) _ _ _ hP hD hS hl

