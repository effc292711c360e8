set_option maxHeartbeats 4000000 in
set_option maxRecDepth 100000 in
theorem mX10_canDay (l : Launch) (G : va_G) (k : Nat → ClassId) (ar : Nat → Nat) (fi : Nat → Int) (fa : Nat → Int → Int) (fl : Nat → Int64) (d0 : Int) (s0 : Int) (sz : Nat) (hR : ∀ j, inR (fi j)) (hRa : ∀ j t, inR (fa j t)) (hr_d0 : inR d0) (hr_s0 : inR s0) (hth : 0 ≤ fi 12 ∧ fi 12 ≤ 7) (hru : 0 ≤ fi 13 ∧ fi 13 ≤ 4) (hRW : ∀ q9, 0 ≤ q9 → q9 < fi 13 → RWf (fa 10) (fa 8 q9) (fa 9 q9)) (hdp : 0 ≤ fa 3 0 ∧ fa 3 0 ≤ 11) (hd0 : 0 ≤ d0 ∧ d0 < 6) : CNi l G k (EZ k) yX10_canDay wzX10_canDay ({ frames := 14, cells := 0, slots := 0, locals := 349 }) [.ref (ar 71), .int (Int32.ofInt (d0)), .int (Int32.ofInt (s0))] sz (wM k ar fi fa fl) (fun (r0 : Int32) (u : Int × (Int → Int) × (Int → Int) × (Int → Int) × (Int → Int) × (Int → Int) × (Int → Int) × (Int → Int) × (Int → Int) × (Int → Int) × Int × Int × Int × Int × Int × Int × Int × Int × (Nat → Int64)) => r0 = Int32.ofInt (u.1) ∧ (inR u.1) ∧ (∀ t, inR (u.2.1 t)) ∧ (∀ t, inR (u.2.2.1 t)) ∧ (∀ t, inR (u.2.2.2.1 t)) ∧ (∀ t, inR (u.2.2.2.2.1 t)) ∧ (∀ t, inR (u.2.2.2.2.2.1 t)) ∧ (∀ t, inR (u.2.2.2.2.2.2.1 t)) ∧ (∀ t, inR (u.2.2.2.2.2.2.2.1 t)) ∧ (∀ t, inR (u.2.2.2.2.2.2.2.2.1 t)) ∧ (∀ t, inR (u.2.2.2.2.2.2.2.2.2.1 t)) ∧ (inR u.2.2.2.2.2.2.2.2.2.2.1) ∧ (inR u.2.2.2.2.2.2.2.2.2.2.2.1) ∧ (inR u.2.2.2.2.2.2.2.2.2.2.2.2.1) ∧ (inR u.2.2.2.2.2.2.2.2.2.2.2.2.2.1) ∧ (inR u.2.2.2.2.2.2.2.2.2.2.2.2.2.2.1) ∧ (inR u.2.2.2.2.2.2.2.2.2.2.2.2.2.2.2.1) ∧ (inR u.2.2.2.2.2.2.2.2.2.2.2.2.2.2.2.2.1) ∧ (inR u.2.2.2.2.2.2.2.2.2.2.2.2.2.2.2.2.2.1) ∧ (u.1 = -2 ∨ u.1 = 0 ∨ u.1 = 1)) (fun (u : Int × (Int → Int) × (Int → Int) × (Int → Int) × (Int → Int) × (Int → Int) × (Int → Int) × (Int → Int) × (Int → Int) × (Int → Int) × Int × Int × Int × Int × Int × Int × Int × Int × (Nat → Int64)) => (wM k ar (uF (uF (uF (uF (uF (uF (uF (uF fi 41 (u.2.2.2.2.2.2.2.2.2.2.1)) 42 (u.2.2.2.2.2.2.2.2.2.2.2.1)) 43 (u.2.2.2.2.2.2.2.2.2.2.2.2.1)) 50 (u.2.2.2.2.2.2.2.2.2.2.2.2.2.1)) 51 (u.2.2.2.2.2.2.2.2.2.2.2.2.2.2.1)) 52 (u.2.2.2.2.2.2.2.2.2.2.2.2.2.2.2.1)) 55 (u.2.2.2.2.2.2.2.2.2.2.2.2.2.2.2.2.1)) 56 (u.2.2.2.2.2.2.2.2.2.2.2.2.2.2.2.2.2.1)) (uF (uF (uF (uF (uF (uF (uF (uF (uF fa 39 (u.2.1)) 40 (u.2.2.1)) 46 (u.2.2.2.1)) 47 (u.2.2.2.2.1)) 48 (u.2.2.2.2.2.1)) 49 (u.2.2.2.2.2.2.1)) 53 (u.2.2.2.2.2.2.2.1)) 54 (u.2.2.2.2.2.2.2.2.1)) 57 (u.2.2.2.2.2.2.2.2.2.1)) u.2.2.2.2.2.2.2.2.2.2.2.2.2.2.2.2.2.2)) := by
  refine Met.ofW (cc := cX10_canDay) (maxL := 7) (ret := (some .int)) (by decide) rfl ?_
  intro p e s m args below meth c s₁ B hml hv
  obtain ⟨rfl, hsz, hP, hX, hD0, hZ0⟩ := hv
  have hx := B.exec
  have hb := B.bytes
  have hr := B.returns
  have hts := atoms_spec (ws := wzX10_canDay) B.pre
  have hown : s.vm.findClass RX10 = some m.cls := findClass_of_methodNamed B.named
  subst hsz
  have hD := hD0.self (sz := s.heap.size)
  have hZ := hZ0
  generalize hAe : va_A (wM k ar fi fa fl) s.heap.size = A at hD hZ ⊢
  have hA : ∀ q : Nat, s.heap.size ≤ q → A q := fun q h => by rw [← hAe]; exact Or.inr h
  have hS : va_S A s.heap s.heap [] := va_S.rf
  have hl := lv_entry ([.ref (ar 71), .int (Int32.ofInt (d0)), .int (Int32.ofInt (s0))]) (n := 7) (Nat.le_of_ble_eq_true rfl)
  rw [lg_entry_eq]
  generalize (lg_sl ([.ref (ar 71), .int (Int32.ofInt (d0)), .int (Int32.ofInt (s0))]) ++ List.replicate (7 - (lg_sl ([.ref (ar 71), .int (Int32.ofInt (d0)), .int (Int32.ofInt (s0))])).length) Slot.unset).toArray = ls at hl ⊢
  have hl : lv_has ls 7 [(0, .ref (ar 71)), (1, .int (Int32.ofInt (d0))), (2, .int (Int32.ofInt (s0)))] := hl
  obtain ⟨H, eH⟩ : ∃ H, H = s.heap := ⟨_, rfl⟩
  rw [← eH] at hP
  have hS : va_S A s.heap H [] := by rw [eH]; exact hS
  have gW : s.heap = H := eH.symm
  refine iv_heap gW ?_
  have h0w := hts (.fieldLink RX10 140 "RopeTownModel" "fewer" "[I") (wz_at 7 11 rfl)
  have h1w : ∀ w ∈ wsX100, w ∈ wzX10_canDay := fun w h => List.mem_cons_of_mem _ (inlX10 w h)
  have h2w := hts (.fieldLink RX10 54 "RopeTownModel" "rule" "[I") (wz_at 6 6 rfl)
  have h3w := hts (.fieldLink RX10 62 "RopeTownModel" "begins0" "[I") (wz_at 6 9 rfl)
  have h4w := hts (.fieldLink RX10 174 "RopeTownModel" "things" "I") (wz_at 21 11 rfl)
  have h5w := hts (.fieldLink RX10 90 "RopeTownModel" "day" "[I") (wz_at 6 18 rfl)
  have h6w := hts (.fieldLink RX10 57 "RopeTownModel" "kind" "[I") (wz_at 6 7 rfl)
  refine lv_iconst (v := Int32.ofInt 0) hx hb dX10_canDay_0 (by decide +kernel) ?_
  refine lv_istore_n (lv' := [(3, .int (Int32.ofInt (0))), (0, .ref (ar 71)), (1, .int (Int32.ofInt (d0))), (2, .int (Int32.ofInt (s0)))]) hx hb dX10_canDay_1 rfl hl (by decide) rfl (fun ls hl => ?_)
  refine lv_iconst (v := Int32.ofInt 0) hx hb dX10_canDay_2 (by decide +kernel) ?_
  refine lv_istore (lv' := [(4, .int (Int32.ofInt (0))), (3, .int (Int32.ofInt (0))), (0, .ref (ar 71)), (1, .int (Int32.ofInt (d0))), (2, .int (Int32.ofInt (s0)))]) hx hb dX10_canDay_3 hl (by decide) rfl (fun ls hl => ?_)
  refine iv_loop (α := Int × Int × (Int → Int)) (nL := 7) (fun b9 => (wM k ar fi (uF fa 57 (b9.2.2)) fl)) (fun b9 => [(4, .int (Int32.ofInt (b9.1))), (3, .int (Int32.ofInt (b9.2.1))), (0, .ref (ar 71)), (1, .int (Int32.ofInt (d0))), (2, .int (Int32.ofInt (s0)))]) (fun b9 => (7 - b9.1).toNat) (fun b9 => inR b9.1 ∧ inR b9.2.1 ∧ (∀ t, inR (b9.2.2 t)) ∧ (0 ≤ b9.1 ∧ b9.1 ≤ 7 ∧ 0 ≤ b9.2.1 ∧ b9.2.1 ≤ b9.1)) ?_ (0, 0, fa 57) (show inR 0 ∧ inR 0 ∧ (∀ t, inR ((fa 57) t)) ∧ (0 ≤ 0 ∧ 0 ≤ 7 ∧ 0 ≤ 0 ∧ 0 ≤ 0) from ⟨(by omega), (by omega), (hRa 57), (by omega)⟩) hP hD hS hl
  rintro ⟨x4_1, x3_2, g57_3⟩ ih hi9 H locs ls hP hD hS hl
  obtain ⟨r_x4_1, r_x3_2, r_g57_3, hinv⟩ : inR x4_1 ∧ inR x3_2 ∧ (∀ t, inR (g57_3 t)) ∧ (0 ≤ x4_1 ∧ x4_1 ≤ 7 ∧ 0 ≤ x3_2 ∧ x3_2 ≤ x4_1) := hi9
  obtain ⟨hP, hD⟩ : va_P G vwCl (wM k ar fi (uF fa 57 (g57_3)) fl) H ∧ va_D A (wM k ar fi (uF fa 57 (g57_3)) fl) := ⟨hP, hD⟩
  have hl : lv_has ls 7 [(4, .int (Int32.ofInt (x4_1))), (3, .int (Int32.ofInt (x3_2))), (0, .ref (ar 71)), (1, .int (Int32.ofInt (d0))), (2, .int (Int32.ofInt (s0)))] := hl
  refine lv_iload hx hb dX10_canDay_5 (lv_at hl 0 rfl) ?_
  refine lv_bipush (v := Int32.ofInt 7) hx hb dX10_canDay_7 (by decide +kernel) ?_
  refine iv_icmp_ge (tgt := 126) hx hb (by omega) (by omega) dX10_canDay_9 (by decide) (fun q4 => ?_) (fun q4 => ?_)
  · refine lv_aload_n hx hb dX10_canDay_126 rfl (lv_at hl 2 rfl) ?_
    refine lv_aload_n hx hb dX10_canDay_127 rfl (lv_at hl 2 rfl) ?_
    refine va_get (D := G) (ci := 7) (v := .ref (ar 57)) (C := RX10) (T := TX10) (N := 71) (ref := RX10) hx hb hts h1w hown hX.1 hP 0 rfl rfl 57 (by decide) h0w (fun _ h9 => h9) rfl dX10_canDay_128 ?_
    refine lv_aload_n hx hb dX10_canDay_131 rfl (lv_at hl 2 rfl) ?_
    refine va_get (D := G) (ci := 7) (v := .ref (ar 3)) (C := RX10) (T := TX10) (N := 71) (ref := RX10) hx hb hts h1w hown hX.1 hP 0 rfl rfl 3 (by decide) h2w (fun _ h9 => h9) rfl dX10_canDay_132 ?_
    refine lv_iconst (v := Int32.ofInt 1) hx hb dX10_canDay_135 (by decide +kernel) ?_
    refine iv_iald hx hb hX.1 hP 1 0 rfl rfl (by omega) (by omega) (by decide) dX10_canDay_136 ?_
    refine iv_top (fun z5 ez5 => ?_)
    have rz5 : inR z5 := ez5 ▸ (hRa 3) _
    have ez5 : z5 = (fa 3) 1 := ez5
    refine lv_iconst (v := Int32.ofInt 0) hx hb dX10_canDay_137 (by decide +kernel) ?_
    refine cr_i (va_runV (As := [.ref (ar 57), .int (Int32.ofInt (z5)), .int (Int32.ofInt (0))]) (rest := []) ⟨hx, hb, hml, hown, hts⟩ (mX10_seek_57 l G k ar fi (uF fa 57 (g57_3)) fl z5 0 H.size hR (iG hRa r_g57_3) (by omega) (by omega) (show 0 ≤ (fi 12) ∧ (fi 12) ≤ 7 from by omega) (show 0 ≤ (fi 13) ∧ (fi 13) ≤ 4 from by omega) (show ∀ q9, 0 ≤ q9 → q9 < (fi 13) → RWf ((fa 10)) ((fa 8) q9) ((fa 9) q9) from by first | exact hRW | omega) (show 0 ≤ (fa 3) 0 ∧ (fa 3) 0 ≤ 11 from by omega) (show 0 = 0 ∨ 0 = 1 from by omega)) (cwV 3 hts (gz [.methodLink RX10 472 yX10_seek, .instanceMethod yX10_seek, .selects RX10 yX10_seek yX10_seek, .initialized RX10] (.code yX10_seek cX10_seek 6 (some .boolean)) [(35, 17), (35, 18), (35, 19), (0, 5), (35, 20)] rfl) rfl rfl rfl (by decide +kernel) ⟨Nat.le_of_ble_eq_true rfl, Nat.le_of_ble_eq_true rfl⟩) (cr_preV (EZ_ok k) hZ hS hX hP hD hA (ci := 7) (q0 := 0) rfl rfl) rfl rfl hl.1 rfl (lv_room (Nat.le_of_ble_eq_true rfl)) dX10_canDay_138 ⟨Nat.le_of_ble_eq_true rfl, Nat.le_of_ble_eq_true rfl⟩) hD hS hA (fun r u H locs hp hP hD hS => ?_)
    obtain ⟨c6, c7, c8, c9, c10, c11, c12, c13, c14, c15, c16, c17, c18, c19, c20, c21, c22, c23⟩ := u
    obtain ⟨hP, hD⟩ : va_P G vwCl (wM k ar (uF (uF (uF (uF (uF (uF (uF (uF fi 41 (c15)) 42 (c16)) 43 (c17)) 50 (c18)) 51 (c19)) 52 (c20)) 55 (c21)) 56 (c22)) (uF (uF (uF (uF (uF (uF (uF (uF (uF fa 39 (c7)) 40 (c8)) 46 (c9)) 47 (c10)) 48 (c11)) 49 (c12)) 53 (c13)) 54 (c14)) 57 (g57_3)) c23) H ∧ va_D A (wM k ar (uF (uF (uF (uF (uF (uF (uF (uF fi 41 (c15)) 42 (c16)) 43 (c17)) 50 (c18)) 51 (c19)) 52 (c20)) 55 (c21)) 56 (c22)) (uF (uF (uF (uF (uF (uF (uF (uF (uF fa 39 (c7)) 40 (c8)) 46 (c9)) 47 (c10)) 48 (c11)) 49 (c12)) 53 (c13)) 54 (c14)) 57 (g57_3)) c23) := ⟨hP, hD⟩
    obtain ⟨h9, rc6, rc7, rc8, rc9, rc10, rc11, rc12, rc13, rc14, rc15, rc16, rc17, rc18, rc19, rc20, rc21, rc22, hp23⟩ : r = Int32.ofInt c6 ∧ (inR c6) ∧ (∀ t, inR (c7 t)) ∧ (∀ t, inR (c8 t)) ∧ (∀ t, inR (c9 t)) ∧ (∀ t, inR (c10 t)) ∧ (∀ t, inR (c11 t)) ∧ (∀ t, inR (c12 t)) ∧ (∀ t, inR (c13 t)) ∧ (∀ t, inR (c14 t)) ∧ (inR c15) ∧ (inR c16) ∧ (inR c17) ∧ (inR c18) ∧ (inR c19) ∧ (inR c20) ∧ (inR c21) ∧ (inR c22) ∧ ((c6 = 0 ∨ c6 = 1) ∧ 0 ≤ c18 ∧ c18 ≤ 1500) := hp
    subst h9
    refine iv_if_ne (tgt := 147) hx hb (by omega) dX10_canDay_141 (by decide) (fun q24 => ?_) (fun q24 => ?_)
    · refine lv_aload_n hx hb dX10_canDay_147 rfl (lv_at hl 2 rfl) ?_
      refine cr_i (va_runV (As := []) (rest := []) ⟨hx, hb, hml, hown, hts⟩ (mX10_leastServed l G k ar (uF (uF (uF (uF (uF (uF (uF (uF fi 41 (c15)) 42 (c16)) 43 (c17)) 50 (c18)) 51 (c19)) 52 (c20)) 55 (c21)) 56 (c22)) (uF (uF (uF (uF (uF (uF (uF (uF (uF fa 39 (c7)) 40 (c8)) 46 (c9)) 47 (c10)) 48 (c11)) 49 (c12)) 53 (c13)) 54 (c14)) 57 (g57_3)) c23 H.size (iF (iF (iF (iF (iF (iF (iF (iF hR (by omega)) (by omega)) (by omega)) (by omega)) (by omega)) (by omega)) (by omega)) (by omega)) (iG (iG (iG (iG (iG (iG (iG (iG (iG hRa rc7) rc8) rc9) rc10) rc11) rc12) rc13) rc14) r_g57_3) (show 0 ≤ (fi 12) ∧ (fi 12) ≤ 7 from by omega) (show 0 ≤ c18 from by omega) (show c18 ≤ 1500 from by omega)) (cwV 0 hts (gz [.methodLink RX10 476 yX10_leastServed, .instanceMethod yX10_leastServed, .selects RX10 yX10_leastServed yX10_leastServed, .initialized RX10] (.code yX10_leastServed cX10_leastServed 3 (some .int)) [(37, 6), (37, 7), (37, 8), (0, 5), (37, 9)] rfl) rfl rfl rfl (by decide +kernel) ⟨Nat.le_of_ble_eq_true rfl, Nat.le_of_ble_eq_true rfl⟩) (cr_preV (EZ_ok k) hZ hS hX hP hD hA (ci := 7) (q0 := 0) rfl rfl) rfl rfl hl.1 rfl (lv_room (Nat.le_of_ble_eq_true rfl)) dX10_canDay_148 ⟨Nat.le_of_ble_eq_true rfl, Nat.le_of_ble_eq_true rfl⟩) hD hS hA (fun r u H locs hp hP hD hS => ?_)
      obtain ⟨c25, c26, c27⟩ := u
      obtain ⟨hP, hD⟩ : va_P G vwCl (wM k ar (uF (uF (uF (uF (uF (uF (uF (uF fi 41 (c15)) 42 (c16)) 43 (c17)) 50 (c18)) 51 (c19)) 52 (c20)) 55 (c27)) 56 (c22)) (uF (uF (uF (uF (uF (uF (uF (uF (uF fa 39 (c7)) 40 (c8)) 46 (c9)) 47 (c10)) 48 (c11)) 49 (c12)) 53 (c26)) 54 (c14)) 57 (g57_3)) c23) H ∧ va_D A (wM k ar (uF (uF (uF (uF (uF (uF (uF (uF fi 41 (c15)) 42 (c16)) 43 (c17)) 50 (c18)) 51 (c19)) 52 (c20)) 55 (c27)) 56 (c22)) (uF (uF (uF (uF (uF (uF (uF (uF (uF fa 39 (c7)) 40 (c8)) 46 (c9)) 47 (c10)) 48 (c11)) 49 (c12)) 53 (c26)) 54 (c14)) 57 (g57_3)) c23) := ⟨hP, hD⟩
      obtain ⟨h9, rc25, rc26, rc27, hp27⟩ : r = Int32.ofInt c25 ∧ (inR c25) ∧ (∀ t, inR (c26 t)) ∧ (inR c27) ∧ (True) := hp
      subst h9
      refine lv_iconst (v := Int32.ofInt (-1)) hx hb dX10_canDay_151 (by decide +kernel) ?_
      refine iv_icmp_ne (tgt := 159) hx hb (by omega) (by omega) dX10_canDay_152 (by decide) (fun q28 => ?_) (fun q28 => ?_)
      · refine lv_iconst (v := Int32.ofInt 1) hx hb dX10_canDay_159 (by decide +kernel) ?_
        exact W.iret (v := Int32.ofInt (1)) hx hb hr (fun t ht hW => ⟨⟨Int32.ofInt (1), (1, c7, c8, c9, c10, c11, c12, c26, c14, g57_3, c15, c16, c17, c18, c19, c20, c27, c22, c23), rfl, ⟨rfl, (show (inR 1) ∧ (∀ t, inR (c7 t)) ∧ (∀ t, inR (c8 t)) ∧ (∀ t, inR (c9 t)) ∧ (∀ t, inR (c10 t)) ∧ (∀ t, inR (c11 t)) ∧ (∀ t, inR (c12 t)) ∧ (∀ t, inR (c26 t)) ∧ (∀ t, inR (c14 t)) ∧ (∀ t, inR (g57_3 t)) ∧ (inR c15) ∧ (inR c16) ∧ (inR c17) ∧ (inR c18) ∧ (inR c19) ∧ (inR c20) ∧ (inR c27) ∧ (inR c22) ∧ (1 = -2 ∨ 1 = 0 ∨ 1 = 1) from ⟨(by omega), rc7, rc8, rc9, rc10, rc11, rc12, rc26, rc14, r_g57_3, (by omega), (by omega), (by omega), (by omega), (by omega), (by omega), (by omega), (by omega), (by omega)⟩)⟩, by rw [ht]; exact hP, hD⟩, hS.F ht⟩) hS.2.2 dX10_canDay_160
      · refine lv_iconst (v := Int32.ofInt 0) hx hb dX10_canDay_155 (by decide +kernel) ?_
        refine lv_goto (tgt := 160) hx hb dX10_canDay_156 (by decide) ?_
        exact W.iret (v := Int32.ofInt (0)) hx hb hr (fun t ht hW => ⟨⟨Int32.ofInt (0), (0, c7, c8, c9, c10, c11, c12, c26, c14, g57_3, c15, c16, c17, c18, c19, c20, c27, c22, c23), rfl, ⟨rfl, (show (inR 0) ∧ (∀ t, inR (c7 t)) ∧ (∀ t, inR (c8 t)) ∧ (∀ t, inR (c9 t)) ∧ (∀ t, inR (c10 t)) ∧ (∀ t, inR (c11 t)) ∧ (∀ t, inR (c12 t)) ∧ (∀ t, inR (c26 t)) ∧ (∀ t, inR (c14 t)) ∧ (∀ t, inR (g57_3 t)) ∧ (inR c15) ∧ (inR c16) ∧ (inR c17) ∧ (inR c18) ∧ (inR c19) ∧ (inR c20) ∧ (inR c27) ∧ (inR c22) ∧ (0 = -2 ∨ 0 = 0 ∨ 0 = 1) from ⟨(by omega), rc7, rc8, rc9, rc10, rc11, rc12, rc26, rc14, r_g57_3, (by omega), (by omega), (by omega), (by omega), (by omega), (by omega), (by omega), (by omega), (by omega)⟩)⟩, by rw [ht]; exact hP, hD⟩, hS.F ht⟩) hS.2.2 dX10_canDay_160
    · refine lv_bipush (v := Int32.ofInt (-2)) hx hb dX10_canDay_144 (by decide +kernel) ?_
      exact W.iret (v := Int32.ofInt ((-2))) hx hb hr (fun t ht hW => ⟨⟨Int32.ofInt ((-2)), ((-2), c7, c8, c9, c10, c11, c12, c13, c14, g57_3, c15, c16, c17, c18, c19, c20, c21, c22, c23), rfl, ⟨rfl, (show (inR (-2)) ∧ (∀ t, inR (c7 t)) ∧ (∀ t, inR (c8 t)) ∧ (∀ t, inR (c9 t)) ∧ (∀ t, inR (c10 t)) ∧ (∀ t, inR (c11 t)) ∧ (∀ t, inR (c12 t)) ∧ (∀ t, inR (c13 t)) ∧ (∀ t, inR (c14 t)) ∧ (∀ t, inR (g57_3 t)) ∧ (inR c15) ∧ (inR c16) ∧ (inR c17) ∧ (inR c18) ∧ (inR c19) ∧ (inR c20) ∧ (inR c21) ∧ (inR c22) ∧ ((-2) = -2 ∨ (-2) = 0 ∨ (-2) = 1) from ⟨(by omega), rc7, rc8, rc9, rc10, rc11, rc12, rc13, rc14, r_g57_3, (by omega), (by omega), (by omega), (by omega), (by omega), (by omega), (by omega), (by omega), (by omega)⟩)⟩, by rw [ht]; exact hP, hD⟩, hS.F ht⟩) hS.2.2 dX10_canDay_146
  · refine iv_join (G := G) (A := A) (H0 := s.heap) (α := Int) (nL := 7) 37 (fun b9 => [.int (Int32.ofInt (b9))]) (fun b9 => (wM k ar fi (uF fa 57 (g57_3)) fl)) (fun b9 => [(4, .int (Int32.ofInt (x4_1))), (3, .int (Int32.ofInt (x3_2))), (0, .ref (ar 71)), (1, .int (Int32.ofInt (d0))), (2, .int (Int32.ofInt (s0)))]) (fun b9 => inR b9 ∧ (b9 = 0 ∨ b9 = 1)) ?_ (fun J37 => ?_)
    · intro s0_29 hi9 H locs ls hP hD hS hl
      obtain ⟨r_s0_29, hinv⟩ : inR s0_29 ∧ (s0_29 = 0 ∨ s0_29 = 1) := hi9
      obtain ⟨hP, hD⟩ : va_P G vwCl (wM k ar fi (uF fa 57 (g57_3)) fl) H ∧ va_D A (wM k ar fi (uF fa 57 (g57_3)) fl) := ⟨hP, hD⟩
      have hl : lv_has ls 7 [(4, .int (Int32.ofInt (x4_1))), (3, .int (Int32.ofInt (x3_2))), (0, .ref (ar 71)), (1, .int (Int32.ofInt (d0))), (2, .int (Int32.ofInt (s0)))] := hl
      refine lv_istore (lv' := [(5, .int (Int32.ofInt (s0_29))), (4, .int (Int32.ofInt (x4_1))), (3, .int (Int32.ofInt (x3_2))), (0, .ref (ar 71)), (1, .int (Int32.ofInt (d0))), (2, .int (Int32.ofInt (s0)))]) hx hb dX10_canDay_37 hl (by decide) rfl (fun ls hl => ?_)
      refine iv_join (G := G) (A := A) (H0 := s.heap) (α := Int) (nL := 7) 81 (fun b9 => [.int (Int32.ofInt (b9))]) (fun b9 => (wM k ar fi (uF fa 57 (g57_3)) fl)) (fun b9 => [(5, .int (Int32.ofInt (s0_29))), (4, .int (Int32.ofInt (x4_1))), (3, .int (Int32.ofInt (x3_2))), (0, .ref (ar 71)), (1, .int (Int32.ofInt (d0))), (2, .int (Int32.ofInt (s0)))]) (fun b9 => inR b9 ∧ (b9 = 0 ∨ b9 = 1)) ?_ (fun J81 => ?_)
      · intro s0_30 hi9 H locs ls hP hD hS hl
        obtain ⟨r_s0_30, hinv⟩ : inR s0_30 ∧ (s0_30 = 0 ∨ s0_30 = 1) := hi9
        obtain ⟨hP, hD⟩ : va_P G vwCl (wM k ar fi (uF fa 57 (g57_3)) fl) H ∧ va_D A (wM k ar fi (uF fa 57 (g57_3)) fl) := ⟨hP, hD⟩
        have hl : lv_has ls 7 [(5, .int (Int32.ofInt (s0_29))), (4, .int (Int32.ofInt (x4_1))), (3, .int (Int32.ofInt (x3_2))), (0, .ref (ar 71)), (1, .int (Int32.ofInt (d0))), (2, .int (Int32.ofInt (s0)))] := hl
        refine lv_istore (lv' := [(6, .int (Int32.ofInt (s0_30))), (5, .int (Int32.ofInt (s0_29))), (4, .int (Int32.ofInt (x4_1))), (3, .int (Int32.ofInt (x3_2))), (0, .ref (ar 71)), (1, .int (Int32.ofInt (d0))), (2, .int (Int32.ofInt (s0)))]) hx hb dX10_canDay_81 hl (by decide) rfl (fun ls hl => ?_)
        refine iv_join (G := G) (A := A) (H0 := s.heap) (α := Int) (nL := 7) 106 (fun b9 => [.int (Int32.ofInt (b9)), .int (Int32.ofInt (x4_1)), .ref (ar 57)]) (fun b9 => (wM k ar fi (uF fa 57 (g57_3)) fl)) (fun b9 => [(6, .int (Int32.ofInt (s0_30))), (5, .int (Int32.ofInt (s0_29))), (4, .int (Int32.ofInt (x4_1))), (3, .int (Int32.ofInt (x3_2))), (0, .ref (ar 71)), (1, .int (Int32.ofInt (d0))), (2, .int (Int32.ofInt (s0)))]) (fun b9 => inR b9 ∧ (True)) ?_ (fun J106 => ?_)
        · intro s0_31 hi9 H locs ls hP hD hS hl
          obtain ⟨r_s0_31, hinv⟩ : inR s0_31 ∧ (True) := hi9
          obtain ⟨hP, hD⟩ : va_P G vwCl (wM k ar fi (uF fa 57 (g57_3)) fl) H ∧ va_D A (wM k ar fi (uF fa 57 (g57_3)) fl) := ⟨hP, hD⟩
          have hl : lv_has ls 7 [(6, .int (Int32.ofInt (s0_30))), (5, .int (Int32.ofInt (s0_29))), (4, .int (Int32.ofInt (x4_1))), (3, .int (Int32.ofInt (x3_2))), (0, .ref (ar 71)), (1, .int (Int32.ofInt (d0))), (2, .int (Int32.ofInt (s0)))] := hl
          refine iv_iast hx hb hX.1 hP hD hS 28 0 rfl rfl (wM_A57 _ _ _ _ _) (by omega) (by omega) (by decide) dX10_canDay_106 (fun H locs hP hD hS => ?_)
          obtain ⟨hP, hD⟩ : va_P G vwCl (wM k ar fi (uF fa 57 (uA (g57_3) (x4_1) (s0_31))) fl) H ∧ va_D A (wM k ar fi (uF fa 57 (uA (g57_3) (x4_1) (s0_31))) fl) := ⟨hP, hD⟩
          obtain ⟨g32, eg32, rg32⟩ : ∃ z, z = uA (g57_3) (x4_1) (s0_31) ∧ ∀ t, inR (z t) := ⟨_, rfl, iU r_g57_3 (by omega)⟩
          rw [← eg32] at hP hD
          refine iv_join (G := G) (A := A) (H0 := s.heap) (α := Int) (nL := 7) 118 (fun b9 => [.int (Int32.ofInt (b9)), .int (Int32.ofInt (x3_2))]) (fun b9 => (wM k ar fi (uF fa 57 (g32)) fl)) (fun b9 => [(6, .int (Int32.ofInt (s0_30))), (5, .int (Int32.ofInt (s0_29))), (4, .int (Int32.ofInt (x4_1))), (3, .int (Int32.ofInt (x3_2))), (0, .ref (ar 71)), (1, .int (Int32.ofInt (d0))), (2, .int (Int32.ofInt (s0)))]) (fun b9 => inR b9 ∧ (b9 = 0 ∨ b9 = 1)) ?_ (fun J118 => ?_)
          · intro s0_33 hi9 H locs ls hP hD hS hl
            obtain ⟨r_s0_33, hinv⟩ : inR s0_33 ∧ (s0_33 = 0 ∨ s0_33 = 1) := hi9
            obtain ⟨hP, hD⟩ : va_P G vwCl (wM k ar fi (uF fa 57 (g32)) fl) H ∧ va_D A (wM k ar fi (uF fa 57 (g32)) fl) := ⟨hP, hD⟩
            have hl : lv_has ls 7 [(6, .int (Int32.ofInt (s0_30))), (5, .int (Int32.ofInt (s0_29))), (4, .int (Int32.ofInt (x4_1))), (3, .int (Int32.ofInt (x3_2))), (0, .ref (ar 71)), (1, .int (Int32.ofInt (d0))), (2, .int (Int32.ofInt (s0)))] := hl
            refine iv_add (x := x3_2) (y := s0_33) hx hb dX10_canDay_118 ?_
            refine lv_istore_n (lv' := [(3, .int (Int32.ofInt ((x3_2 + s0_33)))), (6, .int (Int32.ofInt (s0_30))), (5, .int (Int32.ofInt (s0_29))), (4, .int (Int32.ofInt (x4_1))), (0, .ref (ar 71)), (1, .int (Int32.ofInt (d0))), (2, .int (Int32.ofInt (s0)))]) hx hb dX10_canDay_119 rfl hl (by decide) rfl (fun ls hl => ?_)
            refine lv_iinc (v := Int32.ofInt (x4_1 + 1)) (lv' := [(4, .int (Int32.ofInt ((x4_1 + 1)))), (3, .int (Int32.ofInt ((x3_2 + s0_33)))), (6, .int (Int32.ofInt (s0_30))), (5, .int (Int32.ofInt (s0_29))), (0, .ref (ar 71)), (1, .int (Int32.ofInt (d0))), (2, .int (Int32.ofInt (s0)))]) hx hb dX10_canDay_120 hl (k := 3) rfl (Int32.ofInt_add _ _).symm (by decide) rfl (fun ls hl => ?_)
            refine lv_goto (tgt := 5) hx hb dX10_canDay_123 (by decide) ?_
            have hl : lv_has ls 7 [(4, .int (Int32.ofInt ((x4_1 + 1)))), (3, .int (Int32.ofInt ((x3_2 + s0_33)))), (0, .ref (ar 71)), (1, .int (Int32.ofInt (d0))), (2, .int (Int32.ofInt (s0)))] := lv_sub hl [0, 1, 4, 5, 6] rfl
            exact ih ((x4_1 + 1), (x3_2 + s0_33), g32) (show (7 - (x4_1 + 1)).toNat < (7 - x4_1).toNat from by omega) (show inR (x4_1 + 1) ∧ inR (x3_2 + s0_33) ∧ (∀ t, inR (g32 t)) ∧ (0 ≤ (x4_1 + 1) ∧ (x4_1 + 1) ≤ 7 ∧ 0 ≤ (x3_2 + s0_33) ∧ (x3_2 + s0_33) ≤ (x4_1 + 1)) from ⟨(by omega), (by omega), rg32, (by omega)⟩) _ _ _ hP hD hS hl
          · refine lv_iload_n hx hb dX10_canDay_107 rfl (lv_at hl 3 rfl) ?_
            refine lv_iload hx hb dX10_canDay_108 (lv_at hl 1 rfl) ?_
            refine iv_if_eq (tgt := 117) hx hb (by omega) dX10_canDay_110 (by decide) (fun q34 => ?_) (fun q34 => ?_)
            · refine lv_iconst (v := Int32.ofInt 0) hx hb dX10_canDay_117 (by decide +kernel) ?_
              have hl : lv_has ls 7 [(6, .int (Int32.ofInt (s0_30))), (5, .int (Int32.ofInt (s0_29))), (4, .int (Int32.ofInt (x4_1))), (3, .int (Int32.ofInt (x3_2))), (0, .ref (ar 71)), (1, .int (Int32.ofInt (d0))), (2, .int (Int32.ofInt (s0)))] := lv_sub hl [0, 1, 2, 3, 4, 5, 6] rfl
              exact J118 (0) (show inR 0 ∧ (0 = 0 ∨ 0 = 1) from ⟨(by omega), (by omega)⟩) _ _ _ hP hD hS hl
            · refine lv_iconst (v := Int32.ofInt 1) hx hb dX10_canDay_113 (by decide +kernel) ?_
              refine lv_goto (tgt := 118) hx hb dX10_canDay_114 (by decide) ?_
              have hl : lv_has ls 7 [(6, .int (Int32.ofInt (s0_30))), (5, .int (Int32.ofInt (s0_29))), (4, .int (Int32.ofInt (x4_1))), (3, .int (Int32.ofInt (x3_2))), (0, .ref (ar 71)), (1, .int (Int32.ofInt (d0))), (2, .int (Int32.ofInt (s0)))] := lv_sub hl [0, 1, 2, 3, 4, 5, 6] rfl
              exact J118 (1) (show inR 1 ∧ (1 = 0 ∨ 1 = 1) from ⟨(by omega), (by omega)⟩) _ _ _ hP hD hS hl
        · refine lv_aload_n hx hb dX10_canDay_83 rfl (lv_at hl 4 rfl) ?_
          refine va_get (D := G) (ci := 7) (v := .ref (ar 57)) (C := RX10) (T := TX10) (N := 71) (ref := RX10) hx hb hts h1w hown hX.1 hP 0 rfl rfl 57 (by decide) h0w (fun _ h9 => h9) rfl dX10_canDay_84 ?_
          refine lv_iload hx hb dX10_canDay_87 (lv_at hl 2 rfl) ?_
          refine lv_iload hx hb dX10_canDay_89 (lv_at hl 0 rfl) ?_
          refine iv_if_eq (tgt := 104) hx hb (by omega) dX10_canDay_91 (by decide) (fun q35 => ?_) (fun q35 => ?_)
          · refine lv_bipush (v := Int32.ofInt 15) hx hb dX10_canDay_104 (by decide +kernel) ?_
            have hl : lv_has ls 7 [(6, .int (Int32.ofInt (s0_30))), (5, .int (Int32.ofInt (s0_29))), (4, .int (Int32.ofInt (x4_1))), (3, .int (Int32.ofInt (x3_2))), (0, .ref (ar 71)), (1, .int (Int32.ofInt (d0))), (2, .int (Int32.ofInt (s0)))] := lv_sub hl [0, 1, 2, 3, 4, 5, 6] rfl
            exact J106 (15) (show inR 15 ∧ (True) from ⟨(by omega), (by trivial)⟩) _ _ _ hP hD hS hl
          · refine lv_aload_n hx hb dX10_canDay_94 rfl (lv_at hl 4 rfl) ?_
            refine va_get (D := G) (ci := 7) (v := .ref (ar 6)) (C := RX10) (T := TX10) (N := 71) (ref := RX10) hx hb hts h1w hown hX.1 hP 0 rfl rfl 6 (by decide) h3w (fun _ h9 => h9) rfl dX10_canDay_95 ?_
            refine lv_iload hx hb dX10_canDay_98 (lv_at hl 2 rfl) ?_
            refine iv_iald hx hb hX.1 hP 4 0 rfl rfl (by omega) (by omega) (by decide) dX10_canDay_100 ?_
            refine iv_top (fun z36 ez36 => ?_)
            have rz36 : inR z36 := ez36 ▸ (hRa 6) _
            have ez36 : z36 = (fa 6) x4_1 := ez36
            refine lv_goto (tgt := 106) hx hb dX10_canDay_101 (by decide) ?_
            have hl : lv_has ls 7 [(6, .int (Int32.ofInt (s0_30))), (5, .int (Int32.ofInt (s0_29))), (4, .int (Int32.ofInt (x4_1))), (3, .int (Int32.ofInt (x3_2))), (0, .ref (ar 71)), (1, .int (Int32.ofInt (d0))), (2, .int (Int32.ofInt (s0)))] := lv_sub hl [0, 1, 2, 3, 4, 5, 6] rfl
            exact J106 (z36) (show inR z36 ∧ (True) from ⟨(by omega), (by trivial)⟩) _ _ _ hP hD hS hl
      · refine lv_iload hx hb dX10_canDay_39 (lv_at hl 1 rfl) ?_
        refine lv_aload_n hx hb dX10_canDay_41 rfl (lv_at hl 3 rfl) ?_
        refine va_get (D := G) (ci := 7) (v := .int (Int32.ofInt (fi 12))) (C := RX10) (T := TX10) (N := 71) (ref := RX10) hx hb hts h1w hown hX.1 hP 0 rfl rfl 12 (by decide) h4w (fun _ h9 => h9) rfl dX10_canDay_42 ?_
        have rf12 := hR 12
        refine iv_icmp_ge (tgt := 80) hx hb (by omega) (by omega) dX10_canDay_45 (by decide) (fun q37 => ?_) (fun q37 => ?_)
        · refine lv_iconst (v := Int32.ofInt 0) hx hb dX10_canDay_80 (by decide +kernel) ?_
          have hl : lv_has ls 7 [(5, .int (Int32.ofInt (s0_29))), (4, .int (Int32.ofInt (x4_1))), (3, .int (Int32.ofInt (x3_2))), (0, .ref (ar 71)), (1, .int (Int32.ofInt (d0))), (2, .int (Int32.ofInt (s0)))] := lv_sub hl [0, 1, 2, 3, 4, 5] rfl
          exact J81 (0) (show inR 0 ∧ (0 = 0 ∨ 0 = 1) from ⟨(by omega), (by omega)⟩) _ _ _ hP hD hS hl
        · refine lv_iload hx hb dX10_canDay_48 (lv_at hl 0 rfl) ?_
          refine iv_if_eq (tgt := 61) hx hb (by omega) dX10_canDay_50 (by decide) (fun q38 => ?_) (fun q38 => ?_)
          · refine lv_aload_n hx hb dX10_canDay_61 rfl (lv_at hl 3 rfl) ?_
            refine va_get (D := G) (ci := 7) (v := .ref (ar 33)) (C := RX10) (T := TX10) (N := 71) (ref := RX10) hx hb hts h1w hown hX.1 hP 0 rfl rfl 33 (by decide) h5w (fun _ h9 => h9) rfl dX10_canDay_62 ?_
            refine lv_iload_n hx hb dX10_canDay_65 rfl (lv_at hl 4 rfl) ?_
            refine iv_iald hx hb hX.1 hP 12 0 rfl rfl (by omega) (by omega) (by decide) dX10_canDay_66 ?_
            refine iv_top (fun z39 ez39 => ?_)
            have rz39 : inR z39 := ez39 ▸ (hRa 33) _
            have ez39 : z39 = (fa 33) d0 := ez39
            refine lv_iload hx hb dX10_canDay_67 (lv_at hl 1 rfl) ?_
            refine iv_shr hx hb dX10_canDay_69 ?_
            refine iv_top (fun z40 ez40 => ?_)
            have rz40 : inR z40 := ez40 ▸ bShr_r _ _
            refine lv_iconst (v := Int32.ofInt 1) hx hb dX10_canDay_70 (by decide +kernel) ?_
            refine iv_and hx hb dX10_canDay_71 ?_
            refine iv_top (fun z41 ez41 => ?_)
            have rz41 : inR z41 := ez41 ▸ bAnd_r _ _
            refine lv_iconst (v := Int32.ofInt 1) hx hb dX10_canDay_72 (by decide +kernel) ?_
            refine iv_icmp_ne (tgt := 80) hx hb (by omega) (by omega) dX10_canDay_73 (by decide) (fun q42 => ?_) (fun q42 => ?_)
            · refine lv_iconst (v := Int32.ofInt 0) hx hb dX10_canDay_80 (by decide +kernel) ?_
              have hl : lv_has ls 7 [(5, .int (Int32.ofInt (s0_29))), (4, .int (Int32.ofInt (x4_1))), (3, .int (Int32.ofInt (x3_2))), (0, .ref (ar 71)), (1, .int (Int32.ofInt (d0))), (2, .int (Int32.ofInt (s0)))] := lv_sub hl [0, 1, 2, 3, 4, 5] rfl
              exact J81 (0) (show inR 0 ∧ (0 = 0 ∨ 0 = 1) from ⟨(by omega), (by omega)⟩) _ _ _ hP hD hS hl
            · refine lv_iconst (v := Int32.ofInt 1) hx hb dX10_canDay_76 (by decide +kernel) ?_
              refine lv_goto (tgt := 81) hx hb dX10_canDay_77 (by decide) ?_
              have hl : lv_has ls 7 [(5, .int (Int32.ofInt (s0_29))), (4, .int (Int32.ofInt (x4_1))), (3, .int (Int32.ofInt (x3_2))), (0, .ref (ar 71)), (1, .int (Int32.ofInt (d0))), (2, .int (Int32.ofInt (s0)))] := lv_sub hl [0, 1, 2, 3, 4, 5] rfl
              exact J81 (1) (show inR 1 ∧ (1 = 0 ∨ 1 = 1) from ⟨(by omega), (by omega)⟩) _ _ _ hP hD hS hl
          · refine lv_iload_n hx hb dX10_canDay_53 rfl (lv_at hl 2 rfl) ?_
            refine lv_iload_n hx hb dX10_canDay_54 rfl (lv_at hl 5 rfl) ?_
            refine iv_icmp_ge (tgt := 80) hx hb (by omega) (by omega) dX10_canDay_55 (by decide) (fun q43 => ?_) (fun q43 => ?_)
            · refine lv_iconst (v := Int32.ofInt 0) hx hb dX10_canDay_80 (by decide +kernel) ?_
              have hl : lv_has ls 7 [(5, .int (Int32.ofInt (s0_29))), (4, .int (Int32.ofInt (x4_1))), (3, .int (Int32.ofInt (x3_2))), (0, .ref (ar 71)), (1, .int (Int32.ofInt (d0))), (2, .int (Int32.ofInt (s0)))] := lv_sub hl [0, 1, 2, 3, 4, 5] rfl
              exact J81 (0) (show inR 0 ∧ (0 = 0 ∨ 0 = 1) from ⟨(by omega), (by omega)⟩) _ _ _ hP hD hS hl
            · refine lv_goto (tgt := 76) hx hb dX10_canDay_58 (by decide) ?_
              refine lv_iconst (v := Int32.ofInt 1) hx hb dX10_canDay_76 (by decide +kernel) ?_
              refine lv_goto (tgt := 81) hx hb dX10_canDay_77 (by decide) ?_
              have hl : lv_has ls 7 [(5, .int (Int32.ofInt (s0_29))), (4, .int (Int32.ofInt (x4_1))), (3, .int (Int32.ofInt (x3_2))), (0, .ref (ar 71)), (1, .int (Int32.ofInt (d0))), (2, .int (Int32.ofInt (s0)))] := lv_sub hl [0, 1, 2, 3, 4, 5] rfl
              exact J81 (1) (show inR 1 ∧ (1 = 0 ∨ 1 = 1) from ⟨(by omega), (by omega)⟩) _ _ _ hP hD hS hl
    · refine lv_iload hx hb dX10_canDay_12 (lv_at hl 0 rfl) ?_
      refine lv_aload_n hx hb dX10_canDay_14 rfl (lv_at hl 2 rfl) ?_
      refine va_get (D := G) (ci := 7) (v := .int (Int32.ofInt (fi 12))) (C := RX10) (T := TX10) (N := 71) (ref := RX10) hx hb hts h1w hown hX.1 hP 0 rfl rfl 12 (by decide) h4w (fun _ h9 => h9) rfl dX10_canDay_15 ?_
      have rf12 := hR 12
      refine iv_icmp_ge (tgt := 36) hx hb (by omega) (by omega) dX10_canDay_18 (by decide) (fun q44 => ?_) (fun q44 => ?_)
      · refine lv_iconst (v := Int32.ofInt 0) hx hb dX10_canDay_36 (by decide +kernel) ?_
        have hl : lv_has ls 7 [(4, .int (Int32.ofInt (x4_1))), (3, .int (Int32.ofInt (x3_2))), (0, .ref (ar 71)), (1, .int (Int32.ofInt (d0))), (2, .int (Int32.ofInt (s0)))] := lv_sub hl [0, 1, 2, 3, 4] rfl
        exact J37 (0) (show inR 0 ∧ (0 = 0 ∨ 0 = 1) from ⟨(by omega), (by omega)⟩) _ _ _ hP hD hS hl
      · refine lv_aload_n hx hb dX10_canDay_21 rfl (lv_at hl 2 rfl) ?_
        refine va_get (D := G) (ci := 7) (v := .ref (ar 4)) (C := RX10) (T := TX10) (N := 71) (ref := RX10) hx hb hts h1w hown hX.1 hP 0 rfl rfl 4 (by decide) h6w (fun _ h9 => h9) rfl dX10_canDay_22 ?_
        refine lv_iload hx hb dX10_canDay_25 (lv_at hl 0 rfl) ?_
        refine iv_iald hx hb hX.1 hP 2 0 rfl rfl (by omega) (by omega) (by decide) dX10_canDay_27 ?_
        refine iv_top (fun z45 ez45 => ?_)
        have rz45 : inR z45 := ez45 ▸ (hRa 4) _
        have ez45 : z45 = (fa 4) x4_1 := ez45
        refine lv_iconst (v := Int32.ofInt 2) hx hb dX10_canDay_28 (by decide +kernel) ?_
        refine iv_icmp_ne (tgt := 36) hx hb (by omega) (by omega) dX10_canDay_29 (by decide) (fun q46 => ?_) (fun q46 => ?_)
        · refine lv_iconst (v := Int32.ofInt 0) hx hb dX10_canDay_36 (by decide +kernel) ?_
          have hl : lv_has ls 7 [(4, .int (Int32.ofInt (x4_1))), (3, .int (Int32.ofInt (x3_2))), (0, .ref (ar 71)), (1, .int (Int32.ofInt (d0))), (2, .int (Int32.ofInt (s0)))] := lv_sub hl [0, 1, 2, 3, 4] rfl
          exact J37 (0) (show inR 0 ∧ (0 = 0 ∨ 0 = 1) from ⟨(by omega), (by omega)⟩) _ _ _ hP hD hS hl
        · refine lv_iconst (v := Int32.ofInt 1) hx hb dX10_canDay_32 (by decide +kernel) ?_
          refine lv_goto (tgt := 37) hx hb dX10_canDay_33 (by decide) ?_
          have hl : lv_has ls 7 [(4, .int (Int32.ofInt (x4_1))), (3, .int (Int32.ofInt (x3_2))), (0, .ref (ar 71)), (1, .int (Int32.ofInt (d0))), (2, .int (Int32.ofInt (s0)))] := lv_sub hl [0, 1, 2, 3, 4] rfl
          exact J37 (1) (show inR 1 ∧ (1 = 0 ∨ 1 = 1) from ⟨(by omega), (by omega)⟩) _ _ _ hP hD hS hl

