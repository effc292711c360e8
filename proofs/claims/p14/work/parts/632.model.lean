set_option maxHeartbeats 4000000 in
set_option maxRecDepth 100000 in
theorem mX10_enough (l : Launch) (G : va_G) (k : Nat → ClassId) (ar : Nat → Nat) (fi : Nat → Int) (fa : Nat → Int → Int) (fl : Nat → Int64) (w0 : Int) (sz : Nat) (hR : ∀ j, inR (fi j)) (hRa : ∀ j t, inR (fa j t)) (hr_w0 : inR w0) (hth : 0 ≤ fi 12 ∧ fi 12 ≤ 7) (hru : 0 ≤ fi 13 ∧ fi 13 ≤ 4) (hRW : ∀ q9, 0 ≤ q9 → q9 < fi 13 → RWf (fa 10) (fa 8 q9) (fa 9 q9)) (hdp : 0 ≤ fa 3 0 ∧ fa 3 0 ≤ 11) (hdy : 0 ≤ fi 31 ∧ fi 31 ≤ 6) : CNi l G k (EZ k) yX10_enough wzX10_enough ({ frames := 15, cells := 0, slots := 0, locals := 375 }) [.ref (ar 71), .int (Int32.ofInt (w0))] sz (wM k ar fi fa fl) (fun (r0 : Int32) (u : Int × (Int → Int) × (Int → Int) × (Int → Int) × (Int → Int) × (Int → Int) × (Int → Int) × (Int → Int) × (Int → Int) × (Int → Int) × Int × Int × Int × Int × Int × Int × Int × Int × Int × (Nat → Int64)) => r0 = Int32.ofInt (u.1) ∧ (inR u.1) ∧ (∀ t, inR (u.2.1 t)) ∧ (∀ t, inR (u.2.2.1 t)) ∧ (∀ t, inR (u.2.2.2.1 t)) ∧ (∀ t, inR (u.2.2.2.2.1 t)) ∧ (∀ t, inR (u.2.2.2.2.2.1 t)) ∧ (∀ t, inR (u.2.2.2.2.2.2.1 t)) ∧ (∀ t, inR (u.2.2.2.2.2.2.2.1 t)) ∧ (∀ t, inR (u.2.2.2.2.2.2.2.2.1 t)) ∧ (∀ t, inR (u.2.2.2.2.2.2.2.2.2.1 t)) ∧ (inR u.2.2.2.2.2.2.2.2.2.2.1) ∧ (inR u.2.2.2.2.2.2.2.2.2.2.2.1) ∧ (inR u.2.2.2.2.2.2.2.2.2.2.2.2.1) ∧ (inR u.2.2.2.2.2.2.2.2.2.2.2.2.2.1) ∧ (inR u.2.2.2.2.2.2.2.2.2.2.2.2.2.2.1) ∧ (inR u.2.2.2.2.2.2.2.2.2.2.2.2.2.2.2.1) ∧ (inR u.2.2.2.2.2.2.2.2.2.2.2.2.2.2.2.2.1) ∧ (inR u.2.2.2.2.2.2.2.2.2.2.2.2.2.2.2.2.2.1) ∧ (inR u.2.2.2.2.2.2.2.2.2.2.2.2.2.2.2.2.2.2.1) ∧ (True)) (fun (u : Int × (Int → Int) × (Int → Int) × (Int → Int) × (Int → Int) × (Int → Int) × (Int → Int) × (Int → Int) × (Int → Int) × (Int → Int) × Int × Int × Int × Int × Int × Int × Int × Int × Int × (Nat → Int64)) => (wM k ar (uF (uF (uF (uF (uF (uF (uF (uF (uF fi 2 (u.2.2.2.2.2.2.2.2.2.2.1)) 41 (u.2.2.2.2.2.2.2.2.2.2.2.1)) 42 (u.2.2.2.2.2.2.2.2.2.2.2.2.1)) 43 (u.2.2.2.2.2.2.2.2.2.2.2.2.2.1)) 50 (u.2.2.2.2.2.2.2.2.2.2.2.2.2.2.1)) 51 (u.2.2.2.2.2.2.2.2.2.2.2.2.2.2.2.1)) 52 (u.2.2.2.2.2.2.2.2.2.2.2.2.2.2.2.2.1)) 55 (u.2.2.2.2.2.2.2.2.2.2.2.2.2.2.2.2.2.1)) 56 (u.2.2.2.2.2.2.2.2.2.2.2.2.2.2.2.2.2.2.1)) (uF (uF (uF (uF (uF (uF (uF (uF (uF fa 39 (u.2.1)) 40 (u.2.2.1)) 46 (u.2.2.2.1)) 47 (u.2.2.2.2.1)) 48 (u.2.2.2.2.2.1)) 49 (u.2.2.2.2.2.2.1)) 53 (u.2.2.2.2.2.2.2.1)) 54 (u.2.2.2.2.2.2.2.2.1)) 57 (u.2.2.2.2.2.2.2.2.2.1)) u.2.2.2.2.2.2.2.2.2.2.2.2.2.2.2.2.2.2.2)) := by
  refine Met.ofW (cc := cX10_enough) (maxL := 6) (ret := (some .int)) (by decide) rfl ?_
  intro p e s m args below meth c s₁ B hml hv
  obtain ⟨rfl, hsz, hP, hX, hD0, hZ0⟩ := hv
  have hx := B.exec
  have hb := B.bytes
  have hr := B.returns
  have hts := atoms_spec (ws := wzX10_enough) B.pre
  have hown : s.vm.findClass RX10 = some m.cls := findClass_of_methodNamed B.named
  subst hsz
  have hD := hD0.self (sz := s.heap.size)
  have hZ := hZ0
  generalize hAe : va_A (wM k ar fi fa fl) s.heap.size = A at hD hZ ⊢
  have hA : ∀ q : Nat, s.heap.size ≤ q → A q := fun q h => by rw [← hAe]; exact Or.inr h
  have hS : va_S A s.heap s.heap [] := va_S.rf
  have hl := lv_entry ([.ref (ar 71), .int (Int32.ofInt (w0))]) (n := 6) (Nat.le_of_ble_eq_true rfl)
  rw [lg_entry_eq]
  generalize (lg_sl ([.ref (ar 71), .int (Int32.ofInt (w0))]) ++ List.replicate (6 - (lg_sl ([.ref (ar 71), .int (Int32.ofInt (w0))])).length) Slot.unset).toArray = ls at hl ⊢
  have hl : lv_has ls 6 [(0, .ref (ar 71)), (1, .int (Int32.ofInt (w0)))] := hl
  obtain ⟨H, eH⟩ : ∃ H, H = s.heap := ⟨_, rfl⟩
  rw [← eH] at hP
  have hS : va_S A s.heap H [] := by rw [eH]; exact hS
  have gW : s.heap = H := eH.symm
  refine iv_heap gW ?_
  have h0w := hts (.fieldLink RX10 171 "RopeTownModel" "code" "I") (wz_at 8 12 rfl)
  have h1w : ∀ w ∈ wsX100, w ∈ wzX10_enough := fun w h => List.mem_cons_of_mem _ (inlX10 w h)
  have h2w := hts (.fieldLink RX10 336 "RopeTownModel" "days" "I") (wz_at 21 16 rfl)
  refine lv_aload_n hx hb dX10_enough_0 rfl (lv_at hl 0 rfl) ?_
  refine lv_iconst (v := Int32.ofInt 0) hx hb dX10_enough_1 (by decide +kernel) ?_
  refine iv_put (ci := 7) (v := .int (Int32.ofInt (0))) (ty := .int) (C := RX10) (T := TX10) (N := 71) (ref := RX10) hx hb hts h1w tyX10 tyX10_ok nmX10 hown hX.1 hP hD hS 0 rfl rfl 2 (by decide) h0w (fun _ h9 => h9) rfl (by decide +kernel) rfl rfl (Nat.le_of_ble_eq_true rfl) (wM_F2 _ _ _ _ _) dX10_enough_2 (fun H locs hP hD hS => ?_)
  refine lv_iload_n hx hb dX10_enough_5 rfl (lv_at hl 1 rfl) ?_
  refine iv_if_lt (tgt := 14) hx hb (by omega) dX10_enough_6 (by decide) (fun q1 => ?_) (fun q1 => ?_)
  · refine lv_aload_n hx hb dX10_enough_14 rfl (lv_at hl 0 rfl) ?_
    refine lv_iconst (v := Int32.ofInt 1) hx hb dX10_enough_15 (by decide +kernel) ?_
    refine cr_i (va_runV (As := [.int (Int32.ofInt (1))]) (rest := []) ⟨hx, hb, hml, hown, hts⟩ (mX10_fail l G k ar (uF fi 2 (0)) fa fl 1 H.size (iF hR (by omega)) hRa (by omega)) (cwV 1 hts (gz [.methodLink RX10 315 yX10_fail, .instanceMethod yX10_fail, .selects RX10 yX10_fail yX10_fail, .initialized RX10] (.code yX10_fail cX10_fail 2 (some .int)) [(16, 17), (16, 18), (16, 19), (0, 5), (16, 20)] rfl) rfl rfl rfl (by decide +kernel) ⟨Nat.le_of_ble_eq_true rfl, Nat.le_of_ble_eq_true rfl⟩) (cr_preV (EZ_ok k) hZ hS hX hP hD hA (ci := 7) (q0 := 0) rfl rfl) rfl rfl hl.1 rfl (lv_room (Nat.le_of_ble_eq_true rfl)) dX10_enough_16 ⟨Nat.le_of_ble_eq_true rfl, Nat.le_of_ble_eq_true rfl⟩) hD hS hA (fun r u H locs hp hP hD hS => ?_)
    obtain ⟨c2, c3⟩ := u
    obtain ⟨hP, hD⟩ : va_P G vwCl (wM k ar (uF fi 2 (c3)) fa fl) H ∧ va_D A (wM k ar (uF fi 2 (c3)) fa fl) := ⟨hP, hD⟩
    obtain ⟨h9, rc2, rc3, hp3⟩ : r = Int32.ofInt c2 ∧ (inR c2) ∧ (inR c3) ∧ (c2 = 0 ∧ c3 = 1) := hp
    subst h9
    exact W.iret (v := Int32.ofInt (c2)) hx hb hr (fun t ht hW => ⟨⟨Int32.ofInt (c2), (c2, fa 39, fa 40, fa 46, fa 47, fa 48, fa 49, fa 53, fa 54, fa 57, c3, fi 41, fi 42, fi 43, fi 50, fi 51, fi 52, fi 55, fi 56, fl), rfl, ⟨rfl, (show (inR c2) ∧ (∀ t, inR ((fa 39) t)) ∧ (∀ t, inR ((fa 40) t)) ∧ (∀ t, inR ((fa 46) t)) ∧ (∀ t, inR ((fa 47) t)) ∧ (∀ t, inR ((fa 48) t)) ∧ (∀ t, inR ((fa 49) t)) ∧ (∀ t, inR ((fa 53) t)) ∧ (∀ t, inR ((fa 54) t)) ∧ (∀ t, inR ((fa 57) t)) ∧ (inR c3) ∧ (inR (fi 41)) ∧ (inR (fi 42)) ∧ (inR (fi 43)) ∧ (inR (fi 50)) ∧ (inR (fi 51)) ∧ (inR (fi 52)) ∧ (inR (fi 55)) ∧ (inR (fi 56)) ∧ (True) from ⟨(by omega), (hRa 39), (hRa 40), (hRa 46), (hRa 47), (hRa 48), (hRa 49), (hRa 53), (hRa 54), (hRa 57), (by omega), (hR 41), (hR 42), (hR 43), (hR 50), (hR 51), (hR 52), (hR 55), (hR 56), trivial⟩)⟩, by rw [ht]; exact hP, hD⟩, hS.F ht⟩) hS.2.2 dX10_enough_19
  · refine lv_iload_n hx hb dX10_enough_9 rfl (lv_at hl 1 rfl) ?_
    refine lv_iconst (v := Int32.ofInt 1) hx hb dX10_enough_10 (by decide +kernel) ?_
    refine iv_icmp_le (tgt := 20) hx hb (by omega) (by omega) dX10_enough_11 (by decide) (fun q4 => ?_) (fun q4 => ?_)
    · refine lv_iconst (v := Int32.ofInt (-1)) hx hb dX10_enough_20 (by decide +kernel) ?_
      refine lv_istore_n (lv' := [(2, .int (Int32.ofInt ((-1)))), (0, .ref (ar 71)), (1, .int (Int32.ofInt (w0)))]) hx hb dX10_enough_21 rfl hl (by decide) rfl (fun ls hl => ?_)
      refine lv_iconst (v := Int32.ofInt 0) hx hb dX10_enough_22 (by decide +kernel) ?_
      refine lv_istore_n (lv' := [(3, .int (Int32.ofInt (0))), (2, .int (Int32.ofInt ((-1)))), (0, .ref (ar 71)), (1, .int (Int32.ofInt (w0)))]) hx hb dX10_enough_23 rfl hl (by decide) rfl (fun ls hl => ?_)
      refine iv_loop (α := Int × Int × Int × Int × Int × Int × Int × Int × Int × Int × (Int → Int) × (Int → Int) × (Int → Int) × (Int → Int) × (Int → Int) × (Int → Int) × (Int → Int) × (Int → Int) × (Int → Int) × (Nat → Int64)) (nL := 6) (fun b9 => (wM k ar (uF (uF (uF (uF (uF (uF (uF (uF (uF fi 2 (0)) 41 (b9.2.2.1)) 42 (b9.2.2.2.1)) 43 (b9.2.2.2.2.1)) 50 (b9.2.2.2.2.2.1)) 51 (b9.2.2.2.2.2.2.1)) 52 (b9.2.2.2.2.2.2.2.1)) 55 (b9.2.2.2.2.2.2.2.2.1)) 56 (b9.2.2.2.2.2.2.2.2.2.1)) (uF (uF (uF (uF (uF (uF (uF (uF (uF fa 39 (b9.2.2.2.2.2.2.2.2.2.2.1)) 40 (b9.2.2.2.2.2.2.2.2.2.2.2.1)) 46 (b9.2.2.2.2.2.2.2.2.2.2.2.2.1)) 47 (b9.2.2.2.2.2.2.2.2.2.2.2.2.2.1)) 48 (b9.2.2.2.2.2.2.2.2.2.2.2.2.2.2.1)) 49 (b9.2.2.2.2.2.2.2.2.2.2.2.2.2.2.2.1)) 53 (b9.2.2.2.2.2.2.2.2.2.2.2.2.2.2.2.2.1)) 54 (b9.2.2.2.2.2.2.2.2.2.2.2.2.2.2.2.2.2.1)) 57 (b9.2.2.2.2.2.2.2.2.2.2.2.2.2.2.2.2.2.2.1)) b9.2.2.2.2.2.2.2.2.2.2.2.2.2.2.2.2.2.2.2)) (fun b9 => [(3, .int (Int32.ofInt (b9.1))), (2, .int (Int32.ofInt (b9.2.1))), (0, .ref (ar 71)), (1, .int (Int32.ofInt (w0)))]) (fun b9 => (8 - b9.1).toNat) (fun b9 => inR b9.1 ∧ inR b9.2.1 ∧ inR b9.2.2.1 ∧ inR b9.2.2.2.1 ∧ inR b9.2.2.2.2.1 ∧ inR b9.2.2.2.2.2.1 ∧ inR b9.2.2.2.2.2.2.1 ∧ inR b9.2.2.2.2.2.2.2.1 ∧ inR b9.2.2.2.2.2.2.2.2.1 ∧ inR b9.2.2.2.2.2.2.2.2.2.1 ∧ (∀ t, inR (b9.2.2.2.2.2.2.2.2.2.2.1 t)) ∧ (∀ t, inR (b9.2.2.2.2.2.2.2.2.2.2.2.1 t)) ∧ (∀ t, inR (b9.2.2.2.2.2.2.2.2.2.2.2.2.1 t)) ∧ (∀ t, inR (b9.2.2.2.2.2.2.2.2.2.2.2.2.2.1 t)) ∧ (∀ t, inR (b9.2.2.2.2.2.2.2.2.2.2.2.2.2.2.1 t)) ∧ (∀ t, inR (b9.2.2.2.2.2.2.2.2.2.2.2.2.2.2.2.1 t)) ∧ (∀ t, inR (b9.2.2.2.2.2.2.2.2.2.2.2.2.2.2.2.2.1 t)) ∧ (∀ t, inR (b9.2.2.2.2.2.2.2.2.2.2.2.2.2.2.2.2.2.1 t)) ∧ (∀ t, inR (b9.2.2.2.2.2.2.2.2.2.2.2.2.2.2.2.2.2.2.1 t)) ∧ (0 ≤ b9.1 ∧ b9.1 ≤ 8)) ?_ (0, (-1), fi 41, fi 42, fi 43, fi 50, fi 51, fi 52, fi 55, fi 56, fa 39, fa 40, fa 46, fa 47, fa 48, fa 49, fa 53, fa 54, fa 57, fl) (show inR 0 ∧ inR (-1) ∧ inR (fi 41) ∧ inR (fi 42) ∧ inR (fi 43) ∧ inR (fi 50) ∧ inR (fi 51) ∧ inR (fi 52) ∧ inR (fi 55) ∧ inR (fi 56) ∧ (∀ t, inR ((fa 39) t)) ∧ (∀ t, inR ((fa 40) t)) ∧ (∀ t, inR ((fa 46) t)) ∧ (∀ t, inR ((fa 47) t)) ∧ (∀ t, inR ((fa 48) t)) ∧ (∀ t, inR ((fa 49) t)) ∧ (∀ t, inR ((fa 53) t)) ∧ (∀ t, inR ((fa 54) t)) ∧ (∀ t, inR ((fa 57) t)) ∧ (0 ≤ 0 ∧ 0 ≤ 8) from ⟨(by omega), (by omega), (hR 41), (hR 42), (hR 43), (hR 50), (hR 51), (hR 52), (hR 55), (hR 56), (hRa 39), (hRa 40), (hRa 46), (hRa 47), (hRa 48), (hRa 49), (hRa 53), (hRa 54), (hRa 57), (by omega)⟩) hP hD hS hl
      rintro ⟨x3_5, x2_6, n41_7, n42_8, n43_9, n50_10, n51_11, n52_12, n55_13, n56_14, g39_15, g40_16, g46_17, g47_18, g48_19, g49_20, g53_21, g54_22, g57_23, gl_24⟩ ih hi9 H locs ls hP hD hS hl
      obtain ⟨r_x3_5, r_x2_6, r_n41_7, r_n42_8, r_n43_9, r_n50_10, r_n51_11, r_n52_12, r_n55_13, r_n56_14, r_g39_15, r_g40_16, r_g46_17, r_g47_18, r_g48_19, r_g49_20, r_g53_21, r_g54_22, r_g57_23, hinv⟩ : inR x3_5 ∧ inR x2_6 ∧ inR n41_7 ∧ inR n42_8 ∧ inR n43_9 ∧ inR n50_10 ∧ inR n51_11 ∧ inR n52_12 ∧ inR n55_13 ∧ inR n56_14 ∧ (∀ t, inR (g39_15 t)) ∧ (∀ t, inR (g40_16 t)) ∧ (∀ t, inR (g46_17 t)) ∧ (∀ t, inR (g47_18 t)) ∧ (∀ t, inR (g48_19 t)) ∧ (∀ t, inR (g49_20 t)) ∧ (∀ t, inR (g53_21 t)) ∧ (∀ t, inR (g54_22 t)) ∧ (∀ t, inR (g57_23 t)) ∧ (0 ≤ x3_5 ∧ x3_5 ≤ 8) := hi9
      obtain ⟨hP, hD⟩ : va_P G vwCl (wM k ar (uF (uF (uF (uF (uF (uF (uF (uF (uF fi 2 (0)) 41 (n41_7)) 42 (n42_8)) 43 (n43_9)) 50 (n50_10)) 51 (n51_11)) 52 (n52_12)) 55 (n55_13)) 56 (n56_14)) (uF (uF (uF (uF (uF (uF (uF (uF (uF fa 39 (g39_15)) 40 (g40_16)) 46 (g46_17)) 47 (g47_18)) 48 (g48_19)) 49 (g49_20)) 53 (g53_21)) 54 (g54_22)) 57 (g57_23)) gl_24) H ∧ va_D A (wM k ar (uF (uF (uF (uF (uF (uF (uF (uF (uF fi 2 (0)) 41 (n41_7)) 42 (n42_8)) 43 (n43_9)) 50 (n50_10)) 51 (n51_11)) 52 (n52_12)) 55 (n55_13)) 56 (n56_14)) (uF (uF (uF (uF (uF (uF (uF (uF (uF fa 39 (g39_15)) 40 (g40_16)) 46 (g46_17)) 47 (g47_18)) 48 (g48_19)) 49 (g49_20)) 53 (g53_21)) 54 (g54_22)) 57 (g57_23)) gl_24) := ⟨hP, hD⟩
      have hl : lv_has ls 6 [(3, .int (Int32.ofInt (x3_5))), (2, .int (Int32.ofInt (x2_6))), (0, .ref (ar 71)), (1, .int (Int32.ofInt (w0)))] := hl
      refine lv_iload_n hx hb dX10_enough_24 rfl (lv_at hl 0 rfl) ?_
      refine lv_aload_n hx hb dX10_enough_25 rfl (lv_at hl 2 rfl) ?_
      refine cr_i (va_runV (As := []) (rest := [.int (Int32.ofInt (x3_5))]) ⟨hx, hb, hml, hown, hts⟩ (mX10_stonesOf l G k ar (uF (uF (uF (uF (uF (uF (uF (uF (uF fi 2 (0)) 41 (n41_7)) 42 (n42_8)) 43 (n43_9)) 50 (n50_10)) 51 (n51_11)) 52 (n52_12)) 55 (n55_13)) 56 (n56_14)) (uF (uF (uF (uF (uF (uF (uF (uF (uF fa 39 (g39_15)) 40 (g40_16)) 46 (g46_17)) 47 (g47_18)) 48 (g48_19)) 49 (g49_20)) 53 (g53_21)) 54 (g54_22)) 57 (g57_23)) gl_24 H.size (iF (iF (iF (iF (iF (iF (iF (iF (iF hR (by omega)) (by omega)) (by omega)) (by omega)) (by omega)) (by omega)) (by omega)) (by omega)) (by omega)) (iG (iG (iG (iG (iG (iG (iG (iG (iG hRa r_g39_15) r_g40_16) r_g46_17) r_g47_18) r_g48_19) r_g49_20) r_g53_21) r_g54_22) r_g57_23) (show 0 ≤ (fi 12) ∧ (fi 12) ≤ 7 from by omega)) (cwV 0 hts (gz [.methodLink RX10 485 yX10_stonesOf, .instanceMethod yX10_stonesOf, .selects RX10 yX10_stonesOf yX10_stonesOf, .initialized RX10] (.code yX10_stonesOf cX10_stonesOf 3 (some .int)) [(41, 2), (41, 3), (41, 4), (0, 5), (41, 5)] rfl) rfl rfl rfl (by decide +kernel) ⟨Nat.le_of_ble_eq_true rfl, Nat.le_of_ble_eq_true rfl⟩) (cr_preV (EZ_ok k) hZ hS hX hP hD hA (ci := 7) (q0 := 0) rfl rfl) rfl rfl hl.1 rfl (lv_room (Nat.le_of_ble_eq_true rfl)) dX10_enough_26 ⟨Nat.le_of_ble_eq_true rfl, Nat.le_of_ble_eq_true rfl⟩) hD hS hA (fun r u H locs hp hP hD hS => ?_)
      obtain ⟨c25, rfl⟩ : ∃ z, z = u := ⟨_, rfl⟩
      obtain ⟨h9, rc25, hp25⟩ : r = Int32.ofInt c25 ∧ (inR c25) ∧ (0 ≤ c25 ∧ c25 ≤ 7) := hp
      subst h9
      refine iv_icmp_gt (tgt := 116) hx hb (by omega) (by omega) dX10_enough_29 (by decide) (fun q26 => ?_) (fun q26 => ?_)
      · refine lv_iconst (v := Int32.ofInt (-1)) hx hb dX10_enough_116 (by decide +kernel) ?_
        exact W.iret (v := Int32.ofInt ((-1))) hx hb hr (fun t ht hW => ⟨⟨Int32.ofInt ((-1)), ((-1), g39_15, g40_16, g46_17, g47_18, g48_19, g49_20, g53_21, g54_22, g57_23, 0, n41_7, n42_8, n43_9, n50_10, n51_11, n52_12, n55_13, n56_14, gl_24), rfl, ⟨rfl, (show (inR (-1)) ∧ (∀ t, inR (g39_15 t)) ∧ (∀ t, inR (g40_16 t)) ∧ (∀ t, inR (g46_17 t)) ∧ (∀ t, inR (g47_18 t)) ∧ (∀ t, inR (g48_19 t)) ∧ (∀ t, inR (g49_20 t)) ∧ (∀ t, inR (g53_21 t)) ∧ (∀ t, inR (g54_22 t)) ∧ (∀ t, inR (g57_23 t)) ∧ (inR 0) ∧ (inR n41_7) ∧ (inR n42_8) ∧ (inR n43_9) ∧ (inR n50_10) ∧ (inR n51_11) ∧ (inR n52_12) ∧ (inR n55_13) ∧ (inR n56_14) ∧ (True) from ⟨(by omega), r_g39_15, r_g40_16, r_g46_17, r_g47_18, r_g48_19, r_g49_20, r_g53_21, r_g54_22, r_g57_23, (by omega), (by omega), (by omega), (by omega), (by omega), (by omega), (by omega), (by omega), (by omega), trivial⟩)⟩, by rw [ht]; exact hP, hD⟩, hS.F ht⟩) hS.2.2 dX10_enough_117
      · refine lv_iconst (v := Int32.ofInt 0) hx hb dX10_enough_32 (by decide +kernel) ?_
        refine lv_istore (lv' := [(4, .int (Int32.ofInt (0))), (3, .int (Int32.ofInt (x3_5))), (2, .int (Int32.ofInt (x2_6))), (0, .ref (ar 71)), (1, .int (Int32.ofInt (w0)))]) hx hb dX10_enough_33 hl (by decide) rfl (fun ls hl => ?_)
        refine lv_iconst (v := Int32.ofInt 1) hx hb dX10_enough_35 (by decide +kernel) ?_
        refine lv_istore (lv' := [(5, .int (Int32.ofInt (1))), (4, .int (Int32.ofInt (0))), (3, .int (Int32.ofInt (x3_5))), (2, .int (Int32.ofInt (x2_6))), (0, .ref (ar 71)), (1, .int (Int32.ofInt (w0)))]) hx hb dX10_enough_36 hl (by decide) rfl (fun ls hl => ?_)
        refine iv_loop (α := Int × Int × Int × Int × Int × Int × Int × Int × Int × Int × (Int → Int) × (Int → Int) × (Int → Int) × (Int → Int) × (Int → Int) × (Int → Int) × (Int → Int) × (Int → Int) × (Int → Int) × (Nat → Int64)) (nL := 6) (fun b9 => (wM k ar (uF (uF (uF (uF (uF (uF (uF (uF (uF fi 2 (0)) 41 (b9.2.2.1)) 42 (b9.2.2.2.1)) 43 (b9.2.2.2.2.1)) 50 (b9.2.2.2.2.2.1)) 51 (b9.2.2.2.2.2.2.1)) 52 (b9.2.2.2.2.2.2.2.1)) 55 (b9.2.2.2.2.2.2.2.2.1)) 56 (b9.2.2.2.2.2.2.2.2.2.1)) (uF (uF (uF (uF (uF (uF (uF (uF (uF fa 39 (b9.2.2.2.2.2.2.2.2.2.2.1)) 40 (b9.2.2.2.2.2.2.2.2.2.2.2.1)) 46 (b9.2.2.2.2.2.2.2.2.2.2.2.2.1)) 47 (b9.2.2.2.2.2.2.2.2.2.2.2.2.2.1)) 48 (b9.2.2.2.2.2.2.2.2.2.2.2.2.2.2.1)) 49 (b9.2.2.2.2.2.2.2.2.2.2.2.2.2.2.2.1)) 53 (b9.2.2.2.2.2.2.2.2.2.2.2.2.2.2.2.2.1)) 54 (b9.2.2.2.2.2.2.2.2.2.2.2.2.2.2.2.2.2.1)) 57 (b9.2.2.2.2.2.2.2.2.2.2.2.2.2.2.2.2.2.2.1)) b9.2.2.2.2.2.2.2.2.2.2.2.2.2.2.2.2.2.2.2)) (fun b9 => [(5, .int (Int32.ofInt (b9.1))), (4, .int (Int32.ofInt (b9.2.1))), (3, .int (Int32.ofInt (x3_5))), (2, .int (Int32.ofInt (x2_6))), (0, .ref (ar 71)), (1, .int (Int32.ofInt (w0)))]) (fun b9 => (3 * (fi 31 - b9.2.1) + b9.1 + 2).toNat) (fun b9 => inR b9.1 ∧ inR b9.2.1 ∧ inR b9.2.2.1 ∧ inR b9.2.2.2.1 ∧ inR b9.2.2.2.2.1 ∧ inR b9.2.2.2.2.2.1 ∧ inR b9.2.2.2.2.2.2.1 ∧ inR b9.2.2.2.2.2.2.2.1 ∧ inR b9.2.2.2.2.2.2.2.2.1 ∧ inR b9.2.2.2.2.2.2.2.2.2.1 ∧ (∀ t, inR (b9.2.2.2.2.2.2.2.2.2.2.1 t)) ∧ (∀ t, inR (b9.2.2.2.2.2.2.2.2.2.2.2.1 t)) ∧ (∀ t, inR (b9.2.2.2.2.2.2.2.2.2.2.2.2.1 t)) ∧ (∀ t, inR (b9.2.2.2.2.2.2.2.2.2.2.2.2.2.1 t)) ∧ (∀ t, inR (b9.2.2.2.2.2.2.2.2.2.2.2.2.2.2.1 t)) ∧ (∀ t, inR (b9.2.2.2.2.2.2.2.2.2.2.2.2.2.2.2.1 t)) ∧ (∀ t, inR (b9.2.2.2.2.2.2.2.2.2.2.2.2.2.2.2.2.1 t)) ∧ (∀ t, inR (b9.2.2.2.2.2.2.2.2.2.2.2.2.2.2.2.2.2.1 t)) ∧ (∀ t, inR (b9.2.2.2.2.2.2.2.2.2.2.2.2.2.2.2.2.2.2.1 t)) ∧ (0 ≤ b9.2.1 ∧ b9.2.1 ≤ fi 31 ∧ (b9.1 = -2 ∨ b9.1 = 0 ∨ b9.1 = 1))) ?_ (1, 0, n41_7, n42_8, n43_9, n50_10, n51_11, n52_12, n55_13, n56_14, g39_15, g40_16, g46_17, g47_18, g48_19, g49_20, g53_21, g54_22, g57_23, gl_24) (show inR 1 ∧ inR 0 ∧ inR n41_7 ∧ inR n42_8 ∧ inR n43_9 ∧ inR n50_10 ∧ inR n51_11 ∧ inR n52_12 ∧ inR n55_13 ∧ inR n56_14 ∧ (∀ t, inR (g39_15 t)) ∧ (∀ t, inR (g40_16 t)) ∧ (∀ t, inR (g46_17 t)) ∧ (∀ t, inR (g47_18 t)) ∧ (∀ t, inR (g48_19 t)) ∧ (∀ t, inR (g49_20 t)) ∧ (∀ t, inR (g53_21 t)) ∧ (∀ t, inR (g54_22 t)) ∧ (∀ t, inR (g57_23 t)) ∧ (0 ≤ 0 ∧ 0 ≤ fi 31 ∧ (1 = -2 ∨ 1 = 0 ∨ 1 = 1)) from ⟨(by omega), (by omega), (by omega), (by omega), (by omega), (by omega), (by omega), (by omega), (by omega), (by omega), r_g39_15, r_g40_16, r_g46_17, r_g47_18, r_g48_19, r_g49_20, r_g53_21, r_g54_22, r_g57_23, (by omega)⟩) hP hD hS hl
        rintro ⟨x5_27, x4_28, n41_29, n42_30, n43_31, n50_32, n51_33, n52_34, n55_35, n56_36, g39_37, g40_38, g46_39, g47_40, g48_41, g49_42, g53_43, g54_44, g57_45, gl_46⟩ ih38 hi9 H locs ls hP hD hS hl
        obtain ⟨r_x5_27, r_x4_28, r_n41_29, r_n42_30, r_n43_31, r_n50_32, r_n51_33, r_n52_34, r_n55_35, r_n56_36, r_g39_37, r_g40_38, r_g46_39, r_g47_40, r_g48_41, r_g49_42, r_g53_43, r_g54_44, r_g57_45, hinv⟩ : inR x5_27 ∧ inR x4_28 ∧ inR n41_29 ∧ inR n42_30 ∧ inR n43_31 ∧ inR n50_32 ∧ inR n51_33 ∧ inR n52_34 ∧ inR n55_35 ∧ inR n56_36 ∧ (∀ t, inR (g39_37 t)) ∧ (∀ t, inR (g40_38 t)) ∧ (∀ t, inR (g46_39 t)) ∧ (∀ t, inR (g47_40 t)) ∧ (∀ t, inR (g48_41 t)) ∧ (∀ t, inR (g49_42 t)) ∧ (∀ t, inR (g53_43 t)) ∧ (∀ t, inR (g54_44 t)) ∧ (∀ t, inR (g57_45 t)) ∧ (0 ≤ x4_28 ∧ x4_28 ≤ fi 31 ∧ (x5_27 = -2 ∨ x5_27 = 0 ∨ x5_27 = 1)) := hi9
        obtain ⟨hP, hD⟩ : va_P G vwCl (wM k ar (uF (uF (uF (uF (uF (uF (uF (uF (uF fi 2 (0)) 41 (n41_29)) 42 (n42_30)) 43 (n43_31)) 50 (n50_32)) 51 (n51_33)) 52 (n52_34)) 55 (n55_35)) 56 (n56_36)) (uF (uF (uF (uF (uF (uF (uF (uF (uF fa 39 (g39_37)) 40 (g40_38)) 46 (g46_39)) 47 (g47_40)) 48 (g48_41)) 49 (g49_42)) 53 (g53_43)) 54 (g54_44)) 57 (g57_45)) gl_46) H ∧ va_D A (wM k ar (uF (uF (uF (uF (uF (uF (uF (uF (uF fi 2 (0)) 41 (n41_29)) 42 (n42_30)) 43 (n43_31)) 50 (n50_32)) 51 (n51_33)) 52 (n52_34)) 55 (n55_35)) 56 (n56_36)) (uF (uF (uF (uF (uF (uF (uF (uF (uF fa 39 (g39_37)) 40 (g40_38)) 46 (g46_39)) 47 (g47_40)) 48 (g48_41)) 49 (g49_42)) 53 (g53_43)) 54 (g54_44)) 57 (g57_45)) gl_46) := ⟨hP, hD⟩
        have hl : lv_has ls 6 [(5, .int (Int32.ofInt (x5_27))), (4, .int (Int32.ofInt (x4_28))), (3, .int (Int32.ofInt (x3_5))), (2, .int (Int32.ofInt (x2_6))), (0, .ref (ar 71)), (1, .int (Int32.ofInt (w0)))] := hl
        refine lv_iload hx hb dX10_enough_38 (lv_at hl 1 rfl) ?_
        refine lv_aload_n hx hb dX10_enough_40 rfl (lv_at hl 4 rfl) ?_
        refine va_get (D := G) (ci := 7) (v := .int (Int32.ofInt (fi 31))) (C := RX10) (T := TX10) (N := 71) (ref := RX10) hx hb hts h1w hown hX.1 hP 0 rfl rfl 31 (by decide) h2w (fun _ h9 => h9) rfl dX10_enough_41 ?_
        have rf31 := hR 31
        refine iv_icmp_ge (tgt := 81) hx hb (by omega) (by omega) dX10_enough_44 (by decide) (fun q47 => ?_) (fun q47 => ?_)
        · refine lv_iload hx hb dX10_enough_81 (lv_at hl 0 rfl) ?_
          refine lv_bipush (v := Int32.ofInt (-2)) hx hb dX10_enough_83 (by decide +kernel) ?_
          refine iv_icmp_ne (tgt := 91) hx hb (by omega) (by omega) dX10_enough_85 (by decide) (fun q48 => ?_) (fun q48 => ?_)
          · refine lv_iload hx hb dX10_enough_91 (lv_at hl 0 rfl) ?_
            refine lv_iconst (v := Int32.ofInt 1) hx hb dX10_enough_93 (by decide +kernel) ?_
            refine iv_icmp_ne (tgt := 107) hx hb (by omega) (by omega) dX10_enough_94 (by decide) (fun q49 => ?_) (fun q49 => ?_)
            · refine lv_iload hx hb dX10_enough_107 (lv_at hl 1 rfl) ?_
              refine lv_istore_n (lv' := [(2, .int (Int32.ofInt (x4_28))), (5, .int (Int32.ofInt (x5_27))), (4, .int (Int32.ofInt (x4_28))), (3, .int (Int32.ofInt (x3_5))), (0, .ref (ar 71)), (1, .int (Int32.ofInt (w0)))]) hx hb dX10_enough_109 rfl hl (by decide) rfl (fun ls hl => ?_)
              refine lv_iinc (v := Int32.ofInt (x3_5 + 1)) (lv' := [(3, .int (Int32.ofInt ((x3_5 + 1)))), (2, .int (Int32.ofInt (x4_28))), (5, .int (Int32.ofInt (x5_27))), (4, .int (Int32.ofInt (x4_28))), (0, .ref (ar 71)), (1, .int (Int32.ofInt (w0)))]) hx hb dX10_enough_110 hl (k := 3) rfl (Int32.ofInt_add _ _).symm (by decide) rfl (fun ls hl => ?_)
              refine lv_goto (tgt := 24) hx hb dX10_enough_113 (by decide) ?_
              have hl : lv_has ls 6 [(3, .int (Int32.ofInt ((x3_5 + 1)))), (2, .int (Int32.ofInt (x4_28))), (0, .ref (ar 71)), (1, .int (Int32.ofInt (w0)))] := lv_sub hl [0, 1, 4, 5] rfl
              exact ih ((x3_5 + 1), x4_28, n41_29, n42_30, n43_31, n50_32, n51_33, n52_34, n55_35, n56_36, g39_37, g40_38, g46_39, g47_40, g48_41, g49_42, g53_43, g54_44, g57_45, gl_46) (show (8 - (x3_5 + 1)).toNat < (8 - x3_5).toNat from by omega) (show inR (x3_5 + 1) ∧ inR x4_28 ∧ inR n41_29 ∧ inR n42_30 ∧ inR n43_31 ∧ inR n50_32 ∧ inR n51_33 ∧ inR n52_34 ∧ inR n55_35 ∧ inR n56_36 ∧ (∀ t, inR (g39_37 t)) ∧ (∀ t, inR (g40_38 t)) ∧ (∀ t, inR (g46_39 t)) ∧ (∀ t, inR (g47_40 t)) ∧ (∀ t, inR (g48_41 t)) ∧ (∀ t, inR (g49_42 t)) ∧ (∀ t, inR (g53_43 t)) ∧ (∀ t, inR (g54_44 t)) ∧ (∀ t, inR (g57_45 t)) ∧ (0 ≤ (x3_5 + 1) ∧ (x3_5 + 1) ≤ 8) from ⟨(by omega), (by omega), (by omega), (by omega), (by omega), (by omega), (by omega), (by omega), (by omega), (by omega), r_g39_37, r_g40_38, r_g46_39, r_g47_40, r_g48_41, r_g49_42, r_g53_43, r_g54_44, r_g57_45, (by omega)⟩) _ _ _ hP hD hS hl
            · refine lv_iload_n hx hb dX10_enough_97 rfl (lv_at hl 5 rfl) ?_
              refine iv_if_ne (tgt := 105) hx hb (by omega) dX10_enough_98 (by decide) (fun q50 => ?_) (fun q50 => ?_)
              · refine lv_iload_n hx hb dX10_enough_105 rfl (lv_at hl 3 rfl) ?_
                exact W.iret (v := Int32.ofInt (x2_6)) hx hb hr (fun t ht hW => ⟨⟨Int32.ofInt (x2_6), (x2_6, g39_37, g40_38, g46_39, g47_40, g48_41, g49_42, g53_43, g54_44, g57_45, 0, n41_29, n42_30, n43_31, n50_32, n51_33, n52_34, n55_35, n56_36, gl_46), rfl, ⟨rfl, (show (inR x2_6) ∧ (∀ t, inR (g39_37 t)) ∧ (∀ t, inR (g40_38 t)) ∧ (∀ t, inR (g46_39 t)) ∧ (∀ t, inR (g47_40 t)) ∧ (∀ t, inR (g48_41 t)) ∧ (∀ t, inR (g49_42 t)) ∧ (∀ t, inR (g53_43 t)) ∧ (∀ t, inR (g54_44 t)) ∧ (∀ t, inR (g57_45 t)) ∧ (inR 0) ∧ (inR n41_29) ∧ (inR n42_30) ∧ (inR n43_31) ∧ (inR n50_32) ∧ (inR n51_33) ∧ (inR n52_34) ∧ (inR n55_35) ∧ (inR n56_36) ∧ (True) from ⟨(by omega), r_g39_37, r_g40_38, r_g46_39, r_g47_40, r_g48_41, r_g49_42, r_g53_43, r_g54_44, r_g57_45, (by omega), (by omega), (by omega), (by omega), (by omega), (by omega), (by omega), (by omega), (by omega), trivial⟩)⟩, by rw [ht]; exact hP, hD⟩, hS.F ht⟩) hS.2.2 dX10_enough_106
              · refine lv_iload_n hx hb dX10_enough_101 rfl (lv_at hl 2 rfl) ?_
                refine lv_goto (tgt := 106) hx hb dX10_enough_102 (by decide) ?_
                exact W.iret (v := Int32.ofInt (x3_5)) hx hb hr (fun t ht hW => ⟨⟨Int32.ofInt (x3_5), (x3_5, g39_37, g40_38, g46_39, g47_40, g48_41, g49_42, g53_43, g54_44, g57_45, 0, n41_29, n42_30, n43_31, n50_32, n51_33, n52_34, n55_35, n56_36, gl_46), rfl, ⟨rfl, (show (inR x3_5) ∧ (∀ t, inR (g39_37 t)) ∧ (∀ t, inR (g40_38 t)) ∧ (∀ t, inR (g46_39 t)) ∧ (∀ t, inR (g47_40 t)) ∧ (∀ t, inR (g48_41 t)) ∧ (∀ t, inR (g49_42 t)) ∧ (∀ t, inR (g53_43 t)) ∧ (∀ t, inR (g54_44 t)) ∧ (∀ t, inR (g57_45 t)) ∧ (inR 0) ∧ (inR n41_29) ∧ (inR n42_30) ∧ (inR n43_31) ∧ (inR n50_32) ∧ (inR n51_33) ∧ (inR n52_34) ∧ (inR n55_35) ∧ (inR n56_36) ∧ (True) from ⟨(by omega), r_g39_37, r_g40_38, r_g46_39, r_g47_40, r_g48_41, r_g49_42, r_g53_43, r_g54_44, r_g57_45, (by omega), (by omega), (by omega), (by omega), (by omega), (by omega), (by omega), (by omega), (by omega), trivial⟩)⟩, by rw [ht]; exact hP, hD⟩, hS.F ht⟩) hS.2.2 dX10_enough_106
          · refine lv_bipush (v := Int32.ofInt (-2)) hx hb dX10_enough_88 (by decide +kernel) ?_
            exact W.iret (v := Int32.ofInt ((-2))) hx hb hr (fun t ht hW => ⟨⟨Int32.ofInt ((-2)), ((-2), g39_37, g40_38, g46_39, g47_40, g48_41, g49_42, g53_43, g54_44, g57_45, 0, n41_29, n42_30, n43_31, n50_32, n51_33, n52_34, n55_35, n56_36, gl_46), rfl, ⟨rfl, (show (inR (-2)) ∧ (∀ t, inR (g39_37 t)) ∧ (∀ t, inR (g40_38 t)) ∧ (∀ t, inR (g46_39 t)) ∧ (∀ t, inR (g47_40 t)) ∧ (∀ t, inR (g48_41 t)) ∧ (∀ t, inR (g49_42 t)) ∧ (∀ t, inR (g53_43 t)) ∧ (∀ t, inR (g54_44 t)) ∧ (∀ t, inR (g57_45 t)) ∧ (inR 0) ∧ (inR n41_29) ∧ (inR n42_30) ∧ (inR n43_31) ∧ (inR n50_32) ∧ (inR n51_33) ∧ (inR n52_34) ∧ (inR n55_35) ∧ (inR n56_36) ∧ (True) from ⟨(by omega), r_g39_37, r_g40_38, r_g46_39, r_g47_40, r_g48_41, r_g49_42, r_g53_43, r_g54_44, r_g57_45, (by omega), (by omega), (by omega), (by omega), (by omega), (by omega), (by omega), (by omega), (by omega), trivial⟩)⟩, by rw [ht]; exact hP, hD⟩, hS.F ht⟩) hS.2.2 dX10_enough_90
        · refine lv_iload hx hb dX10_enough_47 (lv_at hl 0 rfl) ?_
          refine lv_iconst (v := Int32.ofInt 1) hx hb dX10_enough_49 (by decide +kernel) ?_
          refine iv_icmp_ne (tgt := 81) hx hb (by omega) (by omega) dX10_enough_50 (by decide) (fun q51 => ?_) (fun q51 => ?_)
          · refine lv_iload hx hb dX10_enough_81 (lv_at hl 0 rfl) ?_
            refine lv_bipush (v := Int32.ofInt (-2)) hx hb dX10_enough_83 (by decide +kernel) ?_
            refine iv_icmp_ne (tgt := 91) hx hb (by omega) (by omega) dX10_enough_85 (by decide) (fun q52 => ?_) (fun q52 => ?_)
            · refine lv_iload hx hb dX10_enough_91 (lv_at hl 0 rfl) ?_
              refine lv_iconst (v := Int32.ofInt 1) hx hb dX10_enough_93 (by decide +kernel) ?_
              refine iv_icmp_ne (tgt := 107) hx hb (by omega) (by omega) dX10_enough_94 (by decide) (fun q53 => ?_) (fun q53 => ?_)
              · refine lv_iload hx hb dX10_enough_107 (lv_at hl 1 rfl) ?_
                refine lv_istore_n (lv' := [(2, .int (Int32.ofInt (x4_28))), (5, .int (Int32.ofInt (x5_27))), (4, .int (Int32.ofInt (x4_28))), (3, .int (Int32.ofInt (x3_5))), (0, .ref (ar 71)), (1, .int (Int32.ofInt (w0)))]) hx hb dX10_enough_109 rfl hl (by decide) rfl (fun ls hl => ?_)
                refine lv_iinc (v := Int32.ofInt (x3_5 + 1)) (lv' := [(3, .int (Int32.ofInt ((x3_5 + 1)))), (2, .int (Int32.ofInt (x4_28))), (5, .int (Int32.ofInt (x5_27))), (4, .int (Int32.ofInt (x4_28))), (0, .ref (ar 71)), (1, .int (Int32.ofInt (w0)))]) hx hb dX10_enough_110 hl (k := 3) rfl (Int32.ofInt_add _ _).symm (by decide) rfl (fun ls hl => ?_)
                refine lv_goto (tgt := 24) hx hb dX10_enough_113 (by decide) ?_
                have hl : lv_has ls 6 [(3, .int (Int32.ofInt ((x3_5 + 1)))), (2, .int (Int32.ofInt (x4_28))), (0, .ref (ar 71)), (1, .int (Int32.ofInt (w0)))] := lv_sub hl [0, 1, 4, 5] rfl
                exact ih ((x3_5 + 1), x4_28, n41_29, n42_30, n43_31, n50_32, n51_33, n52_34, n55_35, n56_36, g39_37, g40_38, g46_39, g47_40, g48_41, g49_42, g53_43, g54_44, g57_45, gl_46) (show (8 - (x3_5 + 1)).toNat < (8 - x3_5).toNat from by omega) (show inR (x3_5 + 1) ∧ inR x4_28 ∧ inR n41_29 ∧ inR n42_30 ∧ inR n43_31 ∧ inR n50_32 ∧ inR n51_33 ∧ inR n52_34 ∧ inR n55_35 ∧ inR n56_36 ∧ (∀ t, inR (g39_37 t)) ∧ (∀ t, inR (g40_38 t)) ∧ (∀ t, inR (g46_39 t)) ∧ (∀ t, inR (g47_40 t)) ∧ (∀ t, inR (g48_41 t)) ∧ (∀ t, inR (g49_42 t)) ∧ (∀ t, inR (g53_43 t)) ∧ (∀ t, inR (g54_44 t)) ∧ (∀ t, inR (g57_45 t)) ∧ (0 ≤ (x3_5 + 1) ∧ (x3_5 + 1) ≤ 8) from ⟨(by omega), (by omega), (by omega), (by omega), (by omega), (by omega), (by omega), (by omega), (by omega), (by omega), r_g39_37, r_g40_38, r_g46_39, r_g47_40, r_g48_41, r_g49_42, r_g53_43, r_g54_44, r_g57_45, (by omega)⟩) _ _ _ hP hD hS hl
              · refine lv_iload_n hx hb dX10_enough_97 rfl (lv_at hl 5 rfl) ?_
                refine iv_if_ne (tgt := 105) hx hb (by omega) dX10_enough_98 (by decide) (fun q54 => ?_) (fun q54 => ?_)
                · refine lv_iload_n hx hb dX10_enough_105 rfl (lv_at hl 3 rfl) ?_
                  exact W.iret (v := Int32.ofInt (x2_6)) hx hb hr (fun t ht hW => ⟨⟨Int32.ofInt (x2_6), (x2_6, g39_37, g40_38, g46_39, g47_40, g48_41, g49_42, g53_43, g54_44, g57_45, 0, n41_29, n42_30, n43_31, n50_32, n51_33, n52_34, n55_35, n56_36, gl_46), rfl, ⟨rfl, (show (inR x2_6) ∧ (∀ t, inR (g39_37 t)) ∧ (∀ t, inR (g40_38 t)) ∧ (∀ t, inR (g46_39 t)) ∧ (∀ t, inR (g47_40 t)) ∧ (∀ t, inR (g48_41 t)) ∧ (∀ t, inR (g49_42 t)) ∧ (∀ t, inR (g53_43 t)) ∧ (∀ t, inR (g54_44 t)) ∧ (∀ t, inR (g57_45 t)) ∧ (inR 0) ∧ (inR n41_29) ∧ (inR n42_30) ∧ (inR n43_31) ∧ (inR n50_32) ∧ (inR n51_33) ∧ (inR n52_34) ∧ (inR n55_35) ∧ (inR n56_36) ∧ (True) from ⟨(by omega), r_g39_37, r_g40_38, r_g46_39, r_g47_40, r_g48_41, r_g49_42, r_g53_43, r_g54_44, r_g57_45, (by omega), (by omega), (by omega), (by omega), (by omega), (by omega), (by omega), (by omega), (by omega), trivial⟩)⟩, by rw [ht]; exact hP, hD⟩, hS.F ht⟩) hS.2.2 dX10_enough_106
                · refine lv_iload_n hx hb dX10_enough_101 rfl (lv_at hl 2 rfl) ?_
                  refine lv_goto (tgt := 106) hx hb dX10_enough_102 (by decide) ?_
                  exact W.iret (v := Int32.ofInt (x3_5)) hx hb hr (fun t ht hW => ⟨⟨Int32.ofInt (x3_5), (x3_5, g39_37, g40_38, g46_39, g47_40, g48_41, g49_42, g53_43, g54_44, g57_45, 0, n41_29, n42_30, n43_31, n50_32, n51_33, n52_34, n55_35, n56_36, gl_46), rfl, ⟨rfl, (show (inR x3_5) ∧ (∀ t, inR (g39_37 t)) ∧ (∀ t, inR (g40_38 t)) ∧ (∀ t, inR (g46_39 t)) ∧ (∀ t, inR (g47_40 t)) ∧ (∀ t, inR (g48_41 t)) ∧ (∀ t, inR (g49_42 t)) ∧ (∀ t, inR (g53_43 t)) ∧ (∀ t, inR (g54_44 t)) ∧ (∀ t, inR (g57_45 t)) ∧ (inR 0) ∧ (inR n41_29) ∧ (inR n42_30) ∧ (inR n43_31) ∧ (inR n50_32) ∧ (inR n51_33) ∧ (inR n52_34) ∧ (inR n55_35) ∧ (inR n56_36) ∧ (True) from ⟨(by omega), r_g39_37, r_g40_38, r_g46_39, r_g47_40, r_g48_41, r_g49_42, r_g53_43, r_g54_44, r_g57_45, (by omega), (by omega), (by omega), (by omega), (by omega), (by omega), (by omega), (by omega), (by omega), trivial⟩)⟩, by rw [ht]; exact hP, hD⟩, hS.F ht⟩) hS.2.2 dX10_enough_106
            · refine lv_bipush (v := Int32.ofInt (-2)) hx hb dX10_enough_88 (by decide +kernel) ?_
              exact W.iret (v := Int32.ofInt ((-2))) hx hb hr (fun t ht hW => ⟨⟨Int32.ofInt ((-2)), ((-2), g39_37, g40_38, g46_39, g47_40, g48_41, g49_42, g53_43, g54_44, g57_45, 0, n41_29, n42_30, n43_31, n50_32, n51_33, n52_34, n55_35, n56_36, gl_46), rfl, ⟨rfl, (show (inR (-2)) ∧ (∀ t, inR (g39_37 t)) ∧ (∀ t, inR (g40_38 t)) ∧ (∀ t, inR (g46_39 t)) ∧ (∀ t, inR (g47_40 t)) ∧ (∀ t, inR (g48_41 t)) ∧ (∀ t, inR (g49_42 t)) ∧ (∀ t, inR (g53_43 t)) ∧ (∀ t, inR (g54_44 t)) ∧ (∀ t, inR (g57_45 t)) ∧ (inR 0) ∧ (inR n41_29) ∧ (inR n42_30) ∧ (inR n43_31) ∧ (inR n50_32) ∧ (inR n51_33) ∧ (inR n52_34) ∧ (inR n55_35) ∧ (inR n56_36) ∧ (True) from ⟨(by omega), r_g39_37, r_g40_38, r_g46_39, r_g47_40, r_g48_41, r_g49_42, r_g53_43, r_g54_44, r_g57_45, (by omega), (by omega), (by omega), (by omega), (by omega), (by omega), (by omega), (by omega), (by omega), trivial⟩)⟩, by rw [ht]; exact hP, hD⟩, hS.F ht⟩) hS.2.2 dX10_enough_90
          · refine lv_aload_n hx hb dX10_enough_53 rfl (lv_at hl 4 rfl) ?_
            refine lv_iload hx hb dX10_enough_54 (lv_at hl 1 rfl) ?_
            refine lv_iload_n hx hb dX10_enough_56 rfl (lv_at hl 2 rfl) ?_
            refine cr_i (va_runV (As := [.int (Int32.ofInt (x4_28)), .int (Int32.ofInt (x3_5))]) (rest := []) ⟨hx, hb, hml, hown, hts⟩ (mX10_canDay l G k ar (uF (uF (uF (uF (uF (uF (uF (uF (uF fi 2 (0)) 41 (n41_29)) 42 (n42_30)) 43 (n43_31)) 50 (n50_32)) 51 (n51_33)) 52 (n52_34)) 55 (n55_35)) 56 (n56_36)) (uF (uF (uF (uF (uF (uF (uF (uF (uF fa 39 (g39_37)) 40 (g40_38)) 46 (g46_39)) 47 (g47_40)) 48 (g48_41)) 49 (g49_42)) 53 (g53_43)) 54 (g54_44)) 57 (g57_45)) gl_46 x4_28 x3_5 H.size (iF (iF (iF (iF (iF (iF (iF (iF (iF hR (by omega)) (by omega)) (by omega)) (by omega)) (by omega)) (by omega)) (by omega)) (by omega)) (by omega)) (iG (iG (iG (iG (iG (iG (iG (iG (iG hRa r_g39_37) r_g40_38) r_g46_39) r_g47_40) r_g48_41) r_g49_42) r_g53_43) r_g54_44) r_g57_45) (by omega) (by omega) (show 0 ≤ (fi 12) ∧ (fi 12) ≤ 7 from by omega) (show 0 ≤ (fi 13) ∧ (fi 13) ≤ 4 from by omega) (show ∀ q9, 0 ≤ q9 → q9 < (fi 13) → RWf ((fa 10)) ((fa 8) q9) ((fa 9) q9) from by first | exact hRW | omega) (show 0 ≤ (fa 3) 0 ∧ (fa 3) 0 ≤ 11 from by omega) (show 0 ≤ x4_28 ∧ x4_28 < 6 from by omega)) (cwV 2 hts (gz [.methodLink RX10 488 yX10_canDay, .instanceMethod yX10_canDay, .selects RX10 yX10_canDay yX10_canDay, .initialized RX10] (.code yX10_canDay cX10_canDay 7 (some .int)) [(41, 6), (41, 7), (41, 8), (0, 5), (41, 9)] rfl) rfl rfl rfl (by decide +kernel) ⟨Nat.le_of_ble_eq_true rfl, Nat.le_of_ble_eq_true rfl⟩) (cr_preV (EZ_ok k) hZ hS hX hP hD hA (ci := 7) (q0 := 0) rfl rfl) rfl rfl hl.1 rfl (lv_room (Nat.le_of_ble_eq_true rfl)) dX10_enough_57 ⟨Nat.le_of_ble_eq_true rfl, Nat.le_of_ble_eq_true rfl⟩) hD hS hA (fun r u H locs hp hP hD hS => ?_)
            obtain ⟨c55, c56, c57, c58, c59, c60, c61, c62, c63, c64, c65, c66, c67, c68, c69, c70, c71, c72, c73⟩ := u
            obtain ⟨hP, hD⟩ : va_P G vwCl (wM k ar (uF (uF (uF (uF (uF (uF (uF (uF (uF fi 2 (0)) 41 (c65)) 42 (c66)) 43 (c67)) 50 (c68)) 51 (c69)) 52 (c70)) 55 (c71)) 56 (c72)) (uF (uF (uF (uF (uF (uF (uF (uF (uF fa 39 (c56)) 40 (c57)) 46 (c58)) 47 (c59)) 48 (c60)) 49 (c61)) 53 (c62)) 54 (c63)) 57 (c64)) c73) H ∧ va_D A (wM k ar (uF (uF (uF (uF (uF (uF (uF (uF (uF fi 2 (0)) 41 (c65)) 42 (c66)) 43 (c67)) 50 (c68)) 51 (c69)) 52 (c70)) 55 (c71)) 56 (c72)) (uF (uF (uF (uF (uF (uF (uF (uF (uF fa 39 (c56)) 40 (c57)) 46 (c58)) 47 (c59)) 48 (c60)) 49 (c61)) 53 (c62)) 54 (c63)) 57 (c64)) c73) := ⟨hP, hD⟩
            obtain ⟨h9, rc55, rc56, rc57, rc58, rc59, rc60, rc61, rc62, rc63, rc64, rc65, rc66, rc67, rc68, rc69, rc70, rc71, rc72, hp73⟩ : r = Int32.ofInt c55 ∧ (inR c55) ∧ (∀ t, inR (c56 t)) ∧ (∀ t, inR (c57 t)) ∧ (∀ t, inR (c58 t)) ∧ (∀ t, inR (c59 t)) ∧ (∀ t, inR (c60 t)) ∧ (∀ t, inR (c61 t)) ∧ (∀ t, inR (c62 t)) ∧ (∀ t, inR (c63 t)) ∧ (∀ t, inR (c64 t)) ∧ (inR c65) ∧ (inR c66) ∧ (inR c67) ∧ (inR c68) ∧ (inR c69) ∧ (inR c70) ∧ (inR c71) ∧ (inR c72) ∧ (c55 = -2 ∨ c55 = 0 ∨ c55 = 1) := hp
            subst h9
            refine lv_istore (lv' := [(5, .int (Int32.ofInt (c55))), (4, .int (Int32.ofInt (x4_28))), (3, .int (Int32.ofInt (x3_5))), (2, .int (Int32.ofInt (x2_6))), (0, .ref (ar 71)), (1, .int (Int32.ofInt (w0)))]) hx hb dX10_enough_60 hl (by decide) rfl (fun ls hl => ?_)
            refine lv_iload hx hb dX10_enough_62 (lv_at hl 1 rfl) ?_
            refine lv_iload hx hb dX10_enough_64 (lv_at hl 0 rfl) ?_
            refine lv_iconst (v := Int32.ofInt 1) hx hb dX10_enough_66 (by decide +kernel) ?_
            refine iv_icmp_ne (tgt := 74) hx hb (by omega) (by omega) dX10_enough_67 (by decide) (fun q74 => ?_) (fun q74 => ?_)
            · refine lv_iconst (v := Int32.ofInt 0) hx hb dX10_enough_74 (by decide +kernel) ?_
              refine iv_add (x := x4_28) (y := 0) hx hb dX10_enough_75 ?_
              refine lv_istore (lv' := [(4, .int (Int32.ofInt ((x4_28 + 0)))), (5, .int (Int32.ofInt (c55))), (3, .int (Int32.ofInt (x3_5))), (2, .int (Int32.ofInt (x2_6))), (0, .ref (ar 71)), (1, .int (Int32.ofInt (w0)))]) hx hb dX10_enough_76 hl (by decide) rfl (fun ls hl => ?_)
              refine lv_goto (tgt := 38) hx hb dX10_enough_78 (by decide) ?_
              have hl : lv_has ls 6 [(5, .int (Int32.ofInt (c55))), (4, .int (Int32.ofInt ((x4_28 + 0)))), (3, .int (Int32.ofInt (x3_5))), (2, .int (Int32.ofInt (x2_6))), (0, .ref (ar 71)), (1, .int (Int32.ofInt (w0)))] := lv_sub hl [1, 0, 2, 3, 4, 5] rfl
              exact ih38 (c55, (x4_28 + 0), c65, c66, c67, c68, c69, c70, c71, c72, c56, c57, c58, c59, c60, c61, c62, c63, c64, c73) (show (3 * (fi 31 - (x4_28 + 0)) + c55 + 2).toNat < (3 * (fi 31 - x4_28) + x5_27 + 2).toNat from by omega) (show inR c55 ∧ inR (x4_28 + 0) ∧ inR c65 ∧ inR c66 ∧ inR c67 ∧ inR c68 ∧ inR c69 ∧ inR c70 ∧ inR c71 ∧ inR c72 ∧ (∀ t, inR (c56 t)) ∧ (∀ t, inR (c57 t)) ∧ (∀ t, inR (c58 t)) ∧ (∀ t, inR (c59 t)) ∧ (∀ t, inR (c60 t)) ∧ (∀ t, inR (c61 t)) ∧ (∀ t, inR (c62 t)) ∧ (∀ t, inR (c63 t)) ∧ (∀ t, inR (c64 t)) ∧ (0 ≤ (x4_28 + 0) ∧ (x4_28 + 0) ≤ fi 31 ∧ (c55 = -2 ∨ c55 = 0 ∨ c55 = 1)) from ⟨(by omega), (by omega), (by omega), (by omega), (by omega), (by omega), (by omega), (by omega), (by omega), (by omega), rc56, rc57, rc58, rc59, rc60, rc61, rc62, rc63, rc64, (by omega)⟩) _ _ _ hP hD hS hl
            · refine lv_iconst (v := Int32.ofInt 1) hx hb dX10_enough_70 (by decide +kernel) ?_
              refine lv_goto (tgt := 75) hx hb dX10_enough_71 (by decide) ?_
              refine iv_add (x := x4_28) (y := 1) hx hb dX10_enough_75 ?_
              refine lv_istore (lv' := [(4, .int (Int32.ofInt ((x4_28 + 1)))), (5, .int (Int32.ofInt (c55))), (3, .int (Int32.ofInt (x3_5))), (2, .int (Int32.ofInt (x2_6))), (0, .ref (ar 71)), (1, .int (Int32.ofInt (w0)))]) hx hb dX10_enough_76 hl (by decide) rfl (fun ls hl => ?_)
              refine lv_goto (tgt := 38) hx hb dX10_enough_78 (by decide) ?_
              have hl : lv_has ls 6 [(5, .int (Int32.ofInt (c55))), (4, .int (Int32.ofInt ((x4_28 + 1)))), (3, .int (Int32.ofInt (x3_5))), (2, .int (Int32.ofInt (x2_6))), (0, .ref (ar 71)), (1, .int (Int32.ofInt (w0)))] := lv_sub hl [1, 0, 2, 3, 4, 5] rfl
              exact ih38 (c55, (x4_28 + 1), c65, c66, c67, c68, c69, c70, c71, c72, c56, c57, c58, c59, c60, c61, c62, c63, c64, c73) (show (3 * (fi 31 - (x4_28 + 1)) + c55 + 2).toNat < (3 * (fi 31 - x4_28) + x5_27 + 2).toNat from by omega) (show inR c55 ∧ inR (x4_28 + 1) ∧ inR c65 ∧ inR c66 ∧ inR c67 ∧ inR c68 ∧ inR c69 ∧ inR c70 ∧ inR c71 ∧ inR c72 ∧ (∀ t, inR (c56 t)) ∧ (∀ t, inR (c57 t)) ∧ (∀ t, inR (c58 t)) ∧ (∀ t, inR (c59 t)) ∧ (∀ t, inR (c60 t)) ∧ (∀ t, inR (c61 t)) ∧ (∀ t, inR (c62 t)) ∧ (∀ t, inR (c63 t)) ∧ (∀ t, inR (c64 t)) ∧ (0 ≤ (x4_28 + 1) ∧ (x4_28 + 1) ≤ fi 31 ∧ (c55 = -2 ∨ c55 = 0 ∨ c55 = 1)) from ⟨(by omega), (by omega), (by omega), (by omega), (by omega), (by omega), (by omega), (by omega), (by omega), (by omega), rc56, rc57, rc58, rc59, rc60, rc61, rc62, rc63, rc64, (by omega)⟩) _ _ _ hP hD hS hl
    · refine lv_aload_n hx hb dX10_enough_14 rfl (lv_at hl 0 rfl) ?_
      refine lv_iconst (v := Int32.ofInt 1) hx hb dX10_enough_15 (by decide +kernel) ?_
      refine cr_i (va_runV (As := [.int (Int32.ofInt (1))]) (rest := []) ⟨hx, hb, hml, hown, hts⟩ (mX10_fail l G k ar (uF fi 2 (0)) fa fl 1 H.size (iF hR (by omega)) hRa (by omega)) (cwV 1 hts (gz [.methodLink RX10 315 yX10_fail, .instanceMethod yX10_fail, .selects RX10 yX10_fail yX10_fail, .initialized RX10] (.code yX10_fail cX10_fail 2 (some .int)) [(16, 17), (16, 18), (16, 19), (0, 5), (16, 20)] rfl) rfl rfl rfl (by decide +kernel) ⟨Nat.le_of_ble_eq_true rfl, Nat.le_of_ble_eq_true rfl⟩) (cr_preV (EZ_ok k) hZ hS hX hP hD hA (ci := 7) (q0 := 0) rfl rfl) rfl rfl hl.1 rfl (lv_room (Nat.le_of_ble_eq_true rfl)) dX10_enough_16 ⟨Nat.le_of_ble_eq_true rfl, Nat.le_of_ble_eq_true rfl⟩) hD hS hA (fun r u H locs hp hP hD hS => ?_)
      obtain ⟨c75, c76⟩ := u
      obtain ⟨hP, hD⟩ : va_P G vwCl (wM k ar (uF fi 2 (c76)) fa fl) H ∧ va_D A (wM k ar (uF fi 2 (c76)) fa fl) := ⟨hP, hD⟩
      obtain ⟨h9, rc75, rc76, hp76⟩ : r = Int32.ofInt c75 ∧ (inR c75) ∧ (inR c76) ∧ (c75 = 0 ∧ c76 = 1) := hp
      subst h9
      exact W.iret (v := Int32.ofInt (c75)) hx hb hr (fun t ht hW => ⟨⟨Int32.ofInt (c75), (c75, fa 39, fa 40, fa 46, fa 47, fa 48, fa 49, fa 53, fa 54, fa 57, c76, fi 41, fi 42, fi 43, fi 50, fi 51, fi 52, fi 55, fi 56, fl), rfl, ⟨rfl, (show (inR c75) ∧ (∀ t, inR ((fa 39) t)) ∧ (∀ t, inR ((fa 40) t)) ∧ (∀ t, inR ((fa 46) t)) ∧ (∀ t, inR ((fa 47) t)) ∧ (∀ t, inR ((fa 48) t)) ∧ (∀ t, inR ((fa 49) t)) ∧ (∀ t, inR ((fa 53) t)) ∧ (∀ t, inR ((fa 54) t)) ∧ (∀ t, inR ((fa 57) t)) ∧ (inR c76) ∧ (inR (fi 41)) ∧ (inR (fi 42)) ∧ (inR (fi 43)) ∧ (inR (fi 50)) ∧ (inR (fi 51)) ∧ (inR (fi 52)) ∧ (inR (fi 55)) ∧ (inR (fi 56)) ∧ (True) from ⟨(by omega), (hRa 39), (hRa 40), (hRa 46), (hRa 47), (hRa 48), (hRa 49), (hRa 53), (hRa 54), (hRa 57), (by omega), (hR 41), (hR 42), (hR 43), (hR 50), (hR 51), (hR 52), (hR 55), (hR 56), trivial⟩)⟩, by rw [ht]; exact hP, hD⟩, hS.F ht⟩) hS.2.2 dX10_enough_19

set_option maxHeartbeats 4000000 in
set_option maxRecDepth 100000 in
theorem mX10_be_63_32 (l : Launch) (G : va_G) (k : Nat → ClassId) (ar : Nat → Nat) (fi : Nat → Int) (fa : Nat → Int → Int) (fl : Nat → Int64) (sz : Nat) (hR : ∀ j, inR (fi j)) (hRa : ∀ j t, inR (fa j t)) : CNv l G k (EZ k) yX10_be wzX10_be ({ frames := 0, cells := 0, slots := 0, locals := 0 }) [.ref (ar 63), .ref (ar 32)] sz (wM k ar fi fa fl) (fun (u : (Int → Int)) => (∀ t, inR (u t)) ∧ (∀ t, 0 ≤ t → t < 7 → u t = fa 32 t)) (fun (u : (Int → Int)) => (wM k ar fi (uF fa 63 (u)) fl)) := by
  refine Met.ofW (cc := cX10_be) (maxL := 3) (ret := none) (by decide) rfl ?_
  intro p e s m args below meth c s₁ B hml hv
  obtain ⟨rfl, hsz, hP, hX, hD0, hZ0⟩ := hv
  have hx := B.exec
  have hb := B.bytes
  have hr := B.returns
  have hts := atoms_spec (ws := wzX10_be) B.pre
  have hown : s.vm.findClass RX10 = some m.cls := findClass_of_methodNamed B.named
  subst hsz
  have hD := hD0.self (sz := s.heap.size)
  have hZ := hZ0
  generalize hAe : va_A (wM k ar fi fa fl) s.heap.size = A at hD hZ ⊢
  have hA : ∀ q : Nat, s.heap.size ≤ q → A q := fun q h => by rw [← hAe]; exact Or.inr h
  have hS : va_S A s.heap s.heap [] := va_S.rf
  have hl := lv_entry ([.ref (ar 63), .ref (ar 32)]) (n := 3) (Nat.le_of_ble_eq_true rfl)
  rw [lg_entry_eq]
  generalize (lg_sl ([.ref (ar 63), .ref (ar 32)]) ++ List.replicate (3 - (lg_sl ([.ref (ar 63), .ref (ar 32)])).length) Slot.unset).toArray = ls at hl ⊢
  have hl : lv_has ls 3 [(0, .ref (ar 63)), (1, .ref (ar 32))] := hl
  obtain ⟨H, eH⟩ : ∃ H, H = s.heap := ⟨_, rfl⟩
  rw [← eH] at hP
  have hS : va_S A s.heap H [] := by rw [eH]; exact hS
  have gW : s.heap = H := eH.symm
  refine iv_heap gW ?_
  refine lv_iconst (v := Int32.ofInt 0) hx hb dX10_be_0 (by decide +kernel) ?_
  refine lv_istore_n (lv' := [(2, .int (Int32.ofInt (0))), (0, .ref (ar 63)), (1, .ref (ar 32))]) hx hb dX10_be_1 rfl hl (by decide) rfl (fun ls hl => ?_)
  refine iv_loop (α := Int × (Int → Int)) (nL := 3) (fun b9 => (wM k ar fi (uF fa 63 (b9.2)) fl)) (fun b9 => [(2, .int (Int32.ofInt (b9.1))), (0, .ref (ar 63)), (1, .ref (ar 32))]) (fun b9 => (7 - b9.1).toNat) (fun b9 => inR b9.1 ∧ (∀ t, inR (b9.2 t)) ∧ (0 ≤ b9.1 ∧ b9.1 ≤ 7 ∧ ∀ t, 0 ≤ t → t < b9.1 → b9.2 t = fa 32 t)) ?_ (0, fa 63) (show inR 0 ∧ (∀ t, inR ((fa 63) t)) ∧ (0 ≤ 0 ∧ 0 ≤ 7 ∧ ∀ t, 0 ≤ t → t < 0 → (fa 63) t = fa 32 t) from ⟨(by omega), (hRa 63), (by exact ⟨by omega, by omega, fun t h1 h2 => by omega⟩)⟩) hP hD hS hl
  rintro ⟨x2_1, g63_2⟩ ih hi9 H locs ls hP hD hS hl
  obtain ⟨r_x2_1, r_g63_2, hinv⟩ : inR x2_1 ∧ (∀ t, inR (g63_2 t)) ∧ (0 ≤ x2_1 ∧ x2_1 ≤ 7 ∧ ∀ t, 0 ≤ t → t < x2_1 → g63_2 t = fa 32 t) := hi9
  have hb9 := hinv.2.2
  obtain ⟨hP, hD⟩ : va_P G vwCl (wM k ar fi (uF fa 63 (g63_2)) fl) H ∧ va_D A (wM k ar fi (uF fa 63 (g63_2)) fl) := ⟨hP, hD⟩
  have hl : lv_has ls 3 [(2, .int (Int32.ofInt (x2_1))), (0, .ref (ar 63)), (1, .ref (ar 32))] := hl
  refine lv_iload_n hx hb dX10_be_2 rfl (lv_at hl 0 rfl) ?_
  refine lv_aload_n hx hb dX10_be_3 rfl (lv_at hl 1 rfl) ?_
  refine va_alen (v := Int32.ofInt 7) hx hb hX.1 hP 29 0 rfl rfl (show Int32.ofNat 7 = Int32.ofInt 7 from by decide) dX10_be_4 ?_
  refine iv_icmp_ge (tgt := 20) hx hb (by omega) (by omega) dX10_be_5 (by decide) (fun q3 => ?_) (fun q3 => ?_)
  · exact W.vret hx hb hr (fun t ht hW => ⟨⟨(g63_2), rfl, (show (∀ t, inR (g63_2 t)) ∧ (∀ t, 0 ≤ t → t < 7 → g63_2 t = fa 32 t) from ⟨r_g63_2, (by exact fun t h1 h2 => hb9 t h1 (by omega))⟩), by rw [ht]; exact hP, hD⟩, hS.F ht⟩) hS.2.2 dX10_be_20
  · refine lv_aload_n hx hb dX10_be_8 rfl (lv_at hl 1 rfl) ?_
    refine lv_iload_n hx hb dX10_be_9 rfl (lv_at hl 0 rfl) ?_
    refine lv_aload_n hx hb dX10_be_10 rfl (lv_at hl 2 rfl) ?_
    refine lv_iload_n hx hb dX10_be_11 rfl (lv_at hl 0 rfl) ?_
    refine iv_iald hx hb hX.1 hP 11 0 rfl rfl (by omega) (by omega) (by decide) dX10_be_12 ?_
    refine iv_top (fun z4 ez4 => ?_)
    have rz4 : inR z4 := ez4 ▸ (hRa 32) _
    have ez4 : z4 = (fa 32) x2_1 := ez4
    refine iv_iast hx hb hX.1 hP hD hS 29 0 rfl rfl (wM_A63 _ _ _ _ _) (by omega) (by omega) (by decide) dX10_be_13 (fun H locs hP hD hS => ?_)
    obtain ⟨hP, hD⟩ : va_P G vwCl (wM k ar fi (uF fa 63 (uA (g63_2) (x2_1) (z4))) fl) H ∧ va_D A (wM k ar fi (uF fa 63 (uA (g63_2) (x2_1) (z4))) fl) := ⟨hP, hD⟩
    obtain ⟨g5, eg5, rg5⟩ : ∃ z, z = uA (g63_2) (x2_1) (z4) ∧ ∀ t, inR (z t) := ⟨_, rfl, iU r_g63_2 (by omega)⟩
    rw [← eg5] at hP hD
    refine lv_iinc (v := Int32.ofInt (x2_1 + 1)) (lv' := [(2, .int (Int32.ofInt ((x2_1 + 1)))), (0, .ref (ar 63)), (1, .ref (ar 32))]) hx hb dX10_be_14 hl (k := 0) rfl (Int32.ofInt_add _ _).symm (by decide) rfl (fun ls hl => ?_)
    refine lv_goto (tgt := 2) hx hb dX10_be_17 (by decide) ?_
    have hl : lv_has ls 3 [(2, .int (Int32.ofInt ((x2_1 + 1)))), (0, .ref (ar 63)), (1, .ref (ar 32))] := lv_sub hl [0, 1, 2] rfl
    exact ih ((x2_1 + 1), g5) (show (7 - (x2_1 + 1)).toNat < (7 - x2_1).toNat from by omega) (show inR (x2_1 + 1) ∧ (∀ t, inR (g5 t)) ∧ (0 ≤ (x2_1 + 1) ∧ (x2_1 + 1) ≤ 7 ∧ ∀ t, 0 ≤ t → t < (x2_1 + 1) → g5 t = fa 32 t) from ⟨(by omega), rg5, (by exact ⟨by omega, by omega, be_step hb9 (by assumption) eg5⟩)⟩) _ _ _ hP hD hS hl

set_option maxHeartbeats 4000000 in
set_option maxRecDepth 100000 in
theorem mX10_be_64_33 (l : Launch) (G : va_G) (k : Nat → ClassId) (ar : Nat → Nat) (fi : Nat → Int) (fa : Nat → Int → Int) (fl : Nat → Int64) (sz : Nat) (hR : ∀ j, inR (fi j)) (hRa : ∀ j t, inR (fa j t)) : CNv l G k (EZ k) yX10_be wzX10_be ({ frames := 0, cells := 0, slots := 0, locals := 0 }) [.ref (ar 64), .ref (ar 33)] sz (wM k ar fi fa fl) (fun (u : (Int → Int)) => (∀ t, inR (u t)) ∧ (∀ t, 0 ≤ t → t < 6 → u t = fa 33 t)) (fun (u : (Int → Int)) => (wM k ar fi (uF fa 64 (u)) fl)) := by
  refine Met.ofW (cc := cX10_be) (maxL := 3) (ret := none) (by decide) rfl ?_
  intro p e s m args below meth c s₁ B hml hv
  obtain ⟨rfl, hsz, hP, hX, hD0, hZ0⟩ := hv
  have hx := B.exec
  have hb := B.bytes
  have hr := B.returns
  have hts := atoms_spec (ws := wzX10_be) B.pre
  have hown : s.vm.findClass RX10 = some m.cls := findClass_of_methodNamed B.named
  subst hsz
  have hD := hD0.self (sz := s.heap.size)
  have hZ := hZ0
  generalize hAe : va_A (wM k ar fi fa fl) s.heap.size = A at hD hZ ⊢
  have hA : ∀ q : Nat, s.heap.size ≤ q → A q := fun q h => by rw [← hAe]; exact Or.inr h
  have hS : va_S A s.heap s.heap [] := va_S.rf
  have hl := lv_entry ([.ref (ar 64), .ref (ar 33)]) (n := 3) (Nat.le_of_ble_eq_true rfl)
  rw [lg_entry_eq]
  generalize (lg_sl ([.ref (ar 64), .ref (ar 33)]) ++ List.replicate (3 - (lg_sl ([.ref (ar 64), .ref (ar 33)])).length) Slot.unset).toArray = ls at hl ⊢
  have hl : lv_has ls 3 [(0, .ref (ar 64)), (1, .ref (ar 33))] := hl
  obtain ⟨H, eH⟩ : ∃ H, H = s.heap := ⟨_, rfl⟩
  rw [← eH] at hP
  have hS : va_S A s.heap H [] := by rw [eH]; exact hS
  have gW : s.heap = H := eH.symm
  refine iv_heap gW ?_
  refine lv_iconst (v := Int32.ofInt 0) hx hb dX10_be_0 (by decide +kernel) ?_
  refine lv_istore_n (lv' := [(2, .int (Int32.ofInt (0))), (0, .ref (ar 64)), (1, .ref (ar 33))]) hx hb dX10_be_1 rfl hl (by decide) rfl (fun ls hl => ?_)
  refine iv_loop (α := Int × (Int → Int)) (nL := 3) (fun b9 => (wM k ar fi (uF fa 64 (b9.2)) fl)) (fun b9 => [(2, .int (Int32.ofInt (b9.1))), (0, .ref (ar 64)), (1, .ref (ar 33))]) (fun b9 => (6 - b9.1).toNat) (fun b9 => inR b9.1 ∧ (∀ t, inR (b9.2 t)) ∧ (0 ≤ b9.1 ∧ b9.1 ≤ 6 ∧ ∀ t, 0 ≤ t → t < b9.1 → b9.2 t = fa 33 t)) ?_ (0, fa 64) (show inR 0 ∧ (∀ t, inR ((fa 64) t)) ∧ (0 ≤ 0 ∧ 0 ≤ 6 ∧ ∀ t, 0 ≤ t → t < 0 → (fa 64) t = fa 33 t) from ⟨(by omega), (hRa 64), (by exact ⟨by omega, by omega, fun t h1 h2 => by omega⟩)⟩) hP hD hS hl
  rintro ⟨x2_1, g64_2⟩ ih hi9 H locs ls hP hD hS hl
  obtain ⟨r_x2_1, r_g64_2, hinv⟩ : inR x2_1 ∧ (∀ t, inR (g64_2 t)) ∧ (0 ≤ x2_1 ∧ x2_1 ≤ 6 ∧ ∀ t, 0 ≤ t → t < x2_1 → g64_2 t = fa 33 t) := hi9
  have hb9 := hinv.2.2
  obtain ⟨hP, hD⟩ : va_P G vwCl (wM k ar fi (uF fa 64 (g64_2)) fl) H ∧ va_D A (wM k ar fi (uF fa 64 (g64_2)) fl) := ⟨hP, hD⟩
  have hl : lv_has ls 3 [(2, .int (Int32.ofInt (x2_1))), (0, .ref (ar 64)), (1, .ref (ar 33))] := hl
  refine lv_iload_n hx hb dX10_be_2 rfl (lv_at hl 0 rfl) ?_
  refine lv_aload_n hx hb dX10_be_3 rfl (lv_at hl 1 rfl) ?_
  refine va_alen (v := Int32.ofInt 6) hx hb hX.1 hP 30 0 rfl rfl (show Int32.ofNat 6 = Int32.ofInt 6 from by decide) dX10_be_4 ?_
  refine iv_icmp_ge (tgt := 20) hx hb (by omega) (by omega) dX10_be_5 (by decide) (fun q3 => ?_) (fun q3 => ?_)
  · exact W.vret hx hb hr (fun t ht hW => ⟨⟨(g64_2), rfl, (show (∀ t, inR (g64_2 t)) ∧ (∀ t, 0 ≤ t → t < 6 → g64_2 t = fa 33 t) from ⟨r_g64_2, (by exact fun t h1 h2 => hb9 t h1 (by omega))⟩), by rw [ht]; exact hP, hD⟩, hS.F ht⟩) hS.2.2 dX10_be_20
  · refine lv_aload_n hx hb dX10_be_8 rfl (lv_at hl 1 rfl) ?_
    refine lv_iload_n hx hb dX10_be_9 rfl (lv_at hl 0 rfl) ?_
    refine lv_aload_n hx hb dX10_be_10 rfl (lv_at hl 2 rfl) ?_
    refine lv_iload_n hx hb dX10_be_11 rfl (lv_at hl 0 rfl) ?_
    refine iv_iald hx hb hX.1 hP 12 0 rfl rfl (by omega) (by omega) (by decide) dX10_be_12 ?_
    refine iv_top (fun z4 ez4 => ?_)
    have rz4 : inR z4 := ez4 ▸ (hRa 33) _
    have ez4 : z4 = (fa 33) x2_1 := ez4
    refine iv_iast hx hb hX.1 hP hD hS 30 0 rfl rfl (wM_A64 _ _ _ _ _) (by omega) (by omega) (by decide) dX10_be_13 (fun H locs hP hD hS => ?_)
    obtain ⟨hP, hD⟩ : va_P G vwCl (wM k ar fi (uF fa 64 (uA (g64_2) (x2_1) (z4))) fl) H ∧ va_D A (wM k ar fi (uF fa 64 (uA (g64_2) (x2_1) (z4))) fl) := ⟨hP, hD⟩
    obtain ⟨g5, eg5, rg5⟩ : ∃ z, z = uA (g64_2) (x2_1) (z4) ∧ ∀ t, inR (z t) := ⟨_, rfl, iU r_g64_2 (by omega)⟩
    rw [← eg5] at hP hD
    refine lv_iinc (v := Int32.ofInt (x2_1 + 1)) (lv' := [(2, .int (Int32.ofInt ((x2_1 + 1)))), (0, .ref (ar 64)), (1, .ref (ar 33))]) hx hb dX10_be_14 hl (k := 0) rfl (Int32.ofInt_add _ _).symm (by decide) rfl (fun ls hl => ?_)
    refine lv_goto (tgt := 2) hx hb dX10_be_17 (by decide) ?_
    have hl : lv_has ls 3 [(2, .int (Int32.ofInt ((x2_1 + 1)))), (0, .ref (ar 64)), (1, .ref (ar 33))] := lv_sub hl [0, 1, 2] rfl
    exact ih ((x2_1 + 1), g5) (show (6 - (x2_1 + 1)).toNat < (6 - x2_1).toNat from by omega) (show inR (x2_1 + 1) ∧ (∀ t, inR (g5 t)) ∧ (0 ≤ (x2_1 + 1) ∧ (x2_1 + 1) ≤ 6 ∧ ∀ t, 0 ≤ t → t < (x2_1 + 1) → g5 t = fa 33 t) from ⟨(by omega), rg5, (by exact ⟨by omega, by omega, be_step hb9 (by assumption) eg5⟩)⟩) _ _ _ hP hD hS hl

set_option maxHeartbeats 4000000 in
set_option maxRecDepth 100000 in
theorem mX10_be_65_34 (l : Launch) (G : va_G) (k : Nat → ClassId) (ar : Nat → Nat) (fi : Nat → Int) (fa : Nat → Int → Int) (fl : Nat → Int64) (sz : Nat) (hR : ∀ j, inR (fi j)) (hRa : ∀ j t, inR (fa j t)) : CNv l G k (EZ k) yX10_be wzX10_be ({ frames := 0, cells := 0, slots := 0, locals := 0 }) [.ref (ar 65), .ref (ar 34)] sz (wM k ar fi fa fl) (fun (u : (Int → Int)) => (∀ t, inR (u t)) ∧ (∀ t, 0 ≤ t → t < 60 → u t = fa 34 t)) (fun (u : (Int → Int)) => (wM k ar fi (uF fa 65 (u)) fl)) := by
  refine Met.ofW (cc := cX10_be) (maxL := 3) (ret := none) (by decide) rfl ?_
  intro p e s m args below meth c s₁ B hml hv
  obtain ⟨rfl, hsz, hP, hX, hD0, hZ0⟩ := hv
  have hx := B.exec
  have hb := B.bytes
  have hr := B.returns
  have hts := atoms_spec (ws := wzX10_be) B.pre
  have hown : s.vm.findClass RX10 = some m.cls := findClass_of_methodNamed B.named
  subst hsz
  have hD := hD0.self (sz := s.heap.size)
  have hZ := hZ0
  generalize hAe : va_A (wM k ar fi fa fl) s.heap.size = A at hD hZ ⊢
  have hA : ∀ q : Nat, s.heap.size ≤ q → A q := fun q h => by rw [← hAe]; exact Or.inr h
  have hS : va_S A s.heap s.heap [] := va_S.rf
  have hl := lv_entry ([.ref (ar 65), .ref (ar 34)]) (n := 3) (Nat.le_of_ble_eq_true rfl)
  rw [lg_entry_eq]
  generalize (lg_sl ([.ref (ar 65), .ref (ar 34)]) ++ List.replicate (3 - (lg_sl ([.ref (ar 65), .ref (ar 34)])).length) Slot.unset).toArray = ls at hl ⊢
  have hl : lv_has ls 3 [(0, .ref (ar 65)), (1, .ref (ar 34))] := hl
  obtain ⟨H, eH⟩ : ∃ H, H = s.heap := ⟨_, rfl⟩
  rw [← eH] at hP
  have hS : va_S A s.heap H [] := by rw [eH]; exact hS
  have gW : s.heap = H := eH.symm
  refine iv_heap gW ?_
  refine lv_iconst (v := Int32.ofInt 0) hx hb dX10_be_0 (by decide +kernel) ?_
  refine lv_istore_n (lv' := [(2, .int (Int32.ofInt (0))), (0, .ref (ar 65)), (1, .ref (ar 34))]) hx hb dX10_be_1 rfl hl (by decide) rfl (fun ls hl => ?_)
  refine iv_loop (α := Int × (Int → Int)) (nL := 3) (fun b9 => (wM k ar fi (uF fa 65 (b9.2)) fl)) (fun b9 => [(2, .int (Int32.ofInt (b9.1))), (0, .ref (ar 65)), (1, .ref (ar 34))]) (fun b9 => (60 - b9.1).toNat) (fun b9 => inR b9.1 ∧ (∀ t, inR (b9.2 t)) ∧ (0 ≤ b9.1 ∧ b9.1 ≤ 60 ∧ ∀ t, 0 ≤ t → t < b9.1 → b9.2 t = fa 34 t)) ?_ (0, fa 65) (show inR 0 ∧ (∀ t, inR ((fa 65) t)) ∧ (0 ≤ 0 ∧ 0 ≤ 60 ∧ ∀ t, 0 ≤ t → t < 0 → (fa 65) t = fa 34 t) from ⟨(by omega), (hRa 65), (by exact ⟨by omega, by omega, fun t h1 h2 => by omega⟩)⟩) hP hD hS hl
  rintro ⟨x2_1, g65_2⟩ ih hi9 H locs ls hP hD hS hl
  obtain ⟨r_x2_1, r_g65_2, hinv⟩ : inR x2_1 ∧ (∀ t, inR (g65_2 t)) ∧ (0 ≤ x2_1 ∧ x2_1 ≤ 60 ∧ ∀ t, 0 ≤ t → t < x2_1 → g65_2 t = fa 34 t) := hi9
  have hb9 := hinv.2.2
  obtain ⟨hP, hD⟩ : va_P G vwCl (wM k ar fi (uF fa 65 (g65_2)) fl) H ∧ va_D A (wM k ar fi (uF fa 65 (g65_2)) fl) := ⟨hP, hD⟩
  have hl : lv_has ls 3 [(2, .int (Int32.ofInt (x2_1))), (0, .ref (ar 65)), (1, .ref (ar 34))] := hl
  refine lv_iload_n hx hb dX10_be_2 rfl (lv_at hl 0 rfl) ?_
  refine lv_aload_n hx hb dX10_be_3 rfl (lv_at hl 1 rfl) ?_
  refine va_alen (v := Int32.ofInt 60) hx hb hX.1 hP 31 0 rfl rfl (show Int32.ofNat 60 = Int32.ofInt 60 from by decide) dX10_be_4 ?_
  refine iv_icmp_ge (tgt := 20) hx hb (by omega) (by omega) dX10_be_5 (by decide) (fun q3 => ?_) (fun q3 => ?_)
  · exact W.vret hx hb hr (fun t ht hW => ⟨⟨(g65_2), rfl, (show (∀ t, inR (g65_2 t)) ∧ (∀ t, 0 ≤ t → t < 60 → g65_2 t = fa 34 t) from ⟨r_g65_2, (by exact fun t h1 h2 => hb9 t h1 (by omega))⟩), by rw [ht]; exact hP, hD⟩, hS.F ht⟩) hS.2.2 dX10_be_20
  · refine lv_aload_n hx hb dX10_be_8 rfl (lv_at hl 1 rfl) ?_
    refine lv_iload_n hx hb dX10_be_9 rfl (lv_at hl 0 rfl) ?_
    refine lv_aload_n hx hb dX10_be_10 rfl (lv_at hl 2 rfl) ?_
    refine lv_iload_n hx hb dX10_be_11 rfl (lv_at hl 0 rfl) ?_
    refine iv_iald hx hb hX.1 hP 13 0 rfl rfl (by omega) (by omega) (by decide) dX10_be_12 ?_
    refine iv_top (fun z4 ez4 => ?_)
    have rz4 : inR z4 := ez4 ▸ (hRa 34) _
    have ez4 : z4 = (fa 34) x2_1 := ez4
    refine iv_iast hx hb hX.1 hP hD hS 31 0 rfl rfl (wM_A65 _ _ _ _ _) (by omega) (by omega) (by decide) dX10_be_13 (fun H locs hP hD hS => ?_)
    obtain ⟨hP, hD⟩ : va_P G vwCl (wM k ar fi (uF fa 65 (uA (g65_2) (x2_1) (z4))) fl) H ∧ va_D A (wM k ar fi (uF fa 65 (uA (g65_2) (x2_1) (z4))) fl) := ⟨hP, hD⟩
    obtain ⟨g5, eg5, rg5⟩ : ∃ z, z = uA (g65_2) (x2_1) (z4) ∧ ∀ t, inR (z t) := ⟨_, rfl, iU r_g65_2 (by omega)⟩
    rw [← eg5] at hP hD
    refine lv_iinc (v := Int32.ofInt (x2_1 + 1)) (lv' := [(2, .int (Int32.ofInt ((x2_1 + 1)))), (0, .ref (ar 65)), (1, .ref (ar 34))]) hx hb dX10_be_14 hl (k := 0) rfl (Int32.ofInt_add _ _).symm (by decide) rfl (fun ls hl => ?_)
    refine lv_goto (tgt := 2) hx hb dX10_be_17 (by decide) ?_
    have hl : lv_has ls 3 [(2, .int (Int32.ofInt ((x2_1 + 1)))), (0, .ref (ar 65)), (1, .ref (ar 34))] := lv_sub hl [0, 1, 2] rfl
    exact ih ((x2_1 + 1), g5) (show (60 - (x2_1 + 1)).toNat < (60 - x2_1).toNat from by omega) (show inR (x2_1 + 1) ∧ (∀ t, inR (g5 t)) ∧ (0 ≤ (x2_1 + 1) ∧ (x2_1 + 1) ≤ 60 ∧ ∀ t, 0 ≤ t → t < (x2_1 + 1) → g5 t = fa 34 t) from ⟨(by omega), rg5, (by exact ⟨by omega, by omega, be_step hb9 (by assumption) eg5⟩)⟩) _ _ _ hP hD hS hl

