set_option maxHeartbeats 4000000 in
set_option maxRecDepth 100000 in
theorem mX10_bars (l : Launch) (G : va_G) (k : Nat → ClassId) (ar : Nat → Nat) (fi : Nat → Int) (fa : Nat → Int → Int) (fl : Nat → Int64) (t0 : Int) (d0 : Int) (sz : Nat) (hR : ∀ j, inR (fi j)) (hRa : ∀ j t, inR (fa j t)) (hr_t0 : inR t0) (hr_d0 : inR d0) (hth : 0 ≤ fi 12 ∧ fi 12 ≤ 7) (hru : 0 ≤ fi 13 ∧ fi 13 ≤ 4) (hRW : ∀ q9, 0 ≤ q9 → q9 < fi 13 → RWf (fa 10) (fa 8 q9) (fa 9 q9)) (hdp : 0 ≤ fa 3 0 ∧ fa 3 0 ≤ 11) : CNi l G k (EZ k) yX10_bars wzX10_bars ({ frames := 15, cells := 0, slots := 0, locals := 373 }) [.ref (ar 71), .int (Int32.ofInt (t0)), .int (Int32.ofInt (d0))] sz (wM k ar fi fa fl) (fun (r0 : Int32) (u : Int × (Int → Int) × (Int → Int) × (Int → Int) × (Int → Int) × (Int → Int) × (Int → Int) × (Int → Int) × (Int → Int) × (Int → Int) × Int × Int × Int × Int × Int × Int × Int × Int × Int × (Nat → Int64)) => r0 = Int32.ofInt (u.1) ∧ (inR u.1) ∧ (∀ t, inR (u.2.1 t)) ∧ (∀ t, inR (u.2.2.1 t)) ∧ (∀ t, inR (u.2.2.2.1 t)) ∧ (∀ t, inR (u.2.2.2.2.1 t)) ∧ (∀ t, inR (u.2.2.2.2.2.1 t)) ∧ (∀ t, inR (u.2.2.2.2.2.2.1 t)) ∧ (∀ t, inR (u.2.2.2.2.2.2.2.1 t)) ∧ (∀ t, inR (u.2.2.2.2.2.2.2.2.1 t)) ∧ (∀ t, inR (u.2.2.2.2.2.2.2.2.2.1 t)) ∧ (inR u.2.2.2.2.2.2.2.2.2.2.1) ∧ (inR u.2.2.2.2.2.2.2.2.2.2.2.1) ∧ (inR u.2.2.2.2.2.2.2.2.2.2.2.2.1) ∧ (inR u.2.2.2.2.2.2.2.2.2.2.2.2.2.1) ∧ (inR u.2.2.2.2.2.2.2.2.2.2.2.2.2.2.1) ∧ (inR u.2.2.2.2.2.2.2.2.2.2.2.2.2.2.2.1) ∧ (inR u.2.2.2.2.2.2.2.2.2.2.2.2.2.2.2.2.1) ∧ (inR u.2.2.2.2.2.2.2.2.2.2.2.2.2.2.2.2.2.1) ∧ (inR u.2.2.2.2.2.2.2.2.2.2.2.2.2.2.2.2.2.2.1) ∧ (True)) (fun (u : Int × (Int → Int) × (Int → Int) × (Int → Int) × (Int → Int) × (Int → Int) × (Int → Int) × (Int → Int) × (Int → Int) × (Int → Int) × Int × Int × Int × Int × Int × Int × Int × Int × Int × (Nat → Int64)) => (wM k ar (uF (uF (uF (uF (uF (uF (uF (uF (uF fi 2 (u.2.2.2.2.2.2.2.2.2.2.1)) 41 (u.2.2.2.2.2.2.2.2.2.2.2.1)) 42 (u.2.2.2.2.2.2.2.2.2.2.2.2.1)) 43 (u.2.2.2.2.2.2.2.2.2.2.2.2.2.1)) 50 (u.2.2.2.2.2.2.2.2.2.2.2.2.2.2.1)) 51 (u.2.2.2.2.2.2.2.2.2.2.2.2.2.2.2.1)) 52 (u.2.2.2.2.2.2.2.2.2.2.2.2.2.2.2.2.1)) 55 (u.2.2.2.2.2.2.2.2.2.2.2.2.2.2.2.2.2.1)) 56 (u.2.2.2.2.2.2.2.2.2.2.2.2.2.2.2.2.2.2.1)) (uF (uF (uF (uF (uF (uF (uF (uF (uF fa 39 (u.2.1)) 40 (u.2.2.1)) 46 (u.2.2.2.1)) 47 (u.2.2.2.2.1)) 48 (u.2.2.2.2.2.1)) 49 (u.2.2.2.2.2.2.1)) 53 (u.2.2.2.2.2.2.2.1)) 54 (u.2.2.2.2.2.2.2.2.1)) 57 (u.2.2.2.2.2.2.2.2.2.1)) u.2.2.2.2.2.2.2.2.2.2.2.2.2.2.2.2.2.2.2)) := by
  refine Met.ofW (cc := cX10_bars) (maxL := 6) (ret := (some .int)) (by decide) rfl ?_
  intro p e s m args below meth c s₁ B hml hv
  obtain ⟨rfl, hsz, hP, hX, hD0, hZ0⟩ := hv
  have hx := B.exec
  have hb := B.bytes
  have hr := B.returns
  have hts := atoms_spec (ws := wzX10_bars) B.pre
  have hown : s.vm.findClass RX10 = some m.cls := findClass_of_methodNamed B.named
  subst hsz
  have hD := hD0.self (sz := s.heap.size)
  have hZ := hZ0
  generalize hAe : va_A (wM k ar fi fa fl) s.heap.size = A at hD hZ ⊢
  have hA : ∀ q : Nat, s.heap.size ≤ q → A q := fun q h => by rw [← hAe]; exact Or.inr h
  have hS : va_S A s.heap s.heap [] := va_S.rf
  have hl := lv_entry ([.ref (ar 71), .int (Int32.ofInt (t0)), .int (Int32.ofInt (d0))]) (n := 6) (Nat.le_of_ble_eq_true rfl)
  rw [lg_entry_eq]
  generalize (lg_sl ([.ref (ar 71), .int (Int32.ofInt (t0)), .int (Int32.ofInt (d0))]) ++ List.replicate (6 - (lg_sl ([.ref (ar 71), .int (Int32.ofInt (t0)), .int (Int32.ofInt (d0))])).length) Slot.unset).toArray = ls at hl ⊢
  have hl : lv_has ls 6 [(0, .ref (ar 71)), (1, .int (Int32.ofInt (t0))), (2, .int (Int32.ofInt (d0)))] := hl
  obtain ⟨H, eH⟩ : ∃ H, H = s.heap := ⟨_, rfl⟩
  rw [← eH] at hP
  have hS : va_S A s.heap H [] := by rw [eH]; exact hS
  have gW : s.heap = H := eH.symm
  refine iv_heap gW ?_
  have h0w := hts (.fieldLink RX10 171 "RopeTownModel" "code" "I") (wz_at 8 12 rfl)
  have h1w : ∀ w ∈ wsX100, w ∈ wzX10_bars := fun w h => List.mem_cons_of_mem _ (inlX10 w h)
  have h2w := hts (.fieldLink RX10 174 "RopeTownModel" "things" "I") (wz_at 21 11 rfl)
  refine lv_aload_n hx hb dX10_bars_0 rfl (lv_at hl 0 rfl) ?_
  refine lv_iconst (v := Int32.ofInt 0) hx hb dX10_bars_1 (by decide +kernel) ?_
  refine iv_put (ci := 7) (v := .int (Int32.ofInt (0))) (ty := .int) (C := RX10) (T := TX10) (N := 71) (ref := RX10) hx hb hts h1w tyX10 tyX10_ok nmX10 hown hX.1 hP hD hS 0 rfl rfl 2 (by decide) h0w (fun _ h9 => h9) rfl (by decide +kernel) rfl rfl (Nat.le_of_ble_eq_true rfl) (wM_F2 _ _ _ _ _) dX10_bars_2 (fun H locs hP hD hS => ?_)
  refine lv_aload_n hx hb dX10_bars_5 rfl (lv_at hl 0 rfl) ?_
  refine lv_iload_n hx hb dX10_bars_6 rfl (lv_at hl 1 rfl) ?_
  refine cr_i (va_runV (As := [.int (Int32.ofInt (t0))]) (rest := []) ⟨hx, hb, hml, hown, hts⟩ (mX10_isThing l G k ar (uF fi 2 (0)) fa fl t0 H.size (iF hR (by omega)) hRa (by omega) (show 0 ≤ (fi 12) ∧ (fi 12) ≤ 7 from by omega)) (cwV 1 hts (gz [.methodLink RX10 349 yX10_isThing, .instanceMethod yX10_isThing, .selects RX10 yX10_isThing yX10_isThing, .initialized RX10] (.code yX10_isThing cX10_isThing 2 (some .boolean)) [(24, 3), (24, 4), (24, 5), (0, 5), (24, 6)] rfl) rfl rfl rfl (by decide +kernel) ⟨Nat.le_of_ble_eq_true rfl, Nat.le_of_ble_eq_true rfl⟩) (cr_preV (EZ_ok k) hZ hS hX hP hD hA (ci := 7) (q0 := 0) rfl rfl) rfl rfl hl.1 rfl (lv_room (Nat.le_of_ble_eq_true rfl)) dX10_bars_7 ⟨Nat.le_of_ble_eq_true rfl, Nat.le_of_ble_eq_true rfl⟩) hD hS hA (fun r u H locs hp hP hD hS => ?_)
  obtain ⟨c1, rfl⟩ : ∃ z, z = u := ⟨_, rfl⟩
  obtain ⟨h9, rc1, hp1⟩ : r = Int32.ofInt c1 ∧ (inR c1) ∧ ((c1 = 1 ∧ 0 ≤ t0 ∧ t0 < (fi 12)) ∨ (c1 = 0 ∧ (t0 < 0 ∨ (fi 12) ≤ t0))) := hp
  subst h9
  refine iv_if_eq (tgt := 25) hx hb (by omega) dX10_bars_10 (by decide) (fun q2 => ?_) (fun q2 => ?_)
  · refine lv_aload_n hx hb dX10_bars_25 rfl (lv_at hl 0 rfl) ?_
    refine lv_iconst (v := Int32.ofInt 1) hx hb dX10_bars_26 (by decide +kernel) ?_
    refine cr_i (va_runV (As := [.int (Int32.ofInt (1))]) (rest := []) ⟨hx, hb, hml, hown, hts⟩ (mX10_fail l G k ar (uF fi 2 (0)) fa fl 1 H.size (iF hR (by omega)) hRa (by omega)) (cwV 1 hts (gz [.methodLink RX10 315 yX10_fail, .instanceMethod yX10_fail, .selects RX10 yX10_fail yX10_fail, .initialized RX10] (.code yX10_fail cX10_fail 2 (some .int)) [(16, 17), (16, 18), (16, 19), (0, 5), (16, 20)] rfl) rfl rfl rfl (by decide +kernel) ⟨Nat.le_of_ble_eq_true rfl, Nat.le_of_ble_eq_true rfl⟩) (cr_preV (EZ_ok k) hZ hS hX hP hD hA (ci := 7) (q0 := 0) rfl rfl) rfl rfl hl.1 rfl (lv_room (Nat.le_of_ble_eq_true rfl)) dX10_bars_27 ⟨Nat.le_of_ble_eq_true rfl, Nat.le_of_ble_eq_true rfl⟩) hD hS hA (fun r u H locs hp hP hD hS => ?_)
    obtain ⟨c3, c4⟩ := u
    obtain ⟨hP, hD⟩ : va_P G vwCl (wM k ar (uF fi 2 (c4)) fa fl) H ∧ va_D A (wM k ar (uF fi 2 (c4)) fa fl) := ⟨hP, hD⟩
    obtain ⟨h9, rc3, rc4, hp4⟩ : r = Int32.ofInt c3 ∧ (inR c3) ∧ (inR c4) ∧ (c3 = 0 ∧ c4 = 1) := hp
    subst h9
    exact W.iret (v := Int32.ofInt (c3)) hx hb hr (fun t ht hW => ⟨⟨Int32.ofInt (c3), (c3, fa 39, fa 40, fa 46, fa 47, fa 48, fa 49, fa 53, fa 54, fa 57, c4, fi 41, fi 42, fi 43, fi 50, fi 51, fi 52, fi 55, fi 56, fl), rfl, ⟨rfl, (show (inR c3) ∧ (∀ t, inR ((fa 39) t)) ∧ (∀ t, inR ((fa 40) t)) ∧ (∀ t, inR ((fa 46) t)) ∧ (∀ t, inR ((fa 47) t)) ∧ (∀ t, inR ((fa 48) t)) ∧ (∀ t, inR ((fa 49) t)) ∧ (∀ t, inR ((fa 53) t)) ∧ (∀ t, inR ((fa 54) t)) ∧ (∀ t, inR ((fa 57) t)) ∧ (inR c4) ∧ (inR (fi 41)) ∧ (inR (fi 42)) ∧ (inR (fi 43)) ∧ (inR (fi 50)) ∧ (inR (fi 51)) ∧ (inR (fi 52)) ∧ (inR (fi 55)) ∧ (inR (fi 56)) ∧ (True) from ⟨(by omega), (hRa 39), (hRa 40), (hRa 46), (hRa 47), (hRa 48), (hRa 49), (hRa 53), (hRa 54), (hRa 57), (by omega), (hR 41), (hR 42), (hR 43), (hR 50), (hR 51), (hR 52), (hR 55), (hR 56), trivial⟩)⟩, by rw [ht]; exact hP, hD⟩, hS.F ht⟩) hS.2.2 dX10_bars_30
  · refine lv_iload_n hx hb dX10_bars_13 rfl (lv_at hl 2 rfl) ?_
    refine lv_iconst (v := Int32.ofInt 0) hx hb dX10_bars_14 (by decide +kernel) ?_
    refine lv_aload_n hx hb dX10_bars_15 rfl (lv_at hl 0 rfl) ?_
    refine cr_i (va_runV (As := []) (rest := [.int (Int32.ofInt (0)), .int (Int32.ofInt (d0))]) ⟨hx, hb, hml, hown, hts⟩ (mX10_depths l G k ar (uF fi 2 (0)) fa fl H.size (iF hR (by omega)) hRa) (cwV 0 hts (gz [.methodLink RX10 346 yX10_depths, .instanceMethod yX10_depths, .selects RX10 yX10_depths yX10_depths, .initialized RX10] (.code yX10_depths cX10_depths 1 (some .int)) [(24, 11), (24, 12), (24, 13), (0, 5), (24, 14)] rfl) rfl rfl rfl (by decide +kernel) ⟨Nat.le_of_ble_eq_true rfl, Nat.le_of_ble_eq_true rfl⟩) (cr_preV (EZ_ok k) hZ hS hX hP hD hA (ci := 7) (q0 := 0) rfl rfl) rfl rfl hl.1 rfl (lv_room (Nat.le_of_ble_eq_true rfl)) dX10_bars_16 ⟨Nat.le_of_ble_eq_true rfl, Nat.le_of_ble_eq_true rfl⟩) hD hS hA (fun r u H locs hp hP hD hS => ?_)
    obtain ⟨c5, rfl⟩ : ∃ z, z = u := ⟨_, rfl⟩
    obtain ⟨h9, rc5, hp5⟩ : r = Int32.ofInt c5 ∧ (inR c5) ∧ (c5 = (fa 3) 0) := hp
    subst h9
    refine c0_i (va_runS (As := [.int (Int32.ofInt (d0)), .int (Int32.ofInt (0)), .int (Int32.ofInt (c5))]) (rest := []) ⟨hx, hb, hml, hown, hts⟩ (mX10_isIn l G k d0 0 c5 H.size (by omega) (by omega) (by omega)) (cwS 3 hts (gz [.methodLink RX10 177 yX10_isIn, .static yX10_isIn, .initialized RX10] (.code yX10_isIn cX10_isIn 3 (some .boolean)) [(18, 16), (18, 17), (0, 5), (18, 18)] rfl) rfl rfl rfl (by decide +kernel) ⟨Nat.le_of_ble_eq_true rfl, Nat.le_of_ble_eq_true rfl⟩) (cr_pre0 (EZ_ok k) hZ hS hX hP hD hA) rfl rfl hl.1 rfl (lv_room (Nat.le_of_ble_eq_true rfl)) dX10_bars_19 ⟨Nat.le_of_ble_eq_true rfl, Nat.le_of_ble_eq_true rfl⟩) hP hD hS hA (fun r u H locs hp hP hD hS => ?_)
    obtain ⟨c6, rfl⟩ : ∃ z, z = u := ⟨_, rfl⟩
    obtain ⟨h9, rc6, hp6⟩ : r = Int32.ofInt c6 ∧ (inR c6) ∧ ((c6 = 1 ∧ 0 ≤ d0 ∧ d0 ≤ c5) ∨ (c6 = 0 ∧ (d0 < 0 ∨ c5 < d0))) := hp
    subst h9
    refine iv_if_ne (tgt := 31) hx hb (by omega) dX10_bars_22 (by decide) (fun q7 => ?_) (fun q7 => ?_)
    · refine lv_iconst (v := Int32.ofInt 0) hx hb dX10_bars_31 (by decide +kernel) ?_
      refine lv_istore_n (lv' := [(3, .int (Int32.ofInt (0))), (0, .ref (ar 71)), (1, .int (Int32.ofInt (t0))), (2, .int (Int32.ofInt (d0)))]) hx hb dX10_bars_32 rfl hl (by decide) rfl (fun ls hl => ?_)
      refine iv_loop (α := Int × Int × Int × Int × Int × Int × Int × Int × Int × (Int → Int) × (Int → Int) × (Int → Int) × (Int → Int) × (Int → Int) × (Int → Int) × (Int → Int) × (Int → Int) × (Int → Int) × (Nat → Int64)) (nL := 6) (fun b9 => (wM k ar (uF (uF (uF (uF (uF (uF (uF (uF (uF fi 2 (0)) 41 (b9.2.1)) 42 (b9.2.2.1)) 43 (b9.2.2.2.1)) 50 (b9.2.2.2.2.1)) 51 (b9.2.2.2.2.2.1)) 52 (b9.2.2.2.2.2.2.1)) 55 (b9.2.2.2.2.2.2.2.1)) 56 (b9.2.2.2.2.2.2.2.2.1)) (uF (uF (uF (uF (uF (uF (uF (uF (uF fa 39 (b9.2.2.2.2.2.2.2.2.2.1)) 40 (b9.2.2.2.2.2.2.2.2.2.2.1)) 46 (b9.2.2.2.2.2.2.2.2.2.2.2.1)) 47 (b9.2.2.2.2.2.2.2.2.2.2.2.2.1)) 48 (b9.2.2.2.2.2.2.2.2.2.2.2.2.2.1)) 49 (b9.2.2.2.2.2.2.2.2.2.2.2.2.2.2.1)) 53 (b9.2.2.2.2.2.2.2.2.2.2.2.2.2.2.2.1)) 54 (b9.2.2.2.2.2.2.2.2.2.2.2.2.2.2.2.2.1)) 57 (b9.2.2.2.2.2.2.2.2.2.2.2.2.2.2.2.2.2.1)) b9.2.2.2.2.2.2.2.2.2.2.2.2.2.2.2.2.2.2)) (fun b9 => [(3, .int (Int32.ofInt (b9.1))), (0, .ref (ar 71)), (1, .int (Int32.ofInt (t0))), (2, .int (Int32.ofInt (d0)))]) (fun b9 => (fi 12 - b9.1).toNat) (fun b9 => inR b9.1 ∧ inR b9.2.1 ∧ inR b9.2.2.1 ∧ inR b9.2.2.2.1 ∧ inR b9.2.2.2.2.1 ∧ inR b9.2.2.2.2.2.1 ∧ inR b9.2.2.2.2.2.2.1 ∧ inR b9.2.2.2.2.2.2.2.1 ∧ inR b9.2.2.2.2.2.2.2.2.1 ∧ (∀ t, inR (b9.2.2.2.2.2.2.2.2.2.1 t)) ∧ (∀ t, inR (b9.2.2.2.2.2.2.2.2.2.2.1 t)) ∧ (∀ t, inR (b9.2.2.2.2.2.2.2.2.2.2.2.1 t)) ∧ (∀ t, inR (b9.2.2.2.2.2.2.2.2.2.2.2.2.1 t)) ∧ (∀ t, inR (b9.2.2.2.2.2.2.2.2.2.2.2.2.2.1 t)) ∧ (∀ t, inR (b9.2.2.2.2.2.2.2.2.2.2.2.2.2.2.1 t)) ∧ (∀ t, inR (b9.2.2.2.2.2.2.2.2.2.2.2.2.2.2.2.1 t)) ∧ (∀ t, inR (b9.2.2.2.2.2.2.2.2.2.2.2.2.2.2.2.2.1 t)) ∧ (∀ t, inR (b9.2.2.2.2.2.2.2.2.2.2.2.2.2.2.2.2.2.1 t)) ∧ (0 ≤ b9.1 ∧ b9.1 ≤ 7)) ?_ (0, fi 41, fi 42, fi 43, fi 50, fi 51, fi 52, fi 55, fi 56, fa 39, fa 40, fa 46, fa 47, fa 48, fa 49, fa 53, fa 54, fa 57, fl) (show inR 0 ∧ inR (fi 41) ∧ inR (fi 42) ∧ inR (fi 43) ∧ inR (fi 50) ∧ inR (fi 51) ∧ inR (fi 52) ∧ inR (fi 55) ∧ inR (fi 56) ∧ (∀ t, inR ((fa 39) t)) ∧ (∀ t, inR ((fa 40) t)) ∧ (∀ t, inR ((fa 46) t)) ∧ (∀ t, inR ((fa 47) t)) ∧ (∀ t, inR ((fa 48) t)) ∧ (∀ t, inR ((fa 49) t)) ∧ (∀ t, inR ((fa 53) t)) ∧ (∀ t, inR ((fa 54) t)) ∧ (∀ t, inR ((fa 57) t)) ∧ (0 ≤ 0 ∧ 0 ≤ 7) from ⟨(by omega), (hR 41), (hR 42), (hR 43), (hR 50), (hR 51), (hR 52), (hR 55), (hR 56), (hRa 39), (hRa 40), (hRa 46), (hRa 47), (hRa 48), (hRa 49), (hRa 53), (hRa 54), (hRa 57), (by omega)⟩) hP hD hS hl
      rintro ⟨x3_8, n41_9, n42_10, n43_11, n50_12, n51_13, n52_14, n55_15, n56_16, g39_17, g40_18, g46_19, g47_20, g48_21, g49_22, g53_23, g54_24, g57_25, gl_26⟩ ih hi9 H locs ls hP hD hS hl
      obtain ⟨r_x3_8, r_n41_9, r_n42_10, r_n43_11, r_n50_12, r_n51_13, r_n52_14, r_n55_15, r_n56_16, r_g39_17, r_g40_18, r_g46_19, r_g47_20, r_g48_21, r_g49_22, r_g53_23, r_g54_24, r_g57_25, hinv⟩ : inR x3_8 ∧ inR n41_9 ∧ inR n42_10 ∧ inR n43_11 ∧ inR n50_12 ∧ inR n51_13 ∧ inR n52_14 ∧ inR n55_15 ∧ inR n56_16 ∧ (∀ t, inR (g39_17 t)) ∧ (∀ t, inR (g40_18 t)) ∧ (∀ t, inR (g46_19 t)) ∧ (∀ t, inR (g47_20 t)) ∧ (∀ t, inR (g48_21 t)) ∧ (∀ t, inR (g49_22 t)) ∧ (∀ t, inR (g53_23 t)) ∧ (∀ t, inR (g54_24 t)) ∧ (∀ t, inR (g57_25 t)) ∧ (0 ≤ x3_8 ∧ x3_8 ≤ 7) := hi9
      obtain ⟨hP, hD⟩ : va_P G vwCl (wM k ar (uF (uF (uF (uF (uF (uF (uF (uF (uF fi 2 (0)) 41 (n41_9)) 42 (n42_10)) 43 (n43_11)) 50 (n50_12)) 51 (n51_13)) 52 (n52_14)) 55 (n55_15)) 56 (n56_16)) (uF (uF (uF (uF (uF (uF (uF (uF (uF fa 39 (g39_17)) 40 (g40_18)) 46 (g46_19)) 47 (g47_20)) 48 (g48_21)) 49 (g49_22)) 53 (g53_23)) 54 (g54_24)) 57 (g57_25)) gl_26) H ∧ va_D A (wM k ar (uF (uF (uF (uF (uF (uF (uF (uF (uF fi 2 (0)) 41 (n41_9)) 42 (n42_10)) 43 (n43_11)) 50 (n50_12)) 51 (n51_13)) 52 (n52_14)) 55 (n55_15)) 56 (n56_16)) (uF (uF (uF (uF (uF (uF (uF (uF (uF fa 39 (g39_17)) 40 (g40_18)) 46 (g46_19)) 47 (g47_20)) 48 (g48_21)) 49 (g49_22)) 53 (g53_23)) 54 (g54_24)) 57 (g57_25)) gl_26) := ⟨hP, hD⟩
      have hl : lv_has ls 6 [(3, .int (Int32.ofInt (x3_8))), (0, .ref (ar 71)), (1, .int (Int32.ofInt (t0))), (2, .int (Int32.ofInt (d0)))] := hl
      have hsh := shl1 (n := fi 12) (by omega) (by omega)
      refine lv_iload_n hx hb dX10_bars_33 rfl (lv_at hl 0 rfl) ?_
      refine lv_aload_n hx hb dX10_bars_34 rfl (lv_at hl 1 rfl) ?_
      refine va_get (D := G) (ci := 7) (v := .int (Int32.ofInt (fi 12))) (C := RX10) (T := TX10) (N := 71) (ref := RX10) hx hb hts h1w hown hX.1 hP 0 rfl rfl 12 (by decide) h2w (fun _ h9 => h9) rfl dX10_bars_35 ?_
      have rf12 := hR 12
      refine iv_icmp_ge (tgt := 120) hx hb (by omega) (by omega) dX10_bars_38 (by decide) (fun q27 => ?_) (fun q27 => ?_)
      · refine lv_iconst (v := Int32.ofInt (-1)) hx hb dX10_bars_120 (by decide +kernel) ?_
        exact W.iret (v := Int32.ofInt ((-1))) hx hb hr (fun t ht hW => ⟨⟨Int32.ofInt ((-1)), ((-1), g39_17, g40_18, g46_19, g47_20, g48_21, g49_22, g53_23, g54_24, g57_25, 0, n41_9, n42_10, n43_11, n50_12, n51_13, n52_14, n55_15, n56_16, gl_26), rfl, ⟨rfl, (show (inR (-1)) ∧ (∀ t, inR (g39_17 t)) ∧ (∀ t, inR (g40_18 t)) ∧ (∀ t, inR (g46_19 t)) ∧ (∀ t, inR (g47_20 t)) ∧ (∀ t, inR (g48_21 t)) ∧ (∀ t, inR (g49_22 t)) ∧ (∀ t, inR (g53_23 t)) ∧ (∀ t, inR (g54_24 t)) ∧ (∀ t, inR (g57_25 t)) ∧ (inR 0) ∧ (inR n41_9) ∧ (inR n42_10) ∧ (inR n43_11) ∧ (inR n50_12) ∧ (inR n51_13) ∧ (inR n52_14) ∧ (inR n55_15) ∧ (inR n56_16) ∧ (True) from ⟨(by omega), r_g39_17, r_g40_18, r_g46_19, r_g47_20, r_g48_21, r_g49_22, r_g53_23, r_g54_24, r_g57_25, (by omega), (by omega), (by omega), (by omega), (by omega), (by omega), (by omega), (by omega), (by omega), trivial⟩)⟩, by rw [ht]; exact hP, hD⟩, hS.F ht⟩) hS.2.2 dX10_bars_121
      · refine lv_iconst (v := Int32.ofInt 0) hx hb dX10_bars_41 (by decide +kernel) ?_
        refine lv_istore (lv' := [(4, .int (Int32.ofInt (0))), (3, .int (Int32.ofInt (x3_8))), (0, .ref (ar 71)), (1, .int (Int32.ofInt (t0))), (2, .int (Int32.ofInt (d0)))]) hx hb dX10_bars_42 hl (by decide) rfl (fun ls hl => ?_)
        refine iv_loop (α := Int × Int × Int × Int × Int × Int × Int × Int × Int × (Int → Int) × (Int → Int) × (Int → Int) × (Int → Int) × (Int → Int) × (Int → Int) × (Int → Int) × (Int → Int) × (Int → Int) × (Nat → Int64)) (nL := 6) (fun b9 => (wM k ar (uF (uF (uF (uF (uF (uF (uF (uF (uF fi 2 (0)) 41 (b9.2.1)) 42 (b9.2.2.1)) 43 (b9.2.2.2.1)) 50 (b9.2.2.2.2.1)) 51 (b9.2.2.2.2.2.1)) 52 (b9.2.2.2.2.2.2.1)) 55 (b9.2.2.2.2.2.2.2.1)) 56 (b9.2.2.2.2.2.2.2.2.1)) (uF (uF (uF (uF (uF (uF (uF (uF (uF fa 39 (b9.2.2.2.2.2.2.2.2.2.1)) 40 (b9.2.2.2.2.2.2.2.2.2.2.1)) 46 (b9.2.2.2.2.2.2.2.2.2.2.2.1)) 47 (b9.2.2.2.2.2.2.2.2.2.2.2.2.1)) 48 (b9.2.2.2.2.2.2.2.2.2.2.2.2.2.1)) 49 (b9.2.2.2.2.2.2.2.2.2.2.2.2.2.2.1)) 53 (b9.2.2.2.2.2.2.2.2.2.2.2.2.2.2.2.1)) 54 (b9.2.2.2.2.2.2.2.2.2.2.2.2.2.2.2.2.1)) 57 (b9.2.2.2.2.2.2.2.2.2.2.2.2.2.2.2.2.2.1)) b9.2.2.2.2.2.2.2.2.2.2.2.2.2.2.2.2.2.2)) (fun b9 => [(4, .int (Int32.ofInt (b9.1))), (3, .int (Int32.ofInt (x3_8))), (0, .ref (ar 71)), (1, .int (Int32.ofInt (t0))), (2, .int (Int32.ofInt (d0)))]) (fun b9 => (bShl 1 (fi 12) - b9.1).toNat) (fun b9 => inR b9.1 ∧ inR b9.2.1 ∧ inR b9.2.2.1 ∧ inR b9.2.2.2.1 ∧ inR b9.2.2.2.2.1 ∧ inR b9.2.2.2.2.2.1 ∧ inR b9.2.2.2.2.2.2.1 ∧ inR b9.2.2.2.2.2.2.2.1 ∧ inR b9.2.2.2.2.2.2.2.2.1 ∧ (∀ t, inR (b9.2.2.2.2.2.2.2.2.2.1 t)) ∧ (∀ t, inR (b9.2.2.2.2.2.2.2.2.2.2.1 t)) ∧ (∀ t, inR (b9.2.2.2.2.2.2.2.2.2.2.2.1 t)) ∧ (∀ t, inR (b9.2.2.2.2.2.2.2.2.2.2.2.2.1 t)) ∧ (∀ t, inR (b9.2.2.2.2.2.2.2.2.2.2.2.2.2.1 t)) ∧ (∀ t, inR (b9.2.2.2.2.2.2.2.2.2.2.2.2.2.2.1 t)) ∧ (∀ t, inR (b9.2.2.2.2.2.2.2.2.2.2.2.2.2.2.2.1 t)) ∧ (∀ t, inR (b9.2.2.2.2.2.2.2.2.2.2.2.2.2.2.2.2.1 t)) ∧ (∀ t, inR (b9.2.2.2.2.2.2.2.2.2.2.2.2.2.2.2.2.2.1 t)) ∧ (0 ≤ b9.1 ∧ b9.1 ≤ 128)) ?_ (0, n41_9, n42_10, n43_11, n50_12, n51_13, n52_14, n55_15, n56_16, g39_17, g40_18, g46_19, g47_20, g48_21, g49_22, g53_23, g54_24, g57_25, gl_26) (show inR 0 ∧ inR n41_9 ∧ inR n42_10 ∧ inR n43_11 ∧ inR n50_12 ∧ inR n51_13 ∧ inR n52_14 ∧ inR n55_15 ∧ inR n56_16 ∧ (∀ t, inR (g39_17 t)) ∧ (∀ t, inR (g40_18 t)) ∧ (∀ t, inR (g46_19 t)) ∧ (∀ t, inR (g47_20 t)) ∧ (∀ t, inR (g48_21 t)) ∧ (∀ t, inR (g49_22 t)) ∧ (∀ t, inR (g53_23 t)) ∧ (∀ t, inR (g54_24 t)) ∧ (∀ t, inR (g57_25 t)) ∧ (0 ≤ 0 ∧ 0 ≤ 128) from ⟨(by omega), (by omega), (by omega), (by omega), (by omega), (by omega), (by omega), (by omega), (by omega), r_g39_17, r_g40_18, r_g46_19, r_g47_20, r_g48_21, r_g49_22, r_g53_23, r_g54_24, r_g57_25, (by omega)⟩) hP hD hS hl
        rintro ⟨x4_28, n41_29, n42_30, n43_31, n50_32, n51_33, n52_34, n55_35, n56_36, g39_37, g40_38, g46_39, g47_40, g48_41, g49_42, g53_43, g54_44, g57_45, gl_46⟩ ih44 hi9 H locs ls hP hD hS hl
        obtain ⟨r_x4_28, r_n41_29, r_n42_30, r_n43_31, r_n50_32, r_n51_33, r_n52_34, r_n55_35, r_n56_36, r_g39_37, r_g40_38, r_g46_39, r_g47_40, r_g48_41, r_g49_42, r_g53_43, r_g54_44, r_g57_45, hinv⟩ : inR x4_28 ∧ inR n41_29 ∧ inR n42_30 ∧ inR n43_31 ∧ inR n50_32 ∧ inR n51_33 ∧ inR n52_34 ∧ inR n55_35 ∧ inR n56_36 ∧ (∀ t, inR (g39_37 t)) ∧ (∀ t, inR (g40_38 t)) ∧ (∀ t, inR (g46_39 t)) ∧ (∀ t, inR (g47_40 t)) ∧ (∀ t, inR (g48_41 t)) ∧ (∀ t, inR (g49_42 t)) ∧ (∀ t, inR (g53_43 t)) ∧ (∀ t, inR (g54_44 t)) ∧ (∀ t, inR (g57_45 t)) ∧ (0 ≤ x4_28 ∧ x4_28 ≤ 128) := hi9
        obtain ⟨hP, hD⟩ : va_P G vwCl (wM k ar (uF (uF (uF (uF (uF (uF (uF (uF (uF fi 2 (0)) 41 (n41_29)) 42 (n42_30)) 43 (n43_31)) 50 (n50_32)) 51 (n51_33)) 52 (n52_34)) 55 (n55_35)) 56 (n56_36)) (uF (uF (uF (uF (uF (uF (uF (uF (uF fa 39 (g39_37)) 40 (g40_38)) 46 (g46_39)) 47 (g47_40)) 48 (g48_41)) 49 (g49_42)) 53 (g53_43)) 54 (g54_44)) 57 (g57_45)) gl_46) H ∧ va_D A (wM k ar (uF (uF (uF (uF (uF (uF (uF (uF (uF fi 2 (0)) 41 (n41_29)) 42 (n42_30)) 43 (n43_31)) 50 (n50_32)) 51 (n51_33)) 52 (n52_34)) 55 (n55_35)) 56 (n56_36)) (uF (uF (uF (uF (uF (uF (uF (uF (uF fa 39 (g39_37)) 40 (g40_38)) 46 (g46_39)) 47 (g47_40)) 48 (g48_41)) 49 (g49_42)) 53 (g53_43)) 54 (g54_44)) 57 (g57_45)) gl_46) := ⟨hP, hD⟩
        have hl : lv_has ls 6 [(4, .int (Int32.ofInt (x4_28))), (3, .int (Int32.ofInt (x3_8))), (0, .ref (ar 71)), (1, .int (Int32.ofInt (t0))), (2, .int (Int32.ofInt (d0)))] := hl
        refine lv_iload hx hb dX10_bars_44 (lv_at hl 0 rfl) ?_
        refine lv_iconst (v := Int32.ofInt 1) hx hb dX10_bars_46 (by decide +kernel) ?_
        refine lv_aload_n hx hb dX10_bars_47 rfl (lv_at hl 2 rfl) ?_
        refine va_get (D := G) (ci := 7) (v := .int (Int32.ofInt (fi 12))) (C := RX10) (T := TX10) (N := 71) (ref := RX10) hx hb hts h1w hown hX.1 hP 0 rfl rfl 12 (by decide) h2w (fun _ h9 => h9) rfl dX10_bars_48 ?_
        have rf12 := hR 12
        refine iv_shl hx hb dX10_bars_51 ?_
        refine iv_top (fun z47 ez47 => ?_)
        have rz47 : inR z47 := ez47 ▸ bShl_r _ _
        refine iv_icmp_ge (tgt := 114) hx hb (by omega) (by omega) dX10_bars_52 (by decide) (fun q48 => ?_) (fun q48 => ?_)
        · refine lv_iinc (v := Int32.ofInt (x3_8 + 1)) (lv' := [(3, .int (Int32.ofInt ((x3_8 + 1)))), (4, .int (Int32.ofInt (x4_28))), (0, .ref (ar 71)), (1, .int (Int32.ofInt (t0))), (2, .int (Int32.ofInt (d0)))]) hx hb dX10_bars_114 hl (k := 1) rfl (Int32.ofInt_add _ _).symm (by decide) rfl (fun ls hl => ?_)
          refine lv_goto (tgt := 33) hx hb dX10_bars_117 (by decide) ?_
          have hl : lv_has ls 6 [(3, .int (Int32.ofInt ((x3_8 + 1)))), (0, .ref (ar 71)), (1, .int (Int32.ofInt (t0))), (2, .int (Int32.ofInt (d0)))] := lv_sub hl [0, 2, 3, 4] rfl
          exact ih ((x3_8 + 1), n41_29, n42_30, n43_31, n50_32, n51_33, n52_34, n55_35, n56_36, g39_37, g40_38, g46_39, g47_40, g48_41, g49_42, g53_43, g54_44, g57_45, gl_46) (show (fi 12 - (x3_8 + 1)).toNat < (fi 12 - x3_8).toNat from by omega) (show inR (x3_8 + 1) ∧ inR n41_29 ∧ inR n42_30 ∧ inR n43_31 ∧ inR n50_32 ∧ inR n51_33 ∧ inR n52_34 ∧ inR n55_35 ∧ inR n56_36 ∧ (∀ t, inR (g39_37 t)) ∧ (∀ t, inR (g40_38 t)) ∧ (∀ t, inR (g46_39 t)) ∧ (∀ t, inR (g47_40 t)) ∧ (∀ t, inR (g48_41 t)) ∧ (∀ t, inR (g49_42 t)) ∧ (∀ t, inR (g53_43 t)) ∧ (∀ t, inR (g54_44 t)) ∧ (∀ t, inR (g57_45 t)) ∧ (0 ≤ (x3_8 + 1) ∧ (x3_8 + 1) ≤ 7) from ⟨(by omega), (by omega), (by omega), (by omega), (by omega), (by omega), (by omega), (by omega), (by omega), r_g39_37, r_g40_38, r_g46_39, r_g47_40, r_g48_41, r_g49_42, r_g53_43, r_g54_44, r_g57_45, (by omega)⟩) _ _ _ hP hD hS hl
        · refine lv_iload hx hb dX10_bars_55 (lv_at hl 0 rfl) ?_
          refine c0_i (va_runS (As := [.int (Int32.ofInt (x4_28))]) (rest := []) ⟨hx, hb, hml, hown, hts⟩ (mX10_bitsOf l G k x4_28 H.size (by omega) (show 0 ≤ x4_28 ∧ x4_28 ≤ 127 from by omega)) (cwS 1 hts (gz [.methodLink RX10 482 yX10_bitsOf, .static yX10_bitsOf, .initialized RX10] (.code yX10_bitsOf cX10_bitsOf 3 (some .int)) [(39, 11), (39, 12), (0, 5), (39, 13)] rfl) rfl rfl rfl (by decide +kernel) ⟨Nat.le_of_ble_eq_true rfl, Nat.le_of_ble_eq_true rfl⟩) (cr_pre0 (EZ_ok k) hZ hS hX hP hD hA) rfl rfl hl.1 rfl (lv_room (Nat.le_of_ble_eq_true rfl)) dX10_bars_57 ⟨Nat.le_of_ble_eq_true rfl, Nat.le_of_ble_eq_true rfl⟩) hP hD hS hA (fun r u H locs hp hP hD hS => ?_)
          obtain ⟨c49, rfl⟩ : ∃ z, z = u := ⟨_, rfl⟩
          obtain ⟨h9, rc49, hp49⟩ : r = Int32.ofInt c49 ∧ (inR c49) ∧ (0 ≤ c49 ∧ c49 ≤ 127) := hp
          subst h9
          refine lv_iload_n hx hb dX10_bars_60 rfl (lv_at hl 1 rfl) ?_
          refine iv_icmp_ne (tgt := 108) hx hb (by omega) (by omega) dX10_bars_61 (by decide) (fun q50 => ?_) (fun q50 => ?_)
          · refine lv_iinc (v := Int32.ofInt (x4_28 + 1)) (lv' := [(4, .int (Int32.ofInt ((x4_28 + 1)))), (3, .int (Int32.ofInt (x3_8))), (0, .ref (ar 71)), (1, .int (Int32.ofInt (t0))), (2, .int (Int32.ofInt (d0)))]) hx hb dX10_bars_108 hl (k := 0) rfl (Int32.ofInt_add _ _).symm (by decide) rfl (fun ls hl => ?_)
            refine lv_goto (tgt := 44) hx hb dX10_bars_111 (by decide) ?_
            have hl : lv_has ls 6 [(4, .int (Int32.ofInt ((x4_28 + 1)))), (3, .int (Int32.ofInt (x3_8))), (0, .ref (ar 71)), (1, .int (Int32.ofInt (t0))), (2, .int (Int32.ofInt (d0)))] := lv_sub hl [0, 1, 2, 3, 4] rfl
            exact ih44 ((x4_28 + 1), n41_29, n42_30, n43_31, n50_32, n51_33, n52_34, n55_35, n56_36, g39_37, g40_38, g46_39, g47_40, g48_41, g49_42, g53_43, g54_44, g57_45, gl_46) (show (bShl 1 (fi 12) - (x4_28 + 1)).toNat < (bShl 1 (fi 12) - x4_28).toNat from by omega) (show inR (x4_28 + 1) ∧ inR n41_29 ∧ inR n42_30 ∧ inR n43_31 ∧ inR n50_32 ∧ inR n51_33 ∧ inR n52_34 ∧ inR n55_35 ∧ inR n56_36 ∧ (∀ t, inR (g39_37 t)) ∧ (∀ t, inR (g40_38 t)) ∧ (∀ t, inR (g46_39 t)) ∧ (∀ t, inR (g47_40 t)) ∧ (∀ t, inR (g48_41 t)) ∧ (∀ t, inR (g49_42 t)) ∧ (∀ t, inR (g53_43 t)) ∧ (∀ t, inR (g54_44 t)) ∧ (∀ t, inR (g57_45 t)) ∧ (0 ≤ (x4_28 + 1) ∧ (x4_28 + 1) ≤ 128) from ⟨(by omega), (by omega), (by omega), (by omega), (by omega), (by omega), (by omega), (by omega), (by omega), r_g39_37, r_g40_38, r_g46_39, r_g47_40, r_g48_41, r_g49_42, r_g53_43, r_g54_44, r_g57_45, (by omega)⟩) _ _ _ hP hD hS hl
          · refine lv_iload hx hb dX10_bars_64 (lv_at hl 0 rfl) ?_
            refine lv_iload_n hx hb dX10_bars_66 rfl (lv_at hl 3 rfl) ?_
            refine iv_shr hx hb dX10_bars_67 ?_
            refine iv_top (fun z51 ez51 => ?_)
            have rz51 : inR z51 := ez51 ▸ bShr_r _ _
            refine lv_iconst (v := Int32.ofInt 1) hx hb dX10_bars_68 (by decide +kernel) ?_
            refine iv_and hx hb dX10_bars_69 ?_
            refine iv_top (fun z52 ez52 => ?_)
            have rz52 : inR z52 := ez52 ▸ bAnd_r _ _
            refine lv_iconst (v := Int32.ofInt 1) hx hb dX10_bars_70 (by decide +kernel) ?_
            refine iv_icmp_ne (tgt := 77) hx hb (by omega) (by omega) dX10_bars_71 (by decide) (fun q53 => ?_) (fun q53 => ?_)
            · refine lv_aload_n hx hb dX10_bars_77 rfl (lv_at hl 2 rfl) ?_
              refine lv_iload_n hx hb dX10_bars_78 rfl (lv_at hl 3 rfl) ?_
              refine lv_iload hx hb dX10_bars_79 (lv_at hl 0 rfl) ?_
              refine cr_i (va_runV (As := [.int (Int32.ofInt (t0)), .int (Int32.ofInt (x4_28))]) (rest := []) ⟨hx, hb, hml, hown, hts⟩ (mX10_reachOf l G k ar (uF (uF (uF (uF (uF (uF (uF (uF (uF fi 2 (0)) 41 (n41_29)) 42 (n42_30)) 43 (n43_31)) 50 (n50_32)) 51 (n51_33)) 52 (n52_34)) 55 (n55_35)) 56 (n56_36)) (uF (uF (uF (uF (uF (uF (uF (uF (uF fa 39 (g39_37)) 40 (g40_38)) 46 (g46_39)) 47 (g47_40)) 48 (g48_41)) 49 (g49_42)) 53 (g53_43)) 54 (g54_44)) 57 (g57_45)) gl_46 t0 x4_28 H.size (iF (iF (iF (iF (iF (iF (iF (iF (iF hR (by omega)) (by omega)) (by omega)) (by omega)) (by omega)) (by omega)) (by omega)) (by omega)) (by omega)) (iG (iG (iG (iG (iG (iG (iG (iG (iG hRa r_g39_37) r_g40_38) r_g46_39) r_g47_40) r_g48_41) r_g49_42) r_g53_43) r_g54_44) r_g57_45) (by omega) (by omega) (show 0 ≤ (fi 12) ∧ (fi 12) ≤ 7 from by omega) (show 0 ≤ (fi 13) ∧ (fi 13) ≤ 4 from by omega) (show ∀ q9, 0 ≤ q9 → q9 < (fi 13) → RWf ((fa 10)) ((fa 8) q9) ((fa 9) q9) from by first | exact hRW | omega) (show 0 ≤ (fa 3) 0 ∧ (fa 3) 0 ≤ 11 from by omega) (show 0 ≤ t0 ∧ t0 < 7 from by omega)) (cwV 2 hts (gz [.methodLink RX10 479 yX10_reachOf, .instanceMethod yX10_reachOf, .selects RX10 yX10_reachOf yX10_reachOf, .initialized RX10] (.code yX10_reachOf cX10_reachOf 5 (some .int)) [(38, 0), (38, 1), (38, 2), (0, 5), (38, 3)] rfl) rfl rfl rfl (by decide +kernel) ⟨Nat.le_of_ble_eq_true rfl, Nat.le_of_ble_eq_true rfl⟩) (cr_preV (EZ_ok k) hZ hS hX hP hD hA (ci := 7) (q0 := 0) rfl rfl) rfl rfl hl.1 rfl (lv_room (Nat.le_of_ble_eq_true rfl)) dX10_bars_81 ⟨Nat.le_of_ble_eq_true rfl, Nat.le_of_ble_eq_true rfl⟩) hD hS hA (fun r u H locs hp hP hD hS => ?_)
              obtain ⟨c54, c55, c56, c57, c58, c59, c60, c61, c62, c63, c64, c65, c66, c67, c68, c69, c70, c71, c72⟩ := u
              obtain ⟨hP, hD⟩ : va_P G vwCl (wM k ar (uF (uF (uF (uF (uF (uF (uF (uF (uF fi 2 (0)) 41 (c64)) 42 (c65)) 43 (c66)) 50 (c67)) 51 (c68)) 52 (c69)) 55 (c70)) 56 (c71)) (uF (uF (uF (uF (uF (uF (uF (uF (uF fa 39 (c55)) 40 (c56)) 46 (c57)) 47 (c58)) 48 (c59)) 49 (c60)) 53 (c61)) 54 (c62)) 57 (c63)) c72) H ∧ va_D A (wM k ar (uF (uF (uF (uF (uF (uF (uF (uF (uF fi 2 (0)) 41 (c64)) 42 (c65)) 43 (c66)) 50 (c67)) 51 (c68)) 52 (c69)) 55 (c70)) 56 (c71)) (uF (uF (uF (uF (uF (uF (uF (uF (uF fa 39 (c55)) 40 (c56)) 46 (c57)) 47 (c58)) 48 (c59)) 49 (c60)) 53 (c61)) 54 (c62)) 57 (c63)) c72) := ⟨hP, hD⟩
              obtain ⟨h9, rc54, rc55, rc56, rc57, rc58, rc59, rc60, rc61, rc62, rc63, rc64, rc65, rc66, rc67, rc68, rc69, rc70, rc71, hp72⟩ : r = Int32.ofInt c54 ∧ (inR c54) ∧ (∀ t, inR (c55 t)) ∧ (∀ t, inR (c56 t)) ∧ (∀ t, inR (c57 t)) ∧ (∀ t, inR (c58 t)) ∧ (∀ t, inR (c59 t)) ∧ (∀ t, inR (c60 t)) ∧ (∀ t, inR (c61 t)) ∧ (∀ t, inR (c62 t)) ∧ (∀ t, inR (c63 t)) ∧ (inR c64) ∧ (inR c65) ∧ (inR c66) ∧ (inR c67) ∧ (inR c68) ∧ (inR c69) ∧ (inR c70) ∧ (inR c71) ∧ (True) := hp
              subst h9
              refine lv_istore (lv' := [(5, .int (Int32.ofInt (c54))), (4, .int (Int32.ofInt (x4_28))), (3, .int (Int32.ofInt (x3_8))), (0, .ref (ar 71)), (1, .int (Int32.ofInt (t0))), (2, .int (Int32.ofInt (d0)))]) hx hb dX10_bars_84 hl (by decide) rfl (fun ls hl => ?_)
              refine lv_iload hx hb dX10_bars_86 (lv_at hl 0 rfl) ?_
              refine lv_bipush (v := Int32.ofInt (-2)) hx hb dX10_bars_88 (by decide +kernel) ?_
              refine iv_icmp_ne (tgt := 96) hx hb (by omega) (by omega) dX10_bars_90 (by decide) (fun q73 => ?_) (fun q73 => ?_)
              · refine lv_iload hx hb dX10_bars_96 (lv_at hl 0 rfl) ?_
                refine lv_iload_n hx hb dX10_bars_98 rfl (lv_at hl 5 rfl) ?_
                refine iv_shr hx hb dX10_bars_99 ?_
                refine iv_top (fun z74 ez74 => ?_)
                have rz74 : inR z74 := ez74 ▸ bShr_r _ _
                refine lv_iconst (v := Int32.ofInt 1) hx hb dX10_bars_100 (by decide +kernel) ?_
                refine iv_and hx hb dX10_bars_101 ?_
                refine iv_top (fun z75 ez75 => ?_)
                have rz75 : inR z75 := ez75 ▸ bAnd_r _ _
                refine iv_if_ne (tgt := 108) hx hb (by omega) dX10_bars_102 (by decide) (fun q76 => ?_) (fun q76 => ?_)
                · refine lv_iinc (v := Int32.ofInt (x4_28 + 1)) (lv' := [(4, .int (Int32.ofInt ((x4_28 + 1)))), (5, .int (Int32.ofInt (c54))), (3, .int (Int32.ofInt (x3_8))), (0, .ref (ar 71)), (1, .int (Int32.ofInt (t0))), (2, .int (Int32.ofInt (d0)))]) hx hb dX10_bars_108 hl (k := 1) rfl (Int32.ofInt_add _ _).symm (by decide) rfl (fun ls hl => ?_)
                  refine lv_goto (tgt := 44) hx hb dX10_bars_111 (by decide) ?_
                  have hl : lv_has ls 6 [(4, .int (Int32.ofInt ((x4_28 + 1)))), (3, .int (Int32.ofInt (x3_8))), (0, .ref (ar 71)), (1, .int (Int32.ofInt (t0))), (2, .int (Int32.ofInt (d0)))] := lv_sub hl [0, 2, 3, 4, 5] rfl
                  exact ih44 ((x4_28 + 1), c64, c65, c66, c67, c68, c69, c70, c71, c55, c56, c57, c58, c59, c60, c61, c62, c63, c72) (show (bShl 1 (fi 12) - (x4_28 + 1)).toNat < (bShl 1 (fi 12) - x4_28).toNat from by omega) (show inR (x4_28 + 1) ∧ inR c64 ∧ inR c65 ∧ inR c66 ∧ inR c67 ∧ inR c68 ∧ inR c69 ∧ inR c70 ∧ inR c71 ∧ (∀ t, inR (c55 t)) ∧ (∀ t, inR (c56 t)) ∧ (∀ t, inR (c57 t)) ∧ (∀ t, inR (c58 t)) ∧ (∀ t, inR (c59 t)) ∧ (∀ t, inR (c60 t)) ∧ (∀ t, inR (c61 t)) ∧ (∀ t, inR (c62 t)) ∧ (∀ t, inR (c63 t)) ∧ (0 ≤ (x4_28 + 1) ∧ (x4_28 + 1) ≤ 128) from ⟨(by omega), (by omega), (by omega), (by omega), (by omega), (by omega), (by omega), (by omega), (by omega), rc55, rc56, rc57, rc58, rc59, rc60, rc61, rc62, rc63, (by omega)⟩) _ _ _ hP hD hS hl
                · refine lv_iload hx hb dX10_bars_105 (lv_at hl 1 rfl) ?_
                  exact W.iret (v := Int32.ofInt (x4_28)) hx hb hr (fun t ht hW => ⟨⟨Int32.ofInt (x4_28), (x4_28, c55, c56, c57, c58, c59, c60, c61, c62, c63, 0, c64, c65, c66, c67, c68, c69, c70, c71, c72), rfl, ⟨rfl, (show (inR x4_28) ∧ (∀ t, inR (c55 t)) ∧ (∀ t, inR (c56 t)) ∧ (∀ t, inR (c57 t)) ∧ (∀ t, inR (c58 t)) ∧ (∀ t, inR (c59 t)) ∧ (∀ t, inR (c60 t)) ∧ (∀ t, inR (c61 t)) ∧ (∀ t, inR (c62 t)) ∧ (∀ t, inR (c63 t)) ∧ (inR 0) ∧ (inR c64) ∧ (inR c65) ∧ (inR c66) ∧ (inR c67) ∧ (inR c68) ∧ (inR c69) ∧ (inR c70) ∧ (inR c71) ∧ (True) from ⟨(by omega), rc55, rc56, rc57, rc58, rc59, rc60, rc61, rc62, rc63, (by omega), (by omega), (by omega), (by omega), (by omega), (by omega), (by omega), (by omega), (by omega), trivial⟩)⟩, by rw [ht]; exact hP, hD⟩, hS.F ht⟩) hS.2.2 dX10_bars_107
              · refine lv_bipush (v := Int32.ofInt (-2)) hx hb dX10_bars_93 (by decide +kernel) ?_
                exact W.iret (v := Int32.ofInt ((-2))) hx hb hr (fun t ht hW => ⟨⟨Int32.ofInt ((-2)), ((-2), c55, c56, c57, c58, c59, c60, c61, c62, c63, 0, c64, c65, c66, c67, c68, c69, c70, c71, c72), rfl, ⟨rfl, (show (inR (-2)) ∧ (∀ t, inR (c55 t)) ∧ (∀ t, inR (c56 t)) ∧ (∀ t, inR (c57 t)) ∧ (∀ t, inR (c58 t)) ∧ (∀ t, inR (c59 t)) ∧ (∀ t, inR (c60 t)) ∧ (∀ t, inR (c61 t)) ∧ (∀ t, inR (c62 t)) ∧ (∀ t, inR (c63 t)) ∧ (inR 0) ∧ (inR c64) ∧ (inR c65) ∧ (inR c66) ∧ (inR c67) ∧ (inR c68) ∧ (inR c69) ∧ (inR c70) ∧ (inR c71) ∧ (True) from ⟨(by omega), rc55, rc56, rc57, rc58, rc59, rc60, rc61, rc62, rc63, (by omega), (by omega), (by omega), (by omega), (by omega), (by omega), (by omega), (by omega), (by omega), trivial⟩)⟩, by rw [ht]; exact hP, hD⟩, hS.F ht⟩) hS.2.2 dX10_bars_95
            · refine lv_goto (tgt := 108) hx hb dX10_bars_74 (by decide) ?_
              refine lv_iinc (v := Int32.ofInt (x4_28 + 1)) (lv' := [(4, .int (Int32.ofInt ((x4_28 + 1)))), (3, .int (Int32.ofInt (x3_8))), (0, .ref (ar 71)), (1, .int (Int32.ofInt (t0))), (2, .int (Int32.ofInt (d0)))]) hx hb dX10_bars_108 hl (k := 0) rfl (Int32.ofInt_add _ _).symm (by decide) rfl (fun ls hl => ?_)
              refine lv_goto (tgt := 44) hx hb dX10_bars_111 (by decide) ?_
              have hl : lv_has ls 6 [(4, .int (Int32.ofInt ((x4_28 + 1)))), (3, .int (Int32.ofInt (x3_8))), (0, .ref (ar 71)), (1, .int (Int32.ofInt (t0))), (2, .int (Int32.ofInt (d0)))] := lv_sub hl [0, 1, 2, 3, 4] rfl
              exact ih44 ((x4_28 + 1), n41_29, n42_30, n43_31, n50_32, n51_33, n52_34, n55_35, n56_36, g39_37, g40_38, g46_39, g47_40, g48_41, g49_42, g53_43, g54_44, g57_45, gl_46) (show (bShl 1 (fi 12) - (x4_28 + 1)).toNat < (bShl 1 (fi 12) - x4_28).toNat from by omega) (show inR (x4_28 + 1) ∧ inR n41_29 ∧ inR n42_30 ∧ inR n43_31 ∧ inR n50_32 ∧ inR n51_33 ∧ inR n52_34 ∧ inR n55_35 ∧ inR n56_36 ∧ (∀ t, inR (g39_37 t)) ∧ (∀ t, inR (g40_38 t)) ∧ (∀ t, inR (g46_39 t)) ∧ (∀ t, inR (g47_40 t)) ∧ (∀ t, inR (g48_41 t)) ∧ (∀ t, inR (g49_42 t)) ∧ (∀ t, inR (g53_43 t)) ∧ (∀ t, inR (g54_44 t)) ∧ (∀ t, inR (g57_45 t)) ∧ (0 ≤ (x4_28 + 1) ∧ (x4_28 + 1) ≤ 128) from ⟨(by omega), (by omega), (by omega), (by omega), (by omega), (by omega), (by omega), (by omega), (by omega), r_g39_37, r_g40_38, r_g46_39, r_g47_40, r_g48_41, r_g49_42, r_g53_43, r_g54_44, r_g57_45, (by omega)⟩) _ _ _ hP hD hS hl
    · refine lv_aload_n hx hb dX10_bars_25 rfl (lv_at hl 0 rfl) ?_
      refine lv_iconst (v := Int32.ofInt 1) hx hb dX10_bars_26 (by decide +kernel) ?_
      refine cr_i (va_runV (As := [.int (Int32.ofInt (1))]) (rest := []) ⟨hx, hb, hml, hown, hts⟩ (mX10_fail l G k ar (uF fi 2 (0)) fa fl 1 H.size (iF hR (by omega)) hRa (by omega)) (cwV 1 hts (gz [.methodLink RX10 315 yX10_fail, .instanceMethod yX10_fail, .selects RX10 yX10_fail yX10_fail, .initialized RX10] (.code yX10_fail cX10_fail 2 (some .int)) [(16, 17), (16, 18), (16, 19), (0, 5), (16, 20)] rfl) rfl rfl rfl (by decide +kernel) ⟨Nat.le_of_ble_eq_true rfl, Nat.le_of_ble_eq_true rfl⟩) (cr_preV (EZ_ok k) hZ hS hX hP hD hA (ci := 7) (q0 := 0) rfl rfl) rfl rfl hl.1 rfl (lv_room (Nat.le_of_ble_eq_true rfl)) dX10_bars_27 ⟨Nat.le_of_ble_eq_true rfl, Nat.le_of_ble_eq_true rfl⟩) hD hS hA (fun r u H locs hp hP hD hS => ?_)
      obtain ⟨c77, c78⟩ := u
      obtain ⟨hP, hD⟩ : va_P G vwCl (wM k ar (uF fi 2 (c78)) fa fl) H ∧ va_D A (wM k ar (uF fi 2 (c78)) fa fl) := ⟨hP, hD⟩
      obtain ⟨h9, rc77, rc78, hp78⟩ : r = Int32.ofInt c77 ∧ (inR c77) ∧ (inR c78) ∧ (c77 = 0 ∧ c78 = 1) := hp
      subst h9
      exact W.iret (v := Int32.ofInt (c77)) hx hb hr (fun t ht hW => ⟨⟨Int32.ofInt (c77), (c77, fa 39, fa 40, fa 46, fa 47, fa 48, fa 49, fa 53, fa 54, fa 57, c78, fi 41, fi 42, fi 43, fi 50, fi 51, fi 52, fi 55, fi 56, fl), rfl, ⟨rfl, (show (inR c77) ∧ (∀ t, inR ((fa 39) t)) ∧ (∀ t, inR ((fa 40) t)) ∧ (∀ t, inR ((fa 46) t)) ∧ (∀ t, inR ((fa 47) t)) ∧ (∀ t, inR ((fa 48) t)) ∧ (∀ t, inR ((fa 49) t)) ∧ (∀ t, inR ((fa 53) t)) ∧ (∀ t, inR ((fa 54) t)) ∧ (∀ t, inR ((fa 57) t)) ∧ (inR c78) ∧ (inR (fi 41)) ∧ (inR (fi 42)) ∧ (inR (fi 43)) ∧ (inR (fi 50)) ∧ (inR (fi 51)) ∧ (inR (fi 52)) ∧ (inR (fi 55)) ∧ (inR (fi 56)) ∧ (True) from ⟨(by omega), (hRa 39), (hRa 40), (hRa 46), (hRa 47), (hRa 48), (hRa 49), (hRa 53), (hRa 54), (hRa 57), (by omega), (hR 41), (hR 42), (hR 43), (hR 50), (hR 51), (hR 52), (hR 55), (hR 56), trivial⟩)⟩, by rw [ht]; exact hP, hD⟩, hS.F ht⟩) hS.2.2 dX10_bars_30

set_option maxHeartbeats 4000000 in
set_option maxRecDepth 100000 in
theorem mX10_day (l : Launch) (G : va_G) (k : Nat → ClassId) (ar : Nat → Nat) (fi : Nat → Int) (fa : Nat → Int → Int) (fl : Nat → Int64) (s0 : Int) (sz : Nat) (hR : ∀ j, inR (fi j)) (hRa : ∀ j t, inR (fa j t)) (hr_s0 : inR s0) (hth : 0 ≤ fi 12 ∧ fi 12 ≤ 7) (hdy : 0 ≤ fi 31 ∧ fi 31 ≤ 6) : CNi l G k (EZ k) yX10_day wzX10_day ({ frames := 1, cells := 0, slots := 0, locals := 22 }) [.ref (ar 71), .int (Int32.ofInt (s0))] sz (wM k ar fi fa fl) (fun (r0 : Int32) (u : Int × (Int → Int) × (Int → Int) × Int × Int) => r0 = Int32.ofInt (u.1) ∧ (inR u.1) ∧ (∀ t, inR (u.2.1 t)) ∧ (∀ t, inR (u.2.2.1 t)) ∧ (inR u.2.2.2.1) ∧ (inR u.2.2.2.2) ∧ (0 ≤ u.2.2.2.2 ∧ u.2.2.2.2 ≤ 6)) (fun (u : Int × (Int → Int) × (Int → Int) × Int × Int) => (wM k ar (uF (uF fi 2 (u.2.2.2.1)) 31 (u.2.2.2.2)) (uF (uF fa 11 (u.2.1)) 33 (u.2.2.1)) fl)) := by
  refine Met.ofW (cc := cX10_day) (maxL := 4) (ret := (some .int)) (by decide) rfl ?_
  intro p e s m args below meth c s₁ B hml hv
  obtain ⟨rfl, hsz, hP, hX, hD0, hZ0⟩ := hv
  have hx := B.exec
  have hb := B.bytes
  have hr := B.returns
  have hts := atoms_spec (ws := wzX10_day) B.pre
  have hown : s.vm.findClass RX10 = some m.cls := findClass_of_methodNamed B.named
  subst hsz
  have hD := hD0.self (sz := s.heap.size)
  have hZ := hZ0
  generalize hAe : va_A (wM k ar fi fa fl) s.heap.size = A at hD hZ ⊢
  have hA : ∀ q : Nat, s.heap.size ≤ q → A q := fun q h => by rw [← hAe]; exact Or.inr h
  have hS : va_S A s.heap s.heap [] := va_S.rf
  have hl := lv_entry ([.ref (ar 71), .int (Int32.ofInt (s0))]) (n := 4) (Nat.le_of_ble_eq_true rfl)
  rw [lg_entry_eq]
  generalize (lg_sl ([.ref (ar 71), .int (Int32.ofInt (s0))]) ++ List.replicate (4 - (lg_sl ([.ref (ar 71), .int (Int32.ofInt (s0))])).length) Slot.unset).toArray = ls at hl ⊢
  have hl : lv_has ls 4 [(0, .ref (ar 71)), (1, .int (Int32.ofInt (s0)))] := hl
  obtain ⟨H, eH⟩ : ∃ H, H = s.heap := ⟨_, rfl⟩
  rw [← eH] at hP
  have hS : va_S A s.heap H [] := by rw [eH]; exact hS
  have gW : s.heap = H := eH.symm
  refine iv_heap gW ?_
  have h0w := hts (.fieldLink RX10 171 "RopeTownModel" "code" "I") (wz_at 8 12 rfl)
  have h1w : ∀ w ∈ wsX100, w ∈ wzX10_day := fun w h => List.mem_cons_of_mem _ (inlX10 w h)
  have h2w := hts (.fieldLink RX10 174 "RopeTownModel" "things" "I") (wz_at 21 11 rfl)
  have h3w := hts (.fieldLink RX10 90 "RopeTownModel" "day" "[I") (wz_at 6 18 rfl)
  have h4w := hts (.fieldLink RX10 336 "RopeTownModel" "days" "I") (wz_at 21 16 rfl)
  have h5w := hts (.fieldLink RX10 77 "RopeTownModel" "status" "[I") (wz_at 6 14 rfl)
  have h6w := hts (.fieldLink RX10 65 "RopeTownModel" "aim" "[I") (wz_at 6 10 rfl)
  refine lv_aload_n hx hb dX10_day_0 rfl (lv_at hl 0 rfl) ?_
  refine lv_iconst (v := Int32.ofInt 0) hx hb dX10_day_1 (by decide +kernel) ?_
  refine iv_put (ci := 7) (v := .int (Int32.ofInt (0))) (ty := .int) (C := RX10) (T := TX10) (N := 71) (ref := RX10) hx hb hts h1w tyX10 tyX10_ok nmX10 hown hX.1 hP hD hS 0 rfl rfl 2 (by decide) h0w (fun _ h9 => h9) rfl (by decide +kernel) rfl rfl (Nat.le_of_ble_eq_true rfl) (wM_F2 _ _ _ _ _) dX10_day_2 (fun H locs hP hD hS => ?_)
  refine iv_join (G := G) (A := A) (H0 := s.heap) (α := Int) (nL := 4) 35 (fun b9 => [.int (Int32.ofInt (b9))]) (fun b9 => (wM k ar (uF fi 2 (0)) fa fl)) (fun b9 => [(0, .ref (ar 71)), (1, .int (Int32.ofInt (s0)))]) (fun b9 => inR b9 ∧ (b9 = 0 ∨ (b9 = 1 ∧ fi 31 < 6))) ?_ (fun J35 => ?_)
  · intro s0_1 hi9 H locs ls hP hD hS hl
    obtain ⟨r_s0_1, hinv⟩ : inR s0_1 ∧ (s0_1 = 0 ∨ (s0_1 = 1 ∧ fi 31 < 6)) := hi9
    obtain ⟨hP, hD⟩ : va_P G vwCl (wM k ar (uF fi 2 (0)) fa fl) H ∧ va_D A (wM k ar (uF fi 2 (0)) fa fl) := ⟨hP, hD⟩
    have hl : lv_has ls 4 [(0, .ref (ar 71)), (1, .int (Int32.ofInt (s0)))] := hl
    refine lv_istore_n (lv' := [(2, .int (Int32.ofInt (s0_1))), (0, .ref (ar 71)), (1, .int (Int32.ofInt (s0)))]) hx hb dX10_day_35 rfl hl (by decide) rfl (fun ls hl => ?_)
    refine lv_iconst (v := Int32.ofInt 0) hx hb dX10_day_36 (by decide +kernel) ?_
    refine lv_istore_n (lv' := [(3, .int (Int32.ofInt (0))), (2, .int (Int32.ofInt (s0_1))), (0, .ref (ar 71)), (1, .int (Int32.ofInt (s0)))]) hx hb dX10_day_37 rfl hl (by decide) rfl (fun ls hl => ?_)
    refine iv_loop (α := Int × Int) (nL := 4) (fun b9 => (wM k ar (uF fi 2 (0)) fa fl)) (fun b9 => [(3, .int (Int32.ofInt (b9.1))), (2, .int (Int32.ofInt (b9.2))), (0, .ref (ar 71)), (1, .int (Int32.ofInt (s0)))]) (fun b9 => (fi 12 - b9.1).toNat) (fun b9 => inR b9.1 ∧ inR b9.2 ∧ (0 ≤ b9.1 ∧ (b9.2 = 0 ∨ (b9.2 = 1 ∧ fi 31 < 6)))) ?_ (0, s0_1) (show inR 0 ∧ inR s0_1 ∧ (0 ≤ 0 ∧ (s0_1 = 0 ∨ (s0_1 = 1 ∧ fi 31 < 6))) from ⟨(by omega), (by omega), (by omega)⟩) hP hD hS hl
    rintro ⟨x3_2, x2_3⟩ ih hi9 H locs ls hP hD hS hl
    obtain ⟨r_x3_2, r_x2_3, hinv⟩ : inR x3_2 ∧ inR x2_3 ∧ (0 ≤ x3_2 ∧ (x2_3 = 0 ∨ (x2_3 = 1 ∧ fi 31 < 6))) := hi9
    obtain ⟨hP, hD⟩ : va_P G vwCl (wM k ar (uF fi 2 (0)) fa fl) H ∧ va_D A (wM k ar (uF fi 2 (0)) fa fl) := ⟨hP, hD⟩
    have hl : lv_has ls 4 [(3, .int (Int32.ofInt (x3_2))), (2, .int (Int32.ofInt (x2_3))), (0, .ref (ar 71)), (1, .int (Int32.ofInt (s0)))] := hl
    refine lv_iload_n hx hb dX10_day_38 rfl (lv_at hl 0 rfl) ?_
    refine lv_aload_n hx hb dX10_day_39 rfl (lv_at hl 2 rfl) ?_
    refine va_get (D := G) (ci := 7) (v := .int (Int32.ofInt (fi 12))) (C := RX10) (T := TX10) (N := 71) (ref := RX10) hx hb hts h1w hown hX.1 hP 0 rfl rfl 12 (by decide) h2w (fun _ h9 => h9) rfl dX10_day_40 ?_
    have rf12 := hR 12
    refine iv_icmp_ge (tgt := 80) hx hb (by omega) (by omega) dX10_day_43 (by decide) (fun q4 => ?_) (fun q4 => ?_)
    · refine lv_iload_n hx hb dX10_day_80 rfl (lv_at hl 1 rfl) ?_
      refine iv_if_ne (tgt := 96) hx hb (by omega) dX10_day_81 (by decide) (fun q5 => ?_) (fun q5 => ?_)
      · refine lv_aload_n hx hb dX10_day_96 rfl (lv_at hl 2 rfl) ?_
        refine va_get (D := G) (ci := 7) (v := .ref (ar 33)) (C := RX10) (T := TX10) (N := 71) (ref := RX10) hx hb hts h1w hown hX.1 hP 0 rfl rfl 33 (by decide) h3w (fun _ h9 => h9) rfl dX10_day_97 ?_
        refine lv_aload_n hx hb dX10_day_100 rfl (lv_at hl 2 rfl) ?_
        refine va_get (D := G) (ci := 7) (v := .int (Int32.ofInt (fi 31))) (C := RX10) (T := TX10) (N := 71) (ref := RX10) hx hb hts h1w hown hX.1 hP 0 rfl rfl 31 (by decide) h4w (fun _ h9 => h9) rfl dX10_day_101 ?_
        have rf31 := hR 31
        refine lv_iload_n hx hb dX10_day_104 rfl (lv_at hl 3 rfl) ?_
        refine iv_iast hx hb hX.1 hP hD hS 12 0 rfl rfl (wM_A33 _ _ _ _ _) (by omega) (by omega) (by decide) dX10_day_105 (fun H locs hP hD hS => ?_)
        obtain ⟨g6, eg6, rg6⟩ : ∃ z, z = uA (fa 33) (fi 31) (s0) ∧ ∀ t, inR (z t) := ⟨_, rfl, iU (hRa 33) (by omega)⟩
        rw [← eg6] at hP hD
        refine lv_aload_n hx hb dX10_day_106 rfl (lv_at hl 2 rfl) ?_
        refine lv_dup hx hb dX10_day_107 rfl ?_
        refine va_get (D := G) (ci := 7) (v := .int (Int32.ofInt (fi 31))) (C := RX10) (T := TX10) (N := 71) (ref := RX10) hx hb hts h1w hown hX.1 hP 0 rfl rfl 31 (by decide) h4w (fun _ h9 => h9) rfl dX10_day_108 ?_
        have rf31 := hR 31
        refine lv_iconst (v := Int32.ofInt 1) hx hb dX10_day_111 (by decide +kernel) ?_
        refine iv_add (x := fi 31) (y := 1) hx hb dX10_day_112 ?_
        refine iv_put (ci := 7) (v := .int (Int32.ofInt ((fi 31 + 1)))) (ty := .int) (C := RX10) (T := TX10) (N := 71) (ref := RX10) hx hb hts h1w tyX10 tyX10_ok nmX10 hown hX.1 hP hD hS 0 rfl rfl 31 (by decide) h4w (fun _ h9 => h9) rfl (by decide +kernel) rfl rfl (Nat.le_of_ble_eq_true rfl) (wM_F31 _ _ _ _ _) dX10_day_113 (fun H locs hP hD hS => ?_)
        refine lv_aload_n hx hb dX10_day_116 rfl (lv_at hl 2 rfl) ?_
        refine va_get (D := G) (ci := 7) (v := .int (Int32.ofInt ((fi 31 + 1)))) (C := RX10) (T := TX10) (N := 71) (ref := RX10) hx hb hts h1w hown hX.1 hP 0 rfl rfl 31 (by decide) h4w (fun _ h9 => h9) rfl dX10_day_117 ?_
        exact W.iret (v := Int32.ofInt ((fi 31 + 1))) hx hb hr (fun t ht hW => ⟨⟨Int32.ofInt ((fi 31 + 1)), ((fi 31 + 1), fa 11, g6, 0, (fi 31 + 1)), rfl, ⟨rfl, (show (inR (fi 31 + 1)) ∧ (∀ t, inR ((fa 11) t)) ∧ (∀ t, inR (g6 t)) ∧ (inR 0) ∧ (inR (fi 31 + 1)) ∧ (0 ≤ (fi 31 + 1) ∧ (fi 31 + 1) ≤ 6) from ⟨(by omega), (hRa 11), rg6, (by omega), (by omega), (by omega)⟩)⟩, by rw [ht]; exact hP, hD⟩, hS.F ht⟩) hS.2.2 dX10_day_120
      · refine lv_aload_n hx hb dX10_day_84 rfl (lv_at hl 2 rfl) ?_
        refine va_get (D := G) (ci := 7) (v := .ref (ar 11)) (C := RX10) (T := TX10) (N := 71) (ref := RX10) hx hb hts h1w hown hX.1 hP 0 rfl rfl 11 (by decide) h5w (fun _ h9 => h9) rfl dX10_day_85 ?_
        refine lv_iconst (v := Int32.ofInt 2) hx hb dX10_day_88 (by decide +kernel) ?_
        refine lv_dup2_11 hx hb dX10_day_89 rfl rfl ?_
        refine iv_iald hx hb hX.1 hP 9 0 rfl rfl (by omega) (by omega) (by decide) dX10_day_90 ?_
        refine iv_top (fun z7 ez7 => ?_)
        have rz7 : inR z7 := ez7 ▸ (hRa 11) _
        have ez7 : z7 = (fa 11) 2 := ez7
        refine lv_iconst (v := Int32.ofInt 1) hx hb dX10_day_91 (by decide +kernel) ?_
        refine iv_add (x := z7) (y := 1) hx hb dX10_day_92 ?_
        refine iv_wr ?_
        refine iv_top (fun z8 ez8 => ?_)
        have rz8 : inR z8 := ez8 ▸ bWr_r _
        refine iv_iast hx hb hX.1 hP hD hS 9 0 rfl rfl (wM_A11 _ _ _ _ _) (by omega) (by omega) (by decide) dX10_day_93 (fun H locs hP hD hS => ?_)
        obtain ⟨g9, eg9, rg9⟩ : ∃ z, z = uA (fa 11) (2) (z8) ∧ ∀ t, inR (z t) := ⟨_, rfl, iU (hRa 11) (by omega)⟩
        rw [← eg9] at hP hD
        refine lv_iconst (v := Int32.ofInt (-1)) hx hb dX10_day_94 (by decide +kernel) ?_
        exact W.iret (v := Int32.ofInt ((-1))) hx hb hr (fun t ht hW => ⟨⟨Int32.ofInt ((-1)), ((-1), g9, fa 33, 0, fi 31), rfl, ⟨rfl, (show (inR (-1)) ∧ (∀ t, inR (g9 t)) ∧ (∀ t, inR ((fa 33) t)) ∧ (inR 0) ∧ (inR (fi 31)) ∧ (0 ≤ (fi 31) ∧ (fi 31) ≤ 6) from ⟨(by omega), rg9, (hRa 33), (by omega), (hR 31), (by omega)⟩)⟩, by rw [ht]; exact hP, hD⟩, hS.F ht⟩) hS.2.2 dX10_day_95
    · refine lv_iload_n hx hb dX10_day_46 rfl (lv_at hl 1 rfl) ?_
      refine iv_if_eq (tgt := 80) hx hb (by omega) dX10_day_47 (by decide) (fun q10 => ?_) (fun q10 => ?_)
      · refine lv_iload_n hx hb dX10_day_80 rfl (lv_at hl 1 rfl) ?_
        refine iv_if_ne (tgt := 96) hx hb (by omega) dX10_day_81 (by decide) (fun q11 => ?_) (fun q11 => ?_)
        · refine lv_aload_n hx hb dX10_day_96 rfl (lv_at hl 2 rfl) ?_
          refine va_get (D := G) (ci := 7) (v := .ref (ar 33)) (C := RX10) (T := TX10) (N := 71) (ref := RX10) hx hb hts h1w hown hX.1 hP 0 rfl rfl 33 (by decide) h3w (fun _ h9 => h9) rfl dX10_day_97 ?_
          refine lv_aload_n hx hb dX10_day_100 rfl (lv_at hl 2 rfl) ?_
          refine va_get (D := G) (ci := 7) (v := .int (Int32.ofInt (fi 31))) (C := RX10) (T := TX10) (N := 71) (ref := RX10) hx hb hts h1w hown hX.1 hP 0 rfl rfl 31 (by decide) h4w (fun _ h9 => h9) rfl dX10_day_101 ?_
          have rf31 := hR 31
          refine lv_iload_n hx hb dX10_day_104 rfl (lv_at hl 3 rfl) ?_
          refine iv_iast hx hb hX.1 hP hD hS 12 0 rfl rfl (wM_A33 _ _ _ _ _) (by omega) (by omega) (by decide) dX10_day_105 (fun H locs hP hD hS => ?_)
          obtain ⟨g12, eg12, rg12⟩ : ∃ z, z = uA (fa 33) (fi 31) (s0) ∧ ∀ t, inR (z t) := ⟨_, rfl, iU (hRa 33) (by omega)⟩
          rw [← eg12] at hP hD
          refine lv_aload_n hx hb dX10_day_106 rfl (lv_at hl 2 rfl) ?_
          refine lv_dup hx hb dX10_day_107 rfl ?_
          refine va_get (D := G) (ci := 7) (v := .int (Int32.ofInt (fi 31))) (C := RX10) (T := TX10) (N := 71) (ref := RX10) hx hb hts h1w hown hX.1 hP 0 rfl rfl 31 (by decide) h4w (fun _ h9 => h9) rfl dX10_day_108 ?_
          have rf31 := hR 31
          refine lv_iconst (v := Int32.ofInt 1) hx hb dX10_day_111 (by decide +kernel) ?_
          refine iv_add (x := fi 31) (y := 1) hx hb dX10_day_112 ?_
          refine iv_put (ci := 7) (v := .int (Int32.ofInt ((fi 31 + 1)))) (ty := .int) (C := RX10) (T := TX10) (N := 71) (ref := RX10) hx hb hts h1w tyX10 tyX10_ok nmX10 hown hX.1 hP hD hS 0 rfl rfl 31 (by decide) h4w (fun _ h9 => h9) rfl (by decide +kernel) rfl rfl (Nat.le_of_ble_eq_true rfl) (wM_F31 _ _ _ _ _) dX10_day_113 (fun H locs hP hD hS => ?_)
          refine lv_aload_n hx hb dX10_day_116 rfl (lv_at hl 2 rfl) ?_
          refine va_get (D := G) (ci := 7) (v := .int (Int32.ofInt ((fi 31 + 1)))) (C := RX10) (T := TX10) (N := 71) (ref := RX10) hx hb hts h1w hown hX.1 hP 0 rfl rfl 31 (by decide) h4w (fun _ h9 => h9) rfl dX10_day_117 ?_
          exact W.iret (v := Int32.ofInt ((fi 31 + 1))) hx hb hr (fun t ht hW => ⟨⟨Int32.ofInt ((fi 31 + 1)), ((fi 31 + 1), fa 11, g12, 0, (fi 31 + 1)), rfl, ⟨rfl, (show (inR (fi 31 + 1)) ∧ (∀ t, inR ((fa 11) t)) ∧ (∀ t, inR (g12 t)) ∧ (inR 0) ∧ (inR (fi 31 + 1)) ∧ (0 ≤ (fi 31 + 1) ∧ (fi 31 + 1) ≤ 6) from ⟨(by omega), (hRa 11), rg12, (by omega), (by omega), (by omega)⟩)⟩, by rw [ht]; exact hP, hD⟩, hS.F ht⟩) hS.2.2 dX10_day_120
        · refine lv_aload_n hx hb dX10_day_84 rfl (lv_at hl 2 rfl) ?_
          refine va_get (D := G) (ci := 7) (v := .ref (ar 11)) (C := RX10) (T := TX10) (N := 71) (ref := RX10) hx hb hts h1w hown hX.1 hP 0 rfl rfl 11 (by decide) h5w (fun _ h9 => h9) rfl dX10_day_85 ?_
          refine lv_iconst (v := Int32.ofInt 2) hx hb dX10_day_88 (by decide +kernel) ?_
          refine lv_dup2_11 hx hb dX10_day_89 rfl rfl ?_
          refine iv_iald hx hb hX.1 hP 9 0 rfl rfl (by omega) (by omega) (by decide) dX10_day_90 ?_
          refine iv_top (fun z13 ez13 => ?_)
          have rz13 : inR z13 := ez13 ▸ (hRa 11) _
          have ez13 : z13 = (fa 11) 2 := ez13
          refine lv_iconst (v := Int32.ofInt 1) hx hb dX10_day_91 (by decide +kernel) ?_
          refine iv_add (x := z13) (y := 1) hx hb dX10_day_92 ?_
          refine iv_wr ?_
          refine iv_top (fun z14 ez14 => ?_)
          have rz14 : inR z14 := ez14 ▸ bWr_r _
          refine iv_iast hx hb hX.1 hP hD hS 9 0 rfl rfl (wM_A11 _ _ _ _ _) (by omega) (by omega) (by decide) dX10_day_93 (fun H locs hP hD hS => ?_)
          obtain ⟨g15, eg15, rg15⟩ : ∃ z, z = uA (fa 11) (2) (z14) ∧ ∀ t, inR (z t) := ⟨_, rfl, iU (hRa 11) (by omega)⟩
          rw [← eg15] at hP hD
          refine lv_iconst (v := Int32.ofInt (-1)) hx hb dX10_day_94 (by decide +kernel) ?_
          exact W.iret (v := Int32.ofInt ((-1))) hx hb hr (fun t ht hW => ⟨⟨Int32.ofInt ((-1)), ((-1), g15, fa 33, 0, fi 31), rfl, ⟨rfl, (show (inR (-1)) ∧ (∀ t, inR (g15 t)) ∧ (∀ t, inR ((fa 33) t)) ∧ (inR 0) ∧ (inR (fi 31)) ∧ (0 ≤ (fi 31) ∧ (fi 31) ≤ 6) from ⟨(by omega), rg15, (hRa 33), (by omega), (hR 31), (by omega)⟩)⟩, by rw [ht]; exact hP, hD⟩, hS.F ht⟩) hS.2.2 dX10_day_95
      · refine iv_join (G := G) (A := A) (H0 := s.heap) (α := Int) (nL := 4) 73 (fun b9 => [.int (Int32.ofInt (b9))]) (fun b9 => (wM k ar (uF fi 2 (0)) fa fl)) (fun b9 => [(3, .int (Int32.ofInt (x3_2))), (2, .int (Int32.ofInt (x2_3))), (0, .ref (ar 71)), (1, .int (Int32.ofInt (s0)))]) (fun b9 => inR b9 ∧ (b9 = 0 ∨ b9 = 1)) ?_ (fun J73 => ?_)
        · intro s0_16 hi9 H locs ls hP hD hS hl
          obtain ⟨r_s0_16, hinv⟩ : inR s0_16 ∧ (s0_16 = 0 ∨ s0_16 = 1) := hi9
          obtain ⟨hP, hD⟩ : va_P G vwCl (wM k ar (uF fi 2 (0)) fa fl) H ∧ va_D A (wM k ar (uF fi 2 (0)) fa fl) := ⟨hP, hD⟩
          have hl : lv_has ls 4 [(3, .int (Int32.ofInt (x3_2))), (2, .int (Int32.ofInt (x2_3))), (0, .ref (ar 71)), (1, .int (Int32.ofInt (s0)))] := hl
          refine lv_istore_n (lv' := [(2, .int (Int32.ofInt (s0_16))), (3, .int (Int32.ofInt (x3_2))), (0, .ref (ar 71)), (1, .int (Int32.ofInt (s0)))]) hx hb dX10_day_73 rfl hl (by decide) rfl (fun ls hl => ?_)
          refine lv_iinc (v := Int32.ofInt (x3_2 + 1)) (lv' := [(3, .int (Int32.ofInt ((x3_2 + 1)))), (2, .int (Int32.ofInt (s0_16))), (0, .ref (ar 71)), (1, .int (Int32.ofInt (s0)))]) hx hb dX10_day_74 hl (k := 1) rfl (Int32.ofInt_add _ _).symm (by decide) rfl (fun ls hl => ?_)
          refine lv_goto (tgt := 38) hx hb dX10_day_77 (by decide) ?_
          have hl : lv_has ls 4 [(3, .int (Int32.ofInt ((x3_2 + 1)))), (2, .int (Int32.ofInt (s0_16))), (0, .ref (ar 71)), (1, .int (Int32.ofInt (s0)))] := lv_sub hl [0, 1, 2, 3] rfl
          exact ih ((x3_2 + 1), s0_16) (show (fi 12 - (x3_2 + 1)).toNat < (fi 12 - x3_2).toNat from by omega) (show inR (x3_2 + 1) ∧ inR s0_16 ∧ (0 ≤ (x3_2 + 1) ∧ (s0_16 = 0 ∨ (s0_16 = 1 ∧ fi 31 < 6))) from ⟨(by omega), (by omega), (by omega)⟩) _ _ _ hP hD hS hl
        · refine lv_iload_n hx hb dX10_day_50 rfl (lv_at hl 3 rfl) ?_
          refine lv_iload_n hx hb dX10_day_51 rfl (lv_at hl 0 rfl) ?_
          refine iv_shr hx hb dX10_day_52 ?_
          refine iv_top (fun z17 ez17 => ?_)
          have rz17 : inR z17 := ez17 ▸ bShr_r _ _
          refine lv_iconst (v := Int32.ofInt 1) hx hb dX10_day_53 (by decide +kernel) ?_
          refine iv_and hx hb dX10_day_54 ?_
          refine iv_top (fun z18 ez18 => ?_)
          have rz18 : inR z18 := ez18 ▸ bAnd_r _ _
          refine iv_if_eq (tgt := 68) hx hb (by omega) dX10_day_55 (by decide) (fun q19 => ?_) (fun q19 => ?_)
          · refine lv_iconst (v := Int32.ofInt 1) hx hb dX10_day_68 (by decide +kernel) ?_
            refine lv_goto (tgt := 73) hx hb dX10_day_69 (by decide) ?_
            have hl : lv_has ls 4 [(3, .int (Int32.ofInt (x3_2))), (2, .int (Int32.ofInt (x2_3))), (0, .ref (ar 71)), (1, .int (Int32.ofInt (s0)))] := lv_sub hl [0, 1, 2, 3] rfl
            exact J73 (1) (show inR 1 ∧ (1 = 0 ∨ 1 = 1) from ⟨(by omega), (by omega)⟩) _ _ _ hP hD hS hl
          · refine lv_aload_n hx hb dX10_day_58 rfl (lv_at hl 2 rfl) ?_
            refine va_get (D := G) (ci := 7) (v := .ref (ar 7)) (C := RX10) (T := TX10) (N := 71) (ref := RX10) hx hb hts h1w hown hX.1 hP 0 rfl rfl 7 (by decide) h6w (fun _ h9 => h9) rfl dX10_day_59 ?_
            refine lv_iload_n hx hb dX10_day_62 rfl (lv_at hl 0 rfl) ?_
            refine iv_iald hx hb hX.1 hP 5 0 rfl rfl (by omega) (by omega) (by decide) dX10_day_63 ?_
            refine iv_top (fun z20 ez20 => ?_)
            have rz20 : inR z20 := ez20 ▸ (hRa 7) _
            have ez20 : z20 = (fa 7) x3_2 := ez20
            refine lv_iconst (v := Int32.ofInt (-1)) hx hb dX10_day_64 (by decide +kernel) ?_
            refine iv_icmp_eq (tgt := 72) hx hb (by omega) (by omega) dX10_day_65 (by decide) (fun q21 => ?_) (fun q21 => ?_)
            · refine lv_iconst (v := Int32.ofInt 0) hx hb dX10_day_72 (by decide +kernel) ?_
              have hl : lv_has ls 4 [(3, .int (Int32.ofInt (x3_2))), (2, .int (Int32.ofInt (x2_3))), (0, .ref (ar 71)), (1, .int (Int32.ofInt (s0)))] := lv_sub hl [0, 1, 2, 3] rfl
              exact J73 (0) (show inR 0 ∧ (0 = 0 ∨ 0 = 1) from ⟨(by omega), (by omega)⟩) _ _ _ hP hD hS hl
            · refine lv_iconst (v := Int32.ofInt 1) hx hb dX10_day_68 (by decide +kernel) ?_
              refine lv_goto (tgt := 73) hx hb dX10_day_69 (by decide) ?_
              have hl : lv_has ls 4 [(3, .int (Int32.ofInt (x3_2))), (2, .int (Int32.ofInt (x2_3))), (0, .ref (ar 71)), (1, .int (Int32.ofInt (s0)))] := lv_sub hl [0, 1, 2, 3] rfl
              exact J73 (1) (show inR 1 ∧ (1 = 0 ∨ 1 = 1) from ⟨(by omega), (by omega)⟩) _ _ _ hP hD hS hl
  · refine lv_aload_n hx hb dX10_day_5 rfl (lv_at hl 0 rfl) ?_
    refine va_get (D := G) (ci := 7) (v := .int (Int32.ofInt (fi 31))) (C := RX10) (T := TX10) (N := 71) (ref := RX10) hx hb hts h1w hown hX.1 hP 0 rfl rfl 31 (by decide) h4w (fun _ h9 => h9) rfl dX10_day_6 ?_
    have rf31 := hR 31
    refine lv_bipush (v := Int32.ofInt 6) hx hb dX10_day_9 (by decide +kernel) ?_
    refine iv_icmp_ge (tgt := 34) hx hb (by omega) (by omega) dX10_day_11 (by decide) (fun q22 => ?_) (fun q22 => ?_)
    · refine lv_iconst (v := Int32.ofInt 0) hx hb dX10_day_34 (by decide +kernel) ?_
      have hl : lv_has ls 4 [(0, .ref (ar 71)), (1, .int (Int32.ofInt (s0)))] := lv_sub hl [0, 1] rfl
      exact J35 (0) (show inR 0 ∧ (0 = 0 ∨ (0 = 1 ∧ fi 31 < 6)) from ⟨(by omega), (by omega)⟩) _ _ _ hP hD hS hl
    · refine lv_iload_n hx hb dX10_day_14 rfl (lv_at hl 1 rfl) ?_
      refine lv_iconst (v := Int32.ofInt 0) hx hb dX10_day_15 (by decide +kernel) ?_
      refine lv_iconst (v := Int32.ofInt 1) hx hb dX10_day_16 (by decide +kernel) ?_
      refine lv_aload_n hx hb dX10_day_17 rfl (lv_at hl 0 rfl) ?_
      refine va_get (D := G) (ci := 7) (v := .int (Int32.ofInt (fi 12))) (C := RX10) (T := TX10) (N := 71) (ref := RX10) hx hb hts h1w hown hX.1 hP 0 rfl rfl 12 (by decide) h2w (fun _ h9 => h9) rfl dX10_day_18 ?_
      have rf12 := hR 12
      refine iv_shl hx hb dX10_day_21 ?_
      refine iv_top (fun z23 ez23 => ?_)
      have rz23 : inR z23 := ez23 ▸ bShl_r _ _
      refine lv_iconst (v := Int32.ofInt 1) hx hb dX10_day_22 (by decide +kernel) ?_
      refine iv_sub (x := z23) (y := 1) hx hb dX10_day_23 ?_
      refine iv_wr ?_
      refine iv_top (fun z24 ez24 => ?_)
      have rz24 : inR z24 := ez24 ▸ bWr_r _
      refine c0_i (va_runS (As := [.int (Int32.ofInt (s0)), .int (Int32.ofInt (0)), .int (Int32.ofInt (z24))]) (rest := []) ⟨hx, hb, hml, hown, hts⟩ (mX10_isIn l G k s0 0 z24 H.size (by omega) (by omega) (by omega)) (cwS 3 hts (gz [.methodLink RX10 177 yX10_isIn, .static yX10_isIn, .initialized RX10] (.code yX10_isIn cX10_isIn 3 (some .boolean)) [(18, 16), (18, 17), (0, 5), (18, 18)] rfl) rfl rfl rfl (by decide +kernel) ⟨Nat.le_of_ble_eq_true rfl, Nat.le_of_ble_eq_true rfl⟩) (cr_pre0 (EZ_ok k) hZ hS hX hP hD hA) rfl rfl hl.1 rfl (lv_room (Nat.le_of_ble_eq_true rfl)) dX10_day_24 ⟨Nat.le_of_ble_eq_true rfl, Nat.le_of_ble_eq_true rfl⟩) hP hD hS hA (fun r u H locs hp hP hD hS => ?_)
      obtain ⟨c25, rfl⟩ : ∃ z, z = u := ⟨_, rfl⟩
      obtain ⟨h9, rc25, hp25⟩ : r = Int32.ofInt c25 ∧ (inR c25) ∧ ((c25 = 1 ∧ 0 ≤ s0 ∧ s0 ≤ z24) ∨ (c25 = 0 ∧ (s0 < 0 ∨ z24 < s0))) := hp
      subst h9
      refine iv_if_eq (tgt := 34) hx hb (by omega) dX10_day_27 (by decide) (fun q26 => ?_) (fun q26 => ?_)
      · refine lv_iconst (v := Int32.ofInt 0) hx hb dX10_day_34 (by decide +kernel) ?_
        have hl : lv_has ls 4 [(0, .ref (ar 71)), (1, .int (Int32.ofInt (s0)))] := lv_sub hl [0, 1] rfl
        exact J35 (0) (show inR 0 ∧ (0 = 0 ∨ (0 = 1 ∧ fi 31 < 6)) from ⟨(by omega), (by omega)⟩) _ _ _ hP hD hS hl
      · refine lv_iconst (v := Int32.ofInt 1) hx hb dX10_day_30 (by decide +kernel) ?_
        refine lv_goto (tgt := 35) hx hb dX10_day_31 (by decide) ?_
        have hl : lv_has ls 4 [(0, .ref (ar 71)), (1, .int (Int32.ofInt (s0)))] := lv_sub hl [0, 1] rfl
        exact J35 (1) (show inR 1 ∧ (1 = 0 ∨ (1 = 1 ∧ fi 31 < 6)) from ⟨(by omega), (by omega)⟩) _ _ _ hP hD hS hl

