set_option maxHeartbeats 4000000 in
set_option maxRecDepth 100000 in
theorem mX3_rideTrouble (l : Launch) (G : va_G) (k : Nat → ClassId) (ar : Nat → Nat) (fi : Nat → Int) (fa : Nat → Int → Int) (s0 : Int) (d0 : Int) (h0 : Int) (sz : Nat) (hR : ∀ j, inR (fi j)) (hRa : ∀ j t, inR (fa j t)) (hB8 : bnd (fa 8) 7 0 4) (hB20 : bnd (fa 20) 600 (-1000) 10000) (hB21 : bnd (fa 21) 4 0 601) (hr_s0 : inR s0) (hr_d0 : inR d0) (hr_h0 : inR h0) (hth : 0 ≤ fi 7 ∧ fi 7 ≤ 7) (hbt : 0 ≤ fi 0 ∧ fi 0 ≤ 11) (hsz : 0 ≤ fi 24 ∧ fi 24 ≤ 4) (hRC : ∀ q9, 0 ≤ q9 → q9 < fi 24 → RWf (dcf (fa 20)) (stq (fa 21) q9) (fa 21 q9)) : CNi l G k (EZ k) yX3_rideTrouble wzX3_rideTrouble ({ frames := 3, cells := 0, slots := 0, locals := 73 }) [.ref (ar 99), .int (Int32.ofInt (s0)), .int (Int32.ofInt (d0)), .int (Int32.ofInt (h0))] sz (wP k ar fi fa) (fun (r0 : Int32) (u : Int × (Int → Int) × (Int → Int)) => r0 = Int32.ofInt (u.1) ∧ (inR u.1) ∧ (∀ t, inR (u.2.1 t)) ∧ (∀ t, inR (u.2.2 t)) ∧ ((0 ≤ u.1 ∧ u.1 ≤ 7 ∧ (u.1 = 0 → 0 ≤ d0 ∧ d0 ≤ fi 0)) ∧ RtC u.1 (fi 0) (dp s0) (gs (lc (nb s0) (fa 9) 0) (fi 7)) (gs (lc (nb s0) (fa 9) 1) (fi 7)) (fi 2) (bkI (fun q => evR (dcf (fa 20)) (vls (nb s0) (fa 8) (fa 9) 0 (fi 7) (fi 0) (dp s0)) (stq (fa 21) q) (fa 21 q)) (fi 24) ∧ bkI (fun q => evR (dcf (fa 20)) (vls (nb s0) (fa 8) (fa 9) 1 (fi 7) (fi 0) (dp s0)) (stq (fa 21) q) (fa 21 q)) (fi 24)) (fi 3) (fi 4) (fi 5) (fi 6) d0 h0)) (fun (u : Int × (Int → Int) × (Int → Int)) => (wP k ar fi (uF (uF fa 13 (u.2.1)) 22 (u.2.2)))) := by
  refine Met.ofW (cc := cX3_rideTrouble) (maxL := 4) (ret := (some .int)) (by decide) rfl ?_
  intro p e s m args below meth c s₁ B hml hv
  obtain ⟨rfl, hsz, hP, hX, hD0, hZ0⟩ := hv
  have hx := B.exec
  have hb := B.bytes
  have hr := B.returns
  have hts := atoms_spec (ws := wzX3_rideTrouble) B.pre
  have hown : s.vm.findClass RX3 = some m.cls := findClass_of_methodNamed B.named
  subst hsz
  have hD := hD0.self (sz := s.heap.size)
  have hZ := hZ0
  generalize hAe : va_A (wP k ar fi fa) s.heap.size = A at hD hZ ⊢
  have hA : ∀ q : Nat, s.heap.size ≤ q → A q := fun q h => by rw [← hAe]; exact Or.inr h
  have hS : va_S A s.heap s.heap [] := va_S.rf
  have hl := lv_entry ([.ref (ar 99), .int (Int32.ofInt (s0)), .int (Int32.ofInt (d0)), .int (Int32.ofInt (h0))]) (n := 4) (Nat.le_of_ble_eq_true rfl)
  rw [lg_entry_eq]
  generalize (lg_sl ([.ref (ar 99), .int (Int32.ofInt (s0)), .int (Int32.ofInt (d0)), .int (Int32.ofInt (h0))]) ++ List.replicate (4 - (lg_sl ([.ref (ar 99), .int (Int32.ofInt (s0)), .int (Int32.ofInt (d0)), .int (Int32.ofInt (h0))])).length) Slot.unset).toArray = ls at hl ⊢
  have hl : lv_has ls 4 [(0, .ref (ar 99)), (1, .int (Int32.ofInt (s0))), (2, .int (Int32.ofInt (d0))), (3, .int (Int32.ofInt (h0)))] := hl
  obtain ⟨H, eH⟩ : ∃ H, H = s.heap := ⟨_, rfl⟩
  rw [← eH] at hP
  have hS : va_S A s.heap H [] := by rw [eH]; exact hS
  have gW : s.heap = H := eH.symm
  refine iv_heap gW ?_
  have h0w := hts (.initialized RX7) (wz_at 5 10 rfl)
  have h1w := hts (.static yX7_depth) (wz_at 22 12 rfl)
  have h2w := hts (.fieldLink RX3 44 "RopeTown$Plan" "cap" "I") (wz_at 2 20 rfl)
  have h3w : ∀ w ∈ wsX30, w ∈ wzX3_rideTrouble := fun w h => List.mem_cons_of_mem _ (inlX3 w h)
  have h4w := hts (.fieldLink RX3 53 "RopeTown$Plan" "most" "I") (wz_at 2 23 rfl)
  have h5w := hts (.fieldLink RX3 56 "RopeTown$Plan" "brake" "I") (wz_at 3 0 rfl)
  refine lv_aload_n hx hb dX3_rideTrouble_0 rfl (lv_at hl 0 rfl) ?_
  refine lv_iload_n hx hb dX3_rideTrouble_1 rfl (lv_at hl 2 rfl) ?_
  refine cr_i (va_runV (As := [.int (Int32.ofInt (d0))]) (rest := []) ⟨hx, hb, hml, hown, hts⟩ (mX3_hasDepth l G k ar fi fa d0 H.size hR hRa hB8 hB20 hB21 (by omega)) (cwV 1 hts (gz [.methodLink RX3 98 yX3_hasDepth, .instanceMethod yX3_hasDepth, .selects RX3 yX3_hasDepth yX3_hasDepth, .initialized RX3] (.code yX3_hasDepth cX3_hasDepth 2 (some .boolean)) [(29, 5), (29, 6), (29, 7), (0, 19), (29, 8)] rfl) rfl rfl rfl (by decide +kernel) ⟨Nat.le_of_ble_eq_true rfl, Nat.le_of_ble_eq_true rfl⟩) (cr_preV (EZ_ok k) hZ hS hX hP hD hA (ci := 2) (q0 := 0) rfl rfl) rfl rfl hl.1 rfl (lv_room (Nat.le_of_ble_eq_true rfl)) dX3_rideTrouble_2 ⟨Nat.le_of_ble_eq_true rfl, Nat.le_of_ble_eq_true rfl⟩) hD hS hA (fun r u H locs hp hP hD hS => ?_)
  obtain ⟨c1, rfl⟩ : ∃ z, z = u := ⟨_, rfl⟩
  obtain ⟨h9, rc1, hp1⟩ : r = Int32.ofInt c1 ∧ (inR c1) ∧ ((c1 = 1 ∧ 0 ≤ d0 ∧ d0 ≤ (fi 0)) ∨ (c1 = 0 ∧ (d0 < 0 ∨ (fi 0) < d0))) := hp
  subst h9
  refine iv_if_eq (tgt := 17) hx hb (by omega) dX3_rideTrouble_5 (by decide) (fun q2 => ?_) (fun q2 => ?_)
  · refine lv_iconst (v := Int32.ofInt 1) hx hb dX3_rideTrouble_17 (by decide +kernel) ?_
    exact W.iret (v := Int32.ofInt (1)) hx hb hr (fun t ht hW => ⟨⟨Int32.ofInt (1), (1, fa 13, fa 22), rfl, ⟨rfl, (show (inR 1) ∧ (∀ t, inR ((fa 13) t)) ∧ (∀ t, inR ((fa 22) t)) ∧ ((0 ≤ 1 ∧ 1 ≤ 7 ∧ (1 = 0 → 0 ≤ d0 ∧ d0 ≤ fi 0)) ∧ RtC 1 (fi 0) (dp s0) (gs (lc (nb s0) (fa 9) 0) (fi 7)) (gs (lc (nb s0) (fa 9) 1) (fi 7)) (fi 2) (bkI (fun q => evR (dcf (fa 20)) (vls (nb s0) (fa 8) (fa 9) 0 (fi 7) (fi 0) (dp s0)) (stq (fa 21) q) (fa 21 q)) (fi 24) ∧ bkI (fun q => evR (dcf (fa 20)) (vls (nb s0) (fa 8) (fa 9) 1 (fi 7) (fi 0) (dp s0)) (stq (fa 21) q) (fa 21 q)) (fi 24)) (fi 3) (fi 4) (fi 5) (fi 6) d0 h0) from ⟨(by omega), (hRa 13), (hRa 22), (by first | exact ⟨by omega, fun _ => rt_1 (by omega) rfl⟩ | exact ⟨by omega, fun _ => rt_3 (by omega) (by omega) rfl⟩ | exact ⟨by omega, fun _ => rt_4 (by omega) (by omega) (by omega) rfl⟩ | exact ⟨by omega, fun _ => rt_5 (by omega) (by omega) (by omega) (fun z => hi60.2 (by omega) z.1) rfl⟩ | exact ⟨by omega, fun _ => rt_5 (by omega) (by omega) (by omega) (fun z => hi70.2 (by omega) z.2) rfl⟩ | exact ⟨by omega, fun _ => rt_w (by omega) (by omega) (by omega) ⟨hi60.1 (by omega), hi70.1 (by omega)⟩ (by omega) rfl⟩ | exact ⟨by omega, rc_x (by omega) (by omega) (by omega) ⟨hi60.1 (by omega), hi70.1 (by omega)⟩ (by omega) hinv (hR 5) hXp111⟩)⟩)⟩, by rw [ht]; exact hP, hD⟩, hS.F ht⟩) hS.2.2 dX3_rideTrouble_18
  · refine lv_iload_n hx hb dX3_rideTrouble_8 rfl (lv_at hl 3 rfl) ?_
    refine iv_if_lt (tgt := 17) hx hb (by omega) dX3_rideTrouble_9 (by decide) (fun q3 => ?_) (fun q3 => ?_)
    · refine lv_iconst (v := Int32.ofInt 1) hx hb dX3_rideTrouble_17 (by decide +kernel) ?_
      exact W.iret (v := Int32.ofInt (1)) hx hb hr (fun t ht hW => ⟨⟨Int32.ofInt (1), (1, fa 13, fa 22), rfl, ⟨rfl, (show (inR 1) ∧ (∀ t, inR ((fa 13) t)) ∧ (∀ t, inR ((fa 22) t)) ∧ ((0 ≤ 1 ∧ 1 ≤ 7 ∧ (1 = 0 → 0 ≤ d0 ∧ d0 ≤ fi 0)) ∧ RtC 1 (fi 0) (dp s0) (gs (lc (nb s0) (fa 9) 0) (fi 7)) (gs (lc (nb s0) (fa 9) 1) (fi 7)) (fi 2) (bkI (fun q => evR (dcf (fa 20)) (vls (nb s0) (fa 8) (fa 9) 0 (fi 7) (fi 0) (dp s0)) (stq (fa 21) q) (fa 21 q)) (fi 24) ∧ bkI (fun q => evR (dcf (fa 20)) (vls (nb s0) (fa 8) (fa 9) 1 (fi 7) (fi 0) (dp s0)) (stq (fa 21) q) (fa 21 q)) (fi 24)) (fi 3) (fi 4) (fi 5) (fi 6) d0 h0) from ⟨(by omega), (hRa 13), (hRa 22), (by first | exact ⟨by omega, fun _ => rt_1 (by omega) rfl⟩ | exact ⟨by omega, fun _ => rt_3 (by omega) (by omega) rfl⟩ | exact ⟨by omega, fun _ => rt_4 (by omega) (by omega) (by omega) rfl⟩ | exact ⟨by omega, fun _ => rt_5 (by omega) (by omega) (by omega) (fun z => hi60.2 (by omega) z.1) rfl⟩ | exact ⟨by omega, fun _ => rt_5 (by omega) (by omega) (by omega) (fun z => hi70.2 (by omega) z.2) rfl⟩ | exact ⟨by omega, fun _ => rt_w (by omega) (by omega) (by omega) ⟨hi60.1 (by omega), hi70.1 (by omega)⟩ (by omega) rfl⟩ | exact ⟨by omega, rc_x (by omega) (by omega) (by omega) ⟨hi60.1 (by omega), hi70.1 (by omega)⟩ (by omega) hinv (hR 5) hXp111⟩)⟩)⟩, by rw [ht]; exact hP, hD⟩, hS.F ht⟩) hS.2.2 dX3_rideTrouble_18
    · refine lv_iload_n hx hb dX3_rideTrouble_12 rfl (lv_at hl 3 rfl) ?_
      refine lv_iconst (v := Int32.ofInt 2) hx hb dX3_rideTrouble_13 (by decide +kernel) ?_
      refine iv_icmp_le (tgt := 19) hx hb (by omega) (by omega) dX3_rideTrouble_14 (by decide) (fun q4 => ?_) (fun q4 => ?_)
      · refine lv_iload_n hx hb dX3_rideTrouble_19 rfl (lv_at hl 2 rfl) ?_
        refine lv_iload_n hx hb dX3_rideTrouble_20 rfl (lv_at hl 1 rfl) ?_
        refine c0_i (va_runSN (As := [.int (Int32.ofInt (s0))]) (rest := [.int (Int32.ofInt (d0))]) ⟨hx, hb, hml, hown, hts⟩ (mX7_depth l G k s0 H.size (by omega)) ⟨va_cnB 1 hts (gz [] (.code yX7_depth cX7_depth 1 (some .int)) [(22, 13)] rfl) rfl rfl rfl (nm_13 hX.2.2.1) h0w (by decide +kernel) ⟨Nat.le_of_ble_eq_true rfl, Nat.le_of_ble_eq_true rfl⟩, h1w, trivial⟩ (cr_pre0 (EZ_ok k) hZ hS hX hP hD hA) rfl rfl hl.1 rfl (lv_room (Nat.le_of_ble_eq_true rfl)) dX3_rideTrouble_21 ⟨Nat.le_of_ble_eq_true rfl, Nat.le_of_ble_eq_true rfl⟩) hP hD hS hA (fun r u H locs hp hP hD hS => ?_)
        obtain ⟨c5, rfl⟩ : ∃ z, z = u := ⟨_, rfl⟩
        obtain ⟨h9, rc5, hp5⟩ : r = Int32.ofInt c5 ∧ (inR c5) ∧ (c5 = dp s0 ∧ 0 ≤ c5 ∧ c5 ≤ 15) := hp
        subst h9
        have hDp21 := hp5.1
        refine iv_icmp_ne (tgt := 29) hx hb (by omega) (by omega) dX3_rideTrouble_24 (by decide) (fun q6 => ?_) (fun q6 => ?_)
        · refine lv_aload_n hx hb dX3_rideTrouble_29 rfl (lv_at hl 0 rfl) ?_
          refine lv_iload_n hx hb dX3_rideTrouble_30 rfl (lv_at hl 1 rfl) ?_
          refine lv_iconst (v := Int32.ofInt 0) hx hb dX3_rideTrouble_31 (by decide +kernel) ?_
          refine cr_i (va_runV (As := [.int (Int32.ofInt (s0)), .int (Int32.ofInt (0))]) (rest := []) ⟨hx, hb, hml, hown, hts⟩ (mX3_weightIn l G k ar fi fa s0 0 H.size hR hRa hB8 hB20 hB21 (by omega) (by omega) (show 0 ≤ (fi 7) ∧ (fi 7) ≤ 7 from by omega) (show 0 = 0 ∨ 0 = 1 from by omega)) (cwV 2 hts (gz [.methodLink RX3 101 yX3_weightIn, .instanceMethod yX3_weightIn, .selects RX3 yX3_weightIn yX3_weightIn, .initialized RX3] (.code yX3_weightIn cX3_weightIn 5 (some .int)) [(29, 9), (25, 2), (25, 3), (0, 19), (25, 4)] rfl) rfl rfl rfl (by decide +kernel) ⟨Nat.le_of_ble_eq_true rfl, Nat.le_of_ble_eq_true rfl⟩) (cr_preV (EZ_ok k) hZ hS hX hP hD hA (ci := 2) (q0 := 0) rfl rfl) rfl rfl hl.1 rfl (lv_room (Nat.le_of_ble_eq_true rfl)) dX3_rideTrouble_32 ⟨Nat.le_of_ble_eq_true rfl, Nat.le_of_ble_eq_true rfl⟩) hD hS hA (fun r u H locs hp hP hD hS => ?_)
          obtain ⟨c7, rfl⟩ : ∃ z, z = u := ⟨_, rfl⟩
          obtain ⟨h9, rc7, hp7⟩ : r = Int32.ofInt c7 ∧ (inR c7) ∧ (c7 = (gs (lc (nb s0) ((fa 9)) 0) ((fi 7)))) := hp
          subst h9
          have hWi32 := hp7
          refine lv_aload_n hx hb dX3_rideTrouble_35 rfl (lv_at hl 0 rfl) ?_
          refine va_get (D := G) (ci := 2) (v := .int (Int32.ofInt (fi 2))) (C := RX3) (T := TX3) (N := 14) (ref := RX3) hx hb hts h3w hown hX.1 hP 0 rfl rfl 2 (by decide) h2w (fun _ h9 => h9) rfl dX3_rideTrouble_36 ?_
          have rf2 := hR 2
          refine iv_icmp_gt (tgt := 55) hx hb (by omega) (by omega) dX3_rideTrouble_39 (by decide) (fun q8 => ?_) (fun q8 => ?_)
          · refine lv_iconst (v := Int32.ofInt 4) hx hb dX3_rideTrouble_55 (by decide +kernel) ?_
            exact W.iret (v := Int32.ofInt (4)) hx hb hr (fun t ht hW => ⟨⟨Int32.ofInt (4), (4, fa 13, fa 22), rfl, ⟨rfl, (show (inR 4) ∧ (∀ t, inR ((fa 13) t)) ∧ (∀ t, inR ((fa 22) t)) ∧ ((0 ≤ 4 ∧ 4 ≤ 7 ∧ (4 = 0 → 0 ≤ d0 ∧ d0 ≤ fi 0)) ∧ RtC 4 (fi 0) (dp s0) (gs (lc (nb s0) (fa 9) 0) (fi 7)) (gs (lc (nb s0) (fa 9) 1) (fi 7)) (fi 2) (bkI (fun q => evR (dcf (fa 20)) (vls (nb s0) (fa 8) (fa 9) 0 (fi 7) (fi 0) (dp s0)) (stq (fa 21) q) (fa 21 q)) (fi 24) ∧ bkI (fun q => evR (dcf (fa 20)) (vls (nb s0) (fa 8) (fa 9) 1 (fi 7) (fi 0) (dp s0)) (stq (fa 21) q) (fa 21 q)) (fi 24)) (fi 3) (fi 4) (fi 5) (fi 6) d0 h0) from ⟨(by omega), (hRa 13), (hRa 22), (by first | exact ⟨by omega, fun _ => rt_1 (by omega) rfl⟩ | exact ⟨by omega, fun _ => rt_3 (by omega) (by omega) rfl⟩ | exact ⟨by omega, fun _ => rt_4 (by omega) (by omega) (by omega) rfl⟩ | exact ⟨by omega, fun _ => rt_5 (by omega) (by omega) (by omega) (fun z => hi60.2 (by omega) z.1) rfl⟩ | exact ⟨by omega, fun _ => rt_5 (by omega) (by omega) (by omega) (fun z => hi70.2 (by omega) z.2) rfl⟩ | exact ⟨by omega, fun _ => rt_w (by omega) (by omega) (by omega) ⟨hi60.1 (by omega), hi70.1 (by omega)⟩ (by omega) rfl⟩ | exact ⟨by omega, rc_x (by omega) (by omega) (by omega) ⟨hi60.1 (by omega), hi70.1 (by omega)⟩ (by omega) hinv (hR 5) hXp111⟩)⟩)⟩, by rw [ht]; exact hP, hD⟩, hS.F ht⟩) hS.2.2 dX3_rideTrouble_56
          · refine lv_aload_n hx hb dX3_rideTrouble_42 rfl (lv_at hl 0 rfl) ?_
            refine lv_iload_n hx hb dX3_rideTrouble_43 rfl (lv_at hl 1 rfl) ?_
            refine lv_iconst (v := Int32.ofInt 1) hx hb dX3_rideTrouble_44 (by decide +kernel) ?_
            refine cr_i (va_runV (As := [.int (Int32.ofInt (s0)), .int (Int32.ofInt (1))]) (rest := []) ⟨hx, hb, hml, hown, hts⟩ (mX3_weightIn l G k ar fi fa s0 1 H.size hR hRa hB8 hB20 hB21 (by omega) (by omega) (show 0 ≤ (fi 7) ∧ (fi 7) ≤ 7 from by omega) (show 1 = 0 ∨ 1 = 1 from by omega)) (cwV 2 hts (gz [.methodLink RX3 101 yX3_weightIn, .instanceMethod yX3_weightIn, .selects RX3 yX3_weightIn yX3_weightIn, .initialized RX3] (.code yX3_weightIn cX3_weightIn 5 (some .int)) [(29, 9), (25, 2), (25, 3), (0, 19), (25, 4)] rfl) rfl rfl rfl (by decide +kernel) ⟨Nat.le_of_ble_eq_true rfl, Nat.le_of_ble_eq_true rfl⟩) (cr_preV (EZ_ok k) hZ hS hX hP hD hA (ci := 2) (q0 := 0) rfl rfl) rfl rfl hl.1 rfl (lv_room (Nat.le_of_ble_eq_true rfl)) dX3_rideTrouble_45 ⟨Nat.le_of_ble_eq_true rfl, Nat.le_of_ble_eq_true rfl⟩) hD hS hA (fun r u H locs hp hP hD hS => ?_)
            obtain ⟨c9, rfl⟩ : ∃ z, z = u := ⟨_, rfl⟩
            obtain ⟨h9, rc9, hp9⟩ : r = Int32.ofInt c9 ∧ (inR c9) ∧ (c9 = (gs (lc (nb s0) ((fa 9)) 1) ((fi 7)))) := hp
            subst h9
            have hWi45 := hp9
            refine lv_aload_n hx hb dX3_rideTrouble_48 rfl (lv_at hl 0 rfl) ?_
            refine va_get (D := G) (ci := 2) (v := .int (Int32.ofInt (fi 2))) (C := RX3) (T := TX3) (N := 14) (ref := RX3) hx hb hts h3w hown hX.1 hP 0 rfl rfl 2 (by decide) h2w (fun _ h9 => h9) rfl dX3_rideTrouble_49 ?_
            have rf2 := hR 2
            refine iv_icmp_le (tgt := 57) hx hb (by omega) (by omega) dX3_rideTrouble_52 (by decide) (fun q10 => ?_) (fun q10 => ?_)
            · refine lv_aload_n hx hb dX3_rideTrouble_57 rfl (lv_at hl 0 rfl) ?_
              refine lv_iload_n hx hb dX3_rideTrouble_58 rfl (lv_at hl 1 rfl) ?_
              refine lv_iconst (v := Int32.ofInt 0) hx hb dX3_rideTrouble_59 (by decide +kernel) ?_
              refine cr_i (va_runV (As := [.int (Int32.ofInt (s0)), .int (Int32.ofInt (0))]) (rest := []) ⟨hx, hb, hml, hown, hts⟩ (mX3_brokenRule l G k ar fi fa s0 0 H.size hR hRa hB8 hB20 hB21 (by omega) (by omega) (show 0 ≤ (fi 7) ∧ (fi 7) ≤ 7 from by omega) (show 0 ≤ (fi 0) ∧ (fi 0) ≤ 11 from by omega) (show 0 ≤ (fi 24) ∧ (fi 24) ≤ 4 from by omega) (show 0 = 0 ∨ 0 = 1 from by omega) (show ∀ q9, 0 ≤ q9 → q9 < (fi 24) → RWf (dcf ((fa 20))) (stq ((fa 21)) q9) ((fa 21) q9) from by first | exact hRC | omega)) (cwV 2 hts (gz [.methodLink RX3 104 yX3_brokenRule, .instanceMethod yX3_brokenRule, .selects RX3 yX3_brokenRule yX3_brokenRule, .initialized RX3] (.code yX3_brokenRule cX3_brokenRule 5 (some .int)) [(29, 10), (25, 7), (25, 8), (0, 19), (25, 9)] rfl) rfl rfl rfl (by decide +kernel) ⟨Nat.le_of_ble_eq_true rfl, Nat.le_of_ble_eq_true rfl⟩) (cr_preV (EZ_ok k) hZ hS hX hP hD hA (ci := 2) (q0 := 0) rfl rfl) rfl rfl hl.1 rfl (lv_room (Nat.le_of_ble_eq_true rfl)) dX3_rideTrouble_60 ⟨Nat.le_of_ble_eq_true rfl, Nat.le_of_ble_eq_true rfl⟩) hD hS hA (fun r u H locs hp hP hD hS => ?_)
              obtain ⟨c11, c12, c13⟩ := u
              obtain ⟨hP, hD⟩ : va_P G vwCl (wP k ar fi (uF (uF fa 13 (c12)) 22 (c13))) H ∧ va_D A (wP k ar fi (uF (uF fa 13 (c12)) 22 (c13))) := ⟨hP, hD⟩
              obtain ⟨h9, rc11, rc12, rc13, hp13⟩ : r = Int32.ofInt c11 ∧ (inR c11) ∧ (∀ t, inR (c12 t)) ∧ (∀ t, inR (c13 t)) ∧ ((-1 ≤ c11 ∧ c11 < 4) ∧ brkP c11 (fun q => evR (dcf ((fa 20))) (vls (nb s0) ((fa 8)) ((fa 9)) 0 ((fi 7)) ((fi 0)) (dp s0)) (stq ((fa 21)) q) ((fa 21) q)) ((fi 24))) := hp
              subst h9
              obtain ⟨hp13, hBk60⟩ := hp13
              have hi60 := brk_i hBk60
              refine lv_iconst (v := Int32.ofInt (-1)) hx hb dX3_rideTrouble_63 (by decide +kernel) ?_
              refine iv_icmp_ne (tgt := 77) hx hb (by omega) (by omega) dX3_rideTrouble_64 (by decide) (fun q14 => ?_) (fun q14 => ?_)
              · refine lv_iconst (v := Int32.ofInt 5) hx hb dX3_rideTrouble_77 (by decide +kernel) ?_
                exact W.iret (v := Int32.ofInt (5)) hx hb hr (fun t ht hW => ⟨⟨Int32.ofInt (5), (5, c12, c13), rfl, ⟨rfl, (show (inR 5) ∧ (∀ t, inR (c12 t)) ∧ (∀ t, inR (c13 t)) ∧ ((0 ≤ 5 ∧ 5 ≤ 7 ∧ (5 = 0 → 0 ≤ d0 ∧ d0 ≤ fi 0)) ∧ RtC 5 (fi 0) (dp s0) (gs (lc (nb s0) (fa 9) 0) (fi 7)) (gs (lc (nb s0) (fa 9) 1) (fi 7)) (fi 2) (bkI (fun q => evR (dcf (fa 20)) (vls (nb s0) (fa 8) (fa 9) 0 (fi 7) (fi 0) (dp s0)) (stq (fa 21) q) (fa 21 q)) (fi 24) ∧ bkI (fun q => evR (dcf (fa 20)) (vls (nb s0) (fa 8) (fa 9) 1 (fi 7) (fi 0) (dp s0)) (stq (fa 21) q) (fa 21 q)) (fi 24)) (fi 3) (fi 4) (fi 5) (fi 6) d0 h0) from ⟨(by omega), rc12, rc13, (by first | exact ⟨by omega, fun _ => rt_1 (by omega) rfl⟩ | exact ⟨by omega, fun _ => rt_3 (by omega) (by omega) rfl⟩ | exact ⟨by omega, fun _ => rt_4 (by omega) (by omega) (by omega) rfl⟩ | exact ⟨by omega, fun _ => rt_5 (by omega) (by omega) (by omega) (fun z => hi60.2 (by omega) z.1) rfl⟩ | exact ⟨by omega, fun _ => rt_5 (by omega) (by omega) (by omega) (fun z => hi70.2 (by omega) z.2) rfl⟩ | exact ⟨by omega, fun _ => rt_w (by omega) (by omega) (by omega) ⟨hi60.1 (by omega), hi70.1 (by omega)⟩ (by omega) rfl⟩ | exact ⟨by omega, rc_x (by omega) (by omega) (by omega) ⟨hi60.1 (by omega), hi70.1 (by omega)⟩ (by omega) hinv (hR 5) hXp111⟩)⟩)⟩, by rw [ht]; exact hP, hD⟩, hS.F ht⟩) hS.2.2 dX3_rideTrouble_78
              · refine lv_aload_n hx hb dX3_rideTrouble_67 rfl (lv_at hl 0 rfl) ?_
                refine lv_iload_n hx hb dX3_rideTrouble_68 rfl (lv_at hl 1 rfl) ?_
                refine lv_iconst (v := Int32.ofInt 1) hx hb dX3_rideTrouble_69 (by decide +kernel) ?_
                refine cr_i (va_runV (As := [.int (Int32.ofInt (s0)), .int (Int32.ofInt (1))]) (rest := []) ⟨hx, hb, hml, hown, hts⟩ (mX3_brokenRule l G k ar fi (uF (uF fa 13 (c12)) 22 (c13)) s0 1 H.size hR (iG (iG hRa rc12) rc13) hB8 hB20 hB21 (by omega) (by omega) (show 0 ≤ (fi 7) ∧ (fi 7) ≤ 7 from by omega) (show 0 ≤ (fi 0) ∧ (fi 0) ≤ 11 from by omega) (show 0 ≤ (fi 24) ∧ (fi 24) ≤ 4 from by omega) (show 1 = 0 ∨ 1 = 1 from by omega) (show ∀ q9, 0 ≤ q9 → q9 < (fi 24) → RWf (dcf ((fa 20))) (stq ((fa 21)) q9) ((fa 21) q9) from by first | exact hRC | omega)) (cwV 2 hts (gz [.methodLink RX3 104 yX3_brokenRule, .instanceMethod yX3_brokenRule, .selects RX3 yX3_brokenRule yX3_brokenRule, .initialized RX3] (.code yX3_brokenRule cX3_brokenRule 5 (some .int)) [(29, 10), (25, 7), (25, 8), (0, 19), (25, 9)] rfl) rfl rfl rfl (by decide +kernel) ⟨Nat.le_of_ble_eq_true rfl, Nat.le_of_ble_eq_true rfl⟩) (cr_preV (EZ_ok k) hZ hS hX hP hD hA (ci := 2) (q0 := 0) rfl rfl) rfl rfl hl.1 rfl (lv_room (Nat.le_of_ble_eq_true rfl)) dX3_rideTrouble_70 ⟨Nat.le_of_ble_eq_true rfl, Nat.le_of_ble_eq_true rfl⟩) hD hS hA (fun r u H locs hp hP hD hS => ?_)
                obtain ⟨c15, c16, c17⟩ := u
                obtain ⟨hP, hD⟩ : va_P G vwCl (wP k ar fi (uF (uF fa 13 (c16)) 22 (c17))) H ∧ va_D A (wP k ar fi (uF (uF fa 13 (c16)) 22 (c17))) := ⟨hP, hD⟩
                obtain ⟨h9, rc15, rc16, rc17, hp17⟩ : r = Int32.ofInt c15 ∧ (inR c15) ∧ (∀ t, inR (c16 t)) ∧ (∀ t, inR (c17 t)) ∧ ((-1 ≤ c15 ∧ c15 < 4) ∧ brkP c15 (fun q => evR (dcf ((fa 20))) (vls (nb s0) ((fa 8)) ((fa 9)) 1 ((fi 7)) ((fi 0)) (dp s0)) (stq ((fa 21)) q) ((fa 21) q)) ((fi 24))) := hp
                subst h9
                obtain ⟨hp17, hBk70⟩ := hp17
                have hi70 := brk_i hBk70
                refine lv_iconst (v := Int32.ofInt (-1)) hx hb dX3_rideTrouble_73 (by decide +kernel) ?_
                refine iv_icmp_eq (tgt := 79) hx hb (by omega) (by omega) dX3_rideTrouble_74 (by decide) (fun q18 => ?_) (fun q18 => ?_)
                · refine lv_iload_n hx hb dX3_rideTrouble_79 rfl (lv_at hl 3 rfl) ?_
                  refine lv_iconst (v := Int32.ofInt 2) hx hb dX3_rideTrouble_80 (by decide +kernel) ?_
                  refine iv_icmp_ne (tgt := 88) hx hb (by omega) (by omega) dX3_rideTrouble_81 (by decide) (fun q19 => ?_) (fun q19 => ?_)
                  · refine lv_aload_n hx hb dX3_rideTrouble_88 rfl (lv_at hl 0 rfl) ?_
                    refine lv_iload_n hx hb dX3_rideTrouble_89 rfl (lv_at hl 1 rfl) ?_
                    refine lv_iload_n hx hb dX3_rideTrouble_90 rfl (lv_at hl 2 rfl) ?_
                    refine iv_join (G := G) (A := A) (H0 := s.heap) (α := Int) (nL := 4) 111 (fun b9 => [.int (Int32.ofInt (b9)), .int (Int32.ofInt (d0)), .int (Int32.ofInt (s0)), .ref (ar 99)]) (fun b9 => (wP k ar fi (uF (uF fa 13 (c16)) 22 (c17)))) (fun b9 => [(0, .ref (ar 99)), (1, .int (Int32.ofInt (s0))), (2, .int (Int32.ofInt (d0))), (3, .int (Int32.ofInt (h0)))]) (fun b9 => inR b9 ∧ ((h0 = 0 ∧ b9 = fi 5) ∨ (¬ h0 = 0 ∧ b9 = bWr (fi 5 + fi 6)))) ?_ (fun J111 => ?_)
                    · intro s0_20 hi9 H locs ls hP hD hS hl
                      obtain ⟨r_s0_20, hinv⟩ : inR s0_20 ∧ ((h0 = 0 ∧ s0_20 = fi 5) ∨ (¬ h0 = 0 ∧ s0_20 = bWr (fi 5 + fi 6))) := hi9
                      obtain ⟨hP, hD⟩ : va_P G vwCl (wP k ar fi (uF (uF fa 13 (c16)) 22 (c17))) H ∧ va_D A (wP k ar fi (uF (uF fa 13 (c16)) 22 (c17))) := ⟨hP, hD⟩
                      have hl : lv_has ls 4 [(0, .ref (ar 99)), (1, .int (Int32.ofInt (s0))), (2, .int (Int32.ofInt (d0))), (3, .int (Int32.ofInt (h0)))] := hl
                      refine cr_i (va_runV (As := [.int (Int32.ofInt (s0)), .int (Int32.ofInt (d0)), .int (Int32.ofInt (s0_20))]) (rest := []) ⟨hx, hb, hml, hown, hts⟩ (mX3_excessTrouble l G k ar fi (uF (uF fa 13 (c16)) 22 (c17)) s0 d0 s0_20 H.size hR (iG (iG hRa rc16) rc17) hB8 hB20 hB21 (by omega) (by omega) (by omega) (show 0 ≤ (fi 7) ∧ (fi 7) ≤ 7 from by omega) (show 0 ≤ (fi 0) ∧ (fi 0) ≤ 11 from by omega)) (cwV 3 hts (gz [.methodLink RX3 107 yX3_excessTrouble, .instanceMethod yX3_excessTrouble, .selects RX3 yX3_excessTrouble yX3_excessTrouble, .initialized RX3] (.code yX3_excessTrouble cX3_excessTrouble 9 (some .int)) [(29, 11), (29, 12), (29, 13), (0, 19), (29, 14)] rfl) rfl rfl rfl (by decide +kernel) ⟨Nat.le_of_ble_eq_true rfl, Nat.le_of_ble_eq_true rfl⟩) (cr_preV (EZ_ok k) hZ hS hX hP hD hA (ci := 2) (q0 := 0) rfl rfl) rfl rfl hl.1 rfl (lv_room (Nat.le_of_ble_eq_true rfl)) dX3_rideTrouble_111 ⟨Nat.le_of_ble_eq_true rfl, Nat.le_of_ble_eq_true rfl⟩) hD hS hA (fun r u H locs hp hP hD hS => ?_)
                      obtain ⟨c21, rfl⟩ : ∃ z, z = u := ⟨_, rfl⟩
                      obtain ⟨h9, rc21, hp21⟩ : r = Int32.ofInt c21 ∧ (inR c21) ∧ ((0 ≤ c21 ∧ c21 ≤ 7) ∧ ExP c21 (exM (gs (lc (nb s0) ((fa 9)) 0) ((fi 7))) (gs (lc (nb s0) ((fa 9)) 1) ((fi 7))) ((fi 3)) ((fi 0)) (stD (dp s0) d0)) ((fi 4)) s0_20 (dp s0) ((fi 0)) d0) := hp
                      subst h9
                      obtain ⟨hp21, hXp111⟩ := hp21
                      exact W.iret (v := Int32.ofInt (c21)) hx hb hr (fun t ht hW => ⟨⟨Int32.ofInt (c21), (c21, c16, c17), rfl, ⟨rfl, (show (inR c21) ∧ (∀ t, inR (c16 t)) ∧ (∀ t, inR (c17 t)) ∧ ((0 ≤ c21 ∧ c21 ≤ 7 ∧ (c21 = 0 → 0 ≤ d0 ∧ d0 ≤ fi 0)) ∧ RtC c21 (fi 0) (dp s0) (gs (lc (nb s0) (fa 9) 0) (fi 7)) (gs (lc (nb s0) (fa 9) 1) (fi 7)) (fi 2) (bkI (fun q => evR (dcf (fa 20)) (vls (nb s0) (fa 8) (fa 9) 0 (fi 7) (fi 0) (dp s0)) (stq (fa 21) q) (fa 21 q)) (fi 24) ∧ bkI (fun q => evR (dcf (fa 20)) (vls (nb s0) (fa 8) (fa 9) 1 (fi 7) (fi 0) (dp s0)) (stq (fa 21) q) (fa 21 q)) (fi 24)) (fi 3) (fi 4) (fi 5) (fi 6) d0 h0) from ⟨(by omega), rc16, rc17, (by first | exact ⟨by omega, fun _ => rt_1 (by omega) rfl⟩ | exact ⟨by omega, fun _ => rt_3 (by omega) (by omega) rfl⟩ | exact ⟨by omega, fun _ => rt_4 (by omega) (by omega) (by omega) rfl⟩ | exact ⟨by omega, fun _ => rt_5 (by omega) (by omega) (by omega) (fun z => hi60.2 (by omega) z.1) rfl⟩ | exact ⟨by omega, fun _ => rt_5 (by omega) (by omega) (by omega) (fun z => hi70.2 (by omega) z.2) rfl⟩ | exact ⟨by omega, fun _ => rt_w (by omega) (by omega) (by omega) ⟨hi60.1 (by omega), hi70.1 (by omega)⟩ (by omega) rfl⟩ | exact ⟨by omega, rc_x (by omega) (by omega) (by omega) ⟨hi60.1 (by omega), hi70.1 (by omega)⟩ (by omega) hinv (hR 5) hXp111⟩)⟩)⟩, by rw [ht]; exact hP, hD⟩, hS.F ht⟩) hS.2.2 dX3_rideTrouble_114
                    · refine lv_iload_n hx hb dX3_rideTrouble_91 rfl (lv_at hl 3 rfl) ?_
                      refine iv_if_ne (tgt := 102) hx hb (by omega) dX3_rideTrouble_92 (by decide) (fun q22 => ?_) (fun q22 => ?_)
                      · refine lv_aload_n hx hb dX3_rideTrouble_102 rfl (lv_at hl 0 rfl) ?_
                        refine va_get (D := G) (ci := 2) (v := .int (Int32.ofInt (fi 5))) (C := RX3) (T := TX3) (N := 14) (ref := RX3) hx hb hts h3w hown hX.1 hP 0 rfl rfl 5 (by decide) h4w (fun _ h9 => h9) rfl dX3_rideTrouble_103 ?_
                        have rf5 := hR 5
                        refine lv_aload_n hx hb dX3_rideTrouble_106 rfl (lv_at hl 0 rfl) ?_
                        refine va_get (D := G) (ci := 2) (v := .int (Int32.ofInt (fi 6))) (C := RX3) (T := TX3) (N := 14) (ref := RX3) hx hb hts h3w hown hX.1 hP 0 rfl rfl 6 (by decide) h5w (fun _ h9 => h9) rfl dX3_rideTrouble_107 ?_
                        have rf6 := hR 6
                        refine iv_add (x := fi 5) (y := fi 6) hx hb dX3_rideTrouble_110 ?_
                        refine iv_wr ?_
                        refine iv_top (fun z23 ez23 => ?_)
                        have rz23 : inR z23 := ez23 ▸ bWr_r _
                        have hl : lv_has ls 4 [(0, .ref (ar 99)), (1, .int (Int32.ofInt (s0))), (2, .int (Int32.ofInt (d0))), (3, .int (Int32.ofInt (h0)))] := lv_sub hl [0, 1, 2, 3] rfl
                        exact J111 (z23) (show inR z23 ∧ ((h0 = 0 ∧ z23 = fi 5) ∨ (¬ h0 = 0 ∧ z23 = bWr (fi 5 + fi 6))) from ⟨(by omega), (by omega)⟩) _ _ _ hP hD hS hl
                      · refine lv_aload_n hx hb dX3_rideTrouble_95 rfl (lv_at hl 0 rfl) ?_
                        refine va_get (D := G) (ci := 2) (v := .int (Int32.ofInt (fi 5))) (C := RX3) (T := TX3) (N := 14) (ref := RX3) hx hb hts h3w hown hX.1 hP 0 rfl rfl 5 (by decide) h4w (fun _ h9 => h9) rfl dX3_rideTrouble_96 ?_
                        have rf5 := hR 5
                        refine lv_goto (tgt := 111) hx hb dX3_rideTrouble_99 (by decide) ?_
                        have hl : lv_has ls 4 [(0, .ref (ar 99)), (1, .int (Int32.ofInt (s0))), (2, .int (Int32.ofInt (d0))), (3, .int (Int32.ofInt (h0)))] := lv_sub hl [0, 1, 2, 3] rfl
                        exact J111 (fi 5) (show inR (fi 5) ∧ ((h0 = 0 ∧ (fi 5) = fi 5) ∨ (¬ h0 = 0 ∧ (fi 5) = bWr (fi 5 + fi 6))) from ⟨(hR 5), (by omega)⟩) _ _ _ hP hD hS hl
                  · refine lv_iconst (v := Int32.ofInt 0) hx hb dX3_rideTrouble_84 (by decide +kernel) ?_
                    refine lv_goto (tgt := 114) hx hb dX3_rideTrouble_85 (by decide) ?_
                    exact W.iret (v := Int32.ofInt (0)) hx hb hr (fun t ht hW => ⟨⟨Int32.ofInt (0), (0, c16, c17), rfl, ⟨rfl, (show (inR 0) ∧ (∀ t, inR (c16 t)) ∧ (∀ t, inR (c17 t)) ∧ ((0 ≤ 0 ∧ 0 ≤ 7 ∧ (0 = 0 → 0 ≤ d0 ∧ d0 ≤ fi 0)) ∧ RtC 0 (fi 0) (dp s0) (gs (lc (nb s0) (fa 9) 0) (fi 7)) (gs (lc (nb s0) (fa 9) 1) (fi 7)) (fi 2) (bkI (fun q => evR (dcf (fa 20)) (vls (nb s0) (fa 8) (fa 9) 0 (fi 7) (fi 0) (dp s0)) (stq (fa 21) q) (fa 21 q)) (fi 24) ∧ bkI (fun q => evR (dcf (fa 20)) (vls (nb s0) (fa 8) (fa 9) 1 (fi 7) (fi 0) (dp s0)) (stq (fa 21) q) (fa 21 q)) (fi 24)) (fi 3) (fi 4) (fi 5) (fi 6) d0 h0) from ⟨(by omega), rc16, rc17, (by first | exact ⟨by omega, fun _ => rt_1 (by omega) rfl⟩ | exact ⟨by omega, fun _ => rt_3 (by omega) (by omega) rfl⟩ | exact ⟨by omega, fun _ => rt_4 (by omega) (by omega) (by omega) rfl⟩ | exact ⟨by omega, fun _ => rt_5 (by omega) (by omega) (by omega) (fun z => hi60.2 (by omega) z.1) rfl⟩ | exact ⟨by omega, fun _ => rt_5 (by omega) (by omega) (by omega) (fun z => hi70.2 (by omega) z.2) rfl⟩ | exact ⟨by omega, fun _ => rt_w (by omega) (by omega) (by omega) ⟨hi60.1 (by omega), hi70.1 (by omega)⟩ (by omega) rfl⟩ | exact ⟨by omega, rc_x (by omega) (by omega) (by omega) ⟨hi60.1 (by omega), hi70.1 (by omega)⟩ (by omega) hinv (hR 5) hXp111⟩)⟩)⟩, by rw [ht]; exact hP, hD⟩, hS.F ht⟩) hS.2.2 dX3_rideTrouble_114
                · refine lv_iconst (v := Int32.ofInt 5) hx hb dX3_rideTrouble_77 (by decide +kernel) ?_
                  exact W.iret (v := Int32.ofInt (5)) hx hb hr (fun t ht hW => ⟨⟨Int32.ofInt (5), (5, c16, c17), rfl, ⟨rfl, (show (inR 5) ∧ (∀ t, inR (c16 t)) ∧ (∀ t, inR (c17 t)) ∧ ((0 ≤ 5 ∧ 5 ≤ 7 ∧ (5 = 0 → 0 ≤ d0 ∧ d0 ≤ fi 0)) ∧ RtC 5 (fi 0) (dp s0) (gs (lc (nb s0) (fa 9) 0) (fi 7)) (gs (lc (nb s0) (fa 9) 1) (fi 7)) (fi 2) (bkI (fun q => evR (dcf (fa 20)) (vls (nb s0) (fa 8) (fa 9) 0 (fi 7) (fi 0) (dp s0)) (stq (fa 21) q) (fa 21 q)) (fi 24) ∧ bkI (fun q => evR (dcf (fa 20)) (vls (nb s0) (fa 8) (fa 9) 1 (fi 7) (fi 0) (dp s0)) (stq (fa 21) q) (fa 21 q)) (fi 24)) (fi 3) (fi 4) (fi 5) (fi 6) d0 h0) from ⟨(by omega), rc16, rc17, (by first | exact ⟨by omega, fun _ => rt_1 (by omega) rfl⟩ | exact ⟨by omega, fun _ => rt_3 (by omega) (by omega) rfl⟩ | exact ⟨by omega, fun _ => rt_4 (by omega) (by omega) (by omega) rfl⟩ | exact ⟨by omega, fun _ => rt_5 (by omega) (by omega) (by omega) (fun z => hi60.2 (by omega) z.1) rfl⟩ | exact ⟨by omega, fun _ => rt_5 (by omega) (by omega) (by omega) (fun z => hi70.2 (by omega) z.2) rfl⟩ | exact ⟨by omega, fun _ => rt_w (by omega) (by omega) (by omega) ⟨hi60.1 (by omega), hi70.1 (by omega)⟩ (by omega) rfl⟩ | exact ⟨by omega, rc_x (by omega) (by omega) (by omega) ⟨hi60.1 (by omega), hi70.1 (by omega)⟩ (by omega) hinv (hR 5) hXp111⟩)⟩)⟩, by rw [ht]; exact hP, hD⟩, hS.F ht⟩) hS.2.2 dX3_rideTrouble_78
            · refine lv_iconst (v := Int32.ofInt 4) hx hb dX3_rideTrouble_55 (by decide +kernel) ?_
              exact W.iret (v := Int32.ofInt (4)) hx hb hr (fun t ht hW => ⟨⟨Int32.ofInt (4), (4, fa 13, fa 22), rfl, ⟨rfl, (show (inR 4) ∧ (∀ t, inR ((fa 13) t)) ∧ (∀ t, inR ((fa 22) t)) ∧ ((0 ≤ 4 ∧ 4 ≤ 7 ∧ (4 = 0 → 0 ≤ d0 ∧ d0 ≤ fi 0)) ∧ RtC 4 (fi 0) (dp s0) (gs (lc (nb s0) (fa 9) 0) (fi 7)) (gs (lc (nb s0) (fa 9) 1) (fi 7)) (fi 2) (bkI (fun q => evR (dcf (fa 20)) (vls (nb s0) (fa 8) (fa 9) 0 (fi 7) (fi 0) (dp s0)) (stq (fa 21) q) (fa 21 q)) (fi 24) ∧ bkI (fun q => evR (dcf (fa 20)) (vls (nb s0) (fa 8) (fa 9) 1 (fi 7) (fi 0) (dp s0)) (stq (fa 21) q) (fa 21 q)) (fi 24)) (fi 3) (fi 4) (fi 5) (fi 6) d0 h0) from ⟨(by omega), (hRa 13), (hRa 22), (by first | exact ⟨by omega, fun _ => rt_1 (by omega) rfl⟩ | exact ⟨by omega, fun _ => rt_3 (by omega) (by omega) rfl⟩ | exact ⟨by omega, fun _ => rt_4 (by omega) (by omega) (by omega) rfl⟩ | exact ⟨by omega, fun _ => rt_5 (by omega) (by omega) (by omega) (fun z => hi60.2 (by omega) z.1) rfl⟩ | exact ⟨by omega, fun _ => rt_5 (by omega) (by omega) (by omega) (fun z => hi70.2 (by omega) z.2) rfl⟩ | exact ⟨by omega, fun _ => rt_w (by omega) (by omega) (by omega) ⟨hi60.1 (by omega), hi70.1 (by omega)⟩ (by omega) rfl⟩ | exact ⟨by omega, rc_x (by omega) (by omega) (by omega) ⟨hi60.1 (by omega), hi70.1 (by omega)⟩ (by omega) hinv (hR 5) hXp111⟩)⟩)⟩, by rw [ht]; exact hP, hD⟩, hS.F ht⟩) hS.2.2 dX3_rideTrouble_56
        · refine lv_iconst (v := Int32.ofInt 3) hx hb dX3_rideTrouble_27 (by decide +kernel) ?_
          exact W.iret (v := Int32.ofInt (3)) hx hb hr (fun t ht hW => ⟨⟨Int32.ofInt (3), (3, fa 13, fa 22), rfl, ⟨rfl, (show (inR 3) ∧ (∀ t, inR ((fa 13) t)) ∧ (∀ t, inR ((fa 22) t)) ∧ ((0 ≤ 3 ∧ 3 ≤ 7 ∧ (3 = 0 → 0 ≤ d0 ∧ d0 ≤ fi 0)) ∧ RtC 3 (fi 0) (dp s0) (gs (lc (nb s0) (fa 9) 0) (fi 7)) (gs (lc (nb s0) (fa 9) 1) (fi 7)) (fi 2) (bkI (fun q => evR (dcf (fa 20)) (vls (nb s0) (fa 8) (fa 9) 0 (fi 7) (fi 0) (dp s0)) (stq (fa 21) q) (fa 21 q)) (fi 24) ∧ bkI (fun q => evR (dcf (fa 20)) (vls (nb s0) (fa 8) (fa 9) 1 (fi 7) (fi 0) (dp s0)) (stq (fa 21) q) (fa 21 q)) (fi 24)) (fi 3) (fi 4) (fi 5) (fi 6) d0 h0) from ⟨(by omega), (hRa 13), (hRa 22), (by first | exact ⟨by omega, fun _ => rt_1 (by omega) rfl⟩ | exact ⟨by omega, fun _ => rt_3 (by omega) (by omega) rfl⟩ | exact ⟨by omega, fun _ => rt_4 (by omega) (by omega) (by omega) rfl⟩ | exact ⟨by omega, fun _ => rt_5 (by omega) (by omega) (by omega) (fun z => hi60.2 (by omega) z.1) rfl⟩ | exact ⟨by omega, fun _ => rt_5 (by omega) (by omega) (by omega) (fun z => hi70.2 (by omega) z.2) rfl⟩ | exact ⟨by omega, fun _ => rt_w (by omega) (by omega) (by omega) ⟨hi60.1 (by omega), hi70.1 (by omega)⟩ (by omega) rfl⟩ | exact ⟨by omega, rc_x (by omega) (by omega) (by omega) ⟨hi60.1 (by omega), hi70.1 (by omega)⟩ (by omega) hinv (hR 5) hXp111⟩)⟩)⟩, by rw [ht]; exact hP, hD⟩, hS.F ht⟩) hS.2.2 dX3_rideTrouble_28
      · refine lv_iconst (v := Int32.ofInt 1) hx hb dX3_rideTrouble_17 (by decide +kernel) ?_
        exact W.iret (v := Int32.ofInt (1)) hx hb hr (fun t ht hW => ⟨⟨Int32.ofInt (1), (1, fa 13, fa 22), rfl, ⟨rfl, (show (inR 1) ∧ (∀ t, inR ((fa 13) t)) ∧ (∀ t, inR ((fa 22) t)) ∧ ((0 ≤ 1 ∧ 1 ≤ 7 ∧ (1 = 0 → 0 ≤ d0 ∧ d0 ≤ fi 0)) ∧ RtC 1 (fi 0) (dp s0) (gs (lc (nb s0) (fa 9) 0) (fi 7)) (gs (lc (nb s0) (fa 9) 1) (fi 7)) (fi 2) (bkI (fun q => evR (dcf (fa 20)) (vls (nb s0) (fa 8) (fa 9) 0 (fi 7) (fi 0) (dp s0)) (stq (fa 21) q) (fa 21 q)) (fi 24) ∧ bkI (fun q => evR (dcf (fa 20)) (vls (nb s0) (fa 8) (fa 9) 1 (fi 7) (fi 0) (dp s0)) (stq (fa 21) q) (fa 21 q)) (fi 24)) (fi 3) (fi 4) (fi 5) (fi 6) d0 h0) from ⟨(by omega), (hRa 13), (hRa 22), (by first | exact ⟨by omega, fun _ => rt_1 (by omega) rfl⟩ | exact ⟨by omega, fun _ => rt_3 (by omega) (by omega) rfl⟩ | exact ⟨by omega, fun _ => rt_4 (by omega) (by omega) (by omega) rfl⟩ | exact ⟨by omega, fun _ => rt_5 (by omega) (by omega) (by omega) (fun z => hi60.2 (by omega) z.1) rfl⟩ | exact ⟨by omega, fun _ => rt_5 (by omega) (by omega) (by omega) (fun z => hi70.2 (by omega) z.2) rfl⟩ | exact ⟨by omega, fun _ => rt_w (by omega) (by omega) (by omega) ⟨hi60.1 (by omega), hi70.1 (by omega)⟩ (by omega) rfl⟩ | exact ⟨by omega, rc_x (by omega) (by omega) (by omega) ⟨hi60.1 (by omega), hi70.1 (by omega)⟩ (by omega) hinv (hR 5) hXp111⟩)⟩)⟩, by rw [ht]; exact hP, hD⟩, hS.F ht⟩) hS.2.2 dX3_rideTrouble_18

set_option maxHeartbeats 4000000 in
set_option maxRecDepth 100000 in
theorem mX1_begin (l : Launch) (G : va_G) (k : Nat → ClassId) (ar : Nat → Nat) (fi : Nat → Int) (fa : Nat → Int → Int) (s0 : Int) (sz : Nat) (hR : ∀ j, inR (fi j)) (hRa : ∀ j t, inR (fa j t)) (hr_s0 : inR s0) : CNv l G k (EZ k) yX1_begin wzX1_begin ({ frames := 0, cells := 0, slots := 0, locals := 0 }) [.ref (ar 99), .int (Int32.ofInt (s0))] sz (wB k ar fi fa) (fun (u : Int × Int × Int × Int × Int) => (inR u.1) ∧ (inR u.2.1) ∧ (inR u.2.2.1) ∧ (inR u.2.2.2.1) ∧ (inR u.2.2.2.2) ∧ (u.1 = s0 ∧ u.2.1 = 0 ∧ u.2.2.2.2 = 0)) (fun (u : Int × Int × Int × Int × Int) => (wB k ar (uF (uF (uF (uF (uF fi 0 (u.1)) 1 (u.2.1)) 2 (u.2.2.1)) 3 (u.2.2.2.1)) 4 (u.2.2.2.2)) fa)) := by
  refine Met.ofW (cc := cX1_begin) (maxL := 2) (ret := none) (by decide) rfl ?_
  intro p e s m args below meth c s₁ B hml hv
  obtain ⟨rfl, hsz, hP, hX, hD0, hZ0⟩ := hv
  have hx := B.exec
  have hb := B.bytes
  have hr := B.returns
  have hts := atoms_spec (ws := wzX1_begin) B.pre
  have hown : s.vm.findClass RX1 = some m.cls := findClass_of_methodNamed B.named
  subst hsz
  have hD := hD0.self (sz := s.heap.size)
  have hZ := hZ0
  generalize hAe : va_A (wB k ar fi fa) s.heap.size = A at hD hZ ⊢
  have hA : ∀ q : Nat, s.heap.size ≤ q → A q := fun q h => by rw [← hAe]; exact Or.inr h
  have hS : va_S A s.heap s.heap [] := va_S.rf
  have hl := lv_entry ([.ref (ar 99), .int (Int32.ofInt (s0))]) (n := 2) (Nat.le_of_ble_eq_true rfl)
  rw [lg_entry_eq]
  generalize (lg_sl ([.ref (ar 99), .int (Int32.ofInt (s0))]) ++ List.replicate (2 - (lg_sl ([.ref (ar 99), .int (Int32.ofInt (s0))])).length) Slot.unset).toArray = ls at hl ⊢
  have hl : lv_has ls 2 [(0, .ref (ar 99)), (1, .int (Int32.ofInt (s0)))] := hl
  obtain ⟨H, eH⟩ : ∃ H, H = s.heap := ⟨_, rfl⟩
  rw [← eH] at hP
  have hS : va_S A s.heap H [] := by rw [eH]; exact hS
  have gW : s.heap = H := eH.symm
  refine iv_heap gW ?_
  have h0w := hts (.fieldLink RX1 33 "RopeTown$Book" "state" "I") (wz_at 5 18 rfl)
  have h1w : ∀ w ∈ wsX10, w ∈ wzX1_begin := fun w h => List.mem_cons_of_mem _ (inlX1 w h)
  have h2w := hts (.fieldLink RX1 37 "RopeTown$Book" "moves" "I") (wz_at 5 19 rfl)
  have h3w := hts (.fieldLink RX1 40 "RopeTown$Book" "rides" "I") (wz_at 5 20 rfl)
  have h4w := hts (.fieldLink RX1 43 "RopeTown$Book" "cost" "I") (wz_at 5 21 rfl)
  have h5w := hts (.fieldLink RX1 46 "RopeTown$Book" "days" "I") (wz_at 5 22 rfl)
  refine lv_aload_n hx hb dX1_begin_0 rfl (lv_at hl 0 rfl) ?_
  refine lv_iload_n hx hb dX1_begin_1 rfl (lv_at hl 1 rfl) ?_
  refine iv_put (ci := 0) (v := .int (Int32.ofInt (s0))) (ty := .int) (C := RX1) (T := TX1) (N := 12) (ref := RX1) hx hb hts h1w tyX1 tyX1_ok nmX1 hown hX.1 hP hD hS 0 rfl rfl 0 (by decide) h0w (fun _ h9 => h9) rfl (by decide +kernel) rfl rfl (Nat.le_of_ble_eq_true rfl) (show _ = (wB k ar (uF fi 0 (s0)) fa) from rfl) dX1_begin_2 (fun H locs hP hD hS => ?_)
  refine lv_aload_n hx hb dX1_begin_5 rfl (lv_at hl 0 rfl) ?_
  refine lv_iconst (v := Int32.ofInt 0) hx hb dX1_begin_6 (by decide +kernel) ?_
  refine iv_put (ci := 0) (v := .int (Int32.ofInt (0))) (ty := .int) (C := RX1) (T := TX1) (N := 12) (ref := RX1) hx hb hts h1w tyX1 tyX1_ok nmX1 hown hX.1 hP hD hS 0 rfl rfl 1 (by decide) h2w (fun _ h9 => h9) rfl (by decide +kernel) rfl rfl (Nat.le_of_ble_eq_true rfl) (show _ = (wB k ar (uF (uF fi 0 (s0)) 1 (0)) fa) from rfl) dX1_begin_7 (fun H locs hP hD hS => ?_)
  refine lv_aload_n hx hb dX1_begin_10 rfl (lv_at hl 0 rfl) ?_
  refine lv_iconst (v := Int32.ofInt 0) hx hb dX1_begin_11 (by decide +kernel) ?_
  refine iv_put (ci := 0) (v := .int (Int32.ofInt (0))) (ty := .int) (C := RX1) (T := TX1) (N := 12) (ref := RX1) hx hb hts h1w tyX1 tyX1_ok nmX1 hown hX.1 hP hD hS 0 rfl rfl 2 (by decide) h3w (fun _ h9 => h9) rfl (by decide +kernel) rfl rfl (Nat.le_of_ble_eq_true rfl) (show _ = (wB k ar (uF (uF (uF fi 0 (s0)) 1 (0)) 2 (0)) fa) from rfl) dX1_begin_12 (fun H locs hP hD hS => ?_)
  refine lv_aload_n hx hb dX1_begin_15 rfl (lv_at hl 0 rfl) ?_
  refine lv_iconst (v := Int32.ofInt 0) hx hb dX1_begin_16 (by decide +kernel) ?_
  refine iv_put (ci := 0) (v := .int (Int32.ofInt (0))) (ty := .int) (C := RX1) (T := TX1) (N := 12) (ref := RX1) hx hb hts h1w tyX1 tyX1_ok nmX1 hown hX.1 hP hD hS 0 rfl rfl 3 (by decide) h4w (fun _ h9 => h9) rfl (by decide +kernel) rfl rfl (Nat.le_of_ble_eq_true rfl) (show _ = (wB k ar (uF (uF (uF (uF fi 0 (s0)) 1 (0)) 2 (0)) 3 (0)) fa) from rfl) dX1_begin_17 (fun H locs hP hD hS => ?_)
  refine lv_aload_n hx hb dX1_begin_20 rfl (lv_at hl 0 rfl) ?_
  refine lv_iconst (v := Int32.ofInt 0) hx hb dX1_begin_21 (by decide +kernel) ?_
  refine iv_put (ci := 0) (v := .int (Int32.ofInt (0))) (ty := .int) (C := RX1) (T := TX1) (N := 12) (ref := RX1) hx hb hts h1w tyX1 tyX1_ok nmX1 hown hX.1 hP hD hS 0 rfl rfl 4 (by decide) h5w (fun _ h9 => h9) rfl (by decide +kernel) rfl rfl (Nat.le_of_ble_eq_true rfl) (show _ = (wB k ar (uF (uF (uF (uF (uF fi 0 (s0)) 1 (0)) 2 (0)) 3 (0)) 4 (0)) fa) from rfl) dX1_begin_22 (fun H locs hP hD hS => ?_)
  exact W.vret hx hb hr (fun t ht hW => ⟨⟨(s0, 0, 0, 0, 0), rfl, (show (inR s0) ∧ (inR 0) ∧ (inR 0) ∧ (inR 0) ∧ (inR 0) ∧ (s0 = s0 ∧ 0 = 0 ∧ 0 = 0) from ⟨(by omega), (by omega), (by omega), (by omega), (by omega), (by omega)⟩), by rw [ht]; exact hP, hD⟩, hS.F ht⟩) hS.2.2 dX1_begin_25

set_option maxHeartbeats 4000000 in
set_option maxRecDepth 100000 in
theorem mX1_note (l : Launch) (G : va_G) (k : Nat → ClassId) (ar : Nat → Nat) (fi : Nat → Int) (fa : Nat → Int → Int) (m0 : Int) (t0 : Int) (b0 : Int) (w0 : Int) (x0 : Int) (sz : Nat) (hR : ∀ j, inR (fi j)) (hRa : ∀ j t, inR (fa j t)) (hr_m0 : inR m0) (hr_t0 : inR t0) (hr_b0 : inR b0) (hr_w0 : inR w0) (hr_x0 : inR x0) (hmv : 0 ≤ fi 1 ∧ fi 1 ≤ 60) : CNv l G k (EZ k) yX1_note wzX1_note ({ frames := 0, cells := 0, slots := 0, locals := 0 }) [.ref (ar 99), .int (Int32.ofInt (m0)), .int (Int32.ofInt (t0)), .int (Int32.ofInt (b0)), .int (Int32.ofInt (w0)), .int (Int32.ofInt (x0))] sz (wB k ar fi fa) (fun (u : (Int → Int) × (Int → Int) × (Int → Int) × (Int → Int) × (Int → Int) × Int × Int × Int × Int) => (∀ t, inR (u.1 t)) ∧ (∀ t, inR (u.2.1 t)) ∧ (∀ t, inR (u.2.2.1 t)) ∧ (∀ t, inR (u.2.2.2.1 t)) ∧ (∀ t, inR (u.2.2.2.2.1 t)) ∧ (inR u.2.2.2.2.2.1) ∧ (inR u.2.2.2.2.2.2.1) ∧ (inR u.2.2.2.2.2.2.2.1) ∧ (inR u.2.2.2.2.2.2.2.2) ∧ ((0 ≤ u.2.2.2.2.2.2.1 ∧ u.2.2.2.2.2.2.1 ≤ 60) ∧ NtP (fi 1) u.2.2.2.2.2.2.1 (fi 0) u.2.2.2.2.2.1 m0 t0 b0 x0 (fa 5) u.1 (fa 6) u.2.1 (fa 7) u.2.2.1 (fa 8) u.2.2.2.1)) (fun (u : (Int → Int) × (Int → Int) × (Int → Int) × (Int → Int) × (Int → Int) × Int × Int × Int × Int) => (wB k ar (uF (uF (uF (uF fi 0 (u.2.2.2.2.2.1)) 1 (u.2.2.2.2.2.2.1)) 2 (u.2.2.2.2.2.2.2.1)) 3 (u.2.2.2.2.2.2.2.2)) (uF (uF (uF (uF (uF fa 5 (u.1)) 6 (u.2.1)) 7 (u.2.2.1)) 8 (u.2.2.2.1)) 9 (u.2.2.2.2.1)))) := by
  refine Met.ofW (cc := cX1_note) (maxL := 6) (ret := none) (by decide) rfl ?_
  intro p e s m args below meth c s₁ B hml hv
  obtain ⟨rfl, hsz, hP, hX, hD0, hZ0⟩ := hv
  have hx := B.exec
  have hb := B.bytes
  have hr := B.returns
  have hts := atoms_spec (ws := wzX1_note) B.pre
  have hown : s.vm.findClass RX1 = some m.cls := findClass_of_methodNamed B.named
  subst hsz
  have hD := hD0.self (sz := s.heap.size)
  have hZ := hZ0
  generalize hAe : va_A (wB k ar fi fa) s.heap.size = A at hD hZ ⊢
  have hA : ∀ q : Nat, s.heap.size ≤ q → A q := fun q h => by rw [← hAe]; exact Or.inr h
  have hS : va_S A s.heap s.heap [] := va_S.rf
  have hl := lv_entry ([.ref (ar 99), .int (Int32.ofInt (m0)), .int (Int32.ofInt (t0)), .int (Int32.ofInt (b0)), .int (Int32.ofInt (w0)), .int (Int32.ofInt (x0))]) (n := 6) (Nat.le_of_ble_eq_true rfl)
  rw [lg_entry_eq]
  generalize (lg_sl ([.ref (ar 99), .int (Int32.ofInt (m0)), .int (Int32.ofInt (t0)), .int (Int32.ofInt (b0)), .int (Int32.ofInt (w0)), .int (Int32.ofInt (x0))]) ++ List.replicate (6 - (lg_sl ([.ref (ar 99), .int (Int32.ofInt (m0)), .int (Int32.ofInt (t0)), .int (Int32.ofInt (b0)), .int (Int32.ofInt (w0)), .int (Int32.ofInt (x0))])).length) Slot.unset).toArray = ls at hl ⊢
  have hl : lv_has ls 6 [(0, .ref (ar 99)), (1, .int (Int32.ofInt (m0))), (2, .int (Int32.ofInt (t0))), (3, .int (Int32.ofInt (b0))), (4, .int (Int32.ofInt (w0))), (5, .int (Int32.ofInt (x0)))] := hl
  obtain ⟨H, eH⟩ : ∃ H, H = s.heap := ⟨_, rfl⟩
  rw [← eH] at hP
  have hS : va_S A s.heap H [] := by rw [eH]; exact hS
  have gW : s.heap = H := eH.symm
  refine iv_heap gW ?_
  have h0w := hts (.fieldLink RX1 37 "RopeTown$Book" "moves" "I") (wz_at 5 19 rfl)
  have h1w : ∀ w ∈ wsX10, w ∈ wzX1_note := fun w h => List.mem_cons_of_mem _ (inlX1 w h)
  have h2w := hts (.fieldLink RX1 9 "RopeTown$Book" "which" "[I") (wz_at 4 4 rfl)
  have h3w := hts (.fieldLink RX1 15 "RopeTown$Book" "target" "[I") (wz_at 4 5 rfl)
  have h4w := hts (.fieldLink RX1 18 "RopeTown$Book" "manner" "[I") (wz_at 4 6 rfl)
  have h5w := hts (.fieldLink RX1 21 "RopeTown$Book" "before" "[I") (wz_at 4 7 rfl)
  have h6w := hts (.fieldLink RX1 33 "RopeTown$Book" "state" "I") (wz_at 5 18 rfl)
  have h7w := hts (.fieldLink RX1 24 "RopeTown$Book" "wound" "[I") (wz_at 4 8 rfl)
  have h8w := hts (.fieldLink RX1 40 "RopeTown$Book" "rides" "I") (wz_at 5 20 rfl)
  have h9w := hts (.fieldLink RX1 43 "RopeTown$Book" "cost" "I") (wz_at 5 21 rfl)
  refine lv_aload_n hx hb dX1_note_0 rfl (lv_at hl 0 rfl) ?_
  refine va_get (D := G) (ci := 0) (v := .int (Int32.ofInt (fi 1))) (C := RX1) (T := TX1) (N := 12) (ref := RX1) hx hb hts h1w hown hX.1 hP 0 rfl rfl 1 (by decide) h0w (fun _ h9 => h9) rfl dX1_note_1 ?_
  have rf1 := hR 1
  refine lv_bipush (v := Int32.ofInt 60) hx hb dX1_note_4 (by decide +kernel) ?_
  refine iv_icmp_lt (tgt := 10) hx hb (by omega) (by omega) dX1_note_6 (by decide) (fun q1 => ?_) (fun q1 => ?_)
  · refine lv_aload_n hx hb dX1_note_10 rfl (lv_at hl 0 rfl) ?_
    refine va_get (D := G) (ci := 0) (v := .ref (ar 5)) (C := RX1) (T := TX1) (N := 12) (ref := RX1) hx hb hts h1w hown hX.1 hP 0 rfl rfl 5 (by decide) h2w (fun _ h9 => h9) rfl dX1_note_11 ?_
    refine lv_aload_n hx hb dX1_note_14 rfl (lv_at hl 0 rfl) ?_
    refine va_get (D := G) (ci := 0) (v := .int (Int32.ofInt (fi 1))) (C := RX1) (T := TX1) (N := 12) (ref := RX1) hx hb hts h1w hown hX.1 hP 0 rfl rfl 1 (by decide) h0w (fun _ h9 => h9) rfl dX1_note_15 ?_
    have rf1 := hR 1
    refine lv_iload_n hx hb dX1_note_18 rfl (lv_at hl 1 rfl) ?_
    refine iv_iast hx hb hX.1 hP hD hS 1 0 rfl rfl (fun g' => show _ = (wB k ar fi (uF fa 5 (g'))) from rfl) (by omega) (by omega) (by decide) dX1_note_19 (fun H locs hP hD hS => ?_)
    obtain ⟨g2, eg2, rg2⟩ : ∃ z, z = uA (fa 5) (fi 1) (m0) ∧ ∀ t, inR (z t) := ⟨_, rfl, iU (hRa 5) (by omega)⟩
    rw [← eg2] at hP hD
    refine lv_aload_n hx hb dX1_note_20 rfl (lv_at hl 0 rfl) ?_
    refine va_get (D := G) (ci := 0) (v := .ref (ar 6)) (C := RX1) (T := TX1) (N := 12) (ref := RX1) hx hb hts h1w hown hX.1 hP 0 rfl rfl 6 (by decide) h3w (fun _ h9 => h9) rfl dX1_note_21 ?_
    refine lv_aload_n hx hb dX1_note_24 rfl (lv_at hl 0 rfl) ?_
    refine va_get (D := G) (ci := 0) (v := .int (Int32.ofInt (fi 1))) (C := RX1) (T := TX1) (N := 12) (ref := RX1) hx hb hts h1w hown hX.1 hP 0 rfl rfl 1 (by decide) h0w (fun _ h9 => h9) rfl dX1_note_25 ?_
    have rf1 := hR 1
    refine lv_iload_n hx hb dX1_note_28 rfl (lv_at hl 2 rfl) ?_
    refine iv_iast hx hb hX.1 hP hD hS 2 0 rfl rfl (fun g' => show _ = (wB k ar fi (uF (uF fa 5 (g2)) 6 (g'))) from rfl) (by omega) (by omega) (by decide) dX1_note_29 (fun H locs hP hD hS => ?_)
    obtain ⟨hP, hD⟩ : va_P G vwCl (wB k ar fi (uF (uF fa 5 (g2)) 6 (uA (fa 6) (fi 1) (t0)))) H ∧ va_D A (wB k ar fi (uF (uF fa 5 (g2)) 6 (uA (fa 6) (fi 1) (t0)))) := ⟨hP, hD⟩
    obtain ⟨g3, eg3, rg3⟩ : ∃ z, z = uA (fa 6) (fi 1) (t0) ∧ ∀ t, inR (z t) := ⟨_, rfl, iU (hRa 6) (by omega)⟩
    rw [← eg3] at hP hD
    refine lv_aload_n hx hb dX1_note_30 rfl (lv_at hl 0 rfl) ?_
    refine va_get (D := G) (ci := 0) (v := .ref (ar 7)) (C := RX1) (T := TX1) (N := 12) (ref := RX1) hx hb hts h1w hown hX.1 hP 0 rfl rfl 7 (by decide) h4w (fun _ h9 => h9) rfl dX1_note_31 ?_
    refine lv_aload_n hx hb dX1_note_34 rfl (lv_at hl 0 rfl) ?_
    refine va_get (D := G) (ci := 0) (v := .int (Int32.ofInt (fi 1))) (C := RX1) (T := TX1) (N := 12) (ref := RX1) hx hb hts h1w hown hX.1 hP 0 rfl rfl 1 (by decide) h0w (fun _ h9 => h9) rfl dX1_note_35 ?_
    have rf1 := hR 1
    refine lv_iload_n hx hb dX1_note_38 rfl (lv_at hl 3 rfl) ?_
    refine iv_iast hx hb hX.1 hP hD hS 3 0 rfl rfl (fun g' => show _ = (wB k ar fi (uF (uF (uF fa 5 (g2)) 6 (g3)) 7 (g'))) from rfl) (by omega) (by omega) (by decide) dX1_note_39 (fun H locs hP hD hS => ?_)
    obtain ⟨hP, hD⟩ : va_P G vwCl (wB k ar fi (uF (uF (uF fa 5 (g2)) 6 (g3)) 7 (uA (fa 7) (fi 1) (b0)))) H ∧ va_D A (wB k ar fi (uF (uF (uF fa 5 (g2)) 6 (g3)) 7 (uA (fa 7) (fi 1) (b0)))) := ⟨hP, hD⟩
    obtain ⟨g4, eg4, rg4⟩ : ∃ z, z = uA (fa 7) (fi 1) (b0) ∧ ∀ t, inR (z t) := ⟨_, rfl, iU (hRa 7) (by omega)⟩
    rw [← eg4] at hP hD
    refine lv_aload_n hx hb dX1_note_40 rfl (lv_at hl 0 rfl) ?_
    refine va_get (D := G) (ci := 0) (v := .ref (ar 8)) (C := RX1) (T := TX1) (N := 12) (ref := RX1) hx hb hts h1w hown hX.1 hP 0 rfl rfl 8 (by decide) h5w (fun _ h9 => h9) rfl dX1_note_41 ?_
    refine lv_aload_n hx hb dX1_note_44 rfl (lv_at hl 0 rfl) ?_
    refine va_get (D := G) (ci := 0) (v := .int (Int32.ofInt (fi 1))) (C := RX1) (T := TX1) (N := 12) (ref := RX1) hx hb hts h1w hown hX.1 hP 0 rfl rfl 1 (by decide) h0w (fun _ h9 => h9) rfl dX1_note_45 ?_
    have rf1 := hR 1
    refine lv_aload_n hx hb dX1_note_48 rfl (lv_at hl 0 rfl) ?_
    refine va_get (D := G) (ci := 0) (v := .int (Int32.ofInt (fi 0))) (C := RX1) (T := TX1) (N := 12) (ref := RX1) hx hb hts h1w hown hX.1 hP 0 rfl rfl 0 (by decide) h6w (fun _ h9 => h9) rfl dX1_note_49 ?_
    have rf0 := hR 0
    refine iv_iast hx hb hX.1 hP hD hS 4 0 rfl rfl (fun g' => show _ = (wB k ar fi (uF (uF (uF (uF fa 5 (g2)) 6 (g3)) 7 (g4)) 8 (g'))) from rfl) (by omega) (by omega) (by decide) dX1_note_52 (fun H locs hP hD hS => ?_)
    obtain ⟨hP, hD⟩ : va_P G vwCl (wB k ar fi (uF (uF (uF (uF fa 5 (g2)) 6 (g3)) 7 (g4)) 8 (uA (fa 8) (fi 1) (fi 0)))) H ∧ va_D A (wB k ar fi (uF (uF (uF (uF fa 5 (g2)) 6 (g3)) 7 (g4)) 8 (uA (fa 8) (fi 1) (fi 0)))) := ⟨hP, hD⟩
    obtain ⟨g5, eg5, rg5⟩ : ∃ z, z = uA (fa 8) (fi 1) (fi 0) ∧ ∀ t, inR (z t) := ⟨_, rfl, iU (hRa 8) (by omega)⟩
    rw [← eg5] at hP hD
    refine lv_aload_n hx hb dX1_note_53 rfl (lv_at hl 0 rfl) ?_
    refine va_get (D := G) (ci := 0) (v := .ref (ar 9)) (C := RX1) (T := TX1) (N := 12) (ref := RX1) hx hb hts h1w hown hX.1 hP 0 rfl rfl 9 (by decide) h7w (fun _ h9 => h9) rfl dX1_note_54 ?_
    refine lv_aload_n hx hb dX1_note_57 rfl (lv_at hl 0 rfl) ?_
    refine va_get (D := G) (ci := 0) (v := .int (Int32.ofInt (fi 1))) (C := RX1) (T := TX1) (N := 12) (ref := RX1) hx hb hts h1w hown hX.1 hP 0 rfl rfl 1 (by decide) h0w (fun _ h9 => h9) rfl dX1_note_58 ?_
    have rf1 := hR 1
    refine lv_iload hx hb dX1_note_61 (lv_at hl 4 rfl) ?_
    refine iv_iast hx hb hX.1 hP hD hS 5 0 rfl rfl (fun g' => show _ = (wB k ar fi (uF (uF (uF (uF (uF fa 5 (g2)) 6 (g3)) 7 (g4)) 8 (g5)) 9 (g'))) from rfl) (by omega) (by omega) (by decide) dX1_note_63 (fun H locs hP hD hS => ?_)
    obtain ⟨hP, hD⟩ : va_P G vwCl (wB k ar fi (uF (uF (uF (uF (uF fa 5 (g2)) 6 (g3)) 7 (g4)) 8 (g5)) 9 (uA (fa 9) (fi 1) (w0)))) H ∧ va_D A (wB k ar fi (uF (uF (uF (uF (uF fa 5 (g2)) 6 (g3)) 7 (g4)) 8 (g5)) 9 (uA (fa 9) (fi 1) (w0)))) := ⟨hP, hD⟩
    obtain ⟨g6, eg6, rg6⟩ : ∃ z, z = uA (fa 9) (fi 1) (w0) ∧ ∀ t, inR (z t) := ⟨_, rfl, iU (hRa 9) (by omega)⟩
    rw [← eg6] at hP hD
    refine lv_aload_n hx hb dX1_note_64 rfl (lv_at hl 0 rfl) ?_
    refine lv_dup hx hb dX1_note_65 rfl ?_
    refine va_get (D := G) (ci := 0) (v := .int (Int32.ofInt (fi 1))) (C := RX1) (T := TX1) (N := 12) (ref := RX1) hx hb hts h1w hown hX.1 hP 0 rfl rfl 1 (by decide) h0w (fun _ h9 => h9) rfl dX1_note_66 ?_
    have rf1 := hR 1
    refine lv_iconst (v := Int32.ofInt 1) hx hb dX1_note_69 (by decide +kernel) ?_
    refine iv_add (x := fi 1) (y := 1) hx hb dX1_note_70 ?_
    refine iv_put (ci := 0) (v := .int (Int32.ofInt ((fi 1 + 1)))) (ty := .int) (C := RX1) (T := TX1) (N := 12) (ref := RX1) hx hb hts h1w tyX1 tyX1_ok nmX1 hown hX.1 hP hD hS 0 rfl rfl 1 (by decide) h0w (fun _ h9 => h9) rfl (by decide +kernel) rfl rfl (Nat.le_of_ble_eq_true rfl) (show _ = (wB k ar (uF fi 1 ((fi 1 + 1))) (uF (uF (uF (uF (uF fa 5 (g2)) 6 (g3)) 7 (g4)) 8 (g5)) 9 (g6))) from rfl) dX1_note_71 (fun H locs hP hD hS => ?_)
    refine lv_aload_n hx hb dX1_note_74 rfl (lv_at hl 0 rfl) ?_
    refine lv_dup hx hb dX1_note_75 rfl ?_
    refine va_get (D := G) (ci := 0) (v := .int (Int32.ofInt (fi 2))) (C := RX1) (T := TX1) (N := 12) (ref := RX1) hx hb hts h1w hown hX.1 hP 0 rfl rfl 2 (by decide) h8w (fun _ h9 => h9) rfl dX1_note_76 ?_
    have rf2 := hR 2
    refine lv_iload_n hx hb dX1_note_79 rfl (lv_at hl 1 rfl) ?_
    refine lv_iconst (v := Int32.ofInt 2) hx hb dX1_note_80 (by decide +kernel) ?_
    refine iv_icmp_ne (tgt := 88) hx hb (by omega) (by omega) dX1_note_81 (by decide) (fun q7 => ?_) (fun q7 => ?_)
    · refine lv_iconst (v := Int32.ofInt 0) hx hb dX1_note_88 (by decide +kernel) ?_
      refine iv_add (x := fi 2) (y := 0) hx hb dX1_note_89 ?_
      refine iv_wr ?_
      refine iv_top (fun z8 ez8 => ?_)
      have rz8 : inR z8 := ez8 ▸ bWr_r _
      refine iv_put (ci := 0) (v := .int (Int32.ofInt (z8))) (ty := .int) (C := RX1) (T := TX1) (N := 12) (ref := RX1) hx hb hts h1w tyX1 tyX1_ok nmX1 hown hX.1 hP hD hS 0 rfl rfl 2 (by decide) h8w (fun _ h9 => h9) rfl (by decide +kernel) rfl rfl (Nat.le_of_ble_eq_true rfl) (show _ = (wB k ar (uF (uF fi 1 ((fi 1 + 1))) 2 (z8)) (uF (uF (uF (uF (uF fa 5 (g2)) 6 (g3)) 7 (g4)) 8 (g5)) 9 (g6))) from rfl) dX1_note_90 (fun H locs hP hD hS => ?_)
      refine lv_aload_n hx hb dX1_note_93 rfl (lv_at hl 0 rfl) ?_
      refine lv_dup hx hb dX1_note_94 rfl ?_
      refine va_get (D := G) (ci := 0) (v := .int (Int32.ofInt (fi 3))) (C := RX1) (T := TX1) (N := 12) (ref := RX1) hx hb hts h1w hown hX.1 hP 0 rfl rfl 3 (by decide) h9w (fun _ h9 => h9) rfl dX1_note_95 ?_
      have rf3 := hR 3
      refine lv_iload hx hb dX1_note_98 (lv_at hl 4 rfl) ?_
      refine iv_add (x := fi 3) (y := w0) hx hb dX1_note_100 ?_
      refine iv_wr ?_
      refine iv_top (fun z9 ez9 => ?_)
      have rz9 : inR z9 := ez9 ▸ bWr_r _
      refine iv_put (ci := 0) (v := .int (Int32.ofInt (z9))) (ty := .int) (C := RX1) (T := TX1) (N := 12) (ref := RX1) hx hb hts h1w tyX1 tyX1_ok nmX1 hown hX.1 hP hD hS 0 rfl rfl 3 (by decide) h9w (fun _ h9 => h9) rfl (by decide +kernel) rfl rfl (Nat.le_of_ble_eq_true rfl) (show _ = (wB k ar (uF (uF (uF fi 1 ((fi 1 + 1))) 2 (z8)) 3 (z9)) (uF (uF (uF (uF (uF fa 5 (g2)) 6 (g3)) 7 (g4)) 8 (g5)) 9 (g6))) from rfl) dX1_note_101 (fun H locs hP hD hS => ?_)
      refine lv_aload_n hx hb dX1_note_104 rfl (lv_at hl 0 rfl) ?_
      refine lv_iload hx hb dX1_note_105 (lv_at hl 5 rfl) ?_
      refine iv_put (ci := 0) (v := .int (Int32.ofInt (x0))) (ty := .int) (C := RX1) (T := TX1) (N := 12) (ref := RX1) hx hb hts h1w tyX1 tyX1_ok nmX1 hown hX.1 hP hD hS 0 rfl rfl 0 (by decide) h6w (fun _ h9 => h9) rfl (by decide +kernel) rfl rfl (Nat.le_of_ble_eq_true rfl) (show _ = (wB k ar (uF (uF (uF (uF fi 0 (x0)) 1 ((fi 1 + 1))) 2 (z8)) 3 (z9)) (uF (uF (uF (uF (uF fa 5 (g2)) 6 (g3)) 7 (g4)) 8 (g5)) 9 (g6))) from rfl) dX1_note_107 (fun H locs hP hD hS => ?_)
      exact W.vret hx hb hr (fun t ht hW => ⟨⟨(g2, g3, g4, g5, g6, x0, (fi 1 + 1), z8, z9), rfl, (show (∀ t, inR (g2 t)) ∧ (∀ t, inR (g3 t)) ∧ (∀ t, inR (g4 t)) ∧ (∀ t, inR (g5 t)) ∧ (∀ t, inR (g6 t)) ∧ (inR x0) ∧ (inR (fi 1 + 1)) ∧ (inR z8) ∧ (inR z9) ∧ ((0 ≤ (fi 1 + 1) ∧ (fi 1 + 1) ≤ 60) ∧ NtP (fi 1) (fi 1 + 1) (fi 0) x0 m0 t0 b0 x0 (fa 5) g2 (fa 6) g3 (fa 7) g4 (fa 8) g5) from ⟨rg2, rg3, rg4, rg5, rg6, (by omega), (by omega), (by omega), (by omega), (by first | exact ⟨by omega, nt_no (by omega)⟩ | exact ⟨by omega, nt_ok (by omega) (by omega) eg2 eg3 eg4 eg5 rfl rfl rfl rfl⟩)⟩), by rw [ht]; exact hP, hD⟩, hS.F ht⟩) hS.2.2 dX1_note_110
    · refine lv_iconst (v := Int32.ofInt 1) hx hb dX1_note_84 (by decide +kernel) ?_
      refine lv_goto (tgt := 89) hx hb dX1_note_85 (by decide) ?_
      refine iv_add (x := fi 2) (y := 1) hx hb dX1_note_89 ?_
      refine iv_wr ?_
      refine iv_top (fun z10 ez10 => ?_)
      have rz10 : inR z10 := ez10 ▸ bWr_r _
      refine iv_put (ci := 0) (v := .int (Int32.ofInt (z10))) (ty := .int) (C := RX1) (T := TX1) (N := 12) (ref := RX1) hx hb hts h1w tyX1 tyX1_ok nmX1 hown hX.1 hP hD hS 0 rfl rfl 2 (by decide) h8w (fun _ h9 => h9) rfl (by decide +kernel) rfl rfl (Nat.le_of_ble_eq_true rfl) (show _ = (wB k ar (uF (uF fi 1 ((fi 1 + 1))) 2 (z10)) (uF (uF (uF (uF (uF fa 5 (g2)) 6 (g3)) 7 (g4)) 8 (g5)) 9 (g6))) from rfl) dX1_note_90 (fun H locs hP hD hS => ?_)
      refine lv_aload_n hx hb dX1_note_93 rfl (lv_at hl 0 rfl) ?_
      refine lv_dup hx hb dX1_note_94 rfl ?_
      refine va_get (D := G) (ci := 0) (v := .int (Int32.ofInt (fi 3))) (C := RX1) (T := TX1) (N := 12) (ref := RX1) hx hb hts h1w hown hX.1 hP 0 rfl rfl 3 (by decide) h9w (fun _ h9 => h9) rfl dX1_note_95 ?_
      have rf3 := hR 3
      refine lv_iload hx hb dX1_note_98 (lv_at hl 4 rfl) ?_
      refine iv_add (x := fi 3) (y := w0) hx hb dX1_note_100 ?_
      refine iv_wr ?_
      refine iv_top (fun z11 ez11 => ?_)
      have rz11 : inR z11 := ez11 ▸ bWr_r _
      refine iv_put (ci := 0) (v := .int (Int32.ofInt (z11))) (ty := .int) (C := RX1) (T := TX1) (N := 12) (ref := RX1) hx hb hts h1w tyX1 tyX1_ok nmX1 hown hX.1 hP hD hS 0 rfl rfl 3 (by decide) h9w (fun _ h9 => h9) rfl (by decide +kernel) rfl rfl (Nat.le_of_ble_eq_true rfl) (show _ = (wB k ar (uF (uF (uF fi 1 ((fi 1 + 1))) 2 (z10)) 3 (z11)) (uF (uF (uF (uF (uF fa 5 (g2)) 6 (g3)) 7 (g4)) 8 (g5)) 9 (g6))) from rfl) dX1_note_101 (fun H locs hP hD hS => ?_)
      refine lv_aload_n hx hb dX1_note_104 rfl (lv_at hl 0 rfl) ?_
      refine lv_iload hx hb dX1_note_105 (lv_at hl 5 rfl) ?_
      refine iv_put (ci := 0) (v := .int (Int32.ofInt (x0))) (ty := .int) (C := RX1) (T := TX1) (N := 12) (ref := RX1) hx hb hts h1w tyX1 tyX1_ok nmX1 hown hX.1 hP hD hS 0 rfl rfl 0 (by decide) h6w (fun _ h9 => h9) rfl (by decide +kernel) rfl rfl (Nat.le_of_ble_eq_true rfl) (show _ = (wB k ar (uF (uF (uF (uF fi 0 (x0)) 1 ((fi 1 + 1))) 2 (z10)) 3 (z11)) (uF (uF (uF (uF (uF fa 5 (g2)) 6 (g3)) 7 (g4)) 8 (g5)) 9 (g6))) from rfl) dX1_note_107 (fun H locs hP hD hS => ?_)
      exact W.vret hx hb hr (fun t ht hW => ⟨⟨(g2, g3, g4, g5, g6, x0, (fi 1 + 1), z10, z11), rfl, (show (∀ t, inR (g2 t)) ∧ (∀ t, inR (g3 t)) ∧ (∀ t, inR (g4 t)) ∧ (∀ t, inR (g5 t)) ∧ (∀ t, inR (g6 t)) ∧ (inR x0) ∧ (inR (fi 1 + 1)) ∧ (inR z10) ∧ (inR z11) ∧ ((0 ≤ (fi 1 + 1) ∧ (fi 1 + 1) ≤ 60) ∧ NtP (fi 1) (fi 1 + 1) (fi 0) x0 m0 t0 b0 x0 (fa 5) g2 (fa 6) g3 (fa 7) g4 (fa 8) g5) from ⟨rg2, rg3, rg4, rg5, rg6, (by omega), (by omega), (by omega), (by omega), (by first | exact ⟨by omega, nt_no (by omega)⟩ | exact ⟨by omega, nt_ok (by omega) (by omega) eg2 eg3 eg4 eg5 rfl rfl rfl rfl⟩)⟩), by rw [ht]; exact hP, hD⟩, hS.F ht⟩) hS.2.2 dX1_note_110
  · exact W.vret hx hb hr (fun t ht hW => ⟨⟨(fa 5, fa 6, fa 7, fa 8, fa 9, fi 0, fi 1, fi 2, fi 3), rfl, (show (∀ t, inR ((fa 5) t)) ∧ (∀ t, inR ((fa 6) t)) ∧ (∀ t, inR ((fa 7) t)) ∧ (∀ t, inR ((fa 8) t)) ∧ (∀ t, inR ((fa 9) t)) ∧ (inR (fi 0)) ∧ (inR (fi 1)) ∧ (inR (fi 2)) ∧ (inR (fi 3)) ∧ ((0 ≤ (fi 1) ∧ (fi 1) ≤ 60) ∧ NtP (fi 1) (fi 1) (fi 0) (fi 0) m0 t0 b0 x0 (fa 5) (fa 5) (fa 6) (fa 6) (fa 7) (fa 7) (fa 8) (fa 8)) from ⟨(hRa 5), (hRa 6), (hRa 7), (hRa 8), (hRa 9), (hR 0), (hR 1), (hR 2), (hR 3), (by first | exact ⟨by omega, nt_no (by omega)⟩ | exact ⟨by omega, nt_ok (by omega) (by omega) efa 5 efa 6 efa 7 efa 8 rfl rfl rfl rfl⟩)⟩), by rw [ht]; exact hP, hD⟩, hS.F ht⟩) hS.2.2 dX1_note_9

