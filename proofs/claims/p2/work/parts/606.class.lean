set_option maxHeartbeats 4000000 in
set_option maxRecDepth 100000 in
theorem mX3_windingTo (l : Launch) (G : va_G) (k : Nat → ClassId) (ar : Nat → Nat) (fi : Nat → Int) (fa : Nat → Int → Int) (s0 : Int) (d0 : Int) (sz : Nat) (hR : ∀ j, inR (fi j)) (hRa : ∀ j t, inR (fa j t)) (hB8 : bnd (fa 8) 7 0 4) (hB21 : bnd (fa 21) 4 0 601) (hr_s0 : inR s0) (hr_d0 : inR d0) (hth : 0 ≤ fi 7 ∧ fi 7 ≤ 7) (hbt : 0 ≤ fi 0 ∧ fi 0 ≤ 11) : CNi l G k (EZ k) yX3_windingTo wzX3_windingTo ({ frames := 2, cells := 0, slots := 0, locals := 45 }) [.ref (ar 99), .int (Int32.ofInt (s0)), .int (Int32.ofInt (d0))] sz (wP k ar fi fa) (fun (r0 : Int32) (u : Int) => r0 = Int32.ofInt (u) ∧ (inR u) ∧ (True)) (fun (u : Int) => (wP k ar fi fa)) := by
  refine Met.ofW (cc := cX3_windingTo) (maxL := 7) (ret := (some .int)) (by decide) rfl ?_
  intro p e s m args below meth c s₁ B hml hv
  obtain ⟨rfl, hsz, hP, hX, hD0, hZ0⟩ := hv
  have hx := B.exec
  have hb := B.bytes
  have hr := B.returns
  have hts := atoms_spec (ws := wzX3_windingTo) B.pre
  have hown : s.vm.findClass RX3 = some m.cls := findClass_of_methodNamed B.named
  subst hsz
  have hD := hD0.self (sz := s.heap.size)
  have hZ := hZ0
  generalize hAe : va_A (wP k ar fi fa) s.heap.size = A at hD hZ ⊢
  have hA : ∀ q : Nat, s.heap.size ≤ q → A q := fun q h => by rw [← hAe]; exact Or.inr h
  have hS : va_S A s.heap s.heap [] := va_S.rf
  have hl := lv_entry ([.ref (ar 99), .int (Int32.ofInt (s0)), .int (Int32.ofInt (d0))]) (n := 7) (Nat.le_of_ble_eq_true rfl)
  rw [lg_entry_eq]
  generalize (lg_sl ([.ref (ar 99), .int (Int32.ofInt (s0)), .int (Int32.ofInt (d0))]) ++ List.replicate (7 - (lg_sl ([.ref (ar 99), .int (Int32.ofInt (s0)), .int (Int32.ofInt (d0))])).length) Slot.unset).toArray = ls at hl ⊢
  have hl : lv_has ls 7 [(0, .ref (ar 99)), (1, .int (Int32.ofInt (s0))), (2, .int (Int32.ofInt (d0)))] := hl
  obtain ⟨H, eH⟩ : ∃ H, H = s.heap := ⟨_, rfl⟩
  rw [← eH] at hP
  have hS : va_S A s.heap H [] := by rw [eH]; exact hS
  have gW : s.heap = H := eH.symm
  refine iv_heap gW ?_
  have h0w := hts (.initialized RX7) (wz_at 5 10 rfl)
  have h1w := hts (.static yX7_depth) (wz_at 22 12 rfl)
  refine lv_aload_n hx hb dX3_windingTo_0 rfl (lv_at hl 0 rfl) ?_
  refine lv_iload_n hx hb dX3_windingTo_1 rfl (lv_at hl 1 rfl) ?_
  refine lv_iconst (v := Int32.ofInt 0) hx hb dX3_windingTo_2 (by decide +kernel) ?_
  refine cr_i (va_runV (As := [.int (Int32.ofInt (s0)), .int (Int32.ofInt (0))]) (rest := []) ⟨hx, hb, hml, hown, hts⟩ (mX3_weightIn l G k ar fi fa s0 0 H.size hR hRa hB8 hB21 (by omega) (by omega) (show 0 ≤ (fi 7) ∧ (fi 7) ≤ 7 from by omega)) (cwV 2 hts (gz [.methodLink RX3 101 yX3_weightIn, .instanceMethod yX3_weightIn, .selects RX3 yX3_weightIn yX3_weightIn, .initialized RX3] (.code yX3_weightIn cX3_weightIn 5 (some .int)) [(29, 9), (25, 2), (25, 3), (0, 19), (25, 4)] rfl) rfl rfl rfl (by decide +kernel) ⟨Nat.le_of_ble_eq_true rfl, Nat.le_of_ble_eq_true rfl⟩) (cr_preV (EZ_ok k) hZ hS hX hP hD hA (ci := 2) (q0 := 0) rfl rfl) rfl rfl hl.1 rfl (lv_room (Nat.le_of_ble_eq_true rfl)) dX3_windingTo_3 ⟨Nat.le_of_ble_eq_true rfl, Nat.le_of_ble_eq_true rfl⟩) hD hS hA (fun r u H locs hp hP hD hS => ?_)
  obtain ⟨c1, rfl⟩ : ∃ z, z = u := ⟨_, rfl⟩
  obtain ⟨h9, rc1, hp1⟩ : r = Int32.ofInt c1 ∧ (inR c1) ∧ (True) := hp
  subst h9
  refine lv_aload_n hx hb dX3_windingTo_6 rfl (lv_at hl 0 rfl) ?_
  refine lv_iload_n hx hb dX3_windingTo_7 rfl (lv_at hl 1 rfl) ?_
  refine lv_iconst (v := Int32.ofInt 1) hx hb dX3_windingTo_8 (by decide +kernel) ?_
  refine cr_i (va_runV (As := [.int (Int32.ofInt (s0)), .int (Int32.ofInt (1))]) (rest := [.int (Int32.ofInt (c1))]) ⟨hx, hb, hml, hown, hts⟩ (mX3_weightIn l G k ar fi fa s0 1 H.size hR hRa hB8 hB21 (by omega) (by omega) (show 0 ≤ (fi 7) ∧ (fi 7) ≤ 7 from by omega)) (cwV 2 hts (gz [.methodLink RX3 101 yX3_weightIn, .instanceMethod yX3_weightIn, .selects RX3 yX3_weightIn yX3_weightIn, .initialized RX3] (.code yX3_weightIn cX3_weightIn 5 (some .int)) [(29, 9), (25, 2), (25, 3), (0, 19), (25, 4)] rfl) rfl rfl rfl (by decide +kernel) ⟨Nat.le_of_ble_eq_true rfl, Nat.le_of_ble_eq_true rfl⟩) (cr_preV (EZ_ok k) hZ hS hX hP hD hA (ci := 2) (q0 := 0) rfl rfl) rfl rfl hl.1 rfl (lv_room (Nat.le_of_ble_eq_true rfl)) dX3_windingTo_9 ⟨Nat.le_of_ble_eq_true rfl, Nat.le_of_ble_eq_true rfl⟩) hD hS hA (fun r u H locs hp hP hD hS => ?_)
  obtain ⟨c2, rfl⟩ : ∃ z, z = u := ⟨_, rfl⟩
  obtain ⟨h9, rc2, hp2⟩ : r = Int32.ofInt c2 ∧ (inR c2) ∧ (True) := hp
  subst h9
  refine iv_sub (x := c1) (y := c2) hx hb dX3_windingTo_12 ?_
  refine iv_wr ?_
  refine iv_top (fun z3 ez3 => ?_)
  have rz3 : inR z3 := ez3 ▸ bWr_r _
  refine lv_istore_n (lv' := [(3, .int (Int32.ofInt (z3))), (0, .ref (ar 99)), (1, .int (Int32.ofInt (s0))), (2, .int (Int32.ofInt (d0)))]) hx hb dX3_windingTo_13 rfl hl (by decide) rfl (fun ls hl => ?_)
  refine lv_iload_n hx hb dX3_windingTo_14 rfl (lv_at hl 3 rfl) ?_
  refine lv_iload_n hx hb dX3_windingTo_15 rfl (lv_at hl 2 rfl) ?_
  refine c0_i (va_runSN (As := [.int (Int32.ofInt (s0))]) (rest := [.int (Int32.ofInt (d0))]) ⟨hx, hb, hml, hown, hts⟩ (mX7_depth l G k s0 H.size (by omega)) ⟨va_cnB 1 hts (gz [] (.code yX7_depth cX7_depth 1 (some .int)) [(22, 13)] rfl) rfl rfl rfl (nm_13 hX.2.2.1) h0w (by decide +kernel) ⟨Nat.le_of_ble_eq_true rfl, Nat.le_of_ble_eq_true rfl⟩, h1w, trivial⟩ (cr_pre0 (EZ_ok k) hZ hS hX hP hD hA) rfl rfl hl.1 rfl (lv_room (Nat.le_of_ble_eq_true rfl)) dX3_windingTo_16 ⟨Nat.le_of_ble_eq_true rfl, Nat.le_of_ble_eq_true rfl⟩) hP hD hS hA (fun r u H locs hp hP hD hS => ?_)
  obtain ⟨c4, rfl⟩ : ∃ z, z = u := ⟨_, rfl⟩
  obtain ⟨h9, rc4, hp4⟩ : r = Int32.ofInt c4 ∧ (inR c4) ∧ (c4 = bUshr s0 28 ∧ 0 ≤ c4 ∧ c4 ≤ 15) := hp
  subst h9
  refine iv_icmp_le (tgt := 26) hx hb (by omega) (by omega) dX3_windingTo_19 (by decide) (fun q5 => ?_) (fun q5 => ?_)
  · refine lv_iconst (v := Int32.ofInt (-1)) hx hb dX3_windingTo_26 (by decide +kernel) ?_
    refine lv_istore (lv' := [(4, .int (Int32.ofInt ((-1)))), (3, .int (Int32.ofInt (z3))), (0, .ref (ar 99)), (1, .int (Int32.ofInt (s0))), (2, .int (Int32.ofInt (d0)))]) hx hb dX3_windingTo_27 hl (by decide) rfl (fun ls hl => ?_)
    refine lv_iconst (v := Int32.ofInt 0) hx hb dX3_windingTo_29 (by decide +kernel) ?_
    refine lv_istore (lv' := [(5, .int (Int32.ofInt (0))), (4, .int (Int32.ofInt ((-1)))), (3, .int (Int32.ofInt (z3))), (0, .ref (ar 99)), (1, .int (Int32.ofInt (s0))), (2, .int (Int32.ofInt (d0)))]) hx hb dX3_windingTo_30 hl (by decide) rfl (fun ls hl => ?_)
    refine lv_iload_n hx hb dX3_windingTo_32 rfl (lv_at hl 4 rfl) ?_
    refine c0_i (va_runSN (As := [.int (Int32.ofInt (s0))]) (rest := []) ⟨hx, hb, hml, hown, hts⟩ (mX7_depth l G k s0 H.size (by omega)) ⟨va_cnB 1 hts (gz [] (.code yX7_depth cX7_depth 1 (some .int)) [(22, 13)] rfl) rfl rfl rfl (nm_13 hX.2.2.1) h0w (by decide +kernel) ⟨Nat.le_of_ble_eq_true rfl, Nat.le_of_ble_eq_true rfl⟩, h1w, trivial⟩ (cr_pre0 (EZ_ok k) hZ hS hX hP hD hA) rfl rfl hl.1 rfl (lv_room (Nat.le_of_ble_eq_true rfl)) dX3_windingTo_33 ⟨Nat.le_of_ble_eq_true rfl, Nat.le_of_ble_eq_true rfl⟩) hP hD hS hA (fun r u H locs hp hP hD hS => ?_)
    obtain ⟨c6, rfl⟩ : ∃ z, z = u := ⟨_, rfl⟩
    obtain ⟨h9, rc6, hp6⟩ : r = Int32.ofInt c6 ∧ (inR c6) ∧ (c6 = bUshr s0 28 ∧ 0 ≤ c6 ∧ c6 ≤ 15) := hp
    subst h9
    refine lv_istore (lv' := [(6, .int (Int32.ofInt (c6))), (5, .int (Int32.ofInt (0))), (4, .int (Int32.ofInt ((-1)))), (3, .int (Int32.ofInt (z3))), (0, .ref (ar 99)), (1, .int (Int32.ofInt (s0))), (2, .int (Int32.ofInt (d0)))]) hx hb dX3_windingTo_36 hl (by decide) rfl (fun ls hl => ?_)
    refine iv_loop (α := Int × Int) (nL := 7) (fun b9 => (wP k ar fi fa)) (fun b9 => [(6, .int (Int32.ofInt (b9.1))), (5, .int (Int32.ofInt (b9.2))), (4, .int (Int32.ofInt ((-1)))), (3, .int (Int32.ofInt (z3))), (0, .ref (ar 99)), (1, .int (Int32.ofInt (s0))), (2, .int (Int32.ofInt (d0)))]) (fun b9 => (((-1) + 1) * (20 - b9.1) + (1 - (-1)) * (b9.1 + 20)).toNat) (fun b9 => inR b9.1 ∧ inR b9.2 ∧ (-1 ≤ b9.1 ∧ b9.1 ≤ 15)) ?_ (c6, 0) (show inR c6 ∧ inR 0 ∧ (-1 ≤ c6 ∧ c6 ≤ 15) from ⟨(by omega), (by omega), (by omega)⟩) hP hD hS hl
    rintro ⟨x6_7, x5_8⟩ ih hi9 H locs ls hP hD hS hl
    obtain ⟨r_x6_7, r_x5_8, hinv⟩ : inR x6_7 ∧ inR x5_8 ∧ (-1 ≤ x6_7 ∧ x6_7 ≤ 15) := hi9
    obtain ⟨hP, hD⟩ : va_P G vwCl (wP k ar fi fa) H ∧ va_D A (wP k ar fi fa) := ⟨hP, hD⟩
    have hl : lv_has ls 7 [(6, .int (Int32.ofInt (x6_7))), (5, .int (Int32.ofInt (x5_8))), (4, .int (Int32.ofInt ((-1)))), (3, .int (Int32.ofInt (z3))), (0, .ref (ar 99)), (1, .int (Int32.ofInt (s0))), (2, .int (Int32.ofInt (d0)))] := hl
    refine lv_aload_n hx hb dX3_windingTo_38 rfl (lv_at hl 4 rfl) ?_
    refine lv_iload hx hb dX3_windingTo_39 (lv_at hl 0 rfl) ?_
    refine cr_i (va_runV (As := [.int (Int32.ofInt (x6_7))]) (rest := []) ⟨hx, hb, hml, hown, hts⟩ (mX3_hasDepth l G k ar fi fa x6_7 H.size hR hRa hB8 hB21 (by omega)) (cwV 1 hts (gz [.methodLink RX3 98 yX3_hasDepth, .instanceMethod yX3_hasDepth, .selects RX3 yX3_hasDepth yX3_hasDepth, .initialized RX3] (.code yX3_hasDepth cX3_hasDepth 2 (some .boolean)) [(29, 5), (29, 6), (29, 7), (0, 19), (29, 8)] rfl) rfl rfl rfl (by decide +kernel) ⟨Nat.le_of_ble_eq_true rfl, Nat.le_of_ble_eq_true rfl⟩) (cr_preV (EZ_ok k) hZ hS hX hP hD hA (ci := 2) (q0 := 0) rfl rfl) rfl rfl hl.1 rfl (lv_room (Nat.le_of_ble_eq_true rfl)) dX3_windingTo_41 ⟨Nat.le_of_ble_eq_true rfl, Nat.le_of_ble_eq_true rfl⟩) hD hS hA (fun r u H locs hp hP hD hS => ?_)
    obtain ⟨c9, rfl⟩ : ∃ z, z = u := ⟨_, rfl⟩
    obtain ⟨h9, rc9, hp9⟩ : r = Int32.ofInt c9 ∧ (inR c9) ∧ ((c9 = 1 ∧ 0 ≤ x6_7 ∧ x6_7 ≤ (fi 0)) ∨ (c9 = 0 ∧ (x6_7 < 0 ∨ (fi 0) < x6_7))) := hp
    subst h9
    refine iv_if_eq (tgt := 81) hx hb (by omega) dX3_windingTo_44 (by decide) (fun q10 => ?_) (fun q10 => ?_)
    · refine lv_iload hx hb dX3_windingTo_81 (lv_at hl 1 rfl) ?_
      exact W.iret (v := Int32.ofInt (x5_8)) hx hb hr (fun t ht hW => ⟨⟨Int32.ofInt (x5_8), (x5_8), rfl, ⟨rfl, (show (inR x5_8) ∧ (True) from ⟨(by omega), trivial⟩)⟩, by rw [ht]; exact hP, hD⟩, hS.F ht⟩) hS.2.2 dX3_windingTo_83
    · refine lv_iload hx hb dX3_windingTo_47 (lv_at hl 0 rfl) ?_
      refine lv_iload_n hx hb dX3_windingTo_49 rfl (lv_at hl 6 rfl) ?_
      refine iv_icmp_eq (tgt := 81) hx hb (by omega) (by omega) dX3_windingTo_50 (by decide) (fun q11 => ?_) (fun q11 => ?_)
      · refine lv_iload hx hb dX3_windingTo_81 (lv_at hl 1 rfl) ?_
        exact W.iret (v := Int32.ofInt (x5_8)) hx hb hr (fun t ht hW => ⟨⟨Int32.ofInt (x5_8), (x5_8), rfl, ⟨rfl, (show (inR x5_8) ∧ (True) from ⟨(by omega), trivial⟩)⟩, by rw [ht]; exact hP, hD⟩, hS.F ht⟩) hS.2.2 dX3_windingTo_83
      · refine lv_iload hx hb dX3_windingTo_53 (lv_at hl 1 rfl) ?_
        refine lv_aload_n hx hb dX3_windingTo_55 rfl (lv_at hl 4 rfl) ?_
        refine lv_aload_n hx hb dX3_windingTo_56 rfl (lv_at hl 4 rfl) ?_
        refine lv_iload_n hx hb dX3_windingTo_57 rfl (lv_at hl 3 rfl) ?_
        refine lv_iload hx hb dX3_windingTo_58 (lv_at hl 0 rfl) ?_
        refine lv_iload hx hb dX3_windingTo_60 (lv_at hl 2 rfl) ?_
        refine cr_i (va_runV (As := [.int (Int32.ofInt (z3)), .int (Int32.ofInt (x6_7)), .int (Int32.ofInt ((-1)))]) (rest := [.ref (ar 99), .int (Int32.ofInt (x5_8))]) ⟨hx, hb, hml, hown, hts⟩ (mX3_excess l G k ar fi fa z3 x6_7 (-1) H.size hR hRa hB8 hB21 (by omega) (by omega) (by omega)) (cwV 3 hts (gz [.methodLink RX3 110 yX3_excess, .instanceMethod yX3_excess, .selects RX3 yX3_excess yX3_excess, .initialized RX3] (.code yX3_excess cX3_excess 4 (some .int)) [(29, 15), (29, 16), (29, 17), (0, 19), (29, 18)] rfl) rfl rfl rfl (by decide +kernel) ⟨Nat.le_of_ble_eq_true rfl, Nat.le_of_ble_eq_true rfl⟩) (cr_preV (EZ_ok k) hZ hS hX hP hD hA (ci := 2) (q0 := 0) rfl rfl) rfl rfl hl.1 rfl (lv_room (Nat.le_of_ble_eq_true rfl)) dX3_windingTo_62 ⟨Nat.le_of_ble_eq_true rfl, Nat.le_of_ble_eq_true rfl⟩) hD hS hA (fun r u H locs hp hP hD hS => ?_)
        obtain ⟨c12, rfl⟩ : ∃ z, z = u := ⟨_, rfl⟩
        obtain ⟨h9, rc12, hp12⟩ : r = Int32.ofInt c12 ∧ (inR c12) ∧ (True) := hp
        subst h9
        refine cr_i (va_runV (As := [.int (Int32.ofInt (c12))]) (rest := [.int (Int32.ofInt (x5_8))]) ⟨hx, hb, hml, hown, hts⟩ (mX3_windingOf l G k ar fi fa c12 H.size hR hRa hB8 hB21 (by omega)) (cwV 1 hts (gz [.methodLink RX3 113 yX3_windingOf, .instanceMethod yX3_windingOf, .selects RX3 yX3_windingOf yX3_windingOf, .initialized RX3] (.code yX3_windingOf cX3_windingOf 2 (some .int)) [(29, 22), (29, 23), (30, 0), (0, 19), (30, 1)] rfl) rfl rfl rfl (by decide +kernel) ⟨Nat.le_of_ble_eq_true rfl, Nat.le_of_ble_eq_true rfl⟩) (cr_preV (EZ_ok k) hZ hS hX hP hD hA (ci := 2) (q0 := 0) rfl rfl) rfl rfl hl.1 rfl (lv_room (Nat.le_of_ble_eq_true rfl)) dX3_windingTo_65 ⟨Nat.le_of_ble_eq_true rfl, Nat.le_of_ble_eq_true rfl⟩) hD hS hA (fun r u H locs hp hP hD hS => ?_)
        obtain ⟨c13, rfl⟩ : ∃ z, z = u := ⟨_, rfl⟩
        obtain ⟨h9, rc13, hp13⟩ : r = Int32.ofInt c13 ∧ (inR c13) ∧ (True) := hp
        subst h9
        refine iv_add (x := x5_8) (y := c13) hx hb dX3_windingTo_68 ?_
        refine iv_wr ?_
        refine iv_top (fun z14 ez14 => ?_)
        have rz14 : inR z14 := ez14 ▸ bWr_r _
        refine lv_istore (lv' := [(5, .int (Int32.ofInt (z14))), (6, .int (Int32.ofInt (x6_7))), (4, .int (Int32.ofInt ((-1)))), (3, .int (Int32.ofInt (z3))), (0, .ref (ar 99)), (1, .int (Int32.ofInt (s0))), (2, .int (Int32.ofInt (d0)))]) hx hb dX3_windingTo_69 hl (by decide) rfl (fun ls hl => ?_)
        refine lv_iload hx hb dX3_windingTo_71 (lv_at hl 1 rfl) ?_
        refine lv_iload hx hb dX3_windingTo_73 (lv_at hl 2 rfl) ?_
        refine iv_add (x := x6_7) (y := (-1)) hx hb dX3_windingTo_75 ?_
        refine lv_istore (lv' := [(6, .int (Int32.ofInt ((x6_7 + (-1))))), (5, .int (Int32.ofInt (z14))), (4, .int (Int32.ofInt ((-1)))), (3, .int (Int32.ofInt (z3))), (0, .ref (ar 99)), (1, .int (Int32.ofInt (s0))), (2, .int (Int32.ofInt (d0)))]) hx hb dX3_windingTo_76 hl (by decide) rfl (fun ls hl => ?_)
        refine lv_goto (tgt := 38) hx hb dX3_windingTo_78 (by decide) ?_
        have hl : lv_has ls 7 [(6, .int (Int32.ofInt ((x6_7 + (-1))))), (5, .int (Int32.ofInt (z14))), (4, .int (Int32.ofInt ((-1)))), (3, .int (Int32.ofInt (z3))), (0, .ref (ar 99)), (1, .int (Int32.ofInt (s0))), (2, .int (Int32.ofInt (d0)))] := lv_sub hl [0, 1, 2, 3, 4, 5, 6] rfl
        exact ih ((x6_7 + (-1)), z14) (show (((-1) + 1) * (20 - (x6_7 + (-1))) + (1 - (-1)) * ((x6_7 + (-1)) + 20)).toNat < (((-1) + 1) * (20 - x6_7) + (1 - (-1)) * (x6_7 + 20)).toNat from by omega) (show inR (x6_7 + (-1)) ∧ inR z14 ∧ (-1 ≤ (x6_7 + (-1)) ∧ (x6_7 + (-1)) ≤ 15) from ⟨(by omega), (by omega), (by omega)⟩) _ _ _ hP hD hS hl
  · refine lv_iconst (v := Int32.ofInt 1) hx hb dX3_windingTo_22 (by decide +kernel) ?_
    refine lv_goto (tgt := 27) hx hb dX3_windingTo_23 (by decide) ?_
    refine lv_istore (lv' := [(4, .int (Int32.ofInt (1))), (3, .int (Int32.ofInt (z3))), (0, .ref (ar 99)), (1, .int (Int32.ofInt (s0))), (2, .int (Int32.ofInt (d0)))]) hx hb dX3_windingTo_27 hl (by decide) rfl (fun ls hl => ?_)
    refine lv_iconst (v := Int32.ofInt 0) hx hb dX3_windingTo_29 (by decide +kernel) ?_
    refine lv_istore (lv' := [(5, .int (Int32.ofInt (0))), (4, .int (Int32.ofInt (1))), (3, .int (Int32.ofInt (z3))), (0, .ref (ar 99)), (1, .int (Int32.ofInt (s0))), (2, .int (Int32.ofInt (d0)))]) hx hb dX3_windingTo_30 hl (by decide) rfl (fun ls hl => ?_)
    refine lv_iload_n hx hb dX3_windingTo_32 rfl (lv_at hl 4 rfl) ?_
    refine c0_i (va_runSN (As := [.int (Int32.ofInt (s0))]) (rest := []) ⟨hx, hb, hml, hown, hts⟩ (mX7_depth l G k s0 H.size (by omega)) ⟨va_cnB 1 hts (gz [] (.code yX7_depth cX7_depth 1 (some .int)) [(22, 13)] rfl) rfl rfl rfl (nm_13 hX.2.2.1) h0w (by decide +kernel) ⟨Nat.le_of_ble_eq_true rfl, Nat.le_of_ble_eq_true rfl⟩, h1w, trivial⟩ (cr_pre0 (EZ_ok k) hZ hS hX hP hD hA) rfl rfl hl.1 rfl (lv_room (Nat.le_of_ble_eq_true rfl)) dX3_windingTo_33 ⟨Nat.le_of_ble_eq_true rfl, Nat.le_of_ble_eq_true rfl⟩) hP hD hS hA (fun r u H locs hp hP hD hS => ?_)
    obtain ⟨c15, rfl⟩ : ∃ z, z = u := ⟨_, rfl⟩
    obtain ⟨h9, rc15, hp15⟩ : r = Int32.ofInt c15 ∧ (inR c15) ∧ (c15 = bUshr s0 28 ∧ 0 ≤ c15 ∧ c15 ≤ 15) := hp
    subst h9
    refine lv_istore (lv' := [(6, .int (Int32.ofInt (c15))), (5, .int (Int32.ofInt (0))), (4, .int (Int32.ofInt (1))), (3, .int (Int32.ofInt (z3))), (0, .ref (ar 99)), (1, .int (Int32.ofInt (s0))), (2, .int (Int32.ofInt (d0)))]) hx hb dX3_windingTo_36 hl (by decide) rfl (fun ls hl => ?_)
    refine iv_loop (α := Int × Int) (nL := 7) (fun b9 => (wP k ar fi fa)) (fun b9 => [(6, .int (Int32.ofInt (b9.1))), (5, .int (Int32.ofInt (b9.2))), (4, .int (Int32.ofInt (1))), (3, .int (Int32.ofInt (z3))), (0, .ref (ar 99)), (1, .int (Int32.ofInt (s0))), (2, .int (Int32.ofInt (d0)))]) (fun b9 => ((1 + 1) * (20 - b9.1) + (1 - 1) * (b9.1 + 20)).toNat) (fun b9 => inR b9.1 ∧ inR b9.2 ∧ (-1 ≤ b9.1 ∧ b9.1 ≤ 15)) ?_ (c15, 0) (show inR c15 ∧ inR 0 ∧ (-1 ≤ c15 ∧ c15 ≤ 15) from ⟨(by omega), (by omega), (by omega)⟩) hP hD hS hl
    rintro ⟨x6_16, x5_17⟩ ih hi9 H locs ls hP hD hS hl
    obtain ⟨r_x6_16, r_x5_17, hinv⟩ : inR x6_16 ∧ inR x5_17 ∧ (-1 ≤ x6_16 ∧ x6_16 ≤ 15) := hi9
    obtain ⟨hP, hD⟩ : va_P G vwCl (wP k ar fi fa) H ∧ va_D A (wP k ar fi fa) := ⟨hP, hD⟩
    have hl : lv_has ls 7 [(6, .int (Int32.ofInt (x6_16))), (5, .int (Int32.ofInt (x5_17))), (4, .int (Int32.ofInt (1))), (3, .int (Int32.ofInt (z3))), (0, .ref (ar 99)), (1, .int (Int32.ofInt (s0))), (2, .int (Int32.ofInt (d0)))] := hl
    refine lv_aload_n hx hb dX3_windingTo_38 rfl (lv_at hl 4 rfl) ?_
    refine lv_iload hx hb dX3_windingTo_39 (lv_at hl 0 rfl) ?_
    refine cr_i (va_runV (As := [.int (Int32.ofInt (x6_16))]) (rest := []) ⟨hx, hb, hml, hown, hts⟩ (mX3_hasDepth l G k ar fi fa x6_16 H.size hR hRa hB8 hB21 (by omega)) (cwV 1 hts (gz [.methodLink RX3 98 yX3_hasDepth, .instanceMethod yX3_hasDepth, .selects RX3 yX3_hasDepth yX3_hasDepth, .initialized RX3] (.code yX3_hasDepth cX3_hasDepth 2 (some .boolean)) [(29, 5), (29, 6), (29, 7), (0, 19), (29, 8)] rfl) rfl rfl rfl (by decide +kernel) ⟨Nat.le_of_ble_eq_true rfl, Nat.le_of_ble_eq_true rfl⟩) (cr_preV (EZ_ok k) hZ hS hX hP hD hA (ci := 2) (q0 := 0) rfl rfl) rfl rfl hl.1 rfl (lv_room (Nat.le_of_ble_eq_true rfl)) dX3_windingTo_41 ⟨Nat.le_of_ble_eq_true rfl, Nat.le_of_ble_eq_true rfl⟩) hD hS hA (fun r u H locs hp hP hD hS => ?_)
    obtain ⟨c18, rfl⟩ : ∃ z, z = u := ⟨_, rfl⟩
    obtain ⟨h9, rc18, hp18⟩ : r = Int32.ofInt c18 ∧ (inR c18) ∧ ((c18 = 1 ∧ 0 ≤ x6_16 ∧ x6_16 ≤ (fi 0)) ∨ (c18 = 0 ∧ (x6_16 < 0 ∨ (fi 0) < x6_16))) := hp
    subst h9
    refine iv_if_eq (tgt := 81) hx hb (by omega) dX3_windingTo_44 (by decide) (fun q19 => ?_) (fun q19 => ?_)
    · refine lv_iload hx hb dX3_windingTo_81 (lv_at hl 1 rfl) ?_
      exact W.iret (v := Int32.ofInt (x5_17)) hx hb hr (fun t ht hW => ⟨⟨Int32.ofInt (x5_17), (x5_17), rfl, ⟨rfl, (show (inR x5_17) ∧ (True) from ⟨(by omega), trivial⟩)⟩, by rw [ht]; exact hP, hD⟩, hS.F ht⟩) hS.2.2 dX3_windingTo_83
    · refine lv_iload hx hb dX3_windingTo_47 (lv_at hl 0 rfl) ?_
      refine lv_iload_n hx hb dX3_windingTo_49 rfl (lv_at hl 6 rfl) ?_
      refine iv_icmp_eq (tgt := 81) hx hb (by omega) (by omega) dX3_windingTo_50 (by decide) (fun q20 => ?_) (fun q20 => ?_)
      · refine lv_iload hx hb dX3_windingTo_81 (lv_at hl 1 rfl) ?_
        exact W.iret (v := Int32.ofInt (x5_17)) hx hb hr (fun t ht hW => ⟨⟨Int32.ofInt (x5_17), (x5_17), rfl, ⟨rfl, (show (inR x5_17) ∧ (True) from ⟨(by omega), trivial⟩)⟩, by rw [ht]; exact hP, hD⟩, hS.F ht⟩) hS.2.2 dX3_windingTo_83
      · refine lv_iload hx hb dX3_windingTo_53 (lv_at hl 1 rfl) ?_
        refine lv_aload_n hx hb dX3_windingTo_55 rfl (lv_at hl 4 rfl) ?_
        refine lv_aload_n hx hb dX3_windingTo_56 rfl (lv_at hl 4 rfl) ?_
        refine lv_iload_n hx hb dX3_windingTo_57 rfl (lv_at hl 3 rfl) ?_
        refine lv_iload hx hb dX3_windingTo_58 (lv_at hl 0 rfl) ?_
        refine lv_iload hx hb dX3_windingTo_60 (lv_at hl 2 rfl) ?_
        refine cr_i (va_runV (As := [.int (Int32.ofInt (z3)), .int (Int32.ofInt (x6_16)), .int (Int32.ofInt (1))]) (rest := [.ref (ar 99), .int (Int32.ofInt (x5_17))]) ⟨hx, hb, hml, hown, hts⟩ (mX3_excess l G k ar fi fa z3 x6_16 1 H.size hR hRa hB8 hB21 (by omega) (by omega) (by omega)) (cwV 3 hts (gz [.methodLink RX3 110 yX3_excess, .instanceMethod yX3_excess, .selects RX3 yX3_excess yX3_excess, .initialized RX3] (.code yX3_excess cX3_excess 4 (some .int)) [(29, 15), (29, 16), (29, 17), (0, 19), (29, 18)] rfl) rfl rfl rfl (by decide +kernel) ⟨Nat.le_of_ble_eq_true rfl, Nat.le_of_ble_eq_true rfl⟩) (cr_preV (EZ_ok k) hZ hS hX hP hD hA (ci := 2) (q0 := 0) rfl rfl) rfl rfl hl.1 rfl (lv_room (Nat.le_of_ble_eq_true rfl)) dX3_windingTo_62 ⟨Nat.le_of_ble_eq_true rfl, Nat.le_of_ble_eq_true rfl⟩) hD hS hA (fun r u H locs hp hP hD hS => ?_)
        obtain ⟨c21, rfl⟩ : ∃ z, z = u := ⟨_, rfl⟩
        obtain ⟨h9, rc21, hp21⟩ : r = Int32.ofInt c21 ∧ (inR c21) ∧ (True) := hp
        subst h9
        refine cr_i (va_runV (As := [.int (Int32.ofInt (c21))]) (rest := [.int (Int32.ofInt (x5_17))]) ⟨hx, hb, hml, hown, hts⟩ (mX3_windingOf l G k ar fi fa c21 H.size hR hRa hB8 hB21 (by omega)) (cwV 1 hts (gz [.methodLink RX3 113 yX3_windingOf, .instanceMethod yX3_windingOf, .selects RX3 yX3_windingOf yX3_windingOf, .initialized RX3] (.code yX3_windingOf cX3_windingOf 2 (some .int)) [(29, 22), (29, 23), (30, 0), (0, 19), (30, 1)] rfl) rfl rfl rfl (by decide +kernel) ⟨Nat.le_of_ble_eq_true rfl, Nat.le_of_ble_eq_true rfl⟩) (cr_preV (EZ_ok k) hZ hS hX hP hD hA (ci := 2) (q0 := 0) rfl rfl) rfl rfl hl.1 rfl (lv_room (Nat.le_of_ble_eq_true rfl)) dX3_windingTo_65 ⟨Nat.le_of_ble_eq_true rfl, Nat.le_of_ble_eq_true rfl⟩) hD hS hA (fun r u H locs hp hP hD hS => ?_)
        obtain ⟨c22, rfl⟩ : ∃ z, z = u := ⟨_, rfl⟩
        obtain ⟨h9, rc22, hp22⟩ : r = Int32.ofInt c22 ∧ (inR c22) ∧ (True) := hp
        subst h9
        refine iv_add (x := x5_17) (y := c22) hx hb dX3_windingTo_68 ?_
        refine iv_wr ?_
        refine iv_top (fun z23 ez23 => ?_)
        have rz23 : inR z23 := ez23 ▸ bWr_r _
        refine lv_istore (lv' := [(5, .int (Int32.ofInt (z23))), (6, .int (Int32.ofInt (x6_16))), (4, .int (Int32.ofInt (1))), (3, .int (Int32.ofInt (z3))), (0, .ref (ar 99)), (1, .int (Int32.ofInt (s0))), (2, .int (Int32.ofInt (d0)))]) hx hb dX3_windingTo_69 hl (by decide) rfl (fun ls hl => ?_)
        refine lv_iload hx hb dX3_windingTo_71 (lv_at hl 1 rfl) ?_
        refine lv_iload hx hb dX3_windingTo_73 (lv_at hl 2 rfl) ?_
        refine iv_add (x := x6_16) (y := 1) hx hb dX3_windingTo_75 ?_
        refine lv_istore (lv' := [(6, .int (Int32.ofInt ((x6_16 + 1)))), (5, .int (Int32.ofInt (z23))), (4, .int (Int32.ofInt (1))), (3, .int (Int32.ofInt (z3))), (0, .ref (ar 99)), (1, .int (Int32.ofInt (s0))), (2, .int (Int32.ofInt (d0)))]) hx hb dX3_windingTo_76 hl (by decide) rfl (fun ls hl => ?_)
        refine lv_goto (tgt := 38) hx hb dX3_windingTo_78 (by decide) ?_
        have hl : lv_has ls 7 [(6, .int (Int32.ofInt ((x6_16 + 1)))), (5, .int (Int32.ofInt (z23))), (4, .int (Int32.ofInt (1))), (3, .int (Int32.ofInt (z3))), (0, .ref (ar 99)), (1, .int (Int32.ofInt (s0))), (2, .int (Int32.ofInt (d0)))] := lv_sub hl [0, 1, 2, 3, 4, 5, 6] rfl
        exact ih ((x6_16 + 1), z23) (show ((1 + 1) * (20 - (x6_16 + 1)) + (1 - 1) * ((x6_16 + 1) + 20)).toNat < ((1 + 1) * (20 - x6_16) + (1 - 1) * (x6_16 + 20)).toNat from by omega) (show inR (x6_16 + 1) ∧ inR z23 ∧ (-1 ≤ (x6_16 + 1) ∧ (x6_16 + 1) ≤ 15) from ⟨(by omega), (by omega), (by omega)⟩) _ _ _ hP hD hS hl

set_option maxHeartbeats 4000000 in
set_option maxRecDepth 100000 in
theorem mJ7_fill_P13 (l : Launch) (G : va_G) (k : Nat → ClassId) (ar : Nat → Nat) (fi : Nat → Int) (fa : Nat → Int → Int) (v0 : Int) (sz : Nat) (hR : ∀ j, inR (fi j)) (hRa : ∀ j t, inR (fa j t)) (hB8 : bnd (fa 8) 7 0 4) (hB21 : bnd (fa 21) 4 0 601) (hr_v0 : inR v0) : CNv l G k (EZ k) yJ7_fill_53178 wzJ7_fill_53178 ({ frames := 0, cells := 0, slots := 0, locals := 0 }) [.ref (ar 13), .int (Int32.ofInt (v0))] sz (wP k ar fi fa) (fun (u : (Int → Int)) => (∀ t, inR (u t)) ∧ (True)) (fun (u : (Int → Int)) => (wP k ar fi (uF fa 13 (u)))) := by
  refine Met.ofW (cc := cJ7_fill_53178) (maxL := 4) (ret := none) (by decide) rfl ?_
  intro p e s m args below meth c s₁ B hml hv
  obtain ⟨rfl, hsz, hP, hX, hD0, hZ0⟩ := hv
  have hx := B.exec
  have hb := B.bytes
  have hr := B.returns
  have hts := atoms_spec (ws := wzJ7_fill_53178) B.pre
  have hown : s.vm.findClass RJ7 = some m.cls := findClass_of_methodNamed B.named
  subst hsz
  have hD := hD0.self (sz := s.heap.size)
  have hZ := hZ0
  generalize hAe : va_A (wP k ar fi fa) s.heap.size = A at hD hZ ⊢
  have hA : ∀ q : Nat, s.heap.size ≤ q → A q := fun q h => by rw [← hAe]; exact Or.inr h
  have hS : va_S A s.heap s.heap [] := va_S.rf
  have hl := lv_entry ([.ref (ar 13), .int (Int32.ofInt (v0))]) (n := 4) (Nat.le_of_ble_eq_true rfl)
  rw [lg_entry_eq]
  generalize (lg_sl ([.ref (ar 13), .int (Int32.ofInt (v0))]) ++ List.replicate (4 - (lg_sl ([.ref (ar 13), .int (Int32.ofInt (v0))])).length) Slot.unset).toArray = ls at hl ⊢
  have hl : lv_has ls 4 [(0, .ref (ar 13)), (1, .int (Int32.ofInt (v0)))] := hl
  obtain ⟨H, eH⟩ : ∃ H, H = s.heap := ⟨_, rfl⟩
  rw [← eH] at hP
  have hS : va_S A s.heap H [] := by rw [eH]; exact hS
  have gW : s.heap = H := eH.symm
  refine iv_heap gW ?_
  refine lv_iconst (v := Int32.ofInt 0) hx hb dJ7_fill_53178_0 (by decide +kernel) ?_
  refine lv_istore_n (lv' := [(2, .int (Int32.ofInt (0))), (0, .ref (ar 13)), (1, .int (Int32.ofInt (v0)))]) hx hb dJ7_fill_53178_1 rfl hl (by decide) rfl (fun ls hl => ?_)
  refine lv_aload_n hx hb dJ7_fill_53178_2 rfl (lv_at hl 1 rfl) ?_
  refine va_alen (v := Int32.ofInt 7) hx hb hX.1 hP 6 0 rfl rfl (show Int32.ofNat 7 = Int32.ofInt 7 from by decide) dJ7_fill_53178_3 ?_
  refine lv_istore_n (lv' := [(3, .int (Int32.ofInt (7))), (2, .int (Int32.ofInt (0))), (0, .ref (ar 13)), (1, .int (Int32.ofInt (v0)))]) hx hb dJ7_fill_53178_4 rfl hl (by decide) rfl (fun ls hl => ?_)
  refine iv_loop (α := Int × (Int → Int)) (nL := 4) (fun b9 => (wP k ar fi (uF fa 13 (b9.2)))) (fun b9 => [(3, .int (Int32.ofInt (7))), (2, .int (Int32.ofInt (b9.1))), (0, .ref (ar 13)), (1, .int (Int32.ofInt (v0)))]) (fun b9 => (7 - b9.1).toNat) (fun b9 => inR b9.1 ∧ (∀ t, inR (b9.2 t)) ∧ (0 ≤ b9.1 ∧ b9.1 ≤ 7)) ?_ (0, fa 13) (show inR 0 ∧ (∀ t, inR ((fa 13) t)) ∧ (0 ≤ 0 ∧ 0 ≤ 7) from ⟨(by omega), (hRa 13), (by omega)⟩) hP hD hS hl
  rintro ⟨x2_1, g13_2⟩ ih hi9 H locs ls hP hD hS hl
  obtain ⟨r_x2_1, r_g13_2, hinv⟩ : inR x2_1 ∧ (∀ t, inR (g13_2 t)) ∧ (0 ≤ x2_1 ∧ x2_1 ≤ 7) := hi9
  obtain ⟨hP, hD⟩ : va_P G vwCl (wP k ar fi (uF fa 13 (g13_2))) H ∧ va_D A (wP k ar fi (uF fa 13 (g13_2))) := ⟨hP, hD⟩
  have hl : lv_has ls 4 [(3, .int (Int32.ofInt (7))), (2, .int (Int32.ofInt (x2_1))), (0, .ref (ar 13)), (1, .int (Int32.ofInt (v0)))] := hl
  refine lv_iload_n hx hb dJ7_fill_53178_5 rfl (lv_at hl 1 rfl) ?_
  refine lv_iload_n hx hb dJ7_fill_53178_6 rfl (lv_at hl 0 rfl) ?_
  refine iv_icmp_ge (tgt := 20) hx hb (by omega) (by omega) dJ7_fill_53178_7 (by decide) (fun q3 => ?_) (fun q3 => ?_)
  · exact W.vret hx hb hr (fun t ht hW => ⟨⟨(g13_2), rfl, (show (∀ t, inR (g13_2 t)) ∧ (True) from ⟨r_g13_2, trivial⟩), by rw [ht]; exact hP, hD⟩, hS.F ht⟩) hS.2.2 dJ7_fill_53178_20
  · refine lv_aload_n hx hb dJ7_fill_53178_10 rfl (lv_at hl 2 rfl) ?_
    refine lv_iload_n hx hb dJ7_fill_53178_11 rfl (lv_at hl 1 rfl) ?_
    refine lv_iload_n hx hb dJ7_fill_53178_12 rfl (lv_at hl 3 rfl) ?_
    refine iv_iast hx hb hX.1 hP hD hS 6 0 rfl rfl (fun g' => show _ = (wP k ar fi (uF fa 13 (g'))) from rfl) (by omega) (by omega) (by decide) dJ7_fill_53178_13 (fun H locs hP hD hS => ?_)
    obtain ⟨hP, hD⟩ : va_P G vwCl (wP k ar fi (uF fa 13 (uA (g13_2) (x2_1) (v0)))) H ∧ va_D A (wP k ar fi (uF fa 13 (uA (g13_2) (x2_1) (v0)))) := ⟨hP, hD⟩
    obtain ⟨g4, eg4, rg4⟩ : ∃ z, z = uA (g13_2) (x2_1) (v0) ∧ ∀ t, inR (z t) := ⟨_, rfl, iU r_g13_2 (by omega)⟩
    rw [← eg4] at hP hD
    refine lv_iinc (v := Int32.ofInt (x2_1 + 1)) (lv' := [(2, .int (Int32.ofInt ((x2_1 + 1)))), (3, .int (Int32.ofInt (7))), (0, .ref (ar 13)), (1, .int (Int32.ofInt (v0)))]) hx hb dJ7_fill_53178_14 hl (k := 1) rfl (Int32.ofInt_add _ _).symm (by decide) rfl (fun ls hl => ?_)
    refine lv_goto (tgt := 5) hx hb dJ7_fill_53178_17 (by decide) ?_
    have hl : lv_has ls 4 [(3, .int (Int32.ofInt (7))), (2, .int (Int32.ofInt ((x2_1 + 1)))), (0, .ref (ar 13)), (1, .int (Int32.ofInt (v0)))] := lv_sub hl [1, 0, 2, 3] rfl
    exact ih ((x2_1 + 1), g4) (show (7 - (x2_1 + 1)).toNat < (7 - x2_1).toNat from by omega) (show inR (x2_1 + 1) ∧ (∀ t, inR (g4 t)) ∧ (0 ≤ (x2_1 + 1) ∧ (x2_1 + 1) ≤ 7) from ⟨(by omega), rg4, (by omega)⟩) _ _ _ hP hD hS hl

set_option maxHeartbeats 4000000 in
set_option maxRecDepth 100000 in
theorem mJ7_fill_S7 (l : Launch) (G : va_G) (k : Nat → ClassId) (ar : Nat → Nat) (pl : Nat) (fi : Nat → Int) (fa : Nat → Int → Int) (v0 : Int) (sz : Nat) (hR : ∀ j, inR (fi j)) (hRa : ∀ j t, inR (fa j t)) (hB5 : bnd (fa 5) 1500 (-1) 1500) (hB7 : bnd (fa 7) 1024 (-1) 1500) (hB8 : bnd (fa 8) 1500 (-1) 1500) (hB9 : bnd (fa 9) 1500 0 1500) (hB10 : bnd (fa 10) 1500 0 1500) (hr_v0 : inR v0) (hv : -1 ≤ v0 ∧ v0 < 1500) : CNv l G k (EZ k) yJ7_fill_53178 wzJ7_fill_53178 ({ frames := 0, cells := 0, slots := 0, locals := 0 }) [.ref (ar 7), .int (Int32.ofInt (v0))] sz (wS k ar (pl) fi fa) (fun (u : (Int → Int)) => (∀ t, inR (u t)) ∧ (bnd u 1024 (-1) 1500) ∧ (True)) (fun (u : (Int → Int)) => (wS k ar (pl) fi (uF fa 7 (u)))) := by
  refine Met.ofW (cc := cJ7_fill_53178) (maxL := 4) (ret := none) (by decide) rfl ?_
  intro p e s m args below meth c s₁ B hml hv
  obtain ⟨rfl, hsz, hP, hX, hD0, hZ0⟩ := hv
  have hx := B.exec
  have hb := B.bytes
  have hr := B.returns
  have hts := atoms_spec (ws := wzJ7_fill_53178) B.pre
  have hown : s.vm.findClass RJ7 = some m.cls := findClass_of_methodNamed B.named
  subst hsz
  have hD := hD0.self (sz := s.heap.size)
  have hZ := hZ0
  generalize hAe : va_A (wS k ar (pl) fi fa) s.heap.size = A at hD hZ ⊢
  have hA : ∀ q : Nat, s.heap.size ≤ q → A q := fun q h => by rw [← hAe]; exact Or.inr h
  have hS : va_S A s.heap s.heap [] := va_S.rf
  have hl := lv_entry ([.ref (ar 7), .int (Int32.ofInt (v0))]) (n := 4) (Nat.le_of_ble_eq_true rfl)
  rw [lg_entry_eq]
  generalize (lg_sl ([.ref (ar 7), .int (Int32.ofInt (v0))]) ++ List.replicate (4 - (lg_sl ([.ref (ar 7), .int (Int32.ofInt (v0))])).length) Slot.unset).toArray = ls at hl ⊢
  have hl : lv_has ls 4 [(0, .ref (ar 7)), (1, .int (Int32.ofInt (v0)))] := hl
  obtain ⟨H, eH⟩ : ∃ H, H = s.heap := ⟨_, rfl⟩
  rw [← eH] at hP
  have hS : va_S A s.heap H [] := by rw [eH]; exact hS
  have gW : s.heap = H := eH.symm
  refine iv_heap gW ?_
  refine lv_iconst (v := Int32.ofInt 0) hx hb dJ7_fill_53178_0 (by decide +kernel) ?_
  refine lv_istore_n (lv' := [(2, .int (Int32.ofInt (0))), (0, .ref (ar 7)), (1, .int (Int32.ofInt (v0)))]) hx hb dJ7_fill_53178_1 rfl hl (by decide) rfl (fun ls hl => ?_)
  refine lv_aload_n hx hb dJ7_fill_53178_2 rfl (lv_at hl 1 rfl) ?_
  refine va_alen (v := Int32.ofInt 1024) hx hb hX.1 hP 4 0 rfl rfl (show Int32.ofNat 1024 = Int32.ofInt 1024 from by decide) dJ7_fill_53178_3 ?_
  refine lv_istore_n (lv' := [(3, .int (Int32.ofInt (1024))), (2, .int (Int32.ofInt (0))), (0, .ref (ar 7)), (1, .int (Int32.ofInt (v0)))]) hx hb dJ7_fill_53178_4 rfl hl (by decide) rfl (fun ls hl => ?_)
  refine iv_loop (α := Int × (Int → Int)) (nL := 4) (fun b9 => (wS k ar (pl) fi (uF fa 7 (b9.2)))) (fun b9 => [(3, .int (Int32.ofInt (1024))), (2, .int (Int32.ofInt (b9.1))), (0, .ref (ar 7)), (1, .int (Int32.ofInt (v0)))]) (fun b9 => (1024 - b9.1).toNat) (fun b9 => inR b9.1 ∧ (∀ t, inR (b9.2 t)) ∧ (bnd b9.2 1024 (-1) 1500) ∧ (0 ≤ b9.1 ∧ b9.1 ≤ 1024)) ?_ (0, fa 7) (show inR 0 ∧ (∀ t, inR ((fa 7) t)) ∧ (bnd (fa 7) 1024 (-1) 1500) ∧ (0 ≤ 0 ∧ 0 ≤ 1024) from ⟨(by omega), (hRa 7), hB7, (by omega)⟩) hP hD hS hl
  rintro ⟨x2_1, g7_2⟩ ih hi9 H locs ls hP hD hS hl
  obtain ⟨r_x2_1, r_g7_2, b_g7_2, hinv⟩ : inR x2_1 ∧ (∀ t, inR (g7_2 t)) ∧ (bnd g7_2 1024 (-1) 1500) ∧ (0 ≤ x2_1 ∧ x2_1 ≤ 1024) := hi9
  obtain ⟨hP, hD⟩ : va_P G vwCl (wS k ar (pl) fi (uF fa 7 (g7_2))) H ∧ va_D A (wS k ar (pl) fi (uF fa 7 (g7_2))) := ⟨hP, hD⟩
  have hl : lv_has ls 4 [(3, .int (Int32.ofInt (1024))), (2, .int (Int32.ofInt (x2_1))), (0, .ref (ar 7)), (1, .int (Int32.ofInt (v0)))] := hl
  refine lv_iload_n hx hb dJ7_fill_53178_5 rfl (lv_at hl 1 rfl) ?_
  refine lv_iload_n hx hb dJ7_fill_53178_6 rfl (lv_at hl 0 rfl) ?_
  refine iv_icmp_ge (tgt := 20) hx hb (by omega) (by omega) dJ7_fill_53178_7 (by decide) (fun q3 => ?_) (fun q3 => ?_)
  · exact W.vret hx hb hr (fun t ht hW => ⟨⟨(g7_2), rfl, (show (∀ t, inR (g7_2 t)) ∧ (bnd g7_2 1024 (-1) 1500) ∧ (True) from ⟨r_g7_2, b_g7_2, trivial⟩), by rw [ht]; exact hP, hD⟩, hS.F ht⟩) hS.2.2 dJ7_fill_53178_20
  · refine lv_aload_n hx hb dJ7_fill_53178_10 rfl (lv_at hl 2 rfl) ?_
    refine lv_iload_n hx hb dJ7_fill_53178_11 rfl (lv_at hl 1 rfl) ?_
    refine lv_iload_n hx hb dJ7_fill_53178_12 rfl (lv_at hl 3 rfl) ?_
    refine iv_iast hx hb hX.1 hP hD hS 4 0 rfl rfl (fun g' => show _ = (wS k ar (pl) fi (uF fa 7 (g'))) from rfl) (by omega) (by omega) (by decide) dJ7_fill_53178_13 (fun H locs hP hD hS => ?_)
    obtain ⟨hP, hD⟩ : va_P G vwCl (wS k ar (pl) fi (uF fa 7 (uA (g7_2) (x2_1) (v0)))) H ∧ va_D A (wS k ar (pl) fi (uF fa 7 (uA (g7_2) (x2_1) (v0)))) := ⟨hP, hD⟩
    obtain ⟨g4, eg4, rg4⟩ : ∃ z, z = uA (g7_2) (x2_1) (v0) ∧ ∀ t, inR (z t) := ⟨_, rfl, iU r_g7_2 (by omega)⟩
    rw [← eg4] at hP hD
    have bg4 : bnd g4 1024 (-1) 1500 := bnd_up b_g7_2 (by omega) (by omega) eg4
    refine lv_iinc (v := Int32.ofInt (x2_1 + 1)) (lv' := [(2, .int (Int32.ofInt ((x2_1 + 1)))), (3, .int (Int32.ofInt (1024))), (0, .ref (ar 7)), (1, .int (Int32.ofInt (v0)))]) hx hb dJ7_fill_53178_14 hl (k := 1) rfl (Int32.ofInt_add _ _).symm (by decide) rfl (fun ls hl => ?_)
    refine lv_goto (tgt := 5) hx hb dJ7_fill_53178_17 (by decide) ?_
    have hl : lv_has ls 4 [(3, .int (Int32.ofInt (1024))), (2, .int (Int32.ofInt ((x2_1 + 1)))), (0, .ref (ar 7)), (1, .int (Int32.ofInt (v0)))] := lv_sub hl [1, 0, 2, 3] rfl
    exact ih ((x2_1 + 1), g4) (show (1024 - (x2_1 + 1)).toNat < (1024 - x2_1).toNat from by omega) (show inR (x2_1 + 1) ∧ (∀ t, inR (g4 t)) ∧ (bnd g4 1024 (-1) 1500) ∧ (0 ≤ (x2_1 + 1) ∧ (x2_1 + 1) ≤ 1024) from ⟨(by omega), rg4, bg4, (by omega)⟩) _ _ _ hP hD hS hl

set_option maxHeartbeats 4000000 in
set_option maxRecDepth 100000 in
theorem mJ7_fill_S14 (l : Launch) (G : va_G) (k : Nat → ClassId) (ar : Nat → Nat) (pl : Nat) (fi : Nat → Int) (fa : Nat → Int → Int) (v0 : Int) (sz : Nat) (hR : ∀ j, inR (fi j)) (hRa : ∀ j t, inR (fa j t)) (hB5 : bnd (fa 5) 1500 (-1) 1500) (hB7 : bnd (fa 7) 1024 (-1) 1500) (hB8 : bnd (fa 8) 1500 (-1) 1500) (hB9 : bnd (fa 9) 1500 0 1500) (hB10 : bnd (fa 10) 1500 0 1500) (hr_v0 : inR v0) : CNv l G k (EZ k) yJ7_fill_53178 wzJ7_fill_53178 ({ frames := 0, cells := 0, slots := 0, locals := 0 }) [.ref (ar 14), .int (Int32.ofInt (v0))] sz (wS k ar (pl) fi fa) (fun (u : (Int → Int)) => (∀ t, inR (u t)) ∧ (True)) (fun (u : (Int → Int)) => (wS k ar (pl) fi (uF fa 14 (u)))) := by
  refine Met.ofW (cc := cJ7_fill_53178) (maxL := 4) (ret := none) (by decide) rfl ?_
  intro p e s m args below meth c s₁ B hml hv
  obtain ⟨rfl, hsz, hP, hX, hD0, hZ0⟩ := hv
  have hx := B.exec
  have hb := B.bytes
  have hr := B.returns
  have hts := atoms_spec (ws := wzJ7_fill_53178) B.pre
  have hown : s.vm.findClass RJ7 = some m.cls := findClass_of_methodNamed B.named
  subst hsz
  have hD := hD0.self (sz := s.heap.size)
  have hZ := hZ0
  generalize hAe : va_A (wS k ar (pl) fi fa) s.heap.size = A at hD hZ ⊢
  have hA : ∀ q : Nat, s.heap.size ≤ q → A q := fun q h => by rw [← hAe]; exact Or.inr h
  have hS : va_S A s.heap s.heap [] := va_S.rf
  have hl := lv_entry ([.ref (ar 14), .int (Int32.ofInt (v0))]) (n := 4) (Nat.le_of_ble_eq_true rfl)
  rw [lg_entry_eq]
  generalize (lg_sl ([.ref (ar 14), .int (Int32.ofInt (v0))]) ++ List.replicate (4 - (lg_sl ([.ref (ar 14), .int (Int32.ofInt (v0))])).length) Slot.unset).toArray = ls at hl ⊢
  have hl : lv_has ls 4 [(0, .ref (ar 14)), (1, .int (Int32.ofInt (v0)))] := hl
  obtain ⟨H, eH⟩ : ∃ H, H = s.heap := ⟨_, rfl⟩
  rw [← eH] at hP
  have hS : va_S A s.heap H [] := by rw [eH]; exact hS
  have gW : s.heap = H := eH.symm
  refine iv_heap gW ?_
  refine lv_iconst (v := Int32.ofInt 0) hx hb dJ7_fill_53178_0 (by decide +kernel) ?_
  refine lv_istore_n (lv' := [(2, .int (Int32.ofInt (0))), (0, .ref (ar 14)), (1, .int (Int32.ofInt (v0)))]) hx hb dJ7_fill_53178_1 rfl hl (by decide) rfl (fun ls hl => ?_)
  refine lv_aload_n hx hb dJ7_fill_53178_2 rfl (lv_at hl 1 rfl) ?_
  refine va_alen (v := Int32.ofInt 1641) hx hb hX.1 hP 9 0 rfl rfl (show Int32.ofNat 1641 = Int32.ofInt 1641 from by decide) dJ7_fill_53178_3 ?_
  refine lv_istore_n (lv' := [(3, .int (Int32.ofInt (1641))), (2, .int (Int32.ofInt (0))), (0, .ref (ar 14)), (1, .int (Int32.ofInt (v0)))]) hx hb dJ7_fill_53178_4 rfl hl (by decide) rfl (fun ls hl => ?_)
  refine iv_loop (α := Int × (Int → Int)) (nL := 4) (fun b9 => (wS k ar (pl) fi (uF fa 14 (b9.2)))) (fun b9 => [(3, .int (Int32.ofInt (1641))), (2, .int (Int32.ofInt (b9.1))), (0, .ref (ar 14)), (1, .int (Int32.ofInt (v0)))]) (fun b9 => (1641 - b9.1).toNat) (fun b9 => inR b9.1 ∧ (∀ t, inR (b9.2 t)) ∧ (0 ≤ b9.1 ∧ b9.1 ≤ 1641)) ?_ (0, fa 14) (show inR 0 ∧ (∀ t, inR ((fa 14) t)) ∧ (0 ≤ 0 ∧ 0 ≤ 1641) from ⟨(by omega), (hRa 14), (by omega)⟩) hP hD hS hl
  rintro ⟨x2_1, g14_2⟩ ih hi9 H locs ls hP hD hS hl
  obtain ⟨r_x2_1, r_g14_2, hinv⟩ : inR x2_1 ∧ (∀ t, inR (g14_2 t)) ∧ (0 ≤ x2_1 ∧ x2_1 ≤ 1641) := hi9
  obtain ⟨hP, hD⟩ : va_P G vwCl (wS k ar (pl) fi (uF fa 14 (g14_2))) H ∧ va_D A (wS k ar (pl) fi (uF fa 14 (g14_2))) := ⟨hP, hD⟩
  have hl : lv_has ls 4 [(3, .int (Int32.ofInt (1641))), (2, .int (Int32.ofInt (x2_1))), (0, .ref (ar 14)), (1, .int (Int32.ofInt (v0)))] := hl
  refine lv_iload_n hx hb dJ7_fill_53178_5 rfl (lv_at hl 1 rfl) ?_
  refine lv_iload_n hx hb dJ7_fill_53178_6 rfl (lv_at hl 0 rfl) ?_
  refine iv_icmp_ge (tgt := 20) hx hb (by omega) (by omega) dJ7_fill_53178_7 (by decide) (fun q3 => ?_) (fun q3 => ?_)
  · exact W.vret hx hb hr (fun t ht hW => ⟨⟨(g14_2), rfl, (show (∀ t, inR (g14_2 t)) ∧ (True) from ⟨r_g14_2, trivial⟩), by rw [ht]; exact hP, hD⟩, hS.F ht⟩) hS.2.2 dJ7_fill_53178_20
  · refine lv_aload_n hx hb dJ7_fill_53178_10 rfl (lv_at hl 2 rfl) ?_
    refine lv_iload_n hx hb dJ7_fill_53178_11 rfl (lv_at hl 1 rfl) ?_
    refine lv_iload_n hx hb dJ7_fill_53178_12 rfl (lv_at hl 3 rfl) ?_
    refine iv_iast hx hb hX.1 hP hD hS 9 0 rfl rfl (fun g' => show _ = (wS k ar (pl) fi (uF fa 14 (g'))) from rfl) (by omega) (by omega) (by decide) dJ7_fill_53178_13 (fun H locs hP hD hS => ?_)
    obtain ⟨hP, hD⟩ : va_P G vwCl (wS k ar (pl) fi (uF fa 14 (uA (g14_2) (x2_1) (v0)))) H ∧ va_D A (wS k ar (pl) fi (uF fa 14 (uA (g14_2) (x2_1) (v0)))) := ⟨hP, hD⟩
    obtain ⟨g4, eg4, rg4⟩ : ∃ z, z = uA (g14_2) (x2_1) (v0) ∧ ∀ t, inR (z t) := ⟨_, rfl, iU r_g14_2 (by omega)⟩
    rw [← eg4] at hP hD
    refine lv_iinc (v := Int32.ofInt (x2_1 + 1)) (lv' := [(2, .int (Int32.ofInt ((x2_1 + 1)))), (3, .int (Int32.ofInt (1641))), (0, .ref (ar 14)), (1, .int (Int32.ofInt (v0)))]) hx hb dJ7_fill_53178_14 hl (k := 1) rfl (Int32.ofInt_add _ _).symm (by decide) rfl (fun ls hl => ?_)
    refine lv_goto (tgt := 5) hx hb dJ7_fill_53178_17 (by decide) ?_
    have hl : lv_has ls 4 [(3, .int (Int32.ofInt (1641))), (2, .int (Int32.ofInt ((x2_1 + 1)))), (0, .ref (ar 14)), (1, .int (Int32.ofInt (v0)))] := lv_sub hl [1, 0, 2, 3] rfl
    exact ih ((x2_1 + 1), g4) (show (1641 - (x2_1 + 1)).toNat < (1641 - x2_1).toNat from by omega) (show inR (x2_1 + 1) ∧ (∀ t, inR (g4 t)) ∧ (0 ≤ (x2_1 + 1) ∧ (x2_1 + 1) ≤ 1641) from ⟨(by omega), rg4, (by omega)⟩) _ _ _ hP hD hS hl

