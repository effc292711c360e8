set_option maxHeartbeats 4000000 in
set_option maxRecDepth 100000 in
theorem mX6_emptied (l : Launch) (G : va_G) (k : Nat → ClassId) (arS : Nat → Nat) (fiS : Nat → Int) (faS : Nat → Int → Int) (arP : Nat → Nat) (fiP : Nat → Int) (faP : Nat → Int → Int) (s0 : Int) (sz : Nat) (hRS : ∀ j, inR (fiS j)) (hRaS : ∀ j t, inR (faS j t)) (hB5S : bnd (faS 5) 1500 (-1) 1500) (hB7S : bnd (faS 7) 1024 (-1) 1500) (hB8S : bnd (faS 8) 1500 (-1) 1500) (hB9S : bnd (faS 9) 1500 0 1500) (hB10S : bnd (faS 10) 1500 0 1500) (hRP : ∀ j, inR (fiP j)) (hRaP : ∀ j t, inR (faP j t)) (hB8P : bnd (faP 8) 7 0 4) (hB20P : bnd (faP 20) 600 (-1000) 10000) (hB21P : bnd (faP 21) 4 0 601) (hr_s0 : inR s0) (hth : 0 ≤ fiP 7 ∧ fiP 7 ≤ 7) (hbt : 0 ≤ fiP 0 ∧ fiP 0 ≤ 11) : CNi l G k (EZ k) yX6_emptied wzX6_emptied ({ frames := 3, cells := 0, slots := 0, locals := 66 }) [.ref (arS 99), .int (Int32.ofInt (s0))] sz ((wS k arS (arP 99) fiS faS) ++ (wP k arP fiP faP)) (fun (r0 : Int32) (u : Int × (Int → Int)) => r0 = Int32.ofInt (u.1) ∧ (inR u.1) ∧ (∀ t, inR (u.2 t)) ∧ (True)) (fun (u : Int × (Int → Int)) => ((wS k arS (arP 99) fiS (uF faS 13 (u.2))) ++ (wP k arP fiP faP))) := by
  refine Met.ofW (cc := cX6_emptied) (maxL := 9) (ret := (some .int)) (by decide) rfl ?_
  intro p e s m args below meth c s₁ B hml hv
  obtain ⟨rfl, hsz, hP, hX, hD0, hZ0⟩ := hv
  have hx := B.exec
  have hb := B.bytes
  have hr := B.returns
  have hts := atoms_spec (ws := wzX6_emptied) B.pre
  have hown : s.vm.findClass RX6 = some m.cls := findClass_of_methodNamed B.named
  subst hsz
  have hD := hD0.self (sz := s.heap.size)
  have hZ := hZ0
  generalize hAe : va_A ((wS k arS (arP 99) fiS faS) ++ (wP k arP fiP faP)) s.heap.size = A at hD hZ ⊢
  have hA : ∀ q : Nat, s.heap.size ≤ q → A q := fun q h => by rw [← hAe]; exact Or.inr h
  have hS : va_S A s.heap s.heap [] := va_S.rf
  have hl := lv_entry ([.ref (arS 99), .int (Int32.ofInt (s0))]) (n := 9) (Nat.le_of_ble_eq_true rfl)
  rw [lg_entry_eq]
  generalize (lg_sl ([.ref (arS 99), .int (Int32.ofInt (s0))]) ++ List.replicate (9 - (lg_sl ([.ref (arS 99), .int (Int32.ofInt (s0))])).length) Slot.unset).toArray = ls at hl ⊢
  have hl : lv_has ls 9 [(0, .ref (arS 99)), (1, .int (Int32.ofInt (s0)))] := hl
  obtain ⟨H, eH⟩ : ∃ H, H = s.heap := ⟨_, rfl⟩
  rw [← eH] at hP
  have hS : va_S A s.heap H [] := by rw [eH]; exact hS
  have gW : s.heap = H := eH.symm
  refine iv_heap gW ?_
  have h0w := hts (.fieldLink RX6 9 "RopeTown$Search" "plan" "LRopeTown$Plan;") (wz_at 4 14 rfl)
  have h1w : ∀ w ∈ wsX60, w ∈ wzX6_emptied := fun w h => List.mem_cons_of_mem _ (inlX6 w h)
  have h2w : ∀ w ∈ wsX30, w ∈ wzX6_emptied := fun w h => List.mem_cons_of_mem _ (inlX3 w h)
  have h3w := hts (.initialized RX3) (wz_at 0 19 rfl)
  have h4w := hts (.instanceMethod yX3_thingDepth) (wz_at 23 8 rfl)
  have h5w := hts (.selects RX3 yX3_thingDepth yX3_thingDepth) (wz_at 23 9 rfl)
  have h6w := hts (.initialized RX7) (wz_at 5 10 rfl)
  have h7w := hts (.static yX7_bucketOf) (wz_at 23 17 rfl)
  have h8w := hts (.fieldLink RX6 54 "RopeTown$Search" "doors" "[I") (wz_at 5 3 rfl)
  have h9w := hts (.instanceMethod yX3_placeOutside) (wz_at 28 11 rfl)
  have h10w := hts (.selects RX3 yX3_placeOutside yX3_placeOutside) (wz_at 28 12 rfl)
  have h11w := hts (.static yX7_put) (wz_at 5 13 rfl)
  have h12w := hts (.instanceMethod yX3_bucketDepth) (wz_at 23 14 rfl)
  have h13w := hts (.selects RX3 yX3_bucketDepth yX3_bucketDepth) (wz_at 23 15 rfl)
  refine lv_iload_n hx hb dX6_emptied_0 rfl (lv_at hl 1 rfl) ?_
  refine lv_istore_n (lv' := [(2, .int (Int32.ofInt (s0))), (0, .ref (arS 99)), (1, .int (Int32.ofInt (s0)))]) hx hb dX6_emptied_1 rfl hl (by decide) rfl (fun ls hl => ?_)
  refine lv_iconst (v := Int32.ofInt 0) hx hb dX6_emptied_2 (by decide +kernel) ?_
  refine lv_istore_n (lv' := [(3, .int (Int32.ofInt (0))), (2, .int (Int32.ofInt (s0))), (0, .ref (arS 99)), (1, .int (Int32.ofInt (s0)))]) hx hb dX6_emptied_3 rfl hl (by decide) rfl (fun ls hl => ?_)
  refine iv_loop (α := Int × Int × (Int → Int)) (nL := 9) (fun b9 => ((wS k arS (arP 99) fiS (uF faS 13 (b9.2.2))) ++ (wP k arP fiP faP))) (fun b9 => [(3, .int (Int32.ofInt (b9.1))), (2, .int (Int32.ofInt (b9.2.1))), (0, .ref (arS 99)), (1, .int (Int32.ofInt (s0)))]) (fun b9 => (fiP 7 - b9.1).toNat) (fun b9 => inR b9.1 ∧ inR b9.2.1 ∧ (∀ t, inR (b9.2.2 t)) ∧ (0 ≤ b9.1)) ?_ (0, s0, faS 13) (show inR 0 ∧ inR s0 ∧ (∀ t, inR ((faS 13) t)) ∧ (0 ≤ 0) from ⟨(by omega), (by omega), (hRaS 13), (by omega)⟩) hP hD hS hl
  rintro ⟨x3_1, x2_2, g13S_3⟩ ih hi9 H locs ls hP hD hS hl
  obtain ⟨r_x3_1, r_x2_2, r_g13S_3, hinv⟩ : inR x3_1 ∧ inR x2_2 ∧ (∀ t, inR (g13S_3 t)) ∧ (0 ≤ x3_1) := hi9
  obtain ⟨hP, hD⟩ : va_P G vwCl ((wS k arS (arP 99) fiS (uF faS 13 (g13S_3))) ++ (wP k arP fiP faP)) H ∧ va_D A ((wS k arS (arP 99) fiS (uF faS 13 (g13S_3))) ++ (wP k arP fiP faP)) := ⟨hP, hD⟩
  have hl : lv_has ls 9 [(3, .int (Int32.ofInt (x3_1))), (2, .int (Int32.ofInt (x2_2))), (0, .ref (arS 99)), (1, .int (Int32.ofInt (s0)))] := hl
  refine lv_iload_n hx hb dX6_emptied_4 rfl (lv_at hl 0 rfl) ?_
  refine lv_aload_n hx hb dX6_emptied_5 rfl (lv_at hl 2 rfl) ?_
  refine va_get (D := G) (ci := 5) (v := .ref (arP 99)) (C := RX6) (T := TX6) (N := 15) (ref := RX6) hx hb hts h1w hown hX.1 hP 0 rfl rfl 0 (by decide) h0w (fun _ h9 => h9) rfl dX6_emptied_6 ?_
  refine va_getN (D := G) (ci := 2) (v := .int (Int32.ofInt (fiP 7))) (C := RX3) (T := TX3) (N := 14) (ref := RX3) (host := RX9) hx hb hts h2w hown hX.1 hP 10 rfl rfl 7 (by decide) (nf_17 hX.2.2.1) (fun _ h9 => h9) rfl dX6_emptied_9 ?_
  have rf7P := hRP 7
  refine iv_icmp_ge (tgt := 143) hx hb (by omega) (by omega) dX6_emptied_12 (by decide) (fun q4 => ?_) (fun q4 => ?_)
  · refine lv_iload_n hx hb dX6_emptied_143 rfl (lv_at hl 1 rfl) ?_
    exact W.iret (v := Int32.ofInt (x2_2)) hx hb hr (fun t ht hW => ⟨⟨Int32.ofInt (x2_2), (x2_2, g13S_3), rfl, ⟨rfl, (show (inR x2_2) ∧ (∀ t, inR (g13S_3 t)) ∧ (True) from ⟨(by omega), r_g13S_3, trivial⟩)⟩, by rw [ht]; exact hP, hD⟩, hS.F ht⟩) hS.2.2 dX6_emptied_144
  · refine lv_aload_n hx hb dX6_emptied_15 rfl (lv_at hl 2 rfl) ?_
    refine va_get (D := G) (ci := 5) (v := .ref (arP 99)) (C := RX6) (T := TX6) (N := 15) (ref := RX6) hx hb hts h1w hown hX.1 hP 0 rfl rfl 0 (by decide) h0w (fun _ h9 => h9) rfl dX6_emptied_16 ?_
    refine lv_iload_n hx hb dX6_emptied_19 rfl (lv_at hl 3 rfl) ?_
    refine lv_iload_n hx hb dX6_emptied_20 rfl (lv_at hl 0 rfl) ?_
    refine cz_i (wr := (wS k arS (arP 99) fiS (uF faS 13 (g13S_3)))) (va_runVN (As := [.int (Int32.ofInt (s0)), .int (Int32.ofInt (x3_1))]) (rest := []) ⟨hx, hb, hml, hown, hts⟩ (mX3_thingDepth l G k arP fiP faP s0 x3_1 H.size hRP hRaP hB8P hB20P hB21P (by omega) (by omega) (show 0 ≤ (fiP 0) ∧ (fiP 0) ≤ 11 from by omega)) ⟨va_cnB 2 hts (gz [] (.code yX3_thingDepth cX3_thingDepth 4 (some .int)) [(23, 10)] rfl) rfl rfl rfl (nm_47 hX.2.2.1) h3w (by decide +kernel) ⟨Nat.le_of_ble_eq_true rfl, Nat.le_of_ble_eq_true rfl⟩, h4w, h5w⟩ (cy_preV (EZ_ok k) hZ hS hX hP hD hA [10, 11, 12, 13, 14, 15, 16, 17, 18, 19] rfl rfl (ci := 2) (q0 := 10) rfl rfl) rfl rfl hl.1 rfl (lv_room (Nat.le_of_ble_eq_true rfl)) dX6_emptied_21 ⟨Nat.le_of_ble_eq_true rfl, Nat.le_of_ble_eq_true rfl⟩) hP hD hS hA [10, 11, 12, 13, 14, 15, 16, 17, 18, 19] [0, 1, 2, 3, 4, 5, 6, 7, 8, 9] rfl rfl (by decide) (by decide) (fun r u H locs hp hP hD hS => ?_)
    obtain ⟨c5, rfl⟩ : ∃ z, z = u := ⟨_, rfl⟩
    obtain ⟨hP, hD⟩ : va_P G vwCl ((wS k arS (arP 99) fiS (uF faS 13 (g13S_3))) ++ (wP k arP fiP faP)) H ∧ va_D A ((wS k arS (arP 99) fiS (uF faS 13 (g13S_3))) ++ (wP k arP fiP faP)) := ⟨hP, hD⟩
    obtain ⟨h9, rc5, hp5⟩ : r = Int32.ofInt c5 ∧ (inR c5) ∧ (c5 = thD (nb s0 x3_1) (dp s0) ((fiP 0)) ∧ -15 ≤ c5 ∧ c5 ≤ 15) := hp
    subst h9
    have hTd21 := hp5.1
    refine lv_istore (lv' := [(4, .int (Int32.ofInt (c5))), (3, .int (Int32.ofInt (x3_1))), (2, .int (Int32.ofInt (x2_2))), (0, .ref (arS 99)), (1, .int (Int32.ofInt (s0)))]) hx hb dX6_emptied_24 hl (by decide) rfl (fun ls hl => ?_)
    refine iv_join (G := G) (A := A) (H0 := s.heap) (α := Int) (nL := 9) 51 (fun b9 => [.int (Int32.ofInt (b9))]) (fun b9 => ((wS k arS (arP 99) fiS (uF faS 13 (g13S_3))) ++ (wP k arP fiP faP))) (fun b9 => [(4, .int (Int32.ofInt (c5))), (3, .int (Int32.ofInt (x3_1))), (2, .int (Int32.ofInt (x2_2))), (0, .ref (arS 99)), (1, .int (Int32.ofInt (s0)))]) (fun b9 => inR b9 ∧ (b9 = 0 ∨ b9 = 1)) ?_ (fun J51 => ?_)
    · intro s0_6 hi9 H locs ls hP hD hS hl
      obtain ⟨r_s0_6, hinv⟩ : inR s0_6 ∧ (s0_6 = 0 ∨ s0_6 = 1) := hi9
      obtain ⟨hP, hD⟩ : va_P G vwCl ((wS k arS (arP 99) fiS (uF faS 13 (g13S_3))) ++ (wP k arP fiP faP)) H ∧ va_D A ((wS k arS (arP 99) fiS (uF faS 13 (g13S_3))) ++ (wP k arP fiP faP)) := ⟨hP, hD⟩
      have hl : lv_has ls 9 [(4, .int (Int32.ofInt (c5))), (3, .int (Int32.ofInt (x3_1))), (2, .int (Int32.ofInt (x2_2))), (0, .ref (arS 99)), (1, .int (Int32.ofInt (s0)))] := hl
      refine lv_istore (lv' := [(5, .int (Int32.ofInt (s0_6))), (4, .int (Int32.ofInt (c5))), (3, .int (Int32.ofInt (x3_1))), (2, .int (Int32.ofInt (x2_2))), (0, .ref (arS 99)), (1, .int (Int32.ofInt (s0)))]) hx hb dX6_emptied_51 hl (by decide) rfl (fun ls hl => ?_)
      refine lv_iload_n hx hb dX6_emptied_53 rfl (lv_at hl 5 rfl) ?_
      refine lv_iload_n hx hb dX6_emptied_54 rfl (lv_at hl 2 rfl) ?_
      refine c0_i (va_runSN (As := [.int (Int32.ofInt (s0)), .int (Int32.ofInt (x3_1))]) (rest := []) ⟨hx, hb, hml, hown, hts⟩ (mX7_bucketOf l G k s0 x3_1 H.size (by omega) (by omega)) ⟨va_cnB 2 hts (gz [] (.code yX7_bucketOf cX7_bucketOf 3 (some .int)) [(23, 18)] rfl) rfl rfl rfl (nm_48 hX.2.2.1) h6w (by decide +kernel) ⟨Nat.le_of_ble_eq_true rfl, Nat.le_of_ble_eq_true rfl⟩, h7w, trivial⟩ (cr_pre0 (EZ_ok k) hZ hS hX hP hD hA) rfl rfl hl.1 rfl (lv_room (Nat.le_of_ble_eq_true rfl)) dX6_emptied_55 ⟨Nat.le_of_ble_eq_true rfl, Nat.le_of_ble_eq_true rfl⟩) hP hD hS hA (fun r u H locs hp hP hD hS => ?_)
      obtain ⟨c7, rfl⟩ : ∃ z, z = u := ⟨_, rfl⟩
      obtain ⟨h9, rc7, hp7⟩ : r = Int32.ofInt c7 ∧ (inR c7) ∧ (c7 = bkO (nb s0 x3_1) ∧ -1 ≤ c7 ∧ c7 ≤ 1) := hp
      subst h9
      refine lv_istore (lv' := [(6, .int (Int32.ofInt (c7))), (5, .int (Int32.ofInt (s0_6))), (4, .int (Int32.ofInt (c5))), (3, .int (Int32.ofInt (x3_1))), (2, .int (Int32.ofInt (x2_2))), (0, .ref (arS 99)), (1, .int (Int32.ofInt (s0)))]) hx hb dX6_emptied_58 hl (by decide) rfl (fun ls hl => ?_)
      refine lv_iconst (v := Int32.ofInt 0) hx hb dX6_emptied_60 (by decide +kernel) ?_
      refine lv_istore (lv' := [(7, .int (Int32.ofInt (0))), (6, .int (Int32.ofInt (c7))), (5, .int (Int32.ofInt (s0_6))), (4, .int (Int32.ofInt (c5))), (3, .int (Int32.ofInt (x3_1))), (2, .int (Int32.ofInt (x2_2))), (0, .ref (arS 99)), (1, .int (Int32.ofInt (s0)))]) hx hb dX6_emptied_61 hl (by decide) rfl (fun ls hl => ?_)
      refine lv_iconst (v := Int32.ofInt 0) hx hb dX6_emptied_63 (by decide +kernel) ?_
      refine lv_istore (lv' := [(8, .int (Int32.ofInt (0))), (7, .int (Int32.ofInt (0))), (6, .int (Int32.ofInt (c7))), (5, .int (Int32.ofInt (s0_6))), (4, .int (Int32.ofInt (c5))), (3, .int (Int32.ofInt (x3_1))), (2, .int (Int32.ofInt (x2_2))), (0, .ref (arS 99)), (1, .int (Int32.ofInt (s0)))]) hx hb dX6_emptied_64 hl (by decide) rfl (fun ls hl => ?_)
      refine iv_loop (α := Int × Int) (nL := 9) (fun b9 => ((wS k arS (arP 99) fiS (uF faS 13 (g13S_3))) ++ (wP k arP fiP faP))) (fun b9 => [(8, .int (Int32.ofInt (b9.1))), (7, .int (Int32.ofInt (b9.2))), (6, .int (Int32.ofInt (c7))), (5, .int (Int32.ofInt (s0_6))), (4, .int (Int32.ofInt (c5))), (3, .int (Int32.ofInt (x3_1))), (2, .int (Int32.ofInt (x2_2))), (0, .ref (arS 99)), (1, .int (Int32.ofInt (s0)))]) (fun b9 => (2 - b9.1).toNat) (fun b9 => inR b9.1 ∧ inR b9.2 ∧ (0 ≤ b9.1 ∧ b9.1 ≤ 2)) ?_ (0, 0) (show inR 0 ∧ inR 0 ∧ (0 ≤ 0 ∧ 0 ≤ 2) from ⟨(by omega), (by omega), (by omega)⟩) hP hD hS hl
      rintro ⟨x8_8, x7_9⟩ ih66 hi9 H locs ls hP hD hS hl
      obtain ⟨r_x8_8, r_x7_9, hinv⟩ : inR x8_8 ∧ inR x7_9 ∧ (0 ≤ x8_8 ∧ x8_8 ≤ 2) := hi9
      obtain ⟨hP, hD⟩ : va_P G vwCl ((wS k arS (arP 99) fiS (uF faS 13 (g13S_3))) ++ (wP k arP fiP faP)) H ∧ va_D A ((wS k arS (arP 99) fiS (uF faS 13 (g13S_3))) ++ (wP k arP fiP faP)) := ⟨hP, hD⟩
      have hl : lv_has ls 9 [(8, .int (Int32.ofInt (x8_8))), (7, .int (Int32.ofInt (x7_9))), (6, .int (Int32.ofInt (c7))), (5, .int (Int32.ofInt (s0_6))), (4, .int (Int32.ofInt (c5))), (3, .int (Int32.ofInt (x3_1))), (2, .int (Int32.ofInt (x2_2))), (0, .ref (arS 99)), (1, .int (Int32.ofInt (s0)))] := hl
      refine lv_iload hx hb dX6_emptied_66 (lv_at hl 0 rfl) ?_
      refine lv_iconst (v := Int32.ofInt 1) hx hb dX6_emptied_68 (by decide +kernel) ?_
      refine iv_icmp_gt (tgt := 114) hx hb (by omega) (by omega) dX6_emptied_69 (by decide) (fun q10 => ?_) (fun q10 => ?_)
      · refine lv_aload_n hx hb dX6_emptied_114 rfl (lv_at hl 7 rfl) ?_
        refine va_get (D := G) (ci := 5) (v := .ref (arS 13)) (C := RX6) (T := TX6) (N := 15) (ref := RX6) hx hb hts h1w hown hX.1 hP 0 rfl rfl 13 (by decide) h8w (fun _ h9 => h9) rfl dX6_emptied_115 ?_
        refine lv_iload_n hx hb dX6_emptied_118 rfl (lv_at hl 5 rfl) ?_
        refine lv_iload hx hb dX6_emptied_119 (lv_at hl 1 rfl) ?_
        refine iv_iast hx hb hX.1 hP hD hS 8 0 rfl rfl (fun g' => show _ = ((wS k arS (arP 99) fiS (uF faS 13 (g'))) ++ (wP k arP fiP faP)) from rfl) (by omega) (by omega) (by decide) dX6_emptied_121 (fun H locs hP hD hS => ?_)
        obtain ⟨hP, hD⟩ : va_P G vwCl ((wS k arS (arP 99) fiS (uF faS 13 (uA (g13S_3) (x3_1) (x7_9)))) ++ (wP k arP fiP faP)) H ∧ va_D A ((wS k arS (arP 99) fiS (uF faS 13 (uA (g13S_3) (x3_1) (x7_9)))) ++ (wP k arP fiP faP)) := ⟨hP, hD⟩
        obtain ⟨g11, eg11, rg11⟩ : ∃ z, z = uA (g13S_3) (x3_1) (x7_9) ∧ ∀ t, inR (z t) := ⟨_, rfl, iU r_g13S_3 (by omega)⟩
        rw [← eg11] at hP hD
        refine lv_iload_n hx hb dX6_emptied_122 rfl (lv_at hl 6 rfl) ?_
        refine lv_iload_n hx hb dX6_emptied_123 rfl (lv_at hl 5 rfl) ?_
        refine lv_aload_n hx hb dX6_emptied_124 rfl (lv_at hl 7 rfl) ?_
        refine va_get (D := G) (ci := 5) (v := .ref (arP 99)) (C := RX6) (T := TX6) (N := 15) (ref := RX6) hx hb hts h1w hown hX.1 hP 0 rfl rfl 0 (by decide) h0w (fun _ h9 => h9) rfl dX6_emptied_125 ?_
        refine lv_iload_n hx hb dX6_emptied_128 rfl (lv_at hl 8 rfl) ?_
        refine lv_iload_n hx hb dX6_emptied_129 rfl (lv_at hl 5 rfl) ?_
        refine cz_i (wr := (wS k arS (arP 99) fiS (uF faS 13 (g11)))) (va_runVN (As := [.int (Int32.ofInt (s0)), .int (Int32.ofInt (x3_1))]) (rest := [.int (Int32.ofInt (x3_1)), .int (Int32.ofInt (x2_2))]) ⟨hx, hb, hml, hown, hts⟩ (mX3_placeOutside l G k arP fiP faP s0 x3_1 H.size hRP hRaP hB8P hB20P hB21P (by omega) (by omega) (show 0 ≤ x3_1 ∧ x3_1 < 7 from by omega) (show 0 ≤ (fiP 0) ∧ (fiP 0) ≤ 11 from by omega)) ⟨va_cnB 2 hts (gz [] (.code yX3_placeOutside cX3_placeOutside 5 (some .int)) [(28, 13)] rfl) rfl rfl rfl (nm_50 hX.2.2.1) h3w (by decide +kernel) ⟨Nat.le_of_ble_eq_true rfl, Nat.le_of_ble_eq_true rfl⟩, h9w, h10w⟩ (cy_preV (EZ_ok k) hZ hS hX hP hD hA [10, 11, 12, 13, 14, 15, 16, 17, 18, 19] rfl rfl (ci := 2) (q0 := 10) rfl rfl) rfl rfl hl.1 rfl (lv_room (Nat.le_of_ble_eq_true rfl)) dX6_emptied_130 ⟨Nat.le_of_ble_eq_true rfl, Nat.le_of_ble_eq_true rfl⟩) hP hD hS hA [10, 11, 12, 13, 14, 15, 16, 17, 18, 19] [0, 1, 2, 3, 4, 5, 6, 7, 8, 9] rfl rfl (by decide) (by decide) (fun r u H locs hp hP hD hS => ?_)
        obtain ⟨c12, rfl⟩ : ∃ z, z = u := ⟨_, rfl⟩
        obtain ⟨hP, hD⟩ : va_P G vwCl ((wS k arS (arP 99) fiS (uF faS 13 (g11))) ++ (wP k arP fiP faP)) H ∧ va_D A ((wS k arS (arP 99) fiS (uF faS 13 (g11))) ++ (wP k arP fiP faP)) := ⟨hP, hD⟩
        obtain ⟨h9, rc12, hp12⟩ : r = Int32.ofInt c12 ∧ (inR c12) ∧ (c12 = plO (nb s0 x3_1) ((faP 8) x3_1) ((faP 11) x3_1) (dp s0) ((fiP 0)) ∧ -15 ≤ c12 ∧ c12 ≤ 15) := hp
        subst h9
        have hPo130 := hp12.1
        refine c0_i (va_runSN (As := [.int (Int32.ofInt (x2_2)), .int (Int32.ofInt (x3_1)), .int (Int32.ofInt (c12))]) (rest := []) ⟨hx, hb, hml, hown, hts⟩ (mX7_put l G k x2_2 x3_1 c12 H.size (by omega) (by omega) (by omega)) ⟨va_cnB 3 hts (gz [] (.code yX7_put cX7_put 3 (some .int)) [(5, 14)] rfl) rfl rfl rfl (nm_51 hX.2.2.1) h6w (by decide +kernel) ⟨Nat.le_of_ble_eq_true rfl, Nat.le_of_ble_eq_true rfl⟩, h11w, trivial⟩ (cr_pre0 (EZ_ok k) hZ hS hX hP hD hA) rfl rfl hl.1 rfl (lv_room (Nat.le_of_ble_eq_true rfl)) dX6_emptied_133 ⟨Nat.le_of_ble_eq_true rfl, Nat.le_of_ble_eq_true rfl⟩) hP hD hS hA (fun r u H locs hp hP hD hS => ?_)
        obtain ⟨c13, rfl⟩ : ∃ z, z = u := ⟨_, rfl⟩
        obtain ⟨h9, rc13, hp13⟩ : r = Int32.ofInt c13 ∧ (inR c13) ∧ (c13 = putS x2_2 x3_1 c12) := hp
        subst h9
        have hPu133 := hp13
        refine lv_istore_n (lv' := [(2, .int (Int32.ofInt (c13))), (8, .int (Int32.ofInt (x8_8))), (7, .int (Int32.ofInt (x7_9))), (6, .int (Int32.ofInt (c7))), (5, .int (Int32.ofInt (s0_6))), (4, .int (Int32.ofInt (c5))), (3, .int (Int32.ofInt (x3_1))), (0, .ref (arS 99)), (1, .int (Int32.ofInt (s0)))]) hx hb dX6_emptied_136 rfl hl (by decide) rfl (fun ls hl => ?_)
        refine lv_iinc (v := Int32.ofInt (x3_1 + 1)) (lv' := [(3, .int (Int32.ofInt ((x3_1 + 1)))), (2, .int (Int32.ofInt (c13))), (8, .int (Int32.ofInt (x8_8))), (7, .int (Int32.ofInt (x7_9))), (6, .int (Int32.ofInt (c7))), (5, .int (Int32.ofInt (s0_6))), (4, .int (Int32.ofInt (c5))), (0, .ref (arS 99)), (1, .int (Int32.ofInt (s0)))]) hx hb dX6_emptied_137 hl (k := 6) rfl (Int32.ofInt_add _ _).symm (by decide) rfl (fun ls hl => ?_)
        refine lv_goto (tgt := 4) hx hb dX6_emptied_140 (by decide) ?_
        have hl : lv_has ls 9 [(3, .int (Int32.ofInt ((x3_1 + 1)))), (2, .int (Int32.ofInt (c13))), (0, .ref (arS 99)), (1, .int (Int32.ofInt (s0)))] := lv_sub hl [0, 1, 7, 8] rfl
        exact ih ((x3_1 + 1), c13, g11) (show (fiP 7 - (x3_1 + 1)).toNat < (fiP 7 - x3_1).toNat from by omega) (show inR (x3_1 + 1) ∧ inR c13 ∧ (∀ t, inR (g11 t)) ∧ (0 ≤ (x3_1 + 1)) from ⟨(by omega), (by omega), rg11, (by omega)⟩) _ _ _ hP hD hS hl
      · refine iv_join (G := G) (A := A) (H0 := s.heap) (α := Int) (nL := 9) 108 (fun b9 => []) (fun b9 => ((wS k arS (arP 99) fiS (uF faS 13 (g13S_3))) ++ (wP k arP fiP faP))) (fun b9 => [(8, .int (Int32.ofInt (x8_8))), (7, .int (Int32.ofInt (b9))), (6, .int (Int32.ofInt (c7))), (5, .int (Int32.ofInt (s0_6))), (4, .int (Int32.ofInt (c5))), (3, .int (Int32.ofInt (x3_1))), (2, .int (Int32.ofInt (x2_2))), (0, .ref (arS 99)), (1, .int (Int32.ofInt (s0)))]) (fun b9 => inR b9 ∧ (True)) ?_ (fun J108 => ?_)
        · intro x7_14 hi9 H locs ls hP hD hS hl
          obtain ⟨r_x7_14, hinv⟩ : inR x7_14 ∧ (True) := hi9
          obtain ⟨hP, hD⟩ : va_P G vwCl ((wS k arS (arP 99) fiS (uF faS 13 (g13S_3))) ++ (wP k arP fiP faP)) H ∧ va_D A ((wS k arS (arP 99) fiS (uF faS 13 (g13S_3))) ++ (wP k arP fiP faP)) := ⟨hP, hD⟩
          have hl : lv_has ls 9 [(8, .int (Int32.ofInt (x8_8))), (7, .int (Int32.ofInt (x7_14))), (6, .int (Int32.ofInt (c7))), (5, .int (Int32.ofInt (s0_6))), (4, .int (Int32.ofInt (c5))), (3, .int (Int32.ofInt (x3_1))), (2, .int (Int32.ofInt (x2_2))), (0, .ref (arS 99)), (1, .int (Int32.ofInt (s0)))] := hl
          refine lv_iinc (v := Int32.ofInt (x8_8 + 1)) (lv' := [(8, .int (Int32.ofInt ((x8_8 + 1)))), (7, .int (Int32.ofInt (x7_14))), (6, .int (Int32.ofInt (c7))), (5, .int (Int32.ofInt (s0_6))), (4, .int (Int32.ofInt (c5))), (3, .int (Int32.ofInt (x3_1))), (2, .int (Int32.ofInt (x2_2))), (0, .ref (arS 99)), (1, .int (Int32.ofInt (s0)))]) hx hb dX6_emptied_108 hl (k := 0) rfl (Int32.ofInt_add _ _).symm (by decide) rfl (fun ls hl => ?_)
          refine lv_goto (tgt := 66) hx hb dX6_emptied_111 (by decide) ?_
          have hl : lv_has ls 9 [(8, .int (Int32.ofInt ((x8_8 + 1)))), (7, .int (Int32.ofInt (x7_14))), (6, .int (Int32.ofInt (c7))), (5, .int (Int32.ofInt (s0_6))), (4, .int (Int32.ofInt (c5))), (3, .int (Int32.ofInt (x3_1))), (2, .int (Int32.ofInt (x2_2))), (0, .ref (arS 99)), (1, .int (Int32.ofInt (s0)))] := lv_sub hl [0, 1, 2, 3, 4, 5, 6, 7, 8] rfl
          exact ih66 ((x8_8 + 1), x7_14) (show (2 - (x8_8 + 1)).toNat < (2 - x8_8).toNat from by omega) (show inR (x8_8 + 1) ∧ inR x7_14 ∧ (0 ≤ (x8_8 + 1) ∧ (x8_8 + 1) ≤ 2) from ⟨(by omega), (by omega), (by omega)⟩) _ _ _ hP hD hS hl
        · refine lv_iload hx hb dX6_emptied_72 (lv_at hl 2 rfl) ?_
          refine lv_iload hx hb dX6_emptied_74 (lv_at hl 0 rfl) ?_
          refine iv_icmp_eq (tgt := 99) hx hb (by omega) (by omega) dX6_emptied_76 (by decide) (fun q15 => ?_) (fun q15 => ?_)
          · refine lv_iload hx hb dX6_emptied_99 (lv_at hl 1 rfl) ?_
            refine lv_iconst (v := Int32.ofInt 1) hx hb dX6_emptied_101 (by decide +kernel) ?_
            refine lv_iload hx hb dX6_emptied_102 (lv_at hl 0 rfl) ?_
            refine iv_shl hx hb dX6_emptied_104 ?_
            refine iv_top (fun z16 ez16 => ?_)
            have rz16 : inR z16 := ez16 ▸ bShl_r _ _
            refine iv_or hx hb dX6_emptied_105 ?_
            refine iv_top (fun z17 ez17 => ?_)
            have rz17 : inR z17 := ez17 ▸ bOr_r _ _
            refine lv_istore (lv' := [(7, .int (Int32.ofInt (z17))), (8, .int (Int32.ofInt (x8_8))), (6, .int (Int32.ofInt (c7))), (5, .int (Int32.ofInt (s0_6))), (4, .int (Int32.ofInt (c5))), (3, .int (Int32.ofInt (x3_1))), (2, .int (Int32.ofInt (x2_2))), (0, .ref (arS 99)), (1, .int (Int32.ofInt (s0)))]) hx hb dX6_emptied_106 hl (by decide) rfl (fun ls hl => ?_)
            have hl : lv_has ls 9 [(8, .int (Int32.ofInt (x8_8))), (7, .int (Int32.ofInt (z17))), (6, .int (Int32.ofInt (c7))), (5, .int (Int32.ofInt (s0_6))), (4, .int (Int32.ofInt (c5))), (3, .int (Int32.ofInt (x3_1))), (2, .int (Int32.ofInt (x2_2))), (0, .ref (arS 99)), (1, .int (Int32.ofInt (s0)))] := lv_sub hl [1, 0, 2, 3, 4, 5, 6, 7, 8] rfl
            exact J108 (z17) (show inR z17 ∧ (True) from ⟨(by omega), (by trivial)⟩) _ _ _ hP hD hS hl
          · refine lv_iload hx hb dX6_emptied_79 (lv_at hl 3 rfl) ?_
            refine iv_if_eq (tgt := 108) hx hb (by omega) dX6_emptied_81 (by decide) (fun q18 => ?_) (fun q18 => ?_)
            · have hl : lv_has ls 9 [(8, .int (Int32.ofInt (x8_8))), (7, .int (Int32.ofInt (x7_9))), (6, .int (Int32.ofInt (c7))), (5, .int (Int32.ofInt (s0_6))), (4, .int (Int32.ofInt (c5))), (3, .int (Int32.ofInt (x3_1))), (2, .int (Int32.ofInt (x2_2))), (0, .ref (arS 99)), (1, .int (Int32.ofInt (s0)))] := lv_sub hl [0, 1, 2, 3, 4, 5, 6, 7, 8] rfl
              exact J108 (x7_9) (show inR x7_9 ∧ (True) from ⟨(by omega), (by trivial)⟩) _ _ _ hP hD hS hl
            · refine lv_iload hx hb dX6_emptied_84 (lv_at hl 4 rfl) ?_
              refine lv_aload_n hx hb dX6_emptied_86 rfl (lv_at hl 7 rfl) ?_
              refine va_get (D := G) (ci := 5) (v := .ref (arP 99)) (C := RX6) (T := TX6) (N := 15) (ref := RX6) hx hb hts h1w hown hX.1 hP 0 rfl rfl 0 (by decide) h0w (fun _ h9 => h9) rfl dX6_emptied_87 ?_
              refine lv_iload_n hx hb dX6_emptied_90 rfl (lv_at hl 8 rfl) ?_
              refine lv_iload hx hb dX6_emptied_91 (lv_at hl 0 rfl) ?_
              refine cz_i (wr := (wS k arS (arP 99) fiS (uF faS 13 (g13S_3)))) (va_runVN (As := [.int (Int32.ofInt (s0)), .int (Int32.ofInt (x8_8))]) (rest := [.int (Int32.ofInt (c5))]) ⟨hx, hb, hml, hown, hts⟩ (mX3_bucketDepth l G k arP fiP faP s0 x8_8 H.size hRP hRaP hB8P hB20P hB21P (by omega) (by omega) (show 0 ≤ (fiP 0) ∧ (fiP 0) ≤ 11 from by omega)) ⟨va_cnB 2 hts (gz [] (.code yX3_bucketDepth cX3_bucketDepth 3 (some .int)) [(23, 16)] rfl) rfl rfl rfl (nm_49 hX.2.2.1) h3w (by decide +kernel) ⟨Nat.le_of_ble_eq_true rfl, Nat.le_of_ble_eq_true rfl⟩, h12w, h13w⟩ (cy_preV (EZ_ok k) hZ hS hX hP hD hA [10, 11, 12, 13, 14, 15, 16, 17, 18, 19] rfl rfl (ci := 2) (q0 := 10) rfl rfl) rfl rfl hl.1 rfl (lv_room (Nat.le_of_ble_eq_true rfl)) dX6_emptied_93 ⟨Nat.le_of_ble_eq_true rfl, Nat.le_of_ble_eq_true rfl⟩) hP hD hS hA [10, 11, 12, 13, 14, 15, 16, 17, 18, 19] [0, 1, 2, 3, 4, 5, 6, 7, 8, 9] rfl rfl (by decide) (by decide) (fun r u H locs hp hP hD hS => ?_)
              obtain ⟨c19, rfl⟩ : ∃ z, z = u := ⟨_, rfl⟩
              obtain ⟨hP, hD⟩ : va_P G vwCl ((wS k arS (arP 99) fiS (uF faS 13 (g13S_3))) ++ (wP k arP fiP faP)) H ∧ va_D A ((wS k arS (arP 99) fiS (uF faS 13 (g13S_3))) ++ (wP k arP fiP faP)) := ⟨hP, hD⟩
              obtain ⟨h9, rc19, hp19⟩ : r = Int32.ofInt c19 ∧ (inR c19) ∧ (c19 = buD x8_8 (dp s0) ((fiP 0)) ∧ -15 ≤ c19 ∧ c19 ≤ 15) := hp
              subst h9
              have hBu93 := hp19.1
              refine iv_icmp_ne (tgt := 108) hx hb (by omega) (by omega) dX6_emptied_96 (by decide) (fun q20 => ?_) (fun q20 => ?_)
              · have hl : lv_has ls 9 [(8, .int (Int32.ofInt (x8_8))), (7, .int (Int32.ofInt (x7_9))), (6, .int (Int32.ofInt (c7))), (5, .int (Int32.ofInt (s0_6))), (4, .int (Int32.ofInt (c5))), (3, .int (Int32.ofInt (x3_1))), (2, .int (Int32.ofInt (x2_2))), (0, .ref (arS 99)), (1, .int (Int32.ofInt (s0)))] := lv_sub hl [0, 1, 2, 3, 4, 5, 6, 7, 8] rfl
                exact J108 (x7_9) (show inR x7_9 ∧ (True) from ⟨(by omega), (by trivial)⟩) _ _ _ hP hD hS hl
              · refine lv_iload hx hb dX6_emptied_99 (lv_at hl 1 rfl) ?_
                refine lv_iconst (v := Int32.ofInt 1) hx hb dX6_emptied_101 (by decide +kernel) ?_
                refine lv_iload hx hb dX6_emptied_102 (lv_at hl 0 rfl) ?_
                refine iv_shl hx hb dX6_emptied_104 ?_
                refine iv_top (fun z21 ez21 => ?_)
                have rz21 : inR z21 := ez21 ▸ bShl_r _ _
                refine iv_or hx hb dX6_emptied_105 ?_
                refine iv_top (fun z22 ez22 => ?_)
                have rz22 : inR z22 := ez22 ▸ bOr_r _ _
                refine lv_istore (lv' := [(7, .int (Int32.ofInt (z22))), (8, .int (Int32.ofInt (x8_8))), (6, .int (Int32.ofInt (c7))), (5, .int (Int32.ofInt (s0_6))), (4, .int (Int32.ofInt (c5))), (3, .int (Int32.ofInt (x3_1))), (2, .int (Int32.ofInt (x2_2))), (0, .ref (arS 99)), (1, .int (Int32.ofInt (s0)))]) hx hb dX6_emptied_106 hl (by decide) rfl (fun ls hl => ?_)
                have hl : lv_has ls 9 [(8, .int (Int32.ofInt (x8_8))), (7, .int (Int32.ofInt (z22))), (6, .int (Int32.ofInt (c7))), (5, .int (Int32.ofInt (s0_6))), (4, .int (Int32.ofInt (c5))), (3, .int (Int32.ofInt (x3_1))), (2, .int (Int32.ofInt (x2_2))), (0, .ref (arS 99)), (1, .int (Int32.ofInt (s0)))] := lv_sub hl [1, 0, 2, 3, 4, 5, 6, 7, 8] rfl
                exact J108 (z22) (show inR z22 ∧ (True) from ⟨(by omega), (by trivial)⟩) _ _ _ hP hD hS hl
    · refine lv_iload hx hb dX6_emptied_26 (lv_at hl 0 rfl) ?_
      refine lv_iconst (v := Int32.ofInt (-1)) hx hb dX6_emptied_28 (by decide +kernel) ?_
      refine iv_icmp_eq (tgt := 50) hx hb (by omega) (by omega) dX6_emptied_29 (by decide) (fun q23 => ?_) (fun q23 => ?_)
      · refine lv_iconst (v := Int32.ofInt 0) hx hb dX6_emptied_50 (by decide +kernel) ?_
        have hl : lv_has ls 9 [(4, .int (Int32.ofInt (c5))), (3, .int (Int32.ofInt (x3_1))), (2, .int (Int32.ofInt (x2_2))), (0, .ref (arS 99)), (1, .int (Int32.ofInt (s0)))] := lv_sub hl [0, 1, 2, 3, 4] rfl
        exact J51 (0) (show inR 0 ∧ (0 = 0 ∨ 0 = 1) from ⟨(by omega), (by omega)⟩) _ _ _ hP hD hS hl
      · refine lv_iload hx hb dX6_emptied_32 (lv_at hl 0 rfl) ?_
        refine lv_aload_n hx hb dX6_emptied_34 rfl (lv_at hl 3 rfl) ?_
        refine va_get (D := G) (ci := 5) (v := .ref (arP 99)) (C := RX6) (T := TX6) (N := 15) (ref := RX6) hx hb hts h1w hown hX.1 hP 0 rfl rfl 0 (by decide) h0w (fun _ h9 => h9) rfl dX6_emptied_35 ?_
        refine va_getN (D := G) (ci := 2) (v := .ref (arP 11)) (C := RX3) (T := TX3) (N := 14) (ref := RX3) (host := RX9) hx hb hts h2w hown hX.1 hP 10 rfl rfl 11 (by decide) (nf_26 hX.2.2.1) (fun _ h9 => h9) rfl dX6_emptied_38 ?_
        refine lv_iload_n hx hb dX6_emptied_41 rfl (lv_at hl 1 rfl) ?_
        refine iv_iald hx hb hX.1 hP 15 0 rfl rfl (by omega) (by omega) (by decide) dX6_emptied_42 ?_
        refine iv_top (fun z24 ez24 => ?_)
        have rz24 : inR z24 := ez24 ▸ (hRaP 11) _
        have ez24 : z24 = (faP 11) x3_1 := ez24
        refine iv_icmp_eq (tgt := 50) hx hb (by omega) (by omega) dX6_emptied_43 (by decide) (fun q25 => ?_) (fun q25 => ?_)
        · refine lv_iconst (v := Int32.ofInt 0) hx hb dX6_emptied_50 (by decide +kernel) ?_
          have hl : lv_has ls 9 [(4, .int (Int32.ofInt (c5))), (3, .int (Int32.ofInt (x3_1))), (2, .int (Int32.ofInt (x2_2))), (0, .ref (arS 99)), (1, .int (Int32.ofInt (s0)))] := lv_sub hl [0, 1, 2, 3, 4] rfl
          exact J51 (0) (show inR 0 ∧ (0 = 0 ∨ 0 = 1) from ⟨(by omega), (by omega)⟩) _ _ _ hP hD hS hl
        · refine lv_iconst (v := Int32.ofInt 1) hx hb dX6_emptied_46 (by decide +kernel) ?_
          refine lv_goto (tgt := 51) hx hb dX6_emptied_47 (by decide) ?_
          have hl : lv_has ls 9 [(4, .int (Int32.ofInt (c5))), (3, .int (Int32.ofInt (x3_1))), (2, .int (Int32.ofInt (x2_2))), (0, .ref (arS 99)), (1, .int (Int32.ofInt (s0)))] := lv_sub hl [0, 1, 2, 3, 4] rfl
          exact J51 (1) (show inR 1 ∧ (1 = 0 ∨ 1 = 1) from ⟨(by omega), (by omega)⟩) _ _ _ hP hD hS hl

