set_option maxHeartbeats 4000000 in
set_option maxRecDepth 100000 in
theorem mX6_forget (l : Launch) (G : va_G) (k : Nat → ClassId) (ar : Nat → Nat) (pl : Nat) (fi : Nat → Int) (fa : Nat → Int → Int) (sz : Nat) (hR : ∀ j, inR (fi j)) (hRa : ∀ j t, inR (fa j t)) (hB5 : bnd (fa 5) 1500 (-1) 1500) (hB7 : bnd (fa 7) 1024 (-1) 1500) (hB8 : bnd (fa 8) 1500 (-1) 1500) (hB9 : bnd (fa 9) 1500 0 1500) (hB10 : bnd (fa 10) 1500 0 1500) : CNv l G k (EZ k) yX6_forget wzX6_forget ({ frames := 1, cells := 0, slots := 0, locals := 23 }) [.ref (ar 99)] sz (wS k ar (pl) fi fa) (fun (u : (Int → Int) × Int) => (∀ t, inR (u.1 t)) ∧ (inR u.2) ∧ (u.2 = 0)) (fun (u : (Int → Int) × Int) => (wS k ar (pl) (uF fi 6 (u.2)) (uF fa 14 (u.1)))) := by
  refine Met.ofW (cc := cX6_forget) (maxL := 1) (ret := none) (by decide) rfl ?_
  intro p e s m args below meth c s₁ B hml hv
  obtain ⟨rfl, hsz, hP, hX, hD0, hZ0⟩ := hv
  have hx := B.exec
  have hb := B.bytes
  have hr := B.returns
  have hts := atoms_spec (ws := wzX6_forget) B.pre
  have hown : s.vm.findClass RX6 = some m.cls := findClass_of_methodNamed B.named
  subst hsz
  have hD := hD0.self (sz := s.heap.size)
  have hZ := hZ0
  generalize hAe : va_A (wS k ar (pl) fi fa) s.heap.size = A at hD hZ ⊢
  have hA : ∀ q : Nat, s.heap.size ≤ q → A q := fun q h => by rw [← hAe]; exact Or.inr h
  have hS : va_S A s.heap s.heap [] := va_S.rf
  have hl := lv_entry ([.ref (ar 99)]) (n := 1) (Nat.le_of_ble_eq_true rfl)
  rw [lg_entry_eq]
  generalize (lg_sl ([.ref (ar 99)]) ++ List.replicate (1 - (lg_sl ([.ref (ar 99)])).length) Slot.unset).toArray = ls at hl ⊢
  have hl : lv_has ls 1 [(0, .ref (ar 99))] := hl
  obtain ⟨H, eH⟩ : ∃ H, H = s.heap := ⟨_, rfl⟩
  rw [← eH] at hP
  have hS : va_S A s.heap H [] := by rw [eH]; exact hS
  have gW : s.heap = H := eH.symm
  refine iv_heap gW ?_
  have h0w := hts (.fieldLink RX6 57 "RopeTown$Search" "verdicts" "[I") (wz_at 5 4 rfl)
  have h1w : ∀ w ∈ wsX60, w ∈ wzX6_forget := fun w h => List.mem_cons_of_mem _ (inlX6 w h)
  have h2w := hts (.fieldLink RX6 22 "RopeTown$Search" "size" "I") (wz_at 4 17 rfl)
  refine lv_aload_n hx hb dX6_forget_0 rfl (lv_at hl 0 rfl) ?_
  refine va_get (D := G) (ci := 5) (v := .ref (ar 14)) (C := RX6) (T := TX6) (N := 15) (ref := RX6) hx hb hts h1w hown hX.1 hP 0 rfl rfl 14 (by decide) h0w (fun _ h9 => h9) rfl dX6_forget_1 ?_
  refine lv_iconst (v := Int32.ofInt 0) hx hb dX6_forget_4 (by decide +kernel) ?_
  refine cr_v (va_runS (As := [.ref (ar 14), .int (Int32.ofInt (0))]) (rest := []) ⟨hx, hb, hml, hown, hts⟩ (mJ7_fill_S14 l G k ar pl fi fa 0 H.size hR hRa hB5 hB7 hB8 hB9 hB10 (by omega)) (va_cwS 2 hts (gz [.methodLink RX6 60 yJ7_fill_53178, .static yJ7_fill_53178, .initialized RJ7] (.code yJ7_fill_53178 cJ7_fill_53178 4 none) [(16, 1), (16, 2), (16, 3), (16, 4)] rfl) rfl rfl rfl (by decide +kernel) ⟨Nat.le_of_ble_eq_true rfl, Nat.le_of_ble_eq_true rfl⟩) (cr_preS (EZ_ok k) hZ hS hX hP hD hA) rfl rfl hl.1 rfl (lv_room (Nat.le_of_ble_eq_true rfl)) dX6_forget_5 ⟨Nat.le_of_ble_eq_true rfl, Nat.le_of_ble_eq_true rfl⟩) hD hS hA (fun u H locs hp hP hD hS => ?_)
  obtain ⟨c1, rfl⟩ : ∃ z, z = u := ⟨_, rfl⟩
  obtain ⟨hP, hD⟩ : va_P G vwCl (wS k ar (pl) fi (uF fa 14 (c1))) H ∧ va_D A (wS k ar (pl) fi (uF fa 14 (c1))) := ⟨hP, hD⟩
  obtain ⟨rc1, hp1⟩ : (∀ t, inR (c1 t)) ∧ (∀ t, 0 ≤ t → t < 1641 → c1 t = 0) := hp
  have hFi5 := hp1
  refine lv_aload_n hx hb dX6_forget_8 rfl (lv_at hl 0 rfl) ?_
  refine lv_iconst (v := Int32.ofInt 0) hx hb dX6_forget_9 (by decide +kernel) ?_
  refine iv_put (ci := 5) (v := .int (Int32.ofInt (0))) (ty := .int) (C := RX6) (T := TX6) (N := 15) (ref := RX6) hx hb hts h1w tyX6 tyX6_ok nmX6 hown hX.1 hP hD hS 0 rfl rfl 6 (by decide) h2w (fun _ h9 => h9) rfl (by decide +kernel) rfl rfl (Nat.le_of_ble_eq_true rfl) (show _ = (wS k ar (pl) (uF fi 6 (0)) (uF fa 14 (c1))) from rfl) dX6_forget_10 (fun H locs hP hD hS => ?_)
  exact W.vret hx hb hr (fun t ht hW => ⟨⟨(c1, 0), rfl, (show (∀ t, inR (c1 t)) ∧ (inR 0) ∧ (0 = 0) from ⟨rc1, (by omega), (by omega)⟩), by rw [ht]; exact hP, hD⟩, hS.F ht⟩) hS.2.2 dX6_forget_13

set_option maxHeartbeats 4000000 in
set_option maxRecDepth 100000 in
theorem mX6_leastTillServed (l : Launch) (G : va_G) (k : Nat → ClassId) (arS : Nat → Nat) (fiS : Nat → Int) (faS : Nat → Int → Int) (arP : Nat → Nat) (fiP : Nat → Int) (faP : Nat → Int → Int) (sz : Nat) (hRS : ∀ j, inR (fiS j)) (hRaS : ∀ j t, inR (faS j t)) (hB5S : bnd (faS 5) 1500 (-1) 1500) (hB7S : bnd (faS 7) 1024 (-1) 1500) (hB8S : bnd (faS 8) 1500 (-1) 1500) (hB9S : bnd (faS 9) 1500 0 1500) (hB10S : bnd (faS 10) 1500 0 1500) (hRP : ∀ j, inR (fiP j)) (hRaP : ∀ j t, inR (faP j t)) (hB8P : bnd (faP 8) 7 0 4) (hB20P : bnd (faP 20) 600 (-1000) 10000) (hB21P : bnd (faP 21) 4 0 601) (hsz : 0 ≤ fiS 6 ∧ fiS 6 ≤ 1500) (hth : 0 ≤ fiP 7 ∧ fiP 7 ≤ 7) (hbt : 0 ≤ fiP 0 ∧ fiP 0 ≤ 11) : CNi l G k (EZ k) yX6_leastTillServed wzX6_leastTillServed ({ frames := 4, cells := 0, slots := 0, locals := 89 }) [.ref (arS 99)] sz ((wS k arS (arP 99) fiS faS) ++ (wP k arP fiP faP)) (fun (r0 : Int32) (u : Int) => r0 = Int32.ofInt (u) ∧ (inR u) ∧ (True)) (fun (u : Int) => ((wS k arS (arP 99) fiS faS) ++ (wP k arP fiP faP))) := by
  refine Met.ofW (cc := cX6_leastTillServed) (maxL := 4) (ret := (some .int)) (by decide) rfl ?_
  intro p e s m args below meth c s₁ B hml hv
  obtain ⟨rfl, hsz, hP, hX, hD0, hZ0⟩ := hv
  have hx := B.exec
  have hb := B.bytes
  have hr := B.returns
  have hts := atoms_spec (ws := wzX6_leastTillServed) B.pre
  have hown : s.vm.findClass RX6 = some m.cls := findClass_of_methodNamed B.named
  subst hsz
  have hD := hD0.self (sz := s.heap.size)
  have hZ := hZ0
  generalize hAe : va_A ((wS k arS (arP 99) fiS faS) ++ (wP k arP fiP faP)) s.heap.size = A at hD hZ ⊢
  have hA : ∀ q : Nat, s.heap.size ≤ q → A q := fun q h => by rw [← hAe]; exact Or.inr h
  have hS : va_S A s.heap s.heap [] := va_S.rf
  have hl := lv_entry ([.ref (arS 99)]) (n := 4) (Nat.le_of_ble_eq_true rfl)
  rw [lg_entry_eq]
  generalize (lg_sl ([.ref (arS 99)]) ++ List.replicate (4 - (lg_sl ([.ref (arS 99)])).length) Slot.unset).toArray = ls at hl ⊢
  have hl : lv_has ls 4 [(0, .ref (arS 99))] := hl
  obtain ⟨H, eH⟩ : ∃ H, H = s.heap := ⟨_, rfl⟩
  rw [← eH] at hP
  have hS : va_S A s.heap H [] := by rw [eH]; exact hS
  have gW : s.heap = H := eH.symm
  refine iv_heap gW ?_
  have h0w := hts (.fieldLink RX6 22 "RopeTown$Search" "size" "I") (wz_at 4 17 rfl)
  have h1w : ∀ w ∈ wsX60, w ∈ wzX6_leastTillServed := fun w h => List.mem_cons_of_mem _ (inlX6 w h)
  have h2w := hts (.fieldLink RX6 9 "RopeTown$Search" "plan" "LRopeTown$Plan;") (wz_at 4 14 rfl)
  have h3w := hts (.fieldLink RX6 32 "RopeTown$Search" "states" "[I") (wz_at 4 20 rfl)
  have h4w := hts (.initialized RX3) (wz_at 0 19 rfl)
  have h5w := hts (.instanceMethod yX3_isAllServed) (wz_at 35 10 rfl)
  have h6w := hts (.selects RX3 yX3_isAllServed yX3_isAllServed) (wz_at 35 11 rfl)
  have h7w := hts (.fieldLink RX6 36 "RopeTown$Search" "costs" "[I") (wz_at 4 21 rfl)
  refine lv_iconst (v := Int32.ofInt (-1)) hx hb dX6_leastTillServed_0 (by decide +kernel) ?_
  refine lv_istore_n (lv' := [(1, .int (Int32.ofInt ((-1)))), (0, .ref (arS 99))]) hx hb dX6_leastTillServed_1 rfl hl (by decide) rfl (fun ls hl => ?_)
  refine lv_iconst (v := Int32.ofInt 0) hx hb dX6_leastTillServed_2 (by decide +kernel) ?_
  refine lv_istore_n (lv' := [(2, .int (Int32.ofInt (0))), (1, .int (Int32.ofInt ((-1)))), (0, .ref (arS 99))]) hx hb dX6_leastTillServed_3 rfl hl (by decide) rfl (fun ls hl => ?_)
  refine iv_loop (α := Int × Int) (nL := 4) (fun b9 => ((wS k arS (arP 99) fiS faS) ++ (wP k arP fiP faP))) (fun b9 => [(2, .int (Int32.ofInt (b9.1))), (1, .int (Int32.ofInt (b9.2))), (0, .ref (arS 99))]) (fun b9 => (fiS 6 - b9.1).toNat) (fun b9 => inR b9.1 ∧ inR b9.2 ∧ (0 ≤ b9.1)) ?_ (0, (-1)) (show inR 0 ∧ inR (-1) ∧ (0 ≤ 0) from ⟨(by omega), (by omega), (by omega)⟩) hP hD hS hl
  rintro ⟨x2_1, x1_2⟩ ih hi9 H locs ls hP hD hS hl
  obtain ⟨r_x2_1, r_x1_2, hinv⟩ : inR x2_1 ∧ inR x1_2 ∧ (0 ≤ x2_1) := hi9
  obtain ⟨hP, hD⟩ : va_P G vwCl ((wS k arS (arP 99) fiS faS) ++ (wP k arP fiP faP)) H ∧ va_D A ((wS k arS (arP 99) fiS faS) ++ (wP k arP fiP faP)) := ⟨hP, hD⟩
  have hl : lv_has ls 4 [(2, .int (Int32.ofInt (x2_1))), (1, .int (Int32.ofInt (x1_2))), (0, .ref (arS 99))] := hl
  refine lv_iload_n hx hb dX6_leastTillServed_4 rfl (lv_at hl 0 rfl) ?_
  refine lv_aload_n hx hb dX6_leastTillServed_5 rfl (lv_at hl 2 rfl) ?_
  refine va_get (D := G) (ci := 5) (v := .int (Int32.ofInt (fiS 6))) (C := RX6) (T := TX6) (N := 15) (ref := RX6) hx hb hts h1w hown hX.1 hP 0 rfl rfl 6 (by decide) h0w (fun _ h9 => h9) rfl dX6_leastTillServed_6 ?_
  have rf6S := hRS 6
  refine iv_icmp_ge (tgt := 66) hx hb (by omega) (by omega) dX6_leastTillServed_9 (by decide) (fun q3 => ?_) (fun q3 => ?_)
  · refine lv_iload_n hx hb dX6_leastTillServed_66 rfl (lv_at hl 1 rfl) ?_
    exact W.iret (v := Int32.ofInt (x1_2)) hx hb hr (fun t ht hW => ⟨⟨Int32.ofInt (x1_2), (x1_2), rfl, ⟨rfl, (show (inR x1_2) ∧ (True) from ⟨(by omega), trivial⟩)⟩, by rw [ht]; exact hP, hD⟩, hS.F ht⟩) hS.2.2 dX6_leastTillServed_67
  · refine iv_join (G := G) (A := A) (H0 := s.heap) (α := Int) (nL := 4) 32 (fun b9 => [.int (Int32.ofInt (b9))]) (fun b9 => ((wS k arS (arP 99) fiS faS) ++ (wP k arP fiP faP))) (fun b9 => [(2, .int (Int32.ofInt (x2_1))), (1, .int (Int32.ofInt (x1_2))), (0, .ref (arS 99))]) (fun b9 => inR b9 ∧ (b9 = 0 ∨ b9 = 1)) ?_ (fun J32 => ?_)
    · intro s0_4 hi9 H locs ls hP hD hS hl
      obtain ⟨r_s0_4, hinv⟩ : inR s0_4 ∧ (s0_4 = 0 ∨ s0_4 = 1) := hi9
      obtain ⟨hP, hD⟩ : va_P G vwCl ((wS k arS (arP 99) fiS faS) ++ (wP k arP fiP faP)) H ∧ va_D A ((wS k arS (arP 99) fiS faS) ++ (wP k arP fiP faP)) := ⟨hP, hD⟩
      have hl : lv_has ls 4 [(2, .int (Int32.ofInt (x2_1))), (1, .int (Int32.ofInt (x1_2))), (0, .ref (arS 99))] := hl
      refine lv_istore_n (lv' := [(3, .int (Int32.ofInt (s0_4))), (2, .int (Int32.ofInt (x2_1))), (1, .int (Int32.ofInt (x1_2))), (0, .ref (arS 99))]) hx hb dX6_leastTillServed_32 rfl hl (by decide) rfl (fun ls hl => ?_)
      refine lv_iload_n hx hb dX6_leastTillServed_33 rfl (lv_at hl 0 rfl) ?_
      refine iv_if_eq (tgt := 60) hx hb (by omega) dX6_leastTillServed_34 (by decide) (fun q5 => ?_) (fun q5 => ?_)
      · refine lv_iinc (v := Int32.ofInt (x2_1 + 1)) (lv' := [(2, .int (Int32.ofInt ((x2_1 + 1)))), (3, .int (Int32.ofInt (s0_4))), (1, .int (Int32.ofInt (x1_2))), (0, .ref (arS 99))]) hx hb dX6_leastTillServed_60 hl (k := 1) rfl (Int32.ofInt_add _ _).symm (by decide) rfl (fun ls hl => ?_)
        refine lv_goto (tgt := 4) hx hb dX6_leastTillServed_63 (by decide) ?_
        have hl : lv_has ls 4 [(2, .int (Int32.ofInt ((x2_1 + 1)))), (1, .int (Int32.ofInt (x1_2))), (0, .ref (arS 99))] := lv_sub hl [0, 2, 3] rfl
        exact ih ((x2_1 + 1), x1_2) (show (fiS 6 - (x2_1 + 1)).toNat < (fiS 6 - x2_1).toNat from by omega) (show inR (x2_1 + 1) ∧ inR x1_2 ∧ (0 ≤ (x2_1 + 1)) from ⟨(by omega), (by omega), (by omega)⟩) _ _ _ hP hD hS hl
      · refine lv_aload_n hx hb dX6_leastTillServed_37 rfl (lv_at hl 3 rfl) ?_
        refine va_get (D := G) (ci := 5) (v := .ref (arP 99)) (C := RX6) (T := TX6) (N := 15) (ref := RX6) hx hb hts h1w hown hX.1 hP 0 rfl rfl 0 (by decide) h2w (fun _ h9 => h9) rfl dX6_leastTillServed_38 ?_
        refine lv_aload_n hx hb dX6_leastTillServed_41 rfl (lv_at hl 3 rfl) ?_
        refine va_get (D := G) (ci := 5) (v := .ref (arS 3)) (C := RX6) (T := TX6) (N := 15) (ref := RX6) hx hb hts h1w hown hX.1 hP 0 rfl rfl 3 (by decide) h3w (fun _ h9 => h9) rfl dX6_leastTillServed_42 ?_
        refine lv_iload_n hx hb dX6_leastTillServed_45 rfl (lv_at hl 1 rfl) ?_
        refine iv_iald hx hb hX.1 hP 1 0 rfl rfl (by omega) (by omega) (by decide) dX6_leastTillServed_46 ?_
        refine iv_top (fun z6 ez6 => ?_)
        have rz6 : inR z6 := ez6 ▸ (hRaS 3) _
        have ez6 : z6 = (faS 3) x2_1 := ez6
        refine cz_i (wr := (wS k arS (arP 99) fiS faS)) (va_runVN (As := [.int (Int32.ofInt (z6))]) (rest := []) ⟨hx, hb, hml, hown, hts⟩ (mX3_isAllServed l G k arP fiP faP z6 H.size hRP hRaP hB8P hB20P hB21P (by omega) (show 0 ≤ (fiP 7) ∧ (fiP 7) ≤ 7 from by omega) (show 0 ≤ (fiP 0) ∧ (fiP 0) ≤ 11 from by omega)) ⟨va_cnB 1 hts (gz [] (.code yX3_isAllServed cX3_isAllServed 5 (some .boolean)) [(35, 12)] rfl) rfl rfl rfl (nm_60 hX.2.2.1) h4w (by decide +kernel) ⟨Nat.le_of_ble_eq_true rfl, Nat.le_of_ble_eq_true rfl⟩, h5w, h6w⟩ (cy_preV (EZ_ok k) hZ hS hX hP hD hA [10, 11, 12, 13, 14, 15, 16, 17, 18, 19] rfl rfl (ci := 2) (q0 := 10) rfl rfl) rfl rfl hl.1 rfl (lv_room (Nat.le_of_ble_eq_true rfl)) dX6_leastTillServed_47 ⟨Nat.le_of_ble_eq_true rfl, Nat.le_of_ble_eq_true rfl⟩) hP hD hS hA [10, 11, 12, 13, 14, 15, 16, 17, 18, 19] [0, 1, 2, 3, 4, 5, 6, 7, 8, 9] rfl rfl (by decide) (by decide) (fun r u H locs hp hP hD hS => ?_)
        obtain ⟨c7, rfl⟩ : ∃ z, z = u := ⟨_, rfl⟩
        obtain ⟨hP, hD⟩ : va_P G vwCl ((wS k arS (arP 99) fiS faS) ++ (wP k arP fiP faP)) H ∧ va_D A ((wS k arS (arP 99) fiS faS) ++ (wP k arP fiP faP)) := ⟨hP, hD⟩
        obtain ⟨h9, rc7, hp7⟩ : r = Int32.ofInt c7 ∧ (inR c7) ∧ ((c7 = 0 ∨ c7 = 1)) := hp
        subst h9
        refine iv_if_eq (tgt := 60) hx hb (by omega) dX6_leastTillServed_50 (by decide) (fun q8 => ?_) (fun q8 => ?_)
        · refine lv_iinc (v := Int32.ofInt (x2_1 + 1)) (lv' := [(2, .int (Int32.ofInt ((x2_1 + 1)))), (3, .int (Int32.ofInt (s0_4))), (1, .int (Int32.ofInt (x1_2))), (0, .ref (arS 99))]) hx hb dX6_leastTillServed_60 hl (k := 1) rfl (Int32.ofInt_add _ _).symm (by decide) rfl (fun ls hl => ?_)
          refine lv_goto (tgt := 4) hx hb dX6_leastTillServed_63 (by decide) ?_
          have hl : lv_has ls 4 [(2, .int (Int32.ofInt ((x2_1 + 1)))), (1, .int (Int32.ofInt (x1_2))), (0, .ref (arS 99))] := lv_sub hl [0, 2, 3] rfl
          exact ih ((x2_1 + 1), x1_2) (show (fiS 6 - (x2_1 + 1)).toNat < (fiS 6 - x2_1).toNat from by omega) (show inR (x2_1 + 1) ∧ inR x1_2 ∧ (0 ≤ (x2_1 + 1)) from ⟨(by omega), (by omega), (by omega)⟩) _ _ _ hP hD hS hl
        · refine lv_aload_n hx hb dX6_leastTillServed_53 rfl (lv_at hl 3 rfl) ?_
          refine va_get (D := G) (ci := 5) (v := .ref (arS 4)) (C := RX6) (T := TX6) (N := 15) (ref := RX6) hx hb hts h1w hown hX.1 hP 0 rfl rfl 4 (by decide) h7w (fun _ h9 => h9) rfl dX6_leastTillServed_54 ?_
          refine lv_iload_n hx hb dX6_leastTillServed_57 rfl (lv_at hl 1 rfl) ?_
          refine iv_iald hx hb hX.1 hP 2 0 rfl rfl (by omega) (by omega) (by decide) dX6_leastTillServed_58 ?_
          refine iv_top (fun z9 ez9 => ?_)
          have rz9 : inR z9 := ez9 ▸ (hRaS 4) _
          have ez9 : z9 = (faS 4) x2_1 := ez9
          refine lv_istore_n (lv' := [(1, .int (Int32.ofInt (z9))), (3, .int (Int32.ofInt (s0_4))), (2, .int (Int32.ofInt (x2_1))), (0, .ref (arS 99))]) hx hb dX6_leastTillServed_59 rfl hl (by decide) rfl (fun ls hl => ?_)
          refine lv_iinc (v := Int32.ofInt (x2_1 + 1)) (lv' := [(2, .int (Int32.ofInt ((x2_1 + 1)))), (1, .int (Int32.ofInt (z9))), (3, .int (Int32.ofInt (s0_4))), (0, .ref (arS 99))]) hx hb dX6_leastTillServed_60 hl (k := 2) rfl (Int32.ofInt_add _ _).symm (by decide) rfl (fun ls hl => ?_)
          refine lv_goto (tgt := 4) hx hb dX6_leastTillServed_63 (by decide) ?_
          have hl : lv_has ls 4 [(2, .int (Int32.ofInt ((x2_1 + 1)))), (1, .int (Int32.ofInt (z9))), (0, .ref (arS 99))] := lv_sub hl [0, 1, 3] rfl
          exact ih ((x2_1 + 1), z9) (show (fiS 6 - (x2_1 + 1)).toNat < (fiS 6 - x2_1).toNat from by omega) (show inR (x2_1 + 1) ∧ inR z9 ∧ (0 ≤ (x2_1 + 1)) from ⟨(by omega), (by omega), (by omega)⟩) _ _ _ hP hD hS hl
    · refine lv_iload_n hx hb dX6_leastTillServed_12 rfl (lv_at hl 1 rfl) ?_
      refine lv_iconst (v := Int32.ofInt (-1)) hx hb dX6_leastTillServed_13 (by decide +kernel) ?_
      refine iv_icmp_eq (tgt := 27) hx hb (by omega) (by omega) dX6_leastTillServed_14 (by decide) (fun q10 => ?_) (fun q10 => ?_)
      · refine lv_iconst (v := Int32.ofInt 1) hx hb dX6_leastTillServed_27 (by decide +kernel) ?_
        refine lv_goto (tgt := 32) hx hb dX6_leastTillServed_28 (by decide) ?_
        have hl : lv_has ls 4 [(2, .int (Int32.ofInt (x2_1))), (1, .int (Int32.ofInt (x1_2))), (0, .ref (arS 99))] := lv_sub hl [0, 1, 2] rfl
        exact J32 (1) (show inR 1 ∧ (1 = 0 ∨ 1 = 1) from ⟨(by omega), (by omega)⟩) _ _ _ hP hD hS hl
      · refine lv_aload_n hx hb dX6_leastTillServed_17 rfl (lv_at hl 2 rfl) ?_
        refine va_get (D := G) (ci := 5) (v := .ref (arS 4)) (C := RX6) (T := TX6) (N := 15) (ref := RX6) hx hb hts h1w hown hX.1 hP 0 rfl rfl 4 (by decide) h7w (fun _ h9 => h9) rfl dX6_leastTillServed_18 ?_
        refine lv_iload_n hx hb dX6_leastTillServed_21 rfl (lv_at hl 0 rfl) ?_
        refine iv_iald hx hb hX.1 hP 2 0 rfl rfl (by omega) (by omega) (by decide) dX6_leastTillServed_22 ?_
        refine iv_top (fun z11 ez11 => ?_)
        have rz11 : inR z11 := ez11 ▸ (hRaS 4) _
        have ez11 : z11 = (faS 4) x2_1 := ez11
        refine lv_iload_n hx hb dX6_leastTillServed_23 rfl (lv_at hl 1 rfl) ?_
        refine iv_icmp_ge (tgt := 31) hx hb (by omega) (by omega) dX6_leastTillServed_24 (by decide) (fun q12 => ?_) (fun q12 => ?_)
        · refine lv_iconst (v := Int32.ofInt 0) hx hb dX6_leastTillServed_31 (by decide +kernel) ?_
          have hl : lv_has ls 4 [(2, .int (Int32.ofInt (x2_1))), (1, .int (Int32.ofInt (x1_2))), (0, .ref (arS 99))] := lv_sub hl [0, 1, 2] rfl
          exact J32 (0) (show inR 0 ∧ (0 = 0 ∨ 0 = 1) from ⟨(by omega), (by omega)⟩) _ _ _ hP hD hS hl
        · refine lv_iconst (v := Int32.ofInt 1) hx hb dX6_leastTillServed_27 (by decide +kernel) ?_
          refine lv_goto (tgt := 32) hx hb dX6_leastTillServed_28 (by decide) ?_
          have hl : lv_has ls 4 [(2, .int (Int32.ofInt (x2_1))), (1, .int (Int32.ofInt (x1_2))), (0, .ref (arS 99))] := lv_sub hl [0, 1, 2] rfl
          exact J32 (1) (show inR 1 ∧ (1 = 0 ∨ 1 = 1) from ⟨(by omega), (by omega)⟩) _ _ _ hP hD hS hl

set_option maxHeartbeats 4000000 in
set_option maxRecDepth 100000 in
theorem mX6_depthsOf (l : Launch) (G : va_G) (k : Nat → ClassId) (arS : Nat → Nat) (fiS : Nat → Int) (faS : Nat → Int → Int) (arP : Nat → Nat) (fiP : Nat → Int) (faP : Nat → Int → Int) (t0 : Int) (sz : Nat) (hRS : ∀ j, inR (fiS j)) (hRaS : ∀ j t, inR (faS j t)) (hB5S : bnd (faS 5) 1500 (-1) 1500) (hB7S : bnd (faS 7) 1024 (-1) 1500) (hB8S : bnd (faS 8) 1500 (-1) 1500) (hB9S : bnd (faS 9) 1500 0 1500) (hB10S : bnd (faS 10) 1500 0 1500) (hRP : ∀ j, inR (fiP j)) (hRaP : ∀ j t, inR (faP j t)) (hB8P : bnd (faP 8) 7 0 4) (hB20P : bnd (faP 20) 600 (-1000) 10000) (hB21P : bnd (faP 21) 4 0 601) (hr_t0 : inR t0) (hsz : 0 ≤ fiS 6 ∧ fiS 6 ≤ 1500) (hbt : 0 ≤ fiP 0 ∧ fiP 0 ≤ 11) : CNi l G k (EZ k) yX6_depthsOf wzX6_depthsOf ({ frames := 3, cells := 0, slots := 0, locals := 65 }) [.ref (arS 99), .int (Int32.ofInt (t0))] sz ((wS k arS (arP 99) fiS faS) ++ (wP k arP fiP faP)) (fun (r0 : Int32) (u : Int) => r0 = Int32.ofInt (u) ∧ (inR u) ∧ (True)) (fun (u : Int) => ((wS k arS (arP 99) fiS faS) ++ (wP k arP fiP faP))) := by
  refine Met.ofW (cc := cX6_depthsOf) (maxL := 5) (ret := (some .int)) (by decide) rfl ?_
  intro p e s m args below meth c s₁ B hml hv
  obtain ⟨rfl, hsz, hP, hX, hD0, hZ0⟩ := hv
  have hx := B.exec
  have hb := B.bytes
  have hr := B.returns
  have hts := atoms_spec (ws := wzX6_depthsOf) B.pre
  have hown : s.vm.findClass RX6 = some m.cls := findClass_of_methodNamed B.named
  subst hsz
  have hD := hD0.self (sz := s.heap.size)
  have hZ := hZ0
  generalize hAe : va_A ((wS k arS (arP 99) fiS faS) ++ (wP k arP fiP faP)) s.heap.size = A at hD hZ ⊢
  have hA : ∀ q : Nat, s.heap.size ≤ q → A q := fun q h => by rw [← hAe]; exact Or.inr h
  have hS : va_S A s.heap s.heap [] := va_S.rf
  have hl := lv_entry ([.ref (arS 99), .int (Int32.ofInt (t0))]) (n := 5) (Nat.le_of_ble_eq_true rfl)
  rw [lg_entry_eq]
  generalize (lg_sl ([.ref (arS 99), .int (Int32.ofInt (t0))]) ++ List.replicate (5 - (lg_sl ([.ref (arS 99), .int (Int32.ofInt (t0))])).length) Slot.unset).toArray = ls at hl ⊢
  have hl : lv_has ls 5 [(0, .ref (arS 99)), (1, .int (Int32.ofInt (t0)))] := hl
  obtain ⟨H, eH⟩ : ∃ H, H = s.heap := ⟨_, rfl⟩
  rw [← eH] at hP
  have hS : va_S A s.heap H [] := by rw [eH]; exact hS
  have gW : s.heap = H := eH.symm
  refine iv_heap gW ?_
  have h0w := hts (.fieldLink RX6 22 "RopeTown$Search" "size" "I") (wz_at 4 17 rfl)
  have h1w : ∀ w ∈ wsX60, w ∈ wzX6_depthsOf := fun w h => List.mem_cons_of_mem _ (inlX6 w h)
  have h2w := hts (.fieldLink RX6 9 "RopeTown$Search" "plan" "LRopeTown$Plan;") (wz_at 4 14 rfl)
  have h3w := hts (.fieldLink RX6 32 "RopeTown$Search" "states" "[I") (wz_at 4 20 rfl)
  have h4w := hts (.initialized RX3) (wz_at 0 19 rfl)
  have h5w := hts (.instanceMethod yX3_thingDepth) (wz_at 23 8 rfl)
  have h6w := hts (.selects RX3 yX3_thingDepth yX3_thingDepth) (wz_at 23 9 rfl)
  refine lv_iconst (v := Int32.ofInt 0) hx hb dX6_depthsOf_0 (by decide +kernel) ?_
  refine lv_istore_n (lv' := [(2, .int (Int32.ofInt (0))), (0, .ref (arS 99)), (1, .int (Int32.ofInt (t0)))]) hx hb dX6_depthsOf_1 rfl hl (by decide) rfl (fun ls hl => ?_)
  refine lv_iconst (v := Int32.ofInt 0) hx hb dX6_depthsOf_2 (by decide +kernel) ?_
  refine lv_istore_n (lv' := [(3, .int (Int32.ofInt (0))), (2, .int (Int32.ofInt (0))), (0, .ref (arS 99)), (1, .int (Int32.ofInt (t0)))]) hx hb dX6_depthsOf_3 rfl hl (by decide) rfl (fun ls hl => ?_)
  refine iv_loop (α := Int × Int) (nL := 5) (fun b9 => ((wS k arS (arP 99) fiS faS) ++ (wP k arP fiP faP))) (fun b9 => [(3, .int (Int32.ofInt (b9.1))), (2, .int (Int32.ofInt (b9.2))), (0, .ref (arS 99)), (1, .int (Int32.ofInt (t0)))]) (fun b9 => (fiS 6 - b9.1).toNat) (fun b9 => inR b9.1 ∧ inR b9.2 ∧ (0 ≤ b9.1)) ?_ (0, 0) (show inR 0 ∧ inR 0 ∧ (0 ≤ 0) from ⟨(by omega), (by omega), (by omega)⟩) hP hD hS hl
  rintro ⟨x3_1, x2_2⟩ ih hi9 H locs ls hP hD hS hl
  obtain ⟨r_x3_1, r_x2_2, hinv⟩ : inR x3_1 ∧ inR x2_2 ∧ (0 ≤ x3_1) := hi9
  obtain ⟨hP, hD⟩ : va_P G vwCl ((wS k arS (arP 99) fiS faS) ++ (wP k arP fiP faP)) H ∧ va_D A ((wS k arS (arP 99) fiS faS) ++ (wP k arP fiP faP)) := ⟨hP, hD⟩
  have hl : lv_has ls 5 [(3, .int (Int32.ofInt (x3_1))), (2, .int (Int32.ofInt (x2_2))), (0, .ref (arS 99)), (1, .int (Int32.ofInt (t0)))] := hl
  refine lv_iload_n hx hb dX6_depthsOf_4 rfl (lv_at hl 0 rfl) ?_
  refine lv_aload_n hx hb dX6_depthsOf_5 rfl (lv_at hl 2 rfl) ?_
  refine va_get (D := G) (ci := 5) (v := .int (Int32.ofInt (fiS 6))) (C := RX6) (T := TX6) (N := 15) (ref := RX6) hx hb hts h1w hown hX.1 hP 0 rfl rfl 6 (by decide) h0w (fun _ h9 => h9) rfl dX6_depthsOf_6 ?_
  have rf6S := hRS 6
  refine iv_icmp_ge (tgt := 51) hx hb (by omega) (by omega) dX6_depthsOf_9 (by decide) (fun q3 => ?_) (fun q3 => ?_)
  · refine lv_iload_n hx hb dX6_depthsOf_51 rfl (lv_at hl 1 rfl) ?_
    exact W.iret (v := Int32.ofInt (x2_2)) hx hb hr (fun t ht hW => ⟨⟨Int32.ofInt (x2_2), (x2_2), rfl, ⟨rfl, (show (inR x2_2) ∧ (True) from ⟨(by omega), trivial⟩)⟩, by rw [ht]; exact hP, hD⟩, hS.F ht⟩) hS.2.2 dX6_depthsOf_52
  · refine lv_aload_n hx hb dX6_depthsOf_12 rfl (lv_at hl 2 rfl) ?_
    refine va_get (D := G) (ci := 5) (v := .ref (arP 99)) (C := RX6) (T := TX6) (N := 15) (ref := RX6) hx hb hts h1w hown hX.1 hP 0 rfl rfl 0 (by decide) h2w (fun _ h9 => h9) rfl dX6_depthsOf_13 ?_
    refine lv_aload_n hx hb dX6_depthsOf_16 rfl (lv_at hl 2 rfl) ?_
    refine va_get (D := G) (ci := 5) (v := .ref (arS 3)) (C := RX6) (T := TX6) (N := 15) (ref := RX6) hx hb hts h1w hown hX.1 hP 0 rfl rfl 3 (by decide) h3w (fun _ h9 => h9) rfl dX6_depthsOf_17 ?_
    refine lv_iload_n hx hb dX6_depthsOf_20 rfl (lv_at hl 0 rfl) ?_
    refine iv_iald hx hb hX.1 hP 1 0 rfl rfl (by omega) (by omega) (by decide) dX6_depthsOf_21 ?_
    refine iv_top (fun z4 ez4 => ?_)
    have rz4 : inR z4 := ez4 ▸ (hRaS 3) _
    have ez4 : z4 = (faS 3) x3_1 := ez4
    refine lv_iload_n hx hb dX6_depthsOf_22 rfl (lv_at hl 3 rfl) ?_
    refine cz_i (wr := (wS k arS (arP 99) fiS faS)) (va_runVN (As := [.int (Int32.ofInt (z4)), .int (Int32.ofInt (t0))]) (rest := []) ⟨hx, hb, hml, hown, hts⟩ (mX3_thingDepth l G k arP fiP faP z4 t0 H.size hRP hRaP hB8P hB20P hB21P (by omega) (by omega) (show 0 ≤ (fiP 0) ∧ (fiP 0) ≤ 11 from by omega)) ⟨va_cnB 2 hts (gz [] (.code yX3_thingDepth cX3_thingDepth 4 (some .int)) [(23, 10)] rfl) rfl rfl rfl (nm_47 hX.2.2.1) h4w (by decide +kernel) ⟨Nat.le_of_ble_eq_true rfl, Nat.le_of_ble_eq_true rfl⟩, h5w, h6w⟩ (cy_preV (EZ_ok k) hZ hS hX hP hD hA [10, 11, 12, 13, 14, 15, 16, 17, 18, 19] rfl rfl (ci := 2) (q0 := 10) rfl rfl) rfl rfl hl.1 rfl (lv_room (Nat.le_of_ble_eq_true rfl)) dX6_depthsOf_23 ⟨Nat.le_of_ble_eq_true rfl, Nat.le_of_ble_eq_true rfl⟩) hP hD hS hA [10, 11, 12, 13, 14, 15, 16, 17, 18, 19] [0, 1, 2, 3, 4, 5, 6, 7, 8, 9] rfl rfl (by decide) (by decide) (fun r u H locs hp hP hD hS => ?_)
    obtain ⟨c5, rfl⟩ : ∃ z, z = u := ⟨_, rfl⟩
    obtain ⟨hP, hD⟩ : va_P G vwCl ((wS k arS (arP 99) fiS faS) ++ (wP k arP fiP faP)) H ∧ va_D A ((wS k arS (arP 99) fiS faS) ++ (wP k arP fiP faP)) := ⟨hP, hD⟩
    obtain ⟨h9, rc5, hp5⟩ : r = Int32.ofInt c5 ∧ (inR c5) ∧ (c5 = thD (nb z4 t0) (dp z4) ((fiP 0)) ∧ -15 ≤ c5 ∧ c5 ≤ 15) := hp
    subst h9
    have hTd23 := hp5.1
    refine lv_istore (lv' := [(4, .int (Int32.ofInt (c5))), (3, .int (Int32.ofInt (x3_1))), (2, .int (Int32.ofInt (x2_2))), (0, .ref (arS 99)), (1, .int (Int32.ofInt (t0)))]) hx hb dX6_depthsOf_26 hl (by decide) rfl (fun ls hl => ?_)
    refine iv_join (G := G) (A := A) (H0 := s.heap) (α := Int) (nL := 5) 43 (fun b9 => [.int (Int32.ofInt (b9)), .int (Int32.ofInt (x2_2))]) (fun b9 => ((wS k arS (arP 99) fiS faS) ++ (wP k arP fiP faP))) (fun b9 => [(4, .int (Int32.ofInt (c5))), (3, .int (Int32.ofInt (x3_1))), (2, .int (Int32.ofInt (x2_2))), (0, .ref (arS 99)), (1, .int (Int32.ofInt (t0)))]) (fun b9 => inR b9 ∧ (True)) ?_ (fun J43 => ?_)
    · intro s0_6 hi9 H locs ls hP hD hS hl
      obtain ⟨r_s0_6, hinv⟩ : inR s0_6 ∧ (True) := hi9
      obtain ⟨hP, hD⟩ : va_P G vwCl ((wS k arS (arP 99) fiS faS) ++ (wP k arP fiP faP)) H ∧ va_D A ((wS k arS (arP 99) fiS faS) ++ (wP k arP fiP faP)) := ⟨hP, hD⟩
      have hl : lv_has ls 5 [(4, .int (Int32.ofInt (c5))), (3, .int (Int32.ofInt (x3_1))), (2, .int (Int32.ofInt (x2_2))), (0, .ref (arS 99)), (1, .int (Int32.ofInt (t0)))] := hl
      refine iv_or hx hb dX6_depthsOf_43 ?_
      refine iv_top (fun z7 ez7 => ?_)
      have rz7 : inR z7 := ez7 ▸ bOr_r _ _
      refine lv_istore_n (lv' := [(2, .int (Int32.ofInt (z7))), (4, .int (Int32.ofInt (c5))), (3, .int (Int32.ofInt (x3_1))), (0, .ref (arS 99)), (1, .int (Int32.ofInt (t0)))]) hx hb dX6_depthsOf_44 rfl hl (by decide) rfl (fun ls hl => ?_)
      refine lv_iinc (v := Int32.ofInt (x3_1 + 1)) (lv' := [(3, .int (Int32.ofInt ((x3_1 + 1)))), (2, .int (Int32.ofInt (z7))), (4, .int (Int32.ofInt (c5))), (0, .ref (arS 99)), (1, .int (Int32.ofInt (t0)))]) hx hb dX6_depthsOf_45 hl (k := 2) rfl (Int32.ofInt_add _ _).symm (by decide) rfl (fun ls hl => ?_)
      refine lv_goto (tgt := 4) hx hb dX6_depthsOf_48 (by decide) ?_
      have hl : lv_has ls 5 [(3, .int (Int32.ofInt ((x3_1 + 1)))), (2, .int (Int32.ofInt (z7))), (0, .ref (arS 99)), (1, .int (Int32.ofInt (t0)))] := lv_sub hl [0, 1, 3, 4] rfl
      exact ih ((x3_1 + 1), z7) (show (fiS 6 - (x3_1 + 1)).toNat < (fiS 6 - x3_1).toNat from by omega) (show inR (x3_1 + 1) ∧ inR z7 ∧ (0 ≤ (x3_1 + 1)) from ⟨(by omega), (by omega), (by omega)⟩) _ _ _ hP hD hS hl
    · refine lv_iload_n hx hb dX6_depthsOf_28 rfl (lv_at hl 2 rfl) ?_
      refine lv_iload hx hb dX6_depthsOf_29 (lv_at hl 0 rfl) ?_
      refine lv_iconst (v := Int32.ofInt (-1)) hx hb dX6_depthsOf_31 (by decide +kernel) ?_
      refine iv_icmp_ne (tgt := 39) hx hb (by omega) (by omega) dX6_depthsOf_32 (by decide) (fun q8 => ?_) (fun q8 => ?_)
      · refine lv_iconst (v := Int32.ofInt 1) hx hb dX6_depthsOf_39 (by decide +kernel) ?_
        refine lv_iload hx hb dX6_depthsOf_40 (lv_at hl 0 rfl) ?_
        refine iv_shl hx hb dX6_depthsOf_42 ?_
        refine iv_top (fun z9 ez9 => ?_)
        have rz9 : inR z9 := ez9 ▸ bShl_r _ _
        have hl : lv_has ls 5 [(4, .int (Int32.ofInt (c5))), (3, .int (Int32.ofInt (x3_1))), (2, .int (Int32.ofInt (x2_2))), (0, .ref (arS 99)), (1, .int (Int32.ofInt (t0)))] := lv_sub hl [0, 1, 2, 3, 4] rfl
        exact J43 (z9) (show inR z9 ∧ (True) from ⟨(by omega), (by trivial)⟩) _ _ _ hP hD hS hl
      · refine lv_iconst (v := Int32.ofInt 0) hx hb dX6_depthsOf_35 (by decide +kernel) ?_
        refine lv_goto (tgt := 43) hx hb dX6_depthsOf_36 (by decide) ?_
        have hl : lv_has ls 5 [(4, .int (Int32.ofInt (c5))), (3, .int (Int32.ofInt (x3_1))), (2, .int (Int32.ofInt (x2_2))), (0, .ref (arS 99)), (1, .int (Int32.ofInt (t0)))] := lv_sub hl [0, 1, 2, 3, 4] rfl
        exact J43 (0) (show inR 0 ∧ (True) from ⟨(by omega), (by trivial)⟩) _ _ _ hP hD hS hl

set_option maxHeartbeats 4000000 in
set_option maxRecDepth 100000 in
theorem mX6_firstWith (l : Launch) (G : va_G) (k : Nat → ClassId) (arS : Nat → Nat) (fiS : Nat → Int) (faS : Nat → Int → Int) (arP : Nat → Nat) (fiP : Nat → Int) (faP : Nat → Int → Int) (t0 : Int) (d0 : Int) (sz : Nat) (hRS : ∀ j, inR (fiS j)) (hRaS : ∀ j t, inR (faS j t)) (hB5S : bnd (faS 5) 1500 (-1) 1500) (hB7S : bnd (faS 7) 1024 (-1) 1500) (hB8S : bnd (faS 8) 1500 (-1) 1500) (hB9S : bnd (faS 9) 1500 0 1500) (hB10S : bnd (faS 10) 1500 0 1500) (hRP : ∀ j, inR (fiP j)) (hRaP : ∀ j t, inR (faP j t)) (hB8P : bnd (faP 8) 7 0 4) (hB20P : bnd (faP 20) 600 (-1000) 10000) (hB21P : bnd (faP 21) 4 0 601) (hr_t0 : inR t0) (hr_d0 : inR d0) (hsz : 0 ≤ fiS 6 ∧ fiS 6 ≤ 1500) (hbt : 0 ≤ fiP 0 ∧ fiP 0 ≤ 11) : CNi l G k (EZ k) yX6_firstWith wzX6_firstWith ({ frames := 3, cells := 0, slots := 0, locals := 65 }) [.ref (arS 99), .int (Int32.ofInt (t0)), .int (Int32.ofInt (d0))] sz ((wS k arS (arP 99) fiS faS) ++ (wP k arP fiP faP)) (fun (r0 : Int32) (u : Int) => r0 = Int32.ofInt (u) ∧ (inR u) ∧ (-1 ≤ u ∧ u < 1500)) (fun (u : Int) => ((wS k arS (arP 99) fiS faS) ++ (wP k arP fiP faP))) := by
  refine Met.ofW (cc := cX6_firstWith) (maxL := 4) (ret := (some .int)) (by decide) rfl ?_
  intro p e s m args below meth c s₁ B hml hv
  obtain ⟨rfl, hsz, hP, hX, hD0, hZ0⟩ := hv
  have hx := B.exec
  have hb := B.bytes
  have hr := B.returns
  have hts := atoms_spec (ws := wzX6_firstWith) B.pre
  have hown : s.vm.findClass RX6 = some m.cls := findClass_of_methodNamed B.named
  subst hsz
  have hD := hD0.self (sz := s.heap.size)
  have hZ := hZ0
  generalize hAe : va_A ((wS k arS (arP 99) fiS faS) ++ (wP k arP fiP faP)) s.heap.size = A at hD hZ ⊢
  have hA : ∀ q : Nat, s.heap.size ≤ q → A q := fun q h => by rw [← hAe]; exact Or.inr h
  have hS : va_S A s.heap s.heap [] := va_S.rf
  have hl := lv_entry ([.ref (arS 99), .int (Int32.ofInt (t0)), .int (Int32.ofInt (d0))]) (n := 4) (Nat.le_of_ble_eq_true rfl)
  rw [lg_entry_eq]
  generalize (lg_sl ([.ref (arS 99), .int (Int32.ofInt (t0)), .int (Int32.ofInt (d0))]) ++ List.replicate (4 - (lg_sl ([.ref (arS 99), .int (Int32.ofInt (t0)), .int (Int32.ofInt (d0))])).length) Slot.unset).toArray = ls at hl ⊢
  have hl : lv_has ls 4 [(0, .ref (arS 99)), (1, .int (Int32.ofInt (t0))), (2, .int (Int32.ofInt (d0)))] := hl
  obtain ⟨H, eH⟩ : ∃ H, H = s.heap := ⟨_, rfl⟩
  rw [← eH] at hP
  have hS : va_S A s.heap H [] := by rw [eH]; exact hS
  have gW : s.heap = H := eH.symm
  refine iv_heap gW ?_
  have h0w := hts (.fieldLink RX6 22 "RopeTown$Search" "size" "I") (wz_at 4 17 rfl)
  have h1w : ∀ w ∈ wsX60, w ∈ wzX6_firstWith := fun w h => List.mem_cons_of_mem _ (inlX6 w h)
  have h2w := hts (.fieldLink RX6 9 "RopeTown$Search" "plan" "LRopeTown$Plan;") (wz_at 4 14 rfl)
  have h3w := hts (.fieldLink RX6 32 "RopeTown$Search" "states" "[I") (wz_at 4 20 rfl)
  have h4w := hts (.initialized RX3) (wz_at 0 19 rfl)
  have h5w := hts (.instanceMethod yX3_thingDepth) (wz_at 23 8 rfl)
  have h6w := hts (.selects RX3 yX3_thingDepth yX3_thingDepth) (wz_at 23 9 rfl)
  refine lv_iconst (v := Int32.ofInt 0) hx hb dX6_firstWith_0 (by decide +kernel) ?_
  refine lv_istore_n (lv' := [(3, .int (Int32.ofInt (0))), (0, .ref (arS 99)), (1, .int (Int32.ofInt (t0))), (2, .int (Int32.ofInt (d0)))]) hx hb dX6_firstWith_1 rfl hl (by decide) rfl (fun ls hl => ?_)
  refine iv_loop (α := Int) (nL := 4) (fun b9 => ((wS k arS (arP 99) fiS faS) ++ (wP k arP fiP faP))) (fun b9 => [(3, .int (Int32.ofInt (b9))), (0, .ref (arS 99)), (1, .int (Int32.ofInt (t0))), (2, .int (Int32.ofInt (d0)))]) (fun b9 => (fiS 6 - b9).toNat) (fun b9 => inR b9 ∧ (0 ≤ b9)) ?_ (0) (show inR 0 ∧ (0 ≤ 0) from ⟨(by omega), (by omega)⟩) hP hD hS hl
  intro x3_1 ih hi9 H locs ls hP hD hS hl
  obtain ⟨r_x3_1, hinv⟩ : inR x3_1 ∧ (0 ≤ x3_1) := hi9
  obtain ⟨hP, hD⟩ : va_P G vwCl ((wS k arS (arP 99) fiS faS) ++ (wP k arP fiP faP)) H ∧ va_D A ((wS k arS (arP 99) fiS faS) ++ (wP k arP fiP faP)) := ⟨hP, hD⟩
  have hl : lv_has ls 4 [(3, .int (Int32.ofInt (x3_1))), (0, .ref (arS 99)), (1, .int (Int32.ofInt (t0))), (2, .int (Int32.ofInt (d0)))] := hl
  refine lv_iload_n hx hb dX6_firstWith_2 rfl (lv_at hl 0 rfl) ?_
  refine lv_aload_n hx hb dX6_firstWith_3 rfl (lv_at hl 1 rfl) ?_
  refine va_get (D := G) (ci := 5) (v := .int (Int32.ofInt (fiS 6))) (C := RX6) (T := TX6) (N := 15) (ref := RX6) hx hb hts h1w hown hX.1 hP 0 rfl rfl 6 (by decide) h0w (fun _ h9 => h9) rfl dX6_firstWith_4 ?_
  have rf6S := hRS 6
  refine iv_icmp_ge (tgt := 36) hx hb (by omega) (by omega) dX6_firstWith_7 (by decide) (fun q2 => ?_) (fun q2 => ?_)
  · refine lv_iconst (v := Int32.ofInt (-1)) hx hb dX6_firstWith_36 (by decide +kernel) ?_
    exact W.iret (v := Int32.ofInt ((-1))) hx hb hr (fun t ht hW => ⟨⟨Int32.ofInt ((-1)), ((-1)), rfl, ⟨rfl, (show (inR (-1)) ∧ (-1 ≤ (-1) ∧ (-1) < 1500) from ⟨(by omega), (by omega)⟩)⟩, by rw [ht]; exact hP, hD⟩, hS.F ht⟩) hS.2.2 dX6_firstWith_37
  · refine lv_aload_n hx hb dX6_firstWith_10 rfl (lv_at hl 1 rfl) ?_
    refine va_get (D := G) (ci := 5) (v := .ref (arP 99)) (C := RX6) (T := TX6) (N := 15) (ref := RX6) hx hb hts h1w hown hX.1 hP 0 rfl rfl 0 (by decide) h2w (fun _ h9 => h9) rfl dX6_firstWith_11 ?_
    refine lv_aload_n hx hb dX6_firstWith_14 rfl (lv_at hl 1 rfl) ?_
    refine va_get (D := G) (ci := 5) (v := .ref (arS 3)) (C := RX6) (T := TX6) (N := 15) (ref := RX6) hx hb hts h1w hown hX.1 hP 0 rfl rfl 3 (by decide) h3w (fun _ h9 => h9) rfl dX6_firstWith_15 ?_
    refine lv_iload_n hx hb dX6_firstWith_18 rfl (lv_at hl 0 rfl) ?_
    refine iv_iald hx hb hX.1 hP 1 0 rfl rfl (by omega) (by omega) (by decide) dX6_firstWith_19 ?_
    refine iv_top (fun z3 ez3 => ?_)
    have rz3 : inR z3 := ez3 ▸ (hRaS 3) _
    have ez3 : z3 = (faS 3) x3_1 := ez3
    refine lv_iload_n hx hb dX6_firstWith_20 rfl (lv_at hl 2 rfl) ?_
    refine cz_i (wr := (wS k arS (arP 99) fiS faS)) (va_runVN (As := [.int (Int32.ofInt (z3)), .int (Int32.ofInt (t0))]) (rest := []) ⟨hx, hb, hml, hown, hts⟩ (mX3_thingDepth l G k arP fiP faP z3 t0 H.size hRP hRaP hB8P hB20P hB21P (by omega) (by omega) (show 0 ≤ (fiP 0) ∧ (fiP 0) ≤ 11 from by omega)) ⟨va_cnB 2 hts (gz [] (.code yX3_thingDepth cX3_thingDepth 4 (some .int)) [(23, 10)] rfl) rfl rfl rfl (nm_47 hX.2.2.1) h4w (by decide +kernel) ⟨Nat.le_of_ble_eq_true rfl, Nat.le_of_ble_eq_true rfl⟩, h5w, h6w⟩ (cy_preV (EZ_ok k) hZ hS hX hP hD hA [10, 11, 12, 13, 14, 15, 16, 17, 18, 19] rfl rfl (ci := 2) (q0 := 10) rfl rfl) rfl rfl hl.1 rfl (lv_room (Nat.le_of_ble_eq_true rfl)) dX6_firstWith_21 ⟨Nat.le_of_ble_eq_true rfl, Nat.le_of_ble_eq_true rfl⟩) hP hD hS hA [10, 11, 12, 13, 14, 15, 16, 17, 18, 19] [0, 1, 2, 3, 4, 5, 6, 7, 8, 9] rfl rfl (by decide) (by decide) (fun r u H locs hp hP hD hS => ?_)
    obtain ⟨c4, rfl⟩ : ∃ z, z = u := ⟨_, rfl⟩
    obtain ⟨hP, hD⟩ : va_P G vwCl ((wS k arS (arP 99) fiS faS) ++ (wP k arP fiP faP)) H ∧ va_D A ((wS k arS (arP 99) fiS faS) ++ (wP k arP fiP faP)) := ⟨hP, hD⟩
    obtain ⟨h9, rc4, hp4⟩ : r = Int32.ofInt c4 ∧ (inR c4) ∧ (c4 = thD (nb z3 t0) (dp z3) ((fiP 0)) ∧ -15 ≤ c4 ∧ c4 ≤ 15) := hp
    subst h9
    have hTd21 := hp4.1
    refine lv_iload_n hx hb dX6_firstWith_24 rfl (lv_at hl 3 rfl) ?_
    refine iv_icmp_ne (tgt := 30) hx hb (by omega) (by omega) dX6_firstWith_25 (by decide) (fun q5 => ?_) (fun q5 => ?_)
    · refine lv_iinc (v := Int32.ofInt (x3_1 + 1)) (lv' := [(3, .int (Int32.ofInt ((x3_1 + 1)))), (0, .ref (arS 99)), (1, .int (Int32.ofInt (t0))), (2, .int (Int32.ofInt (d0)))]) hx hb dX6_firstWith_30 hl (k := 0) rfl (Int32.ofInt_add _ _).symm (by decide) rfl (fun ls hl => ?_)
      refine lv_goto (tgt := 2) hx hb dX6_firstWith_33 (by decide) ?_
      have hl : lv_has ls 4 [(3, .int (Int32.ofInt ((x3_1 + 1)))), (0, .ref (arS 99)), (1, .int (Int32.ofInt (t0))), (2, .int (Int32.ofInt (d0)))] := lv_sub hl [0, 1, 2, 3] rfl
      exact ih ((x3_1 + 1)) (show (fiS 6 - (x3_1 + 1)).toNat < (fiS 6 - x3_1).toNat from by omega) (show inR (x3_1 + 1) ∧ (0 ≤ (x3_1 + 1)) from ⟨(by omega), (by omega)⟩) _ _ _ hP hD hS hl
    · refine lv_iload_n hx hb dX6_firstWith_28 rfl (lv_at hl 0 rfl) ?_
      exact W.iret (v := Int32.ofInt (x3_1)) hx hb hr (fun t ht hW => ⟨⟨Int32.ofInt (x3_1), (x3_1), rfl, ⟨rfl, (show (inR x3_1) ∧ (-1 ≤ x3_1 ∧ x3_1 < 1500) from ⟨(by omega), (by omega)⟩)⟩, by rw [ht]; exact hP, hD⟩, hS.F ht⟩) hS.2.2 dX6_firstWith_29

set_option maxHeartbeats 4000000 in
set_option maxRecDepth 100000 in
theorem mX6_ridersTo (l : Launch) (G : va_G) (k : Nat → ClassId) (ar : Nat → Nat) (pl : Nat) (fi : Nat → Int) (fa : Nat → Int → Int) (i0 : Int) (sz : Nat) (hR : ∀ j, inR (fi j)) (hRa : ∀ j t, inR (fa j t)) (hB5 : bnd (fa 5) 1500 (-1) 1500) (hB7 : bnd (fa 7) 1024 (-1) 1500) (hB8 : bnd (fa 8) 1500 (-1) 1500) (hB9 : bnd (fa 9) 1500 0 1500) (hB10 : bnd (fa 10) 1500 0 1500) (hr_i0 : inR i0) (hsz : 0 ≤ fi 6 ∧ fi 6 ≤ 1500) (hi0 : 0 ≤ i0 ∧ i0 < 1500) : CNi l G k (EZ k) yX6_ridersTo wzX6_ridersTo ({ frames := 2, cells := 0, slots := 0, locals := 44 }) [.ref (ar 99), .int (Int32.ofInt (i0))] sz (wS k ar (pl) fi fa) (fun (r0 : Int32) (u : Int) => r0 = Int32.ofInt (u) ∧ (inR u) ∧ (True)) (fun (u : Int) => (wS k ar (pl) fi fa)) := by
  refine Met.ofW (cc := cX6_ridersTo) (maxL := 5) (ret := (some .int)) (by decide) rfl ?_
  intro p e s m args below meth c s₁ B hml hv
  obtain ⟨rfl, hsz, hP, hX, hD0, hZ0⟩ := hv
  have hx := B.exec
  have hb := B.bytes
  have hr := B.returns
  have hts := atoms_spec (ws := wzX6_ridersTo) B.pre
  have hown : s.vm.findClass RX6 = some m.cls := findClass_of_methodNamed B.named
  subst hsz
  have hD := hD0.self (sz := s.heap.size)
  have hZ := hZ0
  generalize hAe : va_A (wS k ar (pl) fi fa) s.heap.size = A at hD hZ ⊢
  have hA : ∀ q : Nat, s.heap.size ≤ q → A q := fun q h => by rw [← hAe]; exact Or.inr h
  have hS : va_S A s.heap s.heap [] := va_S.rf
  have hl := lv_entry ([.ref (ar 99), .int (Int32.ofInt (i0))]) (n := 5) (Nat.le_of_ble_eq_true rfl)
  rw [lg_entry_eq]
  generalize (lg_sl ([.ref (ar 99), .int (Int32.ofInt (i0))]) ++ List.replicate (5 - (lg_sl ([.ref (ar 99), .int (Int32.ofInt (i0))])).length) Slot.unset).toArray = ls at hl ⊢
  have hl : lv_has ls 5 [(0, .ref (ar 99)), (1, .int (Int32.ofInt (i0)))] := hl
  obtain ⟨H, eH⟩ : ∃ H, H = s.heap := ⟨_, rfl⟩
  rw [← eH] at hP
  have hS : va_S A s.heap H [] := by rw [eH]; exact hS
  have gW : s.heap = H := eH.symm
  refine iv_heap gW ?_
  have h0w := hts (.fieldLink RX6 22 "RopeTown$Search" "size" "I") (wz_at 4 17 rfl)
  have h1w : ∀ w ∈ wsX60, w ∈ wzX6_ridersTo := fun w h => List.mem_cons_of_mem _ (inlX6 w h)
  have h2w := hts (.fieldLink RX6 32 "RopeTown$Search" "states" "[I") (wz_at 4 20 rfl)
  have h3w := hts (.initialized RX7) (wz_at 5 10 rfl)
  have h4w := hts (.static yX7_thingsIn) (wz_at 25 5 rfl)
  have h5w := hts (.fieldLink RX6 39 "RopeTown$Search" "parents" "[I") (wz_at 4 22 rfl)
  refine lv_iconst (v := Int32.ofInt 0) hx hb dX6_ridersTo_0 (by decide +kernel) ?_
  refine lv_istore_n (lv' := [(2, .int (Int32.ofInt (0))), (0, .ref (ar 99)), (1, .int (Int32.ofInt (i0)))]) hx hb dX6_ridersTo_1 rfl hl (by decide) rfl (fun ls hl => ?_)
  refine lv_iload_n hx hb dX6_ridersTo_2 rfl (lv_at hl 2 rfl) ?_
  refine lv_istore_n (lv' := [(3, .int (Int32.ofInt (i0))), (2, .int (Int32.ofInt (0))), (0, .ref (ar 99)), (1, .int (Int32.ofInt (i0)))]) hx hb dX6_ridersTo_3 rfl hl (by decide) rfl (fun ls hl => ?_)
  refine lv_iconst (v := Int32.ofInt 0) hx hb dX6_ridersTo_4 (by decide +kernel) ?_
  refine lv_istore (lv' := [(4, .int (Int32.ofInt (0))), (3, .int (Int32.ofInt (i0))), (2, .int (Int32.ofInt (0))), (0, .ref (ar 99)), (1, .int (Int32.ofInt (i0)))]) hx hb dX6_ridersTo_5 hl (by decide) rfl (fun ls hl => ?_)
  refine iv_loop (α := Int × Int × Int) (nL := 5) (fun b9 => (wS k ar (pl) fi fa)) (fun b9 => [(4, .int (Int32.ofInt (b9.1))), (3, .int (Int32.ofInt (b9.2.1))), (2, .int (Int32.ofInt (b9.2.2))), (0, .ref (ar 99)), (1, .int (Int32.ofInt (i0)))]) (fun b9 => (fi 6 - b9.1).toNat) (fun b9 => inR b9.1 ∧ inR b9.2.1 ∧ inR b9.2.2 ∧ (0 ≤ b9.1 ∧ -1 ≤ b9.2.1 ∧ b9.2.1 < 1500)) ?_ (0, i0, 0) (show inR 0 ∧ inR i0 ∧ inR 0 ∧ (0 ≤ 0 ∧ -1 ≤ i0 ∧ i0 < 1500) from ⟨(by omega), (by omega), (by omega), (by omega)⟩) hP hD hS hl
  rintro ⟨x4_1, x3_2, x2_3⟩ ih hi9 H locs ls hP hD hS hl
  obtain ⟨r_x4_1, r_x3_2, r_x2_3, hinv⟩ : inR x4_1 ∧ inR x3_2 ∧ inR x2_3 ∧ (0 ≤ x4_1 ∧ -1 ≤ x3_2 ∧ x3_2 < 1500) := hi9
  obtain ⟨hP, hD⟩ : va_P G vwCl (wS k ar (pl) fi fa) H ∧ va_D A (wS k ar (pl) fi fa) := ⟨hP, hD⟩
  have hl : lv_has ls 5 [(4, .int (Int32.ofInt (x4_1))), (3, .int (Int32.ofInt (x3_2))), (2, .int (Int32.ofInt (x2_3))), (0, .ref (ar 99)), (1, .int (Int32.ofInt (i0)))] := hl
  refine lv_iload hx hb dX6_ridersTo_7 (lv_at hl 0 rfl) ?_
  refine lv_aload_n hx hb dX6_ridersTo_9 rfl (lv_at hl 3 rfl) ?_
  refine va_get (D := G) (ci := 5) (v := .int (Int32.ofInt (fi 6))) (C := RX6) (T := TX6) (N := 15) (ref := RX6) hx hb hts h1w hown hX.1 hP 0 rfl rfl 6 (by decide) h0w (fun _ h9 => h9) rfl dX6_ridersTo_10 ?_
  have rf6 := hR 6
  refine iv_icmp_ge (tgt := 57) hx hb (by omega) (by omega) dX6_ridersTo_13 (by decide) (fun q4 => ?_) (fun q4 => ?_)
  · refine lv_iload_n hx hb dX6_ridersTo_57 rfl (lv_at hl 2 rfl) ?_
    exact W.iret (v := Int32.ofInt (x2_3)) hx hb hr (fun t ht hW => ⟨⟨Int32.ofInt (x2_3), (x2_3), rfl, ⟨rfl, (show (inR x2_3) ∧ (True) from ⟨(by omega), trivial⟩)⟩, by rw [ht]; exact hP, hD⟩, hS.F ht⟩) hS.2.2 dX6_ridersTo_58
  · refine lv_iload_n hx hb dX6_ridersTo_16 rfl (lv_at hl 1 rfl) ?_
    refine iv_if_le (tgt := 57) hx hb (by omega) dX6_ridersTo_17 (by decide) (fun q5 => ?_) (fun q5 => ?_)
    · refine lv_iload_n hx hb dX6_ridersTo_57 rfl (lv_at hl 2 rfl) ?_
      exact W.iret (v := Int32.ofInt (x2_3)) hx hb hr (fun t ht hW => ⟨⟨Int32.ofInt (x2_3), (x2_3), rfl, ⟨rfl, (show (inR x2_3) ∧ (True) from ⟨(by omega), trivial⟩)⟩, by rw [ht]; exact hP, hD⟩, hS.F ht⟩) hS.2.2 dX6_ridersTo_58
    · refine lv_iload_n hx hb dX6_ridersTo_20 rfl (lv_at hl 2 rfl) ?_
      refine lv_aload_n hx hb dX6_ridersTo_21 rfl (lv_at hl 3 rfl) ?_
      refine va_get (D := G) (ci := 5) (v := .ref (ar 3)) (C := RX6) (T := TX6) (N := 15) (ref := RX6) hx hb hts h1w hown hX.1 hP 0 rfl rfl 3 (by decide) h2w (fun _ h9 => h9) rfl dX6_ridersTo_22 ?_
      refine lv_iload_n hx hb dX6_ridersTo_25 rfl (lv_at hl 1 rfl) ?_
      refine iv_iald hx hb hX.1 hP 1 0 rfl rfl (by omega) (by omega) (by decide) dX6_ridersTo_26 ?_
      refine iv_top (fun z6 ez6 => ?_)
      have rz6 : inR z6 := ez6 ▸ (hRa 3) _
      have ez6 : z6 = (fa 3) x3_2 := ez6
      refine lv_iconst (v := Int32.ofInt 0) hx hb dX6_ridersTo_27 (by decide +kernel) ?_
      refine c0_i (va_runSN (As := [.int (Int32.ofInt (z6)), .int (Int32.ofInt (0))]) (rest := [.int (Int32.ofInt (x2_3))]) ⟨hx, hb, hml, hown, hts⟩ (mX7_thingsIn l G k z6 0 H.size (by omega) (by omega) (show 0 = 0 ∨ 0 = 1 from by omega)) ⟨va_cnB 2 hts (gz [] (.code yX7_thingsIn cX7_thingsIn 4 (some .int)) [(25, 6)] rfl) rfl rfl rfl (nm_65 hX.2.2.1) h3w (by decide +kernel) ⟨Nat.le_of_ble_eq_true rfl, Nat.le_of_ble_eq_true rfl⟩, h4w, trivial⟩ (cr_pre0 (EZ_ok k) hZ hS hX hP hD hA) rfl rfl hl.1 rfl (lv_room (Nat.le_of_ble_eq_true rfl)) dX6_ridersTo_28 ⟨Nat.le_of_ble_eq_true rfl, Nat.le_of_ble_eq_true rfl⟩) hP hD hS hA (fun r u H locs hp hP hD hS => ?_)
      obtain ⟨c7, rfl⟩ : ∃ z, z = u := ⟨_, rfl⟩
      obtain ⟨h9, rc7, hp7⟩ : r = Int32.ofInt c7 ∧ (inR c7) ∧ (c7 = og (bs (nb z6) 0) 7) := hp
      subst h9
      have hTi28 := hp7
      refine lv_aload_n hx hb dX6_ridersTo_31 rfl (lv_at hl 3 rfl) ?_
      refine va_get (D := G) (ci := 5) (v := .ref (ar 3)) (C := RX6) (T := TX6) (N := 15) (ref := RX6) hx hb hts h1w hown hX.1 hP 0 rfl rfl 3 (by decide) h2w (fun _ h9 => h9) rfl dX6_ridersTo_32 ?_
      refine lv_iload_n hx hb dX6_ridersTo_35 rfl (lv_at hl 1 rfl) ?_
      refine iv_iald hx hb hX.1 hP 1 0 rfl rfl (by omega) (by omega) (by decide) dX6_ridersTo_36 ?_
      refine iv_top (fun z8 ez8 => ?_)
      have rz8 : inR z8 := ez8 ▸ (hRa 3) _
      have ez8 : z8 = (fa 3) x3_2 := ez8
      refine lv_iconst (v := Int32.ofInt 1) hx hb dX6_ridersTo_37 (by decide +kernel) ?_
      refine c0_i (va_runSN (As := [.int (Int32.ofInt (z8)), .int (Int32.ofInt (1))]) (rest := [.int (Int32.ofInt (c7)), .int (Int32.ofInt (x2_3))]) ⟨hx, hb, hml, hown, hts⟩ (mX7_thingsIn l G k z8 1 H.size (by omega) (by omega) (show 1 = 0 ∨ 1 = 1 from by omega)) ⟨va_cnB 2 hts (gz [] (.code yX7_thingsIn cX7_thingsIn 4 (some .int)) [(25, 6)] rfl) rfl rfl rfl (nm_65 hX.2.2.1) h3w (by decide +kernel) ⟨Nat.le_of_ble_eq_true rfl, Nat.le_of_ble_eq_true rfl⟩, h4w, trivial⟩ (cr_pre0 (EZ_ok k) hZ hS hX hP hD hA) rfl rfl hl.1 rfl (lv_room (Nat.le_of_ble_eq_true rfl)) dX6_ridersTo_38 ⟨Nat.le_of_ble_eq_true rfl, Nat.le_of_ble_eq_true rfl⟩) hP hD hS hA (fun r u H locs hp hP hD hS => ?_)
      obtain ⟨c9, rfl⟩ : ∃ z, z = u := ⟨_, rfl⟩
      obtain ⟨h9, rc9, hp9⟩ : r = Int32.ofInt c9 ∧ (inR c9) ∧ (c9 = og (bs (nb z8) 1) 7) := hp
      subst h9
      have hTi38 := hp9
      refine iv_or hx hb dX6_ridersTo_41 ?_
      refine iv_top (fun z10 ez10 => ?_)
      have rz10 : inR z10 := ez10 ▸ bOr_r _ _
      refine iv_or hx hb dX6_ridersTo_42 ?_
      refine iv_top (fun z11 ez11 => ?_)
      have rz11 : inR z11 := ez11 ▸ bOr_r _ _
      refine lv_istore_n (lv' := [(2, .int (Int32.ofInt (z11))), (4, .int (Int32.ofInt (x4_1))), (3, .int (Int32.ofInt (x3_2))), (0, .ref (ar 99)), (1, .int (Int32.ofInt (i0)))]) hx hb dX6_ridersTo_43 rfl hl (by decide) rfl (fun ls hl => ?_)
      refine lv_aload_n hx hb dX6_ridersTo_44 rfl (lv_at hl 3 rfl) ?_
      refine va_get (D := G) (ci := 5) (v := .ref (ar 5)) (C := RX6) (T := TX6) (N := 15) (ref := RX6) hx hb hts h1w hown hX.1 hP 0 rfl rfl 5 (by decide) h5w (fun _ h9 => h9) rfl dX6_ridersTo_45 ?_
      refine lv_iload_n hx hb dX6_ridersTo_48 rfl (lv_at hl 2 rfl) ?_
      refine iv_iald hx hb hX.1 hP 3 0 rfl rfl (by omega) (by omega) (by decide) dX6_ridersTo_49 ?_
      refine iv_top (fun z12 ez12 => ?_)
      have rz12 : inR z12 := ez12 ▸ (hRa 5) _
      have ez12 : z12 = (fa 5) x3_2 := ez12
      have bz12 : (-1) ≤ z12 ∧ z12 < 1500 := by rw [ez12]; exact bnd_at hB5 (by omega) (by omega)
      refine lv_istore_n (lv' := [(3, .int (Int32.ofInt (z12))), (2, .int (Int32.ofInt (z11))), (4, .int (Int32.ofInt (x4_1))), (0, .ref (ar 99)), (1, .int (Int32.ofInt (i0)))]) hx hb dX6_ridersTo_50 rfl hl (by decide) rfl (fun ls hl => ?_)
      refine lv_iinc (v := Int32.ofInt (x4_1 + 1)) (lv' := [(4, .int (Int32.ofInt ((x4_1 + 1)))), (3, .int (Int32.ofInt (z12))), (2, .int (Int32.ofInt (z11))), (0, .ref (ar 99)), (1, .int (Int32.ofInt (i0)))]) hx hb dX6_ridersTo_51 hl (k := 2) rfl (Int32.ofInt_add _ _).symm (by decide) rfl (fun ls hl => ?_)
      refine lv_goto (tgt := 7) hx hb dX6_ridersTo_54 (by decide) ?_
      have hl : lv_has ls 5 [(4, .int (Int32.ofInt ((x4_1 + 1)))), (3, .int (Int32.ofInt (z12))), (2, .int (Int32.ofInt (z11))), (0, .ref (ar 99)), (1, .int (Int32.ofInt (i0)))] := lv_sub hl [0, 1, 2, 3, 4] rfl
      exact ih ((x4_1 + 1), z12, z11) (show (fi 6 - (x4_1 + 1)).toNat < (fi 6 - x4_1).toNat from by omega) (show inR (x4_1 + 1) ∧ inR z12 ∧ inR z11 ∧ (0 ≤ (x4_1 + 1) ∧ -1 ≤ z12 ∧ z12 < 1500) from ⟨(by omega), (by omega), (by omega), (by omega)⟩) _ _ _ hP hD hS hl

