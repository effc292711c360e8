set_option maxHeartbeats 4000000 in
set_option maxRecDepth 100000 in
theorem mX9_reach (l : Launch) (G : va_G) (k : Nat → ClassId) (arT : Nat → Nat) (tpT : Nat) (paT : Nat) (pdT : Nat) (pkT : Nat) (fiT : Nat → Int) (faT : Nat → Int → Int) (arP : Nat → Nat) (fiP : Nat → Int) (faP : Nat → Int → Int) (arB : Nat → Nat) (fiB : Nat → Int) (faB : Nat → Int → Int) (arS : Nat → Nat) (plS : Nat) (fiS : Nat → Int) (faS : Nat → Int → Int) (t0 : Int) (sz : Nat) (hRT : ∀ j, inR (fiT j)) (hRaT : ∀ j t, inR (faT j t)) (hRP : ∀ j, inR (fiP j)) (hRaP : ∀ j t, inR (faP j t)) (hB8P : bnd (faP 8) 7 0 4) (hB20P : bnd (faP 20) 600 (-1000) 10000) (hB21P : bnd (faP 21) 4 0 601) (hRB : ∀ j, inR (fiB j)) (hRaB : ∀ j t, inR (faB j t)) (hRS : ∀ j, inR (fiS j)) (hRaS : ∀ j t, inR (faS j t)) (hB5S : bnd (faS 5) 1500 (-1) 1500) (hB7S : bnd (faS 7) 1024 (-1) 1500) (hB8S : bnd (faS 8) 1500 (-1) 1500) (hB9S : bnd (faS 9) 1500 0 1500) (hB10S : bnd (faS 10) 1500 0 1500) (hr_t0 : inR t0) (hpi : 0 ≤ fiP 7 ∧ fiP 7 ≤ 7 ∧ 0 ≤ fiP 0 ∧ fiP 0 ≤ 11 ∧ 0 ≤ fiP 24 ∧ fiP 24 ≤ 4 ∧ 0 ≤ fiP 23 ∧ fiP 23 ≤ 600) (hRC : ∀ q9, 0 ≤ q9 → q9 < fiP 24 → RWf (dcf (faP 20)) (stq (faP 21) q9) (faP 21 q9)) (hsz : 0 ≤ fiS 6 ∧ fiS 6 ≤ 1500) (hpl : 0 < fiS 6 → plS = arP 99) (ht : 0 ≤ t0 ∧ t0 < fiP 7) : CNi l G k (EZ k) yX9_reach wzX9_reach ({ frames := 13, cells := 0, slots := 0, locals := 343 }) [.ref (arT 99), .int (Int32.ofInt (t0))] sz ((wT k arT (tpT) (paT) (arP 99) (pdT) (arB 99) (pkT) (arS 99) fiT faT) ++ ((wP k arP fiP faP) ++ ((wB k arB fiB faB) ++ (wS k arS (plS) fiS faS)))) (fun (r0 : Int32) (u : Int × (Int → Int) × (Int → Int) × (Int → Int) × (Int → Int) × (Int → Int) × (Int → Int) × (Int → Int) × (Int → Int) × (Int → Int) × (Int → Int) × (Int → Int) × Int × Int × Int × Int × Int × Nat) => r0 = Int32.ofInt (u.1) ∧ (inR u.1) ∧ (∀ t, inR (u.2.1 t)) ∧ (∀ t, inR (u.2.2.1 t)) ∧ (∀ t, inR (u.2.2.2.1 t)) ∧ (∀ t, inR (u.2.2.2.2.1 t)) ∧ (∀ t, inR (u.2.2.2.2.2.1 t)) ∧ (bnd u.2.2.2.2.2.1 1500 (-1) 1500) ∧ (∀ t, inR (u.2.2.2.2.2.2.1 t)) ∧ (bnd u.2.2.2.2.2.2.1 1024 (-1) 1500) ∧ (∀ t, inR (u.2.2.2.2.2.2.2.1 t)) ∧ (bnd u.2.2.2.2.2.2.2.1 1500 (-1) 1500) ∧ (∀ t, inR (u.2.2.2.2.2.2.2.2.1 t)) ∧ (bnd u.2.2.2.2.2.2.2.2.1 1500 0 1500) ∧ (∀ t, inR (u.2.2.2.2.2.2.2.2.2.1 t)) ∧ (bnd u.2.2.2.2.2.2.2.2.2.1 1500 0 1500) ∧ (∀ t, inR (u.2.2.2.2.2.2.2.2.2.2.1 t)) ∧ (∀ t, inR (u.2.2.2.2.2.2.2.2.2.2.2.1 t)) ∧ (inR u.2.2.2.2.2.2.2.2.2.2.2.2.1) ∧ (inR u.2.2.2.2.2.2.2.2.2.2.2.2.2.1) ∧ (inR u.2.2.2.2.2.2.2.2.2.2.2.2.2.2.1) ∧ (inR u.2.2.2.2.2.2.2.2.2.2.2.2.2.2.2.1) ∧ (inR u.2.2.2.2.2.2.2.2.2.2.2.2.2.2.2.2.1) ∧ (0 ≤ u.2.2.2.2.2.2.2.2.2.2.2.2.2.2.1 ∧ u.2.2.2.2.2.2.2.2.2.2.2.2.2.2.1 ≤ 1500 ∧ (0 < u.2.2.2.2.2.2.2.2.2.2.2.2.2.2.1 → u.2.2.2.2.2.2.2.2.2.2.2.2.2.2.2.2.2 = arP 99))) (fun (u : Int × (Int → Int) × (Int → Int) × (Int → Int) × (Int → Int) × (Int → Int) × (Int → Int) × (Int → Int) × (Int → Int) × (Int → Int) × (Int → Int) × (Int → Int) × Int × Int × Int × Int × Int × Nat) => ((wT k arT (tpT) (paT) (arP 99) (pdT) (arB 99) (pkT) (arS 99) fiT faT) ++ ((wP k arP fiP (uF (uF faP 13 (u.2.1)) 22 (u.2.2.1))) ++ ((wB k arB fiB faB) ++ (wS k arS (u.2.2.2.2.2.2.2.2.2.2.2.2.2.2.2.2.2) (uF (uF (uF (uF (uF fiS 1 (u.2.2.2.2.2.2.2.2.2.2.2.2.1)) 2 (u.2.2.2.2.2.2.2.2.2.2.2.2.2.1)) 6 (u.2.2.2.2.2.2.2.2.2.2.2.2.2.2.1)) 11 (u.2.2.2.2.2.2.2.2.2.2.2.2.2.2.2.1)) 12 (u.2.2.2.2.2.2.2.2.2.2.2.2.2.2.2.2.1)) (uF (uF (uF (uF (uF (uF (uF (uF (uF faS 3 (u.2.2.2.1)) 4 (u.2.2.2.2.1)) 5 (u.2.2.2.2.2.1)) 7 (u.2.2.2.2.2.2.1)) 8 (u.2.2.2.2.2.2.2.1)) 9 (u.2.2.2.2.2.2.2.2.1)) 10 (u.2.2.2.2.2.2.2.2.2.1)) 13 (u.2.2.2.2.2.2.2.2.2.2.1)) 14 (u.2.2.2.2.2.2.2.2.2.2.2.1))))))) := by
  refine Met.ofW (cc := cX9_reach) (maxL := 3) (ret := (some .int)) (by decide) rfl ?_
  intro p e s m args below meth c s₁ B hml hv
  obtain ⟨rfl, hsz, hP, hX, hD0, hZ0⟩ := hv
  have hx := B.exec
  have hb := B.bytes
  have hr := B.returns
  have hts := atoms_spec (ws := wzX9_reach) B.pre
  have hown : s.vm.findClass RX9 = some m.cls := findClass_of_methodNamed B.named
  subst hsz
  have hD := hD0.self (sz := s.heap.size)
  have hZ := hZ0
  generalize hAe : va_A ((wT k arT (tpT) (paT) (arP 99) (pdT) (arB 99) (pkT) (arS 99) fiT faT) ++ ((wP k arP fiP faP) ++ ((wB k arB fiB faB) ++ (wS k arS (plS) fiS faS)))) s.heap.size = A at hD hZ ⊢
  have hA : ∀ q : Nat, s.heap.size ≤ q → A q := fun q h => by rw [← hAe]; exact Or.inr h
  have hS : va_S A s.heap s.heap [] := va_S.rf
  have hl := lv_entry ([.ref (arT 99), .int (Int32.ofInt (t0))]) (n := 3) (Nat.le_of_ble_eq_true rfl)
  rw [lg_entry_eq]
  generalize (lg_sl ([.ref (arT 99), .int (Int32.ofInt (t0))]) ++ List.replicate (3 - (lg_sl ([.ref (arT 99), .int (Int32.ofInt (t0))])).length) Slot.unset).toArray = ls at hl ⊢
  have hl : lv_has ls 3 [(0, .ref (arT 99)), (1, .int (Int32.ofInt (t0)))] := hl
  obtain ⟨H, eH⟩ : ∃ H, H = s.heap := ⟨_, rfl⟩
  rw [← eH] at hP
  have hS : va_S A s.heap H [] := by rw [eH]; exact hS
  have gW : s.heap = H := eH.symm
  refine iv_heap gW ?_
  have h0w := hts (.fieldLink RX9 23 "RopeTown" "plan" "LRopeTown$Plan;") (wz_at 0 20 rfl)
  have h1w : ∀ w ∈ wsX90, w ∈ wzX9_reach := fun w h => List.mem_cons_of_mem _ (inlX9 w h)
  have h2w := hts (.initialized RX3) (wz_at 0 19 rfl)
  have h3w := hts (.instanceMethod yX3_has) (wz_at 23 5 rfl)
  have h4w := hts (.selects RX3 yX3_has yX3_has) (wz_at 23 6 rfl)
  have h5w := hts (.fieldLink RX9 42 "RopeTown" "book" "LRopeTown$Book;") (wz_at 1 5 rfl)
  have h6w : ∀ w ∈ wsX10, w ∈ wzX9_reach := fun w h => List.mem_cons_of_mem _ (inlX1 w h)
  have h7w := hts (.instanceMethod yX3_isServed) (wz_at 23 20 rfl)
  have h8w := hts (.selects RX3 yX3_isServed yX3_isServed) (wz_at 23 21 rfl)
  have h9w := hts (.fieldLink RX9 56 "RopeTown" "search" "LRopeTown$Search;") (wz_at 1 11 rfl)
  have h10w := hts (.initialized RX6) (wz_at 1 10 rfl)
  have h11w := hts (.instanceMethod yX6_explore) (wz_at 33 19 rfl)
  have h12w := hts (.selects RX6 yX6_explore yX6_explore) (wz_at 33 20 rfl)
  have h13w := hts (.instanceMethod yX6_depthsOf) (wz_at 37 21 rfl)
  have h14w := hts (.selects RX6 yX6_depthsOf yX6_depthsOf) (wz_at 37 22 rfl)
  have h15w := hts (.instanceMethod yX3_thingDepth) (wz_at 23 8 rfl)
  have h16w := hts (.selects RX3 yX3_thingDepth yX3_thingDepth) (wz_at 23 9 rfl)
  refine lv_aload_n hx hb dX9_reach_0 rfl (lv_at hl 0 rfl) ?_
  refine va_get (D := G) (ci := 6) (v := .ref (arP 99)) (C := RX9) (T := TX9) (N := 11) (ref := RX9) hx hb hts h1w hown hX.1 hP 0 rfl rfl 4 (by decide) h0w (fun _ h9 => h9) rfl dX9_reach_1 ?_
  refine lv_iload_n hx hb dX9_reach_4 rfl (lv_at hl 1 rfl) ?_
  refine cz_i (wr := ((wT k arT (tpT) (paT) (arP 99) (pdT) (arB 99) (pkT) (arS 99) fiT faT) ++ ((wB k arB fiB faB) ++ (wS k arS (plS) fiS faS)))) (va_runVN (As := [.int (Int32.ofInt (t0))]) (rest := []) ⟨hx, hb, hml, hown, hts⟩ (mX3_has l G k arP fiP faP t0 H.size hRP hRaP hB8P hB20P hB21P (by omega)) ⟨va_cnB 1 hts (gz [] (.code yX3_has cX3_has 2 (some .boolean)) [(23, 7)] rfl) rfl rfl rfl (nm_38 hX.2.2.1) h2w (by decide +kernel) ⟨Nat.le_of_ble_eq_true rfl, Nat.le_of_ble_eq_true rfl⟩, h3w, h4w⟩ (cy_preV (EZ_ok k) hZ hS hX hP hD hA [2, 3, 4, 5, 6, 7, 8, 9, 10, 11] rfl rfl (ci := 2) (q0 := 2) rfl rfl) rfl rfl hl.1 rfl (lv_room (Nat.le_of_ble_eq_true rfl)) dX9_reach_5 ⟨Nat.le_of_ble_eq_true rfl, Nat.le_of_ble_eq_true rfl⟩) hP hD hS hA [2, 3, 4, 5, 6, 7, 8, 9, 10, 11] [0, 1, 12, 13, 14, 15, 16, 17, 18, 19, 20, 21, 22, 23, 24, 25, 26, 27, 28, 29] rfl rfl (by decide) (by decide) (fun r u H locs hp hP hD hS => ?_)
  obtain ⟨c1, rfl⟩ : ∃ z, z = u := ⟨_, rfl⟩
  obtain ⟨hP, hD⟩ : va_P G vwCl ((wT k arT (tpT) (paT) (arP 99) (pdT) (arB 99) (pkT) (arS 99) fiT faT) ++ ((wB k arB fiB faB) ++ ((wS k arS (plS) fiS faS) ++ (wP k arP fiP faP)))) H ∧ va_D A ((wT k arT (tpT) (paT) (arP 99) (pdT) (arB 99) (pkT) (arS 99) fiT faT) ++ ((wB k arB fiB faB) ++ ((wS k arS (plS) fiS faS) ++ (wP k arP fiP faP)))) := ⟨hP, hD⟩
  obtain ⟨hP, hD⟩ : va_P G vwCl ((wT k arT (tpT) (paT) (arP 99) (pdT) (arB 99) (pkT) (arS 99) fiT faT) ++ ((wP k arP fiP faP) ++ ((wB k arB fiB faB) ++ (wS k arS (plS) fiS faS)))) H ∧ va_D A ((wT k arT (tpT) (paT) (arP 99) (pdT) (arB 99) (pkT) (arS 99) fiT faT) ++ ((wP k arP fiP faP) ++ ((wB k arB fiB faB) ++ (wS k arS (plS) fiS faS)))) := re_ord hP hD [0, 1, 20, 21, 22, 23, 24, 25, 26, 27, 28, 29, 2, 3, 4, 5, 6, 7, 8, 9, 10, 11, 12, 13, 14, 15, 16, 17, 18, 19] (by decide) rfl
  obtain ⟨h9, rc1, hp1⟩ : r = Int32.ofInt c1 ∧ (inR c1) ∧ ((c1 = 1 ∧ 0 ≤ t0 ∧ t0 < (fiP 7)) ∨ (c1 = 0 ∧ (t0 < 0 ∨ (fiP 7) ≤ t0))) := hp
  subst h9
  refine iv_if_ne (tgt := 21) hx hb (by omega) dX9_reach_8 (by decide) (fun q2 => ?_) (fun q2 => ?_)
  · refine lv_aload_n hx hb dX9_reach_21 rfl (lv_at hl 0 rfl) ?_
    refine va_get (D := G) (ci := 6) (v := .ref (arP 99)) (C := RX9) (T := TX9) (N := 11) (ref := RX9) hx hb hts h1w hown hX.1 hP 0 rfl rfl 4 (by decide) h0w (fun _ h9 => h9) rfl dX9_reach_22 ?_
    refine lv_aload_n hx hb dX9_reach_25 rfl (lv_at hl 0 rfl) ?_
    refine va_get (D := G) (ci := 6) (v := .ref (arB 99)) (C := RX9) (T := TX9) (N := 11) (ref := RX9) hx hb hts h1w hown hX.1 hP 0 rfl rfl 6 (by decide) h5w (fun _ h9 => h9) rfl dX9_reach_26 ?_
    refine va_getN (D := G) (ci := 0) (v := .int (Int32.ofInt (fiB 0))) (C := RX1) (T := TX1) (N := 12) (ref := RX1) (host := RX9) hx hb hts h6w hown hX.1 hP 12 rfl rfl 0 (by decide) (nf_37 hX.2.2.1) (fun _ h9 => h9) rfl dX9_reach_29 ?_
    have rf0B := hRB 0
    refine lv_iload_n hx hb dX9_reach_32 rfl (lv_at hl 1 rfl) ?_
    refine cz_i (wr := ((wT k arT (tpT) (paT) (arP 99) (pdT) (arB 99) (pkT) (arS 99) fiT faT) ++ ((wB k arB fiB faB) ++ (wS k arS (plS) fiS faS)))) (va_runVN (As := [.int (Int32.ofInt (fiB 0)), .int (Int32.ofInt (t0))]) (rest := []) ⟨hx, hb, hml, hown, hts⟩ (mX3_isServed l G k arP fiP faP (fiB 0) t0 H.size hRP hRaP hB8P hB20P hB21P (hRB 0) (by omega) (show 0 ≤ t0 ∧ t0 < 7 from by omega)) ⟨va_cnB 2 hts (gz [] (.code yX3_isServed cX3_isServed 4 (some .boolean)) [(23, 22)] rfl) rfl rfl rfl (nm_41 hX.2.2.1) h2w (by decide +kernel) ⟨Nat.le_of_ble_eq_true rfl, Nat.le_of_ble_eq_true rfl⟩, h7w, h8w⟩ (cy_preV (EZ_ok k) hZ hS hX hP hD hA [2, 3, 4, 5, 6, 7, 8, 9, 10, 11] rfl rfl (ci := 2) (q0 := 2) rfl rfl) rfl rfl hl.1 rfl (lv_room (Nat.le_of_ble_eq_true rfl)) dX9_reach_33 ⟨Nat.le_of_ble_eq_true rfl, Nat.le_of_ble_eq_true rfl⟩) hP hD hS hA [2, 3, 4, 5, 6, 7, 8, 9, 10, 11] [0, 1, 12, 13, 14, 15, 16, 17, 18, 19, 20, 21, 22, 23, 24, 25, 26, 27, 28, 29] rfl rfl (by decide) (by decide) (fun r u H locs hp hP hD hS => ?_)
    obtain ⟨c3, rfl⟩ : ∃ z, z = u := ⟨_, rfl⟩
    obtain ⟨hP, hD⟩ : va_P G vwCl ((wT k arT (tpT) (paT) (arP 99) (pdT) (arB 99) (pkT) (arS 99) fiT faT) ++ ((wB k arB fiB faB) ++ ((wS k arS (plS) fiS faS) ++ (wP k arP fiP faP)))) H ∧ va_D A ((wT k arT (tpT) (paT) (arP 99) (pdT) (arB 99) (pkT) (arS 99) fiT faT) ++ ((wB k arB fiB faB) ++ ((wS k arS (plS) fiS faS) ++ (wP k arP fiP faP)))) := ⟨hP, hD⟩
    obtain ⟨hP, hD⟩ : va_P G vwCl ((wT k arT (tpT) (paT) (arP 99) (pdT) (arB 99) (pkT) (arS 99) fiT faT) ++ ((wP k arP fiP faP) ++ ((wB k arB fiB faB) ++ (wS k arS (plS) fiS faS)))) H ∧ va_D A ((wT k arT (tpT) (paT) (arP 99) (pdT) (arB 99) (pkT) (arS 99) fiT faT) ++ ((wP k arP fiP faP) ++ ((wB k arB fiB faB) ++ (wS k arS (plS) fiS faS)))) := re_ord hP hD [0, 1, 20, 21, 22, 23, 24, 25, 26, 27, 28, 29, 2, 3, 4, 5, 6, 7, 8, 9, 10, 11, 12, 13, 14, 15, 16, 17, 18, 19] (by decide) rfl
    obtain ⟨h9, rc3, hp3⟩ : r = Int32.ofInt c3 ∧ (inR c3) ∧ ((c3 = 1 ∧ sv (nb (fiB 0) t0) ((faP 11) t0)) ∨ (c3 = 0 ∧ ¬ sv (nb (fiB 0) t0) ((faP 11) t0))) := hp
    subst h9
    refine iv_if_eq (tgt := 68) hx hb (by omega) dX9_reach_36 (by decide) (fun q4 => ?_) (fun q4 => ?_)
    · refine lv_aload_n hx hb dX9_reach_68 rfl (lv_at hl 0 rfl) ?_
      refine va_get (D := G) (ci := 6) (v := .ref (arS 99)) (C := RX9) (T := TX9) (N := 11) (ref := RX9) hx hb hts h1w hown hX.1 hP 0 rfl rfl 9 (by decide) h9w (fun _ h9 => h9) rfl dX9_reach_69 ?_
      refine lv_aload_n hx hb dX9_reach_72 rfl (lv_at hl 0 rfl) ?_
      refine va_get (D := G) (ci := 6) (v := .ref (arP 99)) (C := RX9) (T := TX9) (N := 11) (ref := RX9) hx hb hts h1w hown hX.1 hP 0 rfl rfl 4 (by decide) h0w (fun _ h9 => h9) rfl dX9_reach_73 ?_
      refine lv_aload_n hx hb dX9_reach_76 rfl (lv_at hl 0 rfl) ?_
      refine va_get (D := G) (ci := 6) (v := .ref (arB 99)) (C := RX9) (T := TX9) (N := 11) (ref := RX9) hx hb hts h1w hown hX.1 hP 0 rfl rfl 6 (by decide) h5w (fun _ h9 => h9) rfl dX9_reach_77 ?_
      refine va_getN (D := G) (ci := 0) (v := .int (Int32.ofInt (fiB 0))) (C := RX1) (T := TX1) (N := 12) (ref := RX1) (host := RX9) hx hb hts h6w hown hX.1 hP 12 rfl rfl 0 (by decide) (nf_37 hX.2.2.1) (fun _ h9 => h9) rfl dX9_reach_80 ?_
      have rf0B := hRB 0
      refine lv_iconst (v := Int32.ofInt 0) hx hb dX9_reach_83 (by decide +kernel) ?_
      refine cz_i (wr := ((wT k arT (tpT) (paT) (arP 99) (pdT) (arB 99) (pkT) (arS 99) fiT faT) ++ (wB k arB fiB faB))) (va_runVN (As := [.ref (arP 99), .int (Int32.ofInt (fiB 0)), .int (Int32.ofInt (0))]) (rest := []) ⟨hx, hb, hml, hown, hts⟩ (mX6_explore l G k arS plS fiS faS arP fiP faP (fiB 0) 0 H.size hRS hRaS hB5S hB7S hB8S hB9S hB10S hRP hRaP hB8P hB20P hB21P (hRB 0) (by omega) (show 0 ≤ (fiS 6) ∧ (fiS 6) ≤ 1500 from by omega) (show 0 = 0 ∨ 0 = 1 from by omega) (show 0 < (fiS 6) → plS = arP 99 from by omega) (show 0 ≤ (fiP 7) ∧ (fiP 7) ≤ 7 from by omega) (show 0 ≤ (fiP 0) ∧ (fiP 0) ≤ 11 from by omega) (show 0 ≤ (fiP 24) ∧ (fiP 24) ≤ 4 from by omega) (show ∀ q9, 0 ≤ q9 → q9 < (fiP 24) → RWf (dcf ((faP 20))) (stq ((faP 21)) q9) ((faP 21) q9) from by first | exact hRC | omega)) ⟨va_cnB 3 hts (gz [] (.code yX6_explore cX6_explore 5 (some .boolean)) [(33, 21)] rfl) rfl rfl rfl (nm_46 hX.2.2.1) h10w (by decide +kernel) ⟨Nat.le_of_ble_eq_true rfl, Nat.le_of_ble_eq_true rfl⟩, h11w, h12w⟩ (cy_preV (EZ_ok k) hZ hS hX hP hD hA [20, 21, 22, 23, 24, 25, 26, 27, 28, 29, 2, 3, 4, 5, 6, 7, 8, 9, 10, 11] rfl rfl (ci := 5) (q0 := 20) rfl rfl) rfl rfl hl.1 rfl (lv_room (Nat.le_of_ble_eq_true rfl)) dX9_reach_84 ⟨Nat.le_of_ble_eq_true rfl, Nat.le_of_ble_eq_true rfl⟩) hP hD hS hA [20, 21, 22, 23, 24, 25, 26, 27, 28, 29, 2, 3, 4, 5, 6, 7, 8, 9, 10, 11] [0, 1, 12, 13, 14, 15, 16, 17, 18, 19] rfl rfl (by decide) (by decide) (fun r u H locs hp hP hD hS => ?_)
      obtain ⟨c5, c6, c7, c8, c9, c10, c11, c12, c13, c14, c15, c16, c17, c18, c19, c20, c21⟩ := u
      obtain ⟨hP, hD⟩ : va_P G vwCl ((wT k arT (tpT) (paT) (arP 99) (pdT) (arB 99) (pkT) (arS 99) fiT faT) ++ ((wB k arB fiB faB) ++ ((wS k arS (arP 99) (uF (uF (uF (uF (uF fiS 1 (c15)) 2 (c16)) 6 (c17)) 11 (c18)) 12 (c19)) (uF (uF (uF (uF (uF (uF (uF (uF (uF faS 3 (c6)) 4 (c7)) 5 (c8)) 7 (c9)) 8 (c10)) 9 (c11)) 10 (c12)) 13 (c13)) 14 (c14))) ++ (wP k arP fiP (uF (uF faP 13 (c20)) 22 (c21)))))) H ∧ va_D A ((wT k arT (tpT) (paT) (arP 99) (pdT) (arB 99) (pkT) (arS 99) fiT faT) ++ ((wB k arB fiB faB) ++ ((wS k arS (arP 99) (uF (uF (uF (uF (uF fiS 1 (c15)) 2 (c16)) 6 (c17)) 11 (c18)) 12 (c19)) (uF (uF (uF (uF (uF (uF (uF (uF (uF faS 3 (c6)) 4 (c7)) 5 (c8)) 7 (c9)) 8 (c10)) 9 (c11)) 10 (c12)) 13 (c13)) 14 (c14))) ++ (wP k arP fiP (uF (uF faP 13 (c20)) 22 (c21)))))) := ⟨hP, hD⟩
      obtain ⟨hP, hD⟩ : va_P G vwCl ((wT k arT (tpT) (paT) (arP 99) (pdT) (arB 99) (pkT) (arS 99) fiT faT) ++ ((wP k arP fiP (uF (uF faP 13 (c20)) 22 (c21))) ++ ((wB k arB fiB faB) ++ (wS k arS (arP 99) (uF (uF (uF (uF (uF fiS 1 (c15)) 2 (c16)) 6 (c17)) 11 (c18)) 12 (c19)) (uF (uF (uF (uF (uF (uF (uF (uF (uF faS 3 (c6)) 4 (c7)) 5 (c8)) 7 (c9)) 8 (c10)) 9 (c11)) 10 (c12)) 13 (c13)) 14 (c14)))))) H ∧ va_D A ((wT k arT (tpT) (paT) (arP 99) (pdT) (arB 99) (pkT) (arS 99) fiT faT) ++ ((wP k arP fiP (uF (uF faP 13 (c20)) 22 (c21))) ++ ((wB k arB fiB faB) ++ (wS k arS (arP 99) (uF (uF (uF (uF (uF fiS 1 (c15)) 2 (c16)) 6 (c17)) 11 (c18)) 12 (c19)) (uF (uF (uF (uF (uF (uF (uF (uF (uF faS 3 (c6)) 4 (c7)) 5 (c8)) 7 (c9)) 8 (c10)) 9 (c11)) 10 (c12)) 13 (c13)) 14 (c14)))))) := re_ord hP hD [0, 1, 20, 21, 22, 23, 24, 25, 26, 27, 28, 29, 2, 3, 4, 5, 6, 7, 8, 9, 10, 11, 12, 13, 14, 15, 16, 17, 18, 19] (by decide) rfl
      obtain ⟨h9, rc5, rc6, rc7, rc8, bc8, rc9, bc9, rc10, bc10, rc11, bc11, rc12, bc12, rc13, rc14, rc15, rc16, rc17, rc18, rc19, rc20, rc21, hp21⟩ : r = Int32.ofInt c5 ∧ (inR c5) ∧ (∀ t, inR (c6 t)) ∧ (∀ t, inR (c7 t)) ∧ (∀ t, inR (c8 t)) ∧ (bnd c8 1500 (-1) 1500) ∧ (∀ t, inR (c9 t)) ∧ (bnd c9 1024 (-1) 1500) ∧ (∀ t, inR (c10 t)) ∧ (bnd c10 1500 (-1) 1500) ∧ (∀ t, inR (c11 t)) ∧ (bnd c11 1500 0 1500) ∧ (∀ t, inR (c12 t)) ∧ (bnd c12 1500 0 1500) ∧ (∀ t, inR (c13 t)) ∧ (∀ t, inR (c14 t)) ∧ (inR c15) ∧ (inR c16) ∧ (inR c17) ∧ (inR c18) ∧ (inR c19) ∧ (∀ t, inR (c20 t)) ∧ (∀ t, inR (c21 t)) ∧ ((c5 = 0 ∨ c5 = 1) ∧ 0 ≤ c17 ∧ c17 ≤ 1500) := hp
      subst h9
      refine iv_if_eq (tgt := 101) hx hb (by omega) dX9_reach_87 (by decide) (fun q22 => ?_) (fun q22 => ?_)
      · refine lv_bipush (v := Int32.ofInt (-2)) hx hb dX9_reach_101 (by decide +kernel) ?_
        exact W.iret (v := Int32.ofInt ((-2))) hx hb hr (fun t ht hW => ⟨⟨Int32.ofInt ((-2)), ((-2), c20, c21, c6, c7, c8, c9, c10, c11, c12, c13, c14, c15, c16, c17, c18, c19, arP 99), rfl, ⟨rfl, (show (inR (-2)) ∧ (∀ t, inR (c20 t)) ∧ (∀ t, inR (c21 t)) ∧ (∀ t, inR (c6 t)) ∧ (∀ t, inR (c7 t)) ∧ (∀ t, inR (c8 t)) ∧ (bnd c8 1500 (-1) 1500) ∧ (∀ t, inR (c9 t)) ∧ (bnd c9 1024 (-1) 1500) ∧ (∀ t, inR (c10 t)) ∧ (bnd c10 1500 (-1) 1500) ∧ (∀ t, inR (c11 t)) ∧ (bnd c11 1500 0 1500) ∧ (∀ t, inR (c12 t)) ∧ (bnd c12 1500 0 1500) ∧ (∀ t, inR (c13 t)) ∧ (∀ t, inR (c14 t)) ∧ (inR c15) ∧ (inR c16) ∧ (inR c17) ∧ (inR c18) ∧ (inR c19) ∧ (0 ≤ c17 ∧ c17 ≤ 1500 ∧ (0 < c17 → (arP 99) = arP 99)) from ⟨(by omega), rc20, rc21, rc6, rc7, rc8, bc8, rc9, bc9, rc10, bc10, rc11, bc11, rc12, bc12, rc13, rc14, (by omega), (by omega), (by omega), (by omega), (by omega), (by omega)⟩)⟩, by rw [ht]; exact hP, hD⟩, hS.F ht⟩) hS.2.2 dX9_reach_103
      · refine lv_aload_n hx hb dX9_reach_90 rfl (lv_at hl 0 rfl) ?_
        refine va_get (D := G) (ci := 6) (v := .ref (arS 99)) (C := RX9) (T := TX9) (N := 11) (ref := RX9) hx hb hts h1w hown hX.1 hP 0 rfl rfl 9 (by decide) h9w (fun _ h9 => h9) rfl dX9_reach_91 ?_
        refine lv_iload_n hx hb dX9_reach_94 rfl (lv_at hl 1 rfl) ?_
        refine cz_i (wr := ((wT k arT (tpT) (paT) (arP 99) (pdT) (arB 99) (pkT) (arS 99) fiT faT) ++ (wB k arB fiB faB))) (va_runVN (As := [.int (Int32.ofInt (t0))]) (rest := []) ⟨hx, hb, hml, hown, hts⟩ (mX6_depthsOf l G k arS (uF (uF (uF (uF (uF fiS 1 (c15)) 2 (c16)) 6 (c17)) 11 (c18)) 12 (c19)) (uF (uF (uF (uF (uF (uF (uF (uF (uF faS 3 (c6)) 4 (c7)) 5 (c8)) 7 (c9)) 8 (c10)) 9 (c11)) 10 (c12)) 13 (c13)) 14 (c14)) arP fiP (uF (uF faP 13 (c20)) 22 (c21)) t0 H.size (iF (iF (iF (iF (iF hRS (by omega)) (by omega)) (by omega)) (by omega)) (by omega)) (iG (iG (iG (iG (iG (iG (iG (iG (iG hRaS rc6) rc7) rc8) rc9) rc10) rc11) rc12) rc13) rc14) bc8 bc9 bc10 bc11 bc12 hRP (iG (iG hRaP rc20) rc21) hB8P hB20P hB21P (by omega) (show 0 ≤ c17 ∧ c17 ≤ 1500 from by omega) (show 0 ≤ (fiP 0) ∧ (fiP 0) ≤ 11 from by omega)) ⟨va_cnB 1 hts (gz [] (.code yX6_depthsOf cX6_depthsOf 5 (some .int)) [(37, 23)] rfl) rfl rfl rfl (nm_61 hX.2.2.1) h10w (by decide +kernel) ⟨Nat.le_of_ble_eq_true rfl, Nat.le_of_ble_eq_true rfl⟩, h13w, h14w⟩ (cy_preV (EZ_ok k) hZ hS hX hP hD hA [20, 21, 22, 23, 24, 25, 26, 27, 28, 29, 2, 3, 4, 5, 6, 7, 8, 9, 10, 11] rfl rfl (ci := 5) (q0 := 20) rfl rfl) rfl rfl hl.1 rfl (lv_room (Nat.le_of_ble_eq_true rfl)) dX9_reach_95 ⟨Nat.le_of_ble_eq_true rfl, Nat.le_of_ble_eq_true rfl⟩) hP hD hS hA [20, 21, 22, 23, 24, 25, 26, 27, 28, 29, 2, 3, 4, 5, 6, 7, 8, 9, 10, 11] [0, 1, 12, 13, 14, 15, 16, 17, 18, 19] rfl rfl (by decide) (by decide) (fun r u H locs hp hP hD hS => ?_)
        obtain ⟨c23, rfl⟩ : ∃ z, z = u := ⟨_, rfl⟩
        obtain ⟨hP, hD⟩ : va_P G vwCl ((wT k arT (tpT) (paT) (arP 99) (pdT) (arB 99) (pkT) (arS 99) fiT faT) ++ ((wB k arB fiB faB) ++ ((wS k arS (arP 99) (uF (uF (uF (uF (uF fiS 1 (c15)) 2 (c16)) 6 (c17)) 11 (c18)) 12 (c19)) (uF (uF (uF (uF (uF (uF (uF (uF (uF faS 3 (c6)) 4 (c7)) 5 (c8)) 7 (c9)) 8 (c10)) 9 (c11)) 10 (c12)) 13 (c13)) 14 (c14))) ++ (wP k arP fiP (uF (uF faP 13 (c20)) 22 (c21)))))) H ∧ va_D A ((wT k arT (tpT) (paT) (arP 99) (pdT) (arB 99) (pkT) (arS 99) fiT faT) ++ ((wB k arB fiB faB) ++ ((wS k arS (arP 99) (uF (uF (uF (uF (uF fiS 1 (c15)) 2 (c16)) 6 (c17)) 11 (c18)) 12 (c19)) (uF (uF (uF (uF (uF (uF (uF (uF (uF faS 3 (c6)) 4 (c7)) 5 (c8)) 7 (c9)) 8 (c10)) 9 (c11)) 10 (c12)) 13 (c13)) 14 (c14))) ++ (wP k arP fiP (uF (uF faP 13 (c20)) 22 (c21)))))) := ⟨hP, hD⟩
        obtain ⟨hP, hD⟩ : va_P G vwCl ((wT k arT (tpT) (paT) (arP 99) (pdT) (arB 99) (pkT) (arS 99) fiT faT) ++ ((wP k arP fiP (uF (uF faP 13 (c20)) 22 (c21))) ++ ((wB k arB fiB faB) ++ (wS k arS (arP 99) (uF (uF (uF (uF (uF fiS 1 (c15)) 2 (c16)) 6 (c17)) 11 (c18)) 12 (c19)) (uF (uF (uF (uF (uF (uF (uF (uF (uF faS 3 (c6)) 4 (c7)) 5 (c8)) 7 (c9)) 8 (c10)) 9 (c11)) 10 (c12)) 13 (c13)) 14 (c14)))))) H ∧ va_D A ((wT k arT (tpT) (paT) (arP 99) (pdT) (arB 99) (pkT) (arS 99) fiT faT) ++ ((wP k arP fiP (uF (uF faP 13 (c20)) 22 (c21))) ++ ((wB k arB fiB faB) ++ (wS k arS (arP 99) (uF (uF (uF (uF (uF fiS 1 (c15)) 2 (c16)) 6 (c17)) 11 (c18)) 12 (c19)) (uF (uF (uF (uF (uF (uF (uF (uF (uF faS 3 (c6)) 4 (c7)) 5 (c8)) 7 (c9)) 8 (c10)) 9 (c11)) 10 (c12)) 13 (c13)) 14 (c14)))))) := re_ord hP hD [0, 1, 20, 21, 22, 23, 24, 25, 26, 27, 28, 29, 2, 3, 4, 5, 6, 7, 8, 9, 10, 11, 12, 13, 14, 15, 16, 17, 18, 19] (by decide) rfl
        obtain ⟨h9, rc23, hp23⟩ : r = Int32.ofInt c23 ∧ (inR c23) ∧ (True) := hp
        subst h9
        refine lv_goto (tgt := 103) hx hb dX9_reach_98 (by decide) ?_
        exact W.iret (v := Int32.ofInt (c23)) hx hb hr (fun t ht hW => ⟨⟨Int32.ofInt (c23), (c23, c20, c21, c6, c7, c8, c9, c10, c11, c12, c13, c14, c15, c16, c17, c18, c19, arP 99), rfl, ⟨rfl, (show (inR c23) ∧ (∀ t, inR (c20 t)) ∧ (∀ t, inR (c21 t)) ∧ (∀ t, inR (c6 t)) ∧ (∀ t, inR (c7 t)) ∧ (∀ t, inR (c8 t)) ∧ (bnd c8 1500 (-1) 1500) ∧ (∀ t, inR (c9 t)) ∧ (bnd c9 1024 (-1) 1500) ∧ (∀ t, inR (c10 t)) ∧ (bnd c10 1500 (-1) 1500) ∧ (∀ t, inR (c11 t)) ∧ (bnd c11 1500 0 1500) ∧ (∀ t, inR (c12 t)) ∧ (bnd c12 1500 0 1500) ∧ (∀ t, inR (c13 t)) ∧ (∀ t, inR (c14 t)) ∧ (inR c15) ∧ (inR c16) ∧ (inR c17) ∧ (inR c18) ∧ (inR c19) ∧ (0 ≤ c17 ∧ c17 ≤ 1500 ∧ (0 < c17 → (arP 99) = arP 99)) from ⟨(by omega), rc20, rc21, rc6, rc7, rc8, bc8, rc9, bc9, rc10, bc10, rc11, bc11, rc12, bc12, rc13, rc14, (by omega), (by omega), (by omega), (by omega), (by omega), (by omega)⟩)⟩, by rw [ht]; exact hP, hD⟩, hS.F ht⟩) hS.2.2 dX9_reach_103
    · refine lv_aload_n hx hb dX9_reach_39 rfl (lv_at hl 0 rfl) ?_
      refine va_get (D := G) (ci := 6) (v := .ref (arP 99)) (C := RX9) (T := TX9) (N := 11) (ref := RX9) hx hb hts h1w hown hX.1 hP 0 rfl rfl 4 (by decide) h0w (fun _ h9 => h9) rfl dX9_reach_40 ?_
      refine lv_aload_n hx hb dX9_reach_43 rfl (lv_at hl 0 rfl) ?_
      refine va_get (D := G) (ci := 6) (v := .ref (arB 99)) (C := RX9) (T := TX9) (N := 11) (ref := RX9) hx hb hts h1w hown hX.1 hP 0 rfl rfl 6 (by decide) h5w (fun _ h9 => h9) rfl dX9_reach_44 ?_
      refine va_getN (D := G) (ci := 0) (v := .int (Int32.ofInt (fiB 0))) (C := RX1) (T := TX1) (N := 12) (ref := RX1) (host := RX9) hx hb hts h6w hown hX.1 hP 12 rfl rfl 0 (by decide) (nf_37 hX.2.2.1) (fun _ h9 => h9) rfl dX9_reach_47 ?_
      have rf0B := hRB 0
      refine lv_iload_n hx hb dX9_reach_50 rfl (lv_at hl 1 rfl) ?_
      refine cz_i (wr := ((wT k arT (tpT) (paT) (arP 99) (pdT) (arB 99) (pkT) (arS 99) fiT faT) ++ ((wB k arB fiB faB) ++ (wS k arS (plS) fiS faS)))) (va_runVN (As := [.int (Int32.ofInt (fiB 0)), .int (Int32.ofInt (t0))]) (rest := []) ⟨hx, hb, hml, hown, hts⟩ (mX3_thingDepth l G k arP fiP faP (fiB 0) t0 H.size hRP hRaP hB8P hB20P hB21P (hRB 0) (by omega) (show 0 ≤ (fiP 0) ∧ (fiP 0) ≤ 11 from by omega)) ⟨va_cnB 2 hts (gz [] (.code yX3_thingDepth cX3_thingDepth 4 (some .int)) [(23, 10)] rfl) rfl rfl rfl (nm_39 hX.2.2.1) h2w (by decide +kernel) ⟨Nat.le_of_ble_eq_true rfl, Nat.le_of_ble_eq_true rfl⟩, h15w, h16w⟩ (cy_preV (EZ_ok k) hZ hS hX hP hD hA [2, 3, 4, 5, 6, 7, 8, 9, 10, 11] rfl rfl (ci := 2) (q0 := 2) rfl rfl) rfl rfl hl.1 rfl (lv_room (Nat.le_of_ble_eq_true rfl)) dX9_reach_51 ⟨Nat.le_of_ble_eq_true rfl, Nat.le_of_ble_eq_true rfl⟩) hP hD hS hA [2, 3, 4, 5, 6, 7, 8, 9, 10, 11] [0, 1, 12, 13, 14, 15, 16, 17, 18, 19, 20, 21, 22, 23, 24, 25, 26, 27, 28, 29] rfl rfl (by decide) (by decide) (fun r u H locs hp hP hD hS => ?_)
      obtain ⟨c24, rfl⟩ : ∃ z, z = u := ⟨_, rfl⟩
      obtain ⟨hP, hD⟩ : va_P G vwCl ((wT k arT (tpT) (paT) (arP 99) (pdT) (arB 99) (pkT) (arS 99) fiT faT) ++ ((wB k arB fiB faB) ++ ((wS k arS (plS) fiS faS) ++ (wP k arP fiP faP)))) H ∧ va_D A ((wT k arT (tpT) (paT) (arP 99) (pdT) (arB 99) (pkT) (arS 99) fiT faT) ++ ((wB k arB fiB faB) ++ ((wS k arS (plS) fiS faS) ++ (wP k arP fiP faP)))) := ⟨hP, hD⟩
      obtain ⟨hP, hD⟩ : va_P G vwCl ((wT k arT (tpT) (paT) (arP 99) (pdT) (arB 99) (pkT) (arS 99) fiT faT) ++ ((wP k arP fiP faP) ++ ((wB k arB fiB faB) ++ (wS k arS (plS) fiS faS)))) H ∧ va_D A ((wT k arT (tpT) (paT) (arP 99) (pdT) (arB 99) (pkT) (arS 99) fiT faT) ++ ((wP k arP fiP faP) ++ ((wB k arB fiB faB) ++ (wS k arS (plS) fiS faS)))) := re_ord hP hD [0, 1, 20, 21, 22, 23, 24, 25, 26, 27, 28, 29, 2, 3, 4, 5, 6, 7, 8, 9, 10, 11, 12, 13, 14, 15, 16, 17, 18, 19] (by decide) rfl
      obtain ⟨h9, rc24, hp24⟩ : r = Int32.ofInt c24 ∧ (inR c24) ∧ (c24 = thD (nb (fiB 0) t0) (dp (fiB 0)) ((fiP 0)) ∧ -15 ≤ c24 ∧ c24 ≤ 15) := hp
      subst h9
      have hTd51 := hp24.1
      refine lv_istore_n (lv' := [(2, .int (Int32.ofInt (c24))), (0, .ref (arT 99)), (1, .int (Int32.ofInt (t0)))]) hx hb dX9_reach_54 rfl hl (by decide) rfl (fun ls hl => ?_)
      refine lv_iload_n hx hb dX9_reach_55 rfl (lv_at hl 0 rfl) ?_
      refine lv_iconst (v := Int32.ofInt (-1)) hx hb dX9_reach_56 (by decide +kernel) ?_
      refine iv_icmp_ne (tgt := 64) hx hb (by omega) (by omega) dX9_reach_57 (by decide) (fun q25 => ?_) (fun q25 => ?_)
      · refine lv_iconst (v := Int32.ofInt 1) hx hb dX9_reach_64 (by decide +kernel) ?_
        refine lv_iload_n hx hb dX9_reach_65 rfl (lv_at hl 0 rfl) ?_
        refine iv_shl hx hb dX9_reach_66 ?_
        refine iv_top (fun z26 ez26 => ?_)
        have rz26 : inR z26 := ez26 ▸ bShl_r _ _
        exact W.iret (v := Int32.ofInt (z26)) hx hb hr (fun t ht hW => ⟨⟨Int32.ofInt (z26), (z26, faP 13, faP 22, faS 3, faS 4, faS 5, faS 7, faS 8, faS 9, faS 10, faS 13, faS 14, fiS 1, fiS 2, fiS 6, fiS 11, fiS 12, plS), rfl, ⟨rfl, (show (inR z26) ∧ (∀ t, inR ((faP 13) t)) ∧ (∀ t, inR ((faP 22) t)) ∧ (∀ t, inR ((faS 3) t)) ∧ (∀ t, inR ((faS 4) t)) ∧ (∀ t, inR ((faS 5) t)) ∧ (bnd (faS 5) 1500 (-1) 1500) ∧ (∀ t, inR ((faS 7) t)) ∧ (bnd (faS 7) 1024 (-1) 1500) ∧ (∀ t, inR ((faS 8) t)) ∧ (bnd (faS 8) 1500 (-1) 1500) ∧ (∀ t, inR ((faS 9) t)) ∧ (bnd (faS 9) 1500 0 1500) ∧ (∀ t, inR ((faS 10) t)) ∧ (bnd (faS 10) 1500 0 1500) ∧ (∀ t, inR ((faS 13) t)) ∧ (∀ t, inR ((faS 14) t)) ∧ (inR (fiS 1)) ∧ (inR (fiS 2)) ∧ (inR (fiS 6)) ∧ (inR (fiS 11)) ∧ (inR (fiS 12)) ∧ (0 ≤ (fiS 6) ∧ (fiS 6) ≤ 1500 ∧ (0 < (fiS 6) → plS = arP 99)) from ⟨(by omega), (hRaP 13), (hRaP 22), (hRaS 3), (hRaS 4), (hRaS 5), hB5S, (hRaS 7), hB7S, (hRaS 8), hB8S, (hRaS 9), hB9S, (hRaS 10), hB10S, (hRaS 13), (hRaS 14), (hRS 1), (hRS 2), (hRS 6), (hRS 11), (hRS 12), (by omega)⟩)⟩, by rw [ht]; exact hP, hD⟩, hS.F ht⟩) hS.2.2 dX9_reach_67
      · refine lv_iconst (v := Int32.ofInt 0) hx hb dX9_reach_60 (by decide +kernel) ?_
        refine lv_goto (tgt := 67) hx hb dX9_reach_61 (by decide) ?_
        exact W.iret (v := Int32.ofInt (0)) hx hb hr (fun t ht hW => ⟨⟨Int32.ofInt (0), (0, faP 13, faP 22, faS 3, faS 4, faS 5, faS 7, faS 8, faS 9, faS 10, faS 13, faS 14, fiS 1, fiS 2, fiS 6, fiS 11, fiS 12, plS), rfl, ⟨rfl, (show (inR 0) ∧ (∀ t, inR ((faP 13) t)) ∧ (∀ t, inR ((faP 22) t)) ∧ (∀ t, inR ((faS 3) t)) ∧ (∀ t, inR ((faS 4) t)) ∧ (∀ t, inR ((faS 5) t)) ∧ (bnd (faS 5) 1500 (-1) 1500) ∧ (∀ t, inR ((faS 7) t)) ∧ (bnd (faS 7) 1024 (-1) 1500) ∧ (∀ t, inR ((faS 8) t)) ∧ (bnd (faS 8) 1500 (-1) 1500) ∧ (∀ t, inR ((faS 9) t)) ∧ (bnd (faS 9) 1500 0 1500) ∧ (∀ t, inR ((faS 10) t)) ∧ (bnd (faS 10) 1500 0 1500) ∧ (∀ t, inR ((faS 13) t)) ∧ (∀ t, inR ((faS 14) t)) ∧ (inR (fiS 1)) ∧ (inR (fiS 2)) ∧ (inR (fiS 6)) ∧ (inR (fiS 11)) ∧ (inR (fiS 12)) ∧ (0 ≤ (fiS 6) ∧ (fiS 6) ≤ 1500 ∧ (0 < (fiS 6) → plS = arP 99)) from ⟨(by omega), (hRaP 13), (hRaP 22), (hRaS 3), (hRaS 4), (hRaS 5), hB5S, (hRaS 7), hB7S, (hRaS 8), hB8S, (hRaS 9), hB9S, (hRaS 10), hB10S, (hRaS 13), (hRaS 14), (hRS 1), (hRS 2), (hRS 6), (hRS 11), (hRS 12), (by omega)⟩)⟩, by rw [ht]; exact hP, hD⟩, hS.F ht⟩) hS.2.2 dX9_reach_67
  · exfalso; omega

set_option maxHeartbeats 4000000 in
set_option maxRecDepth 100000 in
theorem mX9_isSpared (l : Launch) (G : va_G) (k : Nat → ClassId) (ar : Nat → Nat) (tp : Nat) (pa : Nat) (pp : Nat) (pd : Nat) (pb : Nat) (pk : Nat) (ps : Nat) (fi : Nat → Int) (fa : Nat → Int → Int) (s0 : Int) (k0 : Int) (sz : Nat) (hR : ∀ j, inR (fi j)) (hRa : ∀ j t, inR (fa j t)) (hr_s0 : inR s0) (hr_k0 : inR k0) (hk : 0 ≤ k0 ∧ k0 ≤ 128) : CNi l G k (EZ k) yX9_isSpared wzX9_isSpared ({ frames := 0, cells := 0, slots := 0, locals := 0 }) [.ref (ar 99), .int (Int32.ofInt (s0)), .int (Int32.ofInt (k0))] sz (wT k ar (tp) (pa) (pp) (pd) (pb) (pk) (ps) fi fa) (fun (r0 : Int32) (u : Int) => r0 = Int32.ofInt (u) ∧ (inR u) ∧ ((u = 0 ∨ u = 1))) (fun (u : Int) => (wT k ar (tp) (pa) (pp) (pd) (pb) (pk) (ps) fi fa)) := by
  refine Met.ofW (cc := cX9_isSpared) (maxL := 4) (ret := (some .boolean)) (by decide) rfl ?_
  intro p e s m args below meth c s₁ B hml hv
  obtain ⟨rfl, hsz, hP, hX, hD0, hZ0⟩ := hv
  have hx := B.exec
  have hb := B.bytes
  have hr := B.returns
  have hts := atoms_spec (ws := wzX9_isSpared) B.pre
  have hown : s.vm.findClass RX9 = some m.cls := findClass_of_methodNamed B.named
  subst hsz
  have hD := hD0.self (sz := s.heap.size)
  have hZ := hZ0
  generalize hAe : va_A (wT k ar (tp) (pa) (pp) (pd) (pb) (pk) (ps) fi fa) s.heap.size = A at hD hZ ⊢
  have hA : ∀ q : Nat, s.heap.size ≤ q → A q := fun q h => by rw [← hAe]; exact Or.inr h
  have hS : va_S A s.heap s.heap [] := va_S.rf
  have hl := lv_entry ([.ref (ar 99), .int (Int32.ofInt (s0)), .int (Int32.ofInt (k0))]) (n := 4) (Nat.le_of_ble_eq_true rfl)
  rw [lg_entry_eq]
  generalize (lg_sl ([.ref (ar 99), .int (Int32.ofInt (s0)), .int (Int32.ofInt (k0))]) ++ List.replicate (4 - (lg_sl ([.ref (ar 99), .int (Int32.ofInt (s0)), .int (Int32.ofInt (k0))])).length) Slot.unset).toArray = ls at hl ⊢
  have hl : lv_has ls 4 [(0, .ref (ar 99)), (1, .int (Int32.ofInt (s0))), (2, .int (Int32.ofInt (k0)))] := hl
  obtain ⟨H, eH⟩ : ∃ H, H = s.heap := ⟨_, rfl⟩
  rw [← eH] at hP
  have hS : va_S A s.heap H [] := by rw [eH]; exact hS
  have gW : s.heap = H := eH.symm
  refine iv_heap gW ?_
  have h0w := hts (.fieldLink RX9 60 "RopeTown" "ways" "[I") (wz_at 1 13 rfl)
  have h1w : ∀ w ∈ wsX90, w ∈ wzX9_isSpared := fun w h => List.mem_cons_of_mem _ (inlX9 w h)
  refine lv_iconst (v := Int32.ofInt 0) hx hb dX9_isSpared_0 (by decide +kernel) ?_
  refine lv_istore_n (lv' := [(3, .int (Int32.ofInt (0))), (0, .ref (ar 99)), (1, .int (Int32.ofInt (s0))), (2, .int (Int32.ofInt (k0)))]) hx hb dX9_isSpared_1 rfl hl (by decide) rfl (fun ls hl => ?_)
  refine iv_loop (α := Int) (nL := 4) (fun b9 => (wT k ar (tp) (pa) (pp) (pd) (pb) (pk) (ps) fi fa)) (fun b9 => [(3, .int (Int32.ofInt (b9))), (0, .ref (ar 99)), (1, .int (Int32.ofInt (s0))), (2, .int (Int32.ofInt (k0)))]) (fun b9 => (k0 - b9).toNat) (fun b9 => inR b9 ∧ (0 ≤ b9)) ?_ (0) (show inR 0 ∧ (0 ≤ 0) from ⟨(by omega), (by omega)⟩) hP hD hS hl
  intro x3_1 ih hi9 H locs ls hP hD hS hl
  obtain ⟨r_x3_1, hinv⟩ : inR x3_1 ∧ (0 ≤ x3_1) := hi9
  obtain ⟨hP, hD⟩ : va_P G vwCl (wT k ar (tp) (pa) (pp) (pd) (pb) (pk) (ps) fi fa) H ∧ va_D A (wT k ar (tp) (pa) (pp) (pd) (pb) (pk) (ps) fi fa) := ⟨hP, hD⟩
  have hl : lv_has ls 4 [(3, .int (Int32.ofInt (x3_1))), (0, .ref (ar 99)), (1, .int (Int32.ofInt (s0))), (2, .int (Int32.ofInt (k0)))] := hl
  refine lv_iload_n hx hb dX9_isSpared_2 rfl (lv_at hl 0 rfl) ?_
  refine lv_iload_n hx hb dX9_isSpared_3 rfl (lv_at hl 3 rfl) ?_
  refine iv_icmp_ge (tgt := 26) hx hb (by omega) (by omega) dX9_isSpared_4 (by decide) (fun q2 => ?_) (fun q2 => ?_)
  · refine lv_iconst (v := Int32.ofInt 0) hx hb dX9_isSpared_26 (by decide +kernel) ?_
    exact W.zret (v := Int32.ofInt (0)) hx hb hr (nz_bool (by omega)) (fun t ht hW => ⟨⟨Int32.ofInt (0), (0), rfl, ⟨rfl, (show (inR 0) ∧ ((0 = 0 ∨ 0 = 1)) from ⟨(by omega), (by omega)⟩)⟩, by rw [ht]; exact hP, hD⟩, hS.F ht⟩) hS.2.2 dX9_isSpared_27
  · refine lv_aload_n hx hb dX9_isSpared_7 rfl (lv_at hl 1 rfl) ?_
    refine va_get (D := G) (ci := 6) (v := .ref (ar 10)) (C := RX9) (T := TX9) (N := 11) (ref := RX9) hx hb hts h1w hown hX.1 hP 0 rfl rfl 10 (by decide) h0w (fun _ h9 => h9) rfl dX9_isSpared_8 ?_
    refine lv_iload_n hx hb dX9_isSpared_11 rfl (lv_at hl 0 rfl) ?_
    refine iv_iald hx hb hX.1 hP 1 0 rfl rfl (by omega) (by omega) (by decide) dX9_isSpared_12 ?_
    refine iv_top (fun z3 ez3 => ?_)
    have rz3 : inR z3 := ez3 ▸ (hRa 10) _
    have ez3 : z3 = (fa 10) x3_1 := ez3
    refine lv_iload_n hx hb dX9_isSpared_13 rfl (lv_at hl 2 rfl) ?_
    refine iv_and hx hb dX9_isSpared_14 ?_
    refine iv_top (fun z4 ez4 => ?_)
    have rz4 : inR z4 := ez4 ▸ bAnd_r _ _
    refine iv_if_ne (tgt := 20) hx hb (by omega) dX9_isSpared_15 (by decide) (fun q5 => ?_) (fun q5 => ?_)
    · refine lv_iinc (v := Int32.ofInt (x3_1 + 1)) (lv' := [(3, .int (Int32.ofInt ((x3_1 + 1)))), (0, .ref (ar 99)), (1, .int (Int32.ofInt (s0))), (2, .int (Int32.ofInt (k0)))]) hx hb dX9_isSpared_20 hl (k := 0) rfl (Int32.ofInt_add _ _).symm (by decide) rfl (fun ls hl => ?_)
      refine lv_goto (tgt := 2) hx hb dX9_isSpared_23 (by decide) ?_
      have hl : lv_has ls 4 [(3, .int (Int32.ofInt ((x3_1 + 1)))), (0, .ref (ar 99)), (1, .int (Int32.ofInt (s0))), (2, .int (Int32.ofInt (k0)))] := lv_sub hl [0, 1, 2, 3] rfl
      exact ih ((x3_1 + 1)) (show (k0 - (x3_1 + 1)).toNat < (k0 - x3_1).toNat from by omega) (show inR (x3_1 + 1) ∧ (0 ≤ (x3_1 + 1)) from ⟨(by omega), (by omega)⟩) _ _ _ hP hD hS hl
    · refine lv_iconst (v := Int32.ofInt 1) hx hb dX9_isSpared_18 (by decide +kernel) ?_
      exact W.zret (v := Int32.ofInt (1)) hx hb hr (nz_bool (by omega)) (fun t ht hW => ⟨⟨Int32.ofInt (1), (1), rfl, ⟨rfl, (show (inR 1) ∧ ((1 = 0 ∨ 1 = 1)) from ⟨(by omega), (by omega)⟩)⟩, by rw [ht]; exact hP, hD⟩, hS.F ht⟩) hS.2.2 dX9_isSpared_19

