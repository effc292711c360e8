set_option maxHeartbeats 4000000 in
set_option maxRecDepth 100000 in
theorem mX9_unload (l : Launch) (G : va_G) (k : Nat → ClassId) (arT : Nat → Nat) (tpT : Nat) (paT : Nat) (pdT : Nat) (pkT : Nat) (psT : Nat) (fiT : Nat → Int) (faT : Nat → Int → Int) (arP : Nat → Nat) (fiP : Nat → Int) (faP : Nat → Int → Int) (arB : Nat → Nat) (fiB : Nat → Int) (faB : Nat → Int → Int) (t0 : Int) (sz : Nat) (hRT : ∀ j, inR (fiT j)) (hRaT : ∀ j t, inR (faT j t)) (hRP : ∀ j, inR (fiP j)) (hRaP : ∀ j t, inR (faP j t)) (hB8P : bnd (faP 8) 7 0 4) (hB20P : bnd (faP 20) 600 (-1000) 10000) (hB21P : bnd (faP 21) 4 0 601) (hRB : ∀ j, inR (fiB j)) (hRaB : ∀ j t, inR (faB j t)) (hr_t0 : inR t0) (hpi : 0 ≤ fiP 7 ∧ fiP 7 ≤ 7 ∧ 0 ≤ fiP 0 ∧ fiP 0 ≤ 11 ∧ 0 ≤ fiP 24 ∧ fiP 24 ≤ 4 ∧ 0 ≤ fiP 23 ∧ fiP 23 ≤ 600) (hbi : 0 ≤ fiB 1 ∧ fiB 1 ≤ 60 ∧ 0 ≤ fiB 4 ∧ fiB 4 ≤ 6) : CNi l G k (EZ k) yX9_unload wzX9_unload ({ frames := 3, cells := 0, slots := 0, locals := 66 }) [.ref (arT 99), .int (Int32.ofInt (t0))] sz ((wT k arT (tpT) (paT) (arP 99) (pdT) (arB 99) (pkT) (psT) fiT faT) ++ ((wP k arP fiP faP) ++ (wB k arB fiB faB))) (fun (r0 : Int32) (u : Int × (Int → Int) × (Int → Int) × (Int → Int) × (Int → Int) × (Int → Int) × (Int → Int) × Int × Int × Int × Int) => r0 = Int32.ofInt (u.1) ∧ (inR u.1) ∧ (∀ t, inR (u.2.1 t)) ∧ (∀ t, inR (u.2.2.1 t)) ∧ (∀ t, inR (u.2.2.2.1 t)) ∧ (∀ t, inR (u.2.2.2.2.1 t)) ∧ (∀ t, inR (u.2.2.2.2.2.1 t)) ∧ (∀ t, inR (u.2.2.2.2.2.2.1 t)) ∧ (inR u.2.2.2.2.2.2.2.1) ∧ (inR u.2.2.2.2.2.2.2.2.1) ∧ (inR u.2.2.2.2.2.2.2.2.2.1) ∧ (inR u.2.2.2.2.2.2.2.2.2.2) ∧ ((0 ≤ u.2.2.2.2.2.2.2.2.1 ∧ u.2.2.2.2.2.2.2.2.1 ≤ 60 ∧ 0 ≤ (fiB 4) ∧ (fiB 4) ≤ 6) ∧ NtM u.1 (fiB 1) u.2.2.2.2.2.2.2.2.1 (fiB 0) u.2.2.2.2.2.2.2.1 1 t0 0 (putS (fiB 0) t0 (plO (nb (fiB 0) t0) (faP 8 t0) (faP 11 t0) (dp (fiB 0)) (fiP 0))) (faB 5) u.2.1 (faB 6) u.2.2.1 (faB 7) u.2.2.2.1 (faB 8) u.2.2.2.2.1 ∧ u.1 = jdg (unC (fiP 7) t0 (nb (fiB 0) t0)) (fiB 1))) (fun (u : Int × (Int → Int) × (Int → Int) × (Int → Int) × (Int → Int) × (Int → Int) × (Int → Int) × Int × Int × Int × Int) => ((wT k arT (tpT) (paT) (arP 99) (pdT) (arB 99) (pkT) (psT) fiT faT) ++ ((wP k arP fiP faP) ++ (wB k arB (uF (uF (uF (uF fiB 0 (u.2.2.2.2.2.2.2.1)) 1 (u.2.2.2.2.2.2.2.2.1)) 2 (u.2.2.2.2.2.2.2.2.2.1)) 3 (u.2.2.2.2.2.2.2.2.2.2)) (uF (uF (uF (uF (uF (uF faB 5 (u.2.1)) 6 (u.2.2.1)) 7 (u.2.2.2.1)) 8 (u.2.2.2.2.1)) 9 (u.2.2.2.2.2.1)) 11 (u.2.2.2.2.2.2.1)))))) := by
  refine Met.ofW (cc := cX9_unload) (maxL := 4) (ret := (some .int)) (by decide) rfl ?_
  intro p e s m args below meth c s₁ B hml hv
  obtain ⟨rfl, hsz, hP, hX, hD0, hZ0⟩ := hv
  have hx := B.exec
  have hb := B.bytes
  have hr := B.returns
  have hts := atoms_spec (ws := wzX9_unload) B.pre
  have hown : s.vm.findClass RX9 = some m.cls := findClass_of_methodNamed B.named
  subst hsz
  have hD := hD0.self (sz := s.heap.size)
  have hZ := hZ0
  generalize hAe : va_A ((wT k arT (tpT) (paT) (arP 99) (pdT) (arB 99) (pkT) (psT) fiT faT) ++ ((wP k arP fiP faP) ++ (wB k arB fiB faB))) s.heap.size = A at hD hZ ⊢
  have hA : ∀ q : Nat, s.heap.size ≤ q → A q := fun q h => by rw [← hAe]; exact Or.inr h
  have hS : va_S A s.heap s.heap [] := va_S.rf
  have hl := lv_entry ([.ref (arT 99), .int (Int32.ofInt (t0))]) (n := 4) (Nat.le_of_ble_eq_true rfl)
  rw [lg_entry_eq]
  generalize (lg_sl ([.ref (arT 99), .int (Int32.ofInt (t0))]) ++ List.replicate (4 - (lg_sl ([.ref (arT 99), .int (Int32.ofInt (t0))])).length) Slot.unset).toArray = ls at hl ⊢
  have hl : lv_has ls 4 [(0, .ref (arT 99)), (1, .int (Int32.ofInt (t0)))] := hl
  obtain ⟨H, eH⟩ : ∃ H, H = s.heap := ⟨_, rfl⟩
  rw [← eH] at hP
  have hS : va_S A s.heap H [] := by rw [eH]; exact hS
  have gW : s.heap = H := eH.symm
  refine iv_heap gW ?_
  have h0w := hts (.fieldLink RX9 23 "RopeTown" "plan" "LRopeTown$Plan;") (wz_at 0 20 rfl)
  have h1w : ∀ w ∈ wsX90, w ∈ wzX9_unload := fun w h => List.mem_cons_of_mem _ (inlX9 w h)
  have h2w := hts (.fieldLink RX9 42 "RopeTown" "book" "LRopeTown$Book;") (wz_at 1 5 rfl)
  have h3w : ∀ w ∈ wsX10, w ∈ wzX9_unload := fun w h => List.mem_cons_of_mem _ (inlX1 w h)
  have h4w := hts (.initialized RX3) (wz_at 0 19 rfl)
  have h5w := hts (.instanceMethod yX3_unloadTrouble) (wz_at 28 8 rfl)
  have h6w := hts (.selects RX3 yX3_unloadTrouble yX3_unloadTrouble) (wz_at 28 9 rfl)
  have h7w := hts (.instanceMethod yX3_placeOutside) (wz_at 28 11 rfl)
  have h8w := hts (.selects RX3 yX3_placeOutside yX3_placeOutside) (wz_at 28 12 rfl)
  have h9w := hts (.initialized RX7) (wz_at 5 10 rfl)
  have h10w := hts (.static yX7_put) (wz_at 5 13 rfl)
  have h11w := hts (.initialized RX1) (wz_at 1 4 rfl)
  have h12w := hts (.instanceMethod yX1_note) (wz_at 27 13 rfl)
  have h13w := hts (.selects RX1 yX1_note yX1_note) (wz_at 27 14 rfl)
  refine lv_aload_n hx hb dX9_unload_0 rfl (lv_at hl 0 rfl) ?_
  refine lv_aload_n hx hb dX9_unload_1 rfl (lv_at hl 0 rfl) ?_
  refine va_get (D := G) (ci := 6) (v := .ref (arP 99)) (C := RX9) (T := TX9) (N := 11) (ref := RX9) hx hb hts h1w hown hX.1 hP 0 rfl rfl 4 (by decide) h0w (fun _ h9 => h9) rfl dX9_unload_2 ?_
  refine lv_aload_n hx hb dX9_unload_5 rfl (lv_at hl 0 rfl) ?_
  refine va_get (D := G) (ci := 6) (v := .ref (arB 99)) (C := RX9) (T := TX9) (N := 11) (ref := RX9) hx hb hts h1w hown hX.1 hP 0 rfl rfl 6 (by decide) h2w (fun _ h9 => h9) rfl dX9_unload_6 ?_
  refine va_getN (D := G) (ci := 0) (v := .int (Int32.ofInt (fiB 0))) (C := RX1) (T := TX1) (N := 12) (ref := RX1) (host := RX9) hx hb hts h3w hown hX.1 hP 12 rfl rfl 0 (by decide) (nf_37 hX.2.2.1) (fun _ h9 => h9) rfl dX9_unload_9 ?_
  have rf0B := hRB 0
  refine lv_iload_n hx hb dX9_unload_12 rfl (lv_at hl 1 rfl) ?_
  refine cz_i (wr := ((wT k arT (tpT) (paT) (arP 99) (pdT) (arB 99) (pkT) (psT) fiT faT) ++ (wB k arB fiB faB))) (va_runVN (As := [.int (Int32.ofInt (fiB 0)), .int (Int32.ofInt (t0))]) (rest := [.ref (arT 99)]) ⟨hx, hb, hml, hown, hts⟩ (mX3_unloadTrouble l G k arP fiP faP (fiB 0) t0 H.size hRP hRaP hB8P hB20P hB21P (hRB 0) (by omega) (show 0 ≤ (fiP 7) ∧ (fiP 7) ≤ 7 from by omega)) ⟨va_cnB 2 hts (gz [] (.code yX3_unloadTrouble cX3_unloadTrouble 3 (some .int)) [(28, 10)] rfl) rfl rfl rfl (nm_16 hX.2.2.1) h4w (by decide +kernel) ⟨Nat.le_of_ble_eq_true rfl, Nat.le_of_ble_eq_true rfl⟩, h5w, h6w⟩ (cy_preV (EZ_ok k) hZ hS hX hP hD hA [2, 3, 4, 5, 6, 7, 8, 9, 10, 11] rfl rfl (ci := 2) (q0 := 2) rfl rfl) rfl rfl hl.1 rfl (lv_room (Nat.le_of_ble_eq_true rfl)) dX9_unload_13 ⟨Nat.le_of_ble_eq_true rfl, Nat.le_of_ble_eq_true rfl⟩) hP hD hS hA [2, 3, 4, 5, 6, 7, 8, 9, 10, 11] [0, 1, 12, 13, 14, 15, 16, 17, 18, 19] rfl rfl (by decide) (by decide) (fun r u H locs hp hP hD hS => ?_)
  obtain ⟨c1, rfl⟩ : ∃ z, z = u := ⟨_, rfl⟩
  obtain ⟨hP, hD⟩ : va_P G vwCl ((wT k arT (tpT) (paT) (arP 99) (pdT) (arB 99) (pkT) (psT) fiT faT) ++ ((wB k arB fiB faB) ++ (wP k arP fiP faP))) H ∧ va_D A ((wT k arT (tpT) (paT) (arP 99) (pdT) (arB 99) (pkT) (psT) fiT faT) ++ ((wB k arB fiB faB) ++ (wP k arP fiP faP))) := ⟨hP, hD⟩
  obtain ⟨hP, hD⟩ : va_P G vwCl ((wT k arT (tpT) (paT) (arP 99) (pdT) (arB 99) (pkT) (psT) fiT faT) ++ ((wP k arP fiP faP) ++ (wB k arB fiB faB))) H ∧ va_D A ((wT k arT (tpT) (paT) (arP 99) (pdT) (arB 99) (pkT) (psT) fiT faT) ++ ((wP k arP fiP faP) ++ (wB k arB fiB faB))) := re_ord hP hD [0, 1, 10, 11, 12, 13, 14, 15, 16, 17, 18, 19, 2, 3, 4, 5, 6, 7, 8, 9] (by decide) rfl
  obtain ⟨h9, rc1, hp1⟩ : r = Int32.ofInt c1 ∧ (inR c1) ∧ (((0 ≤ c1 ∧ c1 ≤ 2) ∧ (c1 = 0 → 0 ≤ t0 ∧ t0 < 7)) ∧ c1 = unC ((fiP 7)) t0 (nb (fiB 0) t0)) := hp
  subst h9
  obtain ⟨hp1, hUc⟩ := hp1
  refine cz_i (wr := (wP k arP fiP faP)) (va_runV (As := [.int (Int32.ofInt (c1))]) (rest := []) ⟨hx, hb, hml, hown, hts⟩ (mX9_judged l G k arT tpT paT (arP 99) pdT pkT psT fiT faT arB fiB faB c1 H.size hRT hRaT hRB hRaB (by omega) (show 0 ≤ (fiB 1) ∧ (fiB 1) ≤ 60 ∧ 0 ≤ (fiB 4) ∧ (fiB 4) ≤ 6 from by omega)) (cwV 1 hts (gz [.methodLink RX9 197 yX9_judged, .instanceMethod yX9_judged, .selects RX9 yX9_judged yX9_judged, .initialized RX9] (.code yX9_judged cX9_judged 3 (some .int)) [(27, 9), (27, 10), (27, 11), (0, 2), (27, 12)] rfl) rfl rfl rfl (by decide +kernel) ⟨Nat.le_of_ble_eq_true rfl, Nat.le_of_ble_eq_true rfl⟩) (cy_preV (EZ_ok k) hZ hS hX hP hD hA [0, 1, 12, 13, 14, 15, 16, 17, 18, 19] rfl rfl (ci := 6) (q0 := 0) rfl rfl) rfl rfl hl.1 rfl (lv_room (Nat.le_of_ble_eq_true rfl)) dX9_unload_16 ⟨Nat.le_of_ble_eq_true rfl, Nat.le_of_ble_eq_true rfl⟩) hP hD hS hA [0, 1, 12, 13, 14, 15, 16, 17, 18, 19] [2, 3, 4, 5, 6, 7, 8, 9, 10, 11] rfl rfl (by decide) (by decide) (fun r u H locs hp hP hD hS => ?_)
  obtain ⟨c2, c3⟩ := u
  obtain ⟨hP, hD⟩ : va_P G vwCl ((wP k arP fiP faP) ++ ((wT k arT (tpT) (paT) (arP 99) (pdT) (arB 99) (pkT) (psT) fiT faT) ++ (wB k arB fiB (uF faB 11 (c3))))) H ∧ va_D A ((wP k arP fiP faP) ++ ((wT k arT (tpT) (paT) (arP 99) (pdT) (arB 99) (pkT) (psT) fiT faT) ++ (wB k arB fiB (uF faB 11 (c3))))) := ⟨hP, hD⟩
  obtain ⟨hP, hD⟩ : va_P G vwCl ((wT k arT (tpT) (paT) (arP 99) (pdT) (arB 99) (pkT) (psT) fiT faT) ++ ((wP k arP fiP faP) ++ (wB k arB fiB (uF faB 11 (c3))))) H ∧ va_D A ((wT k arT (tpT) (paT) (arP 99) (pdT) (arB 99) (pkT) (psT) fiT faT) ++ ((wP k arP fiP faP) ++ (wB k arB fiB (uF faB 11 (c3))))) := re_ord hP hD [10, 11, 0, 1, 2, 3, 4, 5, 6, 7, 8, 9, 12, 13, 14, 15, 16, 17, 18, 19] (by decide) rfl
  obtain ⟨h9, rc2, rc3, hp3⟩ : r = Int32.ofInt c2 ∧ (inR c2) ∧ (∀ t, inR (c3 t)) ∧ (((c2 = 0 → c1 = 0) ∧ 0 ≤ ((fiB 1)) ∧ ((fiB 1)) ≤ 60 ∧ 0 ≤ ((fiB 4)) ∧ ((fiB 4)) ≤ 6) ∧ c2 = jdg c1 ((fiB 1))) := hp
  subst h9
  obtain ⟨hp3, hJd⟩ := hp3
  refine lv_istore_n (lv' := [(2, .int (Int32.ofInt (c2))), (0, .ref (arT 99)), (1, .int (Int32.ofInt (t0)))]) hx hb dX9_unload_19 rfl hl (by decide) rfl (fun ls hl => ?_)
  refine lv_iload_n hx hb dX9_unload_20 rfl (lv_at hl 0 rfl) ?_
  refine iv_if_ne (tgt := 63) hx hb (by omega) dX9_unload_21 (by decide) (fun q4 => ?_) (fun q4 => ?_)
  · refine lv_iload_n hx hb dX9_unload_63 rfl (lv_at hl 0 rfl) ?_
    exact W.iret (v := Int32.ofInt (c2)) hx hb hr (fun t ht hW => ⟨⟨Int32.ofInt (c2), (c2, faB 5, faB 6, faB 7, faB 8, faB 9, c3, fiB 0, fiB 1, fiB 2, fiB 3), rfl, ⟨rfl, (show (inR c2) ∧ (∀ t, inR ((faB 5) t)) ∧ (∀ t, inR ((faB 6) t)) ∧ (∀ t, inR ((faB 7) t)) ∧ (∀ t, inR ((faB 8) t)) ∧ (∀ t, inR ((faB 9) t)) ∧ (∀ t, inR (c3 t)) ∧ (inR (fiB 0)) ∧ (inR (fiB 1)) ∧ (inR (fiB 2)) ∧ (inR (fiB 3)) ∧ ((0 ≤ (fiB 1) ∧ (fiB 1) ≤ 60 ∧ 0 ≤ (fiB 4) ∧ (fiB 4) ≤ 6) ∧ NtM c2 (fiB 1) (fiB 1) (fiB 0) (fiB 0) 1 t0 0 (putS (fiB 0) t0 (plO (nb (fiB 0) t0) (faP 8 t0) (faP 11 t0) (dp (fiB 0)) (fiP 0))) (faB 5) (faB 5) (faB 6) (faB 6) (faB 7) (faB 7) (faB 8) (faB 8) ∧ c2 = jdg (unC (fiP 7) t0 (nb (fiB 0) t0)) (fiB 1)) from ⟨(by omega), (hRaB 5), (hRaB 6), (hRaB 7), (hRaB 8), (hRaB 9), rc3, (hRB 0), (hRB 1), (hRB 2), (hRB 3), (by first | exact ⟨by omega, ntm_no (by omega), by rw [← hUc]; exact hJd⟩ | exact ⟨by omega, ntm_ok (by omega) hJd hNp (put_e hPu57 hPo36), by rw [← hUc]; exact hJd⟩)⟩)⟩, by rw [ht]; exact hP, hD⟩, hS.F ht⟩) hS.2.2 dX9_unload_64
  · refine lv_aload_n hx hb dX9_unload_24 rfl (lv_at hl 1 rfl) ?_
    refine va_get (D := G) (ci := 6) (v := .ref (arP 99)) (C := RX9) (T := TX9) (N := 11) (ref := RX9) hx hb hts h1w hown hX.1 hP 0 rfl rfl 4 (by decide) h0w (fun _ h9 => h9) rfl dX9_unload_25 ?_
    refine lv_aload_n hx hb dX9_unload_28 rfl (lv_at hl 1 rfl) ?_
    refine va_get (D := G) (ci := 6) (v := .ref (arB 99)) (C := RX9) (T := TX9) (N := 11) (ref := RX9) hx hb hts h1w hown hX.1 hP 0 rfl rfl 6 (by decide) h2w (fun _ h9 => h9) rfl dX9_unload_29 ?_
    refine va_getN (D := G) (ci := 0) (v := .int (Int32.ofInt (fiB 0))) (C := RX1) (T := TX1) (N := 12) (ref := RX1) (host := RX9) hx hb hts h3w hown hX.1 hP 12 rfl rfl 0 (by decide) (nf_37 hX.2.2.1) (fun _ h9 => h9) rfl dX9_unload_32 ?_
    have rf0B := hRB 0
    refine lv_iload_n hx hb dX9_unload_35 rfl (lv_at hl 2 rfl) ?_
    refine cz_i (wr := ((wT k arT (tpT) (paT) (arP 99) (pdT) (arB 99) (pkT) (psT) fiT faT) ++ (wB k arB fiB (uF faB 11 (c3))))) (va_runVN (As := [.int (Int32.ofInt (fiB 0)), .int (Int32.ofInt (t0))]) (rest := []) ⟨hx, hb, hml, hown, hts⟩ (mX3_placeOutside l G k arP fiP faP (fiB 0) t0 H.size hRP hRaP hB8P hB20P hB21P (hRB 0) (by omega) (show 0 ≤ t0 ∧ t0 < 7 from by omega) (show 0 ≤ (fiP 0) ∧ (fiP 0) ≤ 11 from by omega)) ⟨va_cnB 2 hts (gz [] (.code yX3_placeOutside cX3_placeOutside 5 (some .int)) [(28, 13)] rfl) rfl rfl rfl (nm_18 hX.2.2.1) h4w (by decide +kernel) ⟨Nat.le_of_ble_eq_true rfl, Nat.le_of_ble_eq_true rfl⟩, h7w, h8w⟩ (cy_preV (EZ_ok k) hZ hS hX hP hD hA [2, 3, 4, 5, 6, 7, 8, 9, 10, 11] rfl rfl (ci := 2) (q0 := 2) rfl rfl) rfl rfl hl.1 rfl (lv_room (Nat.le_of_ble_eq_true rfl)) dX9_unload_36 ⟨Nat.le_of_ble_eq_true rfl, Nat.le_of_ble_eq_true rfl⟩) hP hD hS hA [2, 3, 4, 5, 6, 7, 8, 9, 10, 11] [0, 1, 12, 13, 14, 15, 16, 17, 18, 19] rfl rfl (by decide) (by decide) (fun r u H locs hp hP hD hS => ?_)
    obtain ⟨c5, rfl⟩ : ∃ z, z = u := ⟨_, rfl⟩
    obtain ⟨hP, hD⟩ : va_P G vwCl ((wT k arT (tpT) (paT) (arP 99) (pdT) (arB 99) (pkT) (psT) fiT faT) ++ ((wB k arB fiB (uF faB 11 (c3))) ++ (wP k arP fiP faP))) H ∧ va_D A ((wT k arT (tpT) (paT) (arP 99) (pdT) (arB 99) (pkT) (psT) fiT faT) ++ ((wB k arB fiB (uF faB 11 (c3))) ++ (wP k arP fiP faP))) := ⟨hP, hD⟩
    obtain ⟨hP, hD⟩ : va_P G vwCl ((wT k arT (tpT) (paT) (arP 99) (pdT) (arB 99) (pkT) (psT) fiT faT) ++ ((wP k arP fiP faP) ++ (wB k arB fiB (uF faB 11 (c3))))) H ∧ va_D A ((wT k arT (tpT) (paT) (arP 99) (pdT) (arB 99) (pkT) (psT) fiT faT) ++ ((wP k arP fiP faP) ++ (wB k arB fiB (uF faB 11 (c3))))) := re_ord hP hD [0, 1, 10, 11, 12, 13, 14, 15, 16, 17, 18, 19, 2, 3, 4, 5, 6, 7, 8, 9] (by decide) rfl
    obtain ⟨h9, rc5, hp5⟩ : r = Int32.ofInt c5 ∧ (inR c5) ∧ (c5 = plO (nb (fiB 0) t0) ((faP 8) t0) ((faP 11) t0) (dp (fiB 0)) ((fiP 0)) ∧ -15 ≤ c5 ∧ c5 ≤ 15) := hp
    subst h9
    have hPo36 := hp5.1
    refine lv_istore_n (lv' := [(3, .int (Int32.ofInt (c5))), (2, .int (Int32.ofInt (c2))), (0, .ref (arT 99)), (1, .int (Int32.ofInt (t0)))]) hx hb dX9_unload_39 rfl hl (by decide) rfl (fun ls hl => ?_)
    refine lv_aload_n hx hb dX9_unload_40 rfl (lv_at hl 2 rfl) ?_
    refine va_get (D := G) (ci := 6) (v := .ref (arB 99)) (C := RX9) (T := TX9) (N := 11) (ref := RX9) hx hb hts h1w hown hX.1 hP 0 rfl rfl 6 (by decide) h2w (fun _ h9 => h9) rfl dX9_unload_41 ?_
    refine lv_iconst (v := Int32.ofInt 1) hx hb dX9_unload_44 (by decide +kernel) ?_
    refine lv_iload_n hx hb dX9_unload_45 rfl (lv_at hl 3 rfl) ?_
    refine lv_iconst (v := Int32.ofInt 0) hx hb dX9_unload_46 (by decide +kernel) ?_
    refine lv_iconst (v := Int32.ofInt 0) hx hb dX9_unload_47 (by decide +kernel) ?_
    refine lv_aload_n hx hb dX9_unload_48 rfl (lv_at hl 2 rfl) ?_
    refine va_get (D := G) (ci := 6) (v := .ref (arB 99)) (C := RX9) (T := TX9) (N := 11) (ref := RX9) hx hb hts h1w hown hX.1 hP 0 rfl rfl 6 (by decide) h2w (fun _ h9 => h9) rfl dX9_unload_49 ?_
    refine va_getN (D := G) (ci := 0) (v := .int (Int32.ofInt (fiB 0))) (C := RX1) (T := TX1) (N := 12) (ref := RX1) (host := RX9) hx hb hts h3w hown hX.1 hP 12 rfl rfl 0 (by decide) (nf_37 hX.2.2.1) (fun _ h9 => h9) rfl dX9_unload_52 ?_
    have rf0B := hRB 0
    refine lv_iload_n hx hb dX9_unload_55 rfl (lv_at hl 3 rfl) ?_
    refine lv_iload_n hx hb dX9_unload_56 rfl (lv_at hl 0 rfl) ?_
    refine c0_i (va_runSN (As := [.int (Int32.ofInt (fiB 0)), .int (Int32.ofInt (t0)), .int (Int32.ofInt (c5))]) (rest := [.int (Int32.ofInt (0)), .int (Int32.ofInt (0)), .int (Int32.ofInt (t0)), .int (Int32.ofInt (1)), .ref (arB 99)]) ⟨hx, hb, hml, hown, hts⟩ (mX7_put l G k (fiB 0) t0 c5 H.size (hRB 0) (by omega) (by omega)) ⟨va_cnB 3 hts (gz [] (.code yX7_put cX7_put 3 (some .int)) [(5, 14)] rfl) rfl rfl rfl (nm_14 hX.2.2.1) h9w (by decide +kernel) ⟨Nat.le_of_ble_eq_true rfl, Nat.le_of_ble_eq_true rfl⟩, h10w, trivial⟩ (cr_pre0 (EZ_ok k) hZ hS hX hP hD hA) rfl rfl hl.1 rfl (lv_room (Nat.le_of_ble_eq_true rfl)) dX9_unload_57 ⟨Nat.le_of_ble_eq_true rfl, Nat.le_of_ble_eq_true rfl⟩) hP hD hS hA (fun r u H locs hp hP hD hS => ?_)
    obtain ⟨c6, rfl⟩ : ∃ z, z = u := ⟨_, rfl⟩
    obtain ⟨h9, rc6, hp6⟩ : r = Int32.ofInt c6 ∧ (inR c6) ∧ (c6 = putS (fiB 0) t0 c5) := hp
    subst h9
    have hPu57 := hp6
    refine cz_v (wr := ((wT k arT (tpT) (paT) (arP 99) (pdT) (arB 99) (pkT) (psT) fiT faT) ++ (wP k arP fiP faP))) (va_runVN (As := [.int (Int32.ofInt (1)), .int (Int32.ofInt (t0)), .int (Int32.ofInt (0)), .int (Int32.ofInt (0)), .int (Int32.ofInt (c6))]) (rest := []) ⟨hx, hb, hml, hown, hts⟩ (mX1_note l G k arB fiB (uF faB 11 (c3)) 1 t0 0 0 c6 H.size hRB (iG hRaB rc3) (by omega) (by omega) (by omega) (by omega) (by omega) (show 0 ≤ (fiB 1) ∧ (fiB 1) ≤ 60 from by omega)) ⟨va_cnB 5 hts (gz [] (.code yX1_note cX1_note 6 none) [(27, 15)] rfl) rfl rfl rfl (nm_15 hX.2.2.1) h11w (by decide +kernel) ⟨Nat.le_of_ble_eq_true rfl, Nat.le_of_ble_eq_true rfl⟩, h12w, h13w⟩ (cy_preV (EZ_ok k) hZ hS hX hP hD hA [12, 13, 14, 15, 16, 17, 18, 19] rfl rfl (ci := 0) (q0 := 12) rfl rfl) rfl rfl hl.1 rfl (lv_room (Nat.le_of_ble_eq_true rfl)) dX9_unload_60 ⟨Nat.le_of_ble_eq_true rfl, Nat.le_of_ble_eq_true rfl⟩) hP hD hS hA [12, 13, 14, 15, 16, 17, 18, 19] [0, 1, 2, 3, 4, 5, 6, 7, 8, 9, 10, 11] rfl rfl (by decide) (by decide) (fun u H locs hp hP hD hS => ?_)
    obtain ⟨c7, c8, c9, c10, c11, c12, c13, c14, c15⟩ := u
    obtain ⟨hP, hD⟩ : va_P G vwCl ((wT k arT (tpT) (paT) (arP 99) (pdT) (arB 99) (pkT) (psT) fiT faT) ++ ((wP k arP fiP faP) ++ (wB k arB (uF (uF (uF (uF fiB 0 (c12)) 1 (c13)) 2 (c14)) 3 (c15)) (uF (uF (uF (uF (uF (uF faB 5 (c7)) 6 (c8)) 7 (c9)) 8 (c10)) 9 (c11)) 11 (c3))))) H ∧ va_D A ((wT k arT (tpT) (paT) (arP 99) (pdT) (arB 99) (pkT) (psT) fiT faT) ++ ((wP k arP fiP faP) ++ (wB k arB (uF (uF (uF (uF fiB 0 (c12)) 1 (c13)) 2 (c14)) 3 (c15)) (uF (uF (uF (uF (uF (uF faB 5 (c7)) 6 (c8)) 7 (c9)) 8 (c10)) 9 (c11)) 11 (c3))))) := ⟨hP, hD⟩
    obtain ⟨rc7, rc8, rc9, rc10, rc11, rc12, rc13, rc14, rc15, hp15⟩ : (∀ t, inR (c7 t)) ∧ (∀ t, inR (c8 t)) ∧ (∀ t, inR (c9 t)) ∧ (∀ t, inR (c10 t)) ∧ (∀ t, inR (c11 t)) ∧ (inR c12) ∧ (inR c13) ∧ (inR c14) ∧ (inR c15) ∧ ((0 ≤ c13 ∧ c13 ≤ 60) ∧ NtP ((fiB 1)) c13 ((fiB 0)) c12 1 t0 0 c6 ((faB 5)) c7 ((faB 6)) c8 ((faB 7)) c9 ((faB 8)) c10) := hp
    obtain ⟨hp15, hNp⟩ := hp15
    refine lv_iload_n hx hb dX9_unload_63 rfl (lv_at hl 1 rfl) ?_
    exact W.iret (v := Int32.ofInt (c2)) hx hb hr (fun t ht hW => ⟨⟨Int32.ofInt (c2), (c2, c7, c8, c9, c10, c11, c3, c12, c13, c14, c15), rfl, ⟨rfl, (show (inR c2) ∧ (∀ t, inR (c7 t)) ∧ (∀ t, inR (c8 t)) ∧ (∀ t, inR (c9 t)) ∧ (∀ t, inR (c10 t)) ∧ (∀ t, inR (c11 t)) ∧ (∀ t, inR (c3 t)) ∧ (inR c12) ∧ (inR c13) ∧ (inR c14) ∧ (inR c15) ∧ ((0 ≤ c13 ∧ c13 ≤ 60 ∧ 0 ≤ (fiB 4) ∧ (fiB 4) ≤ 6) ∧ NtM c2 (fiB 1) c13 (fiB 0) c12 1 t0 0 (putS (fiB 0) t0 (plO (nb (fiB 0) t0) (faP 8 t0) (faP 11 t0) (dp (fiB 0)) (fiP 0))) (faB 5) c7 (faB 6) c8 (faB 7) c9 (faB 8) c10 ∧ c2 = jdg (unC (fiP 7) t0 (nb (fiB 0) t0)) (fiB 1)) from ⟨(by omega), rc7, rc8, rc9, rc10, rc11, rc3, (by omega), (by omega), (by omega), (by omega), (by first | exact ⟨by omega, ntm_no (by omega), by rw [← hUc]; exact hJd⟩ | exact ⟨by omega, ntm_ok (by omega) hJd hNp (put_e hPu57 hPo36), by rw [← hUc]; exact hJd⟩)⟩)⟩, by rw [ht]; exact hP, hD⟩, hS.F ht⟩) hS.2.2 dX9_unload_64

set_option maxHeartbeats 4000000 in
set_option maxRecDepth 100000 in
theorem mX9_ride (l : Launch) (G : va_G) (k : Nat → ClassId) (arT : Nat → Nat) (tpT : Nat) (paT : Nat) (pdT : Nat) (pkT : Nat) (psT : Nat) (fiT : Nat → Int) (faT : Nat → Int → Int) (arP : Nat → Nat) (fiP : Nat → Int) (faP : Nat → Int → Int) (arB : Nat → Nat) (fiB : Nat → Int) (faB : Nat → Int → Int) (d0 : Int) (h0 : Int) (sz : Nat) (hRT : ∀ j, inR (fiT j)) (hRaT : ∀ j t, inR (faT j t)) (hRP : ∀ j, inR (fiP j)) (hRaP : ∀ j t, inR (faP j t)) (hB8P : bnd (faP 8) 7 0 4) (hB20P : bnd (faP 20) 600 (-1000) 10000) (hB21P : bnd (faP 21) 4 0 601) (hRB : ∀ j, inR (fiB j)) (hRaB : ∀ j t, inR (faB j t)) (hr_d0 : inR d0) (hr_h0 : inR h0) (hpi : 0 ≤ fiP 7 ∧ fiP 7 ≤ 7 ∧ 0 ≤ fiP 0 ∧ fiP 0 ≤ 11 ∧ 0 ≤ fiP 24 ∧ fiP 24 ≤ 4 ∧ 0 ≤ fiP 23 ∧ fiP 23 ≤ 600) (hbi : 0 ≤ fiB 1 ∧ fiB 1 ≤ 60 ∧ 0 ≤ fiB 4 ∧ fiB 4 ≤ 6) (hRC : ∀ q9, 0 ≤ q9 → q9 < fiP 24 → RWf (dcf (faP 20)) (stq (faP 21) q9) (faP 21 q9)) : CNi l G k (EZ k) yX9_ride wzX9_ride ({ frames := 4, cells := 0, slots := 0, locals := 96 }) [.ref (arT 99), .int (Int32.ofInt (d0)), .int (Int32.ofInt (h0))] sz ((wT k arT (tpT) (paT) (arP 99) (pdT) (arB 99) (pkT) (psT) fiT faT) ++ ((wP k arP fiP faP) ++ (wB k arB fiB faB))) (fun (r0 : Int32) (u : Int × (Int → Int) × (Int → Int) × (Int → Int) × (Int → Int) × (Int → Int) × (Int → Int) × (Int → Int) × (Int → Int) × Int × Int × Int × Int) => r0 = Int32.ofInt (u.1) ∧ (inR u.1) ∧ (∀ t, inR (u.2.1 t)) ∧ (∀ t, inR (u.2.2.1 t)) ∧ (∀ t, inR (u.2.2.2.1 t)) ∧ (∀ t, inR (u.2.2.2.2.1 t)) ∧ (∀ t, inR (u.2.2.2.2.2.1 t)) ∧ (∀ t, inR (u.2.2.2.2.2.2.1 t)) ∧ (∀ t, inR (u.2.2.2.2.2.2.2.1 t)) ∧ (∀ t, inR (u.2.2.2.2.2.2.2.2.1 t)) ∧ (inR u.2.2.2.2.2.2.2.2.2.1) ∧ (inR u.2.2.2.2.2.2.2.2.2.2.1) ∧ (inR u.2.2.2.2.2.2.2.2.2.2.2.1) ∧ (inR u.2.2.2.2.2.2.2.2.2.2.2.2) ∧ ((0 ≤ u.2.2.2.2.2.2.2.2.2.2.1 ∧ u.2.2.2.2.2.2.2.2.2.2.1 ≤ 60 ∧ 0 ≤ (fiB 4) ∧ (fiB 4) ≤ 6) ∧ NtM u.1 (fiB 1) u.2.2.2.2.2.2.2.2.2.2.1 (fiB 0) u.2.2.2.2.2.2.2.2.2.1 2 d0 h0 (mvS (fiB 0) d0) (faB 5) u.2.2.2.1 (faB 6) u.2.2.2.2.1 (faB 7) u.2.2.2.2.2.1 (faB 8) u.2.2.2.2.2.2.1 ∧ ∃ r0, RtC r0 (fiP 0) (dp (fiB 0)) (gs (lc (nb (fiB 0)) (faP 9) 0) (fiP 7)) (gs (lc (nb (fiB 0)) (faP 9) 1) (fiP 7)) (fiP 2) (bkI (fun q => evR (dcf (faP 20)) (vls (nb (fiB 0)) (faP 8) (faP 9) 0 (fiP 7) (fiP 0) (dp (fiB 0))) (stq (faP 21) q) (faP 21 q)) (fiP 24) ∧ bkI (fun q => evR (dcf (faP 20)) (vls (nb (fiB 0)) (faP 8) (faP 9) 1 (fiP 7) (fiP 0) (dp (fiB 0))) (stq (faP 21) q) (faP 21 q)) (fiP 24)) (fiP 3) (fiP 4) (fiP 5) (fiP 6) d0 h0 ∧ u.1 = jdg r0 (fiB 1))) (fun (u : Int × (Int → Int) × (Int → Int) × (Int → Int) × (Int → Int) × (Int → Int) × (Int → Int) × (Int → Int) × (Int → Int) × Int × Int × Int × Int) => ((wT k arT (tpT) (paT) (arP 99) (pdT) (arB 99) (pkT) (psT) fiT faT) ++ ((wP k arP fiP (uF (uF faP 13 (u.2.1)) 22 (u.2.2.1))) ++ (wB k arB (uF (uF (uF (uF fiB 0 (u.2.2.2.2.2.2.2.2.2.1)) 1 (u.2.2.2.2.2.2.2.2.2.2.1)) 2 (u.2.2.2.2.2.2.2.2.2.2.2.1)) 3 (u.2.2.2.2.2.2.2.2.2.2.2.2)) (uF (uF (uF (uF (uF (uF faB 5 (u.2.2.2.1)) 6 (u.2.2.2.2.1)) 7 (u.2.2.2.2.2.1)) 8 (u.2.2.2.2.2.2.1)) 9 (u.2.2.2.2.2.2.2.1)) 11 (u.2.2.2.2.2.2.2.2.1)))))) := by
  refine Met.ofW (cc := cX9_ride) (maxL := 5) (ret := (some .int)) (by decide) rfl ?_
  intro p e s m args below meth c s₁ B hml hv
  obtain ⟨rfl, hsz, hP, hX, hD0, hZ0⟩ := hv
  have hx := B.exec
  have hb := B.bytes
  have hr := B.returns
  have hts := atoms_spec (ws := wzX9_ride) B.pre
  have hown : s.vm.findClass RX9 = some m.cls := findClass_of_methodNamed B.named
  subst hsz
  have hD := hD0.self (sz := s.heap.size)
  have hZ := hZ0
  generalize hAe : va_A ((wT k arT (tpT) (paT) (arP 99) (pdT) (arB 99) (pkT) (psT) fiT faT) ++ ((wP k arP fiP faP) ++ (wB k arB fiB faB))) s.heap.size = A at hD hZ ⊢
  have hA : ∀ q : Nat, s.heap.size ≤ q → A q := fun q h => by rw [← hAe]; exact Or.inr h
  have hS : va_S A s.heap s.heap [] := va_S.rf
  have hl := lv_entry ([.ref (arT 99), .int (Int32.ofInt (d0)), .int (Int32.ofInt (h0))]) (n := 5) (Nat.le_of_ble_eq_true rfl)
  rw [lg_entry_eq]
  generalize (lg_sl ([.ref (arT 99), .int (Int32.ofInt (d0)), .int (Int32.ofInt (h0))]) ++ List.replicate (5 - (lg_sl ([.ref (arT 99), .int (Int32.ofInt (d0)), .int (Int32.ofInt (h0))])).length) Slot.unset).toArray = ls at hl ⊢
  have hl : lv_has ls 5 [(0, .ref (arT 99)), (1, .int (Int32.ofInt (d0))), (2, .int (Int32.ofInt (h0)))] := hl
  obtain ⟨H, eH⟩ : ∃ H, H = s.heap := ⟨_, rfl⟩
  rw [← eH] at hP
  have hS : va_S A s.heap H [] := by rw [eH]; exact hS
  have gW : s.heap = H := eH.symm
  refine iv_heap gW ?_
  have h0w := hts (.fieldLink RX9 23 "RopeTown" "plan" "LRopeTown$Plan;") (wz_at 0 20 rfl)
  have h1w : ∀ w ∈ wsX90, w ∈ wzX9_ride := fun w h => List.mem_cons_of_mem _ (inlX9 w h)
  have h2w := hts (.fieldLink RX9 42 "RopeTown" "book" "LRopeTown$Book;") (wz_at 1 5 rfl)
  have h3w : ∀ w ∈ wsX10, w ∈ wzX9_ride := fun w h => List.mem_cons_of_mem _ (inlX1 w h)
  have h4w := hts (.initialized RX3) (wz_at 0 19 rfl)
  have h5w := hts (.instanceMethod yX3_rideTrouble) (wz_at 29 2 rfl)
  have h6w := hts (.selects RX3 yX3_rideTrouble yX3_rideTrouble) (wz_at 29 3 rfl)
  have h7w := hts (.initialized RX7) (wz_at 5 10 rfl)
  have h8w := hts (.static yX7_move) (wz_at 5 9 rfl)
  have h9w := hts (.initialized RX1) (wz_at 1 4 rfl)
  have h10w := hts (.instanceMethod yX1_note) (wz_at 27 13 rfl)
  have h11w := hts (.selects RX1 yX1_note yX1_note) (wz_at 27 14 rfl)
  have h12w := hts (.instanceMethod yX3_windingTo) (wz_at 29 19 rfl)
  have h13w := hts (.selects RX3 yX3_windingTo yX3_windingTo) (wz_at 29 20 rfl)
  refine lv_aload_n hx hb dX9_ride_0 rfl (lv_at hl 0 rfl) ?_
  refine lv_aload_n hx hb dX9_ride_1 rfl (lv_at hl 0 rfl) ?_
  refine va_get (D := G) (ci := 6) (v := .ref (arP 99)) (C := RX9) (T := TX9) (N := 11) (ref := RX9) hx hb hts h1w hown hX.1 hP 0 rfl rfl 4 (by decide) h0w (fun _ h9 => h9) rfl dX9_ride_2 ?_
  refine lv_aload_n hx hb dX9_ride_5 rfl (lv_at hl 0 rfl) ?_
  refine va_get (D := G) (ci := 6) (v := .ref (arB 99)) (C := RX9) (T := TX9) (N := 11) (ref := RX9) hx hb hts h1w hown hX.1 hP 0 rfl rfl 6 (by decide) h2w (fun _ h9 => h9) rfl dX9_ride_6 ?_
  refine va_getN (D := G) (ci := 0) (v := .int (Int32.ofInt (fiB 0))) (C := RX1) (T := TX1) (N := 12) (ref := RX1) (host := RX9) hx hb hts h3w hown hX.1 hP 12 rfl rfl 0 (by decide) (nf_37 hX.2.2.1) (fun _ h9 => h9) rfl dX9_ride_9 ?_
  have rf0B := hRB 0
  refine lv_iload_n hx hb dX9_ride_12 rfl (lv_at hl 1 rfl) ?_
  refine lv_iload_n hx hb dX9_ride_13 rfl (lv_at hl 2 rfl) ?_
  refine cz_i (wr := ((wT k arT (tpT) (paT) (arP 99) (pdT) (arB 99) (pkT) (psT) fiT faT) ++ (wB k arB fiB faB))) (va_runVN (As := [.int (Int32.ofInt (fiB 0)), .int (Int32.ofInt (d0)), .int (Int32.ofInt (h0))]) (rest := [.ref (arT 99)]) ⟨hx, hb, hml, hown, hts⟩ (mX3_rideTrouble l G k arP fiP faP (fiB 0) d0 h0 H.size hRP hRaP hB8P hB20P hB21P (hRB 0) (by omega) (by omega) (show 0 ≤ (fiP 7) ∧ (fiP 7) ≤ 7 from by omega) (show 0 ≤ (fiP 0) ∧ (fiP 0) ≤ 11 from by omega) (show 0 ≤ (fiP 24) ∧ (fiP 24) ≤ 4 from by omega) (show ∀ q9, 0 ≤ q9 → q9 < (fiP 24) → RWf (dcf ((faP 20))) (stq ((faP 21)) q9) ((faP 21) q9) from by first | exact hRC | omega)) ⟨va_cnB 3 hts (gz [] (.code yX3_rideTrouble cX3_rideTrouble 4 (some .int)) [(29, 4)] rfl) rfl rfl rfl (nm_19 hX.2.2.1) h4w (by decide +kernel) ⟨Nat.le_of_ble_eq_true rfl, Nat.le_of_ble_eq_true rfl⟩, h5w, h6w⟩ (cy_preV (EZ_ok k) hZ hS hX hP hD hA [2, 3, 4, 5, 6, 7, 8, 9, 10, 11] rfl rfl (ci := 2) (q0 := 2) rfl rfl) rfl rfl hl.1 rfl (lv_room (Nat.le_of_ble_eq_true rfl)) dX9_ride_14 ⟨Nat.le_of_ble_eq_true rfl, Nat.le_of_ble_eq_true rfl⟩) hP hD hS hA [2, 3, 4, 5, 6, 7, 8, 9, 10, 11] [0, 1, 12, 13, 14, 15, 16, 17, 18, 19] rfl rfl (by decide) (by decide) (fun r u H locs hp hP hD hS => ?_)
  obtain ⟨c1, c2, c3⟩ := u
  obtain ⟨hP, hD⟩ : va_P G vwCl ((wT k arT (tpT) (paT) (arP 99) (pdT) (arB 99) (pkT) (psT) fiT faT) ++ ((wB k arB fiB faB) ++ (wP k arP fiP (uF (uF faP 13 (c2)) 22 (c3))))) H ∧ va_D A ((wT k arT (tpT) (paT) (arP 99) (pdT) (arB 99) (pkT) (psT) fiT faT) ++ ((wB k arB fiB faB) ++ (wP k arP fiP (uF (uF faP 13 (c2)) 22 (c3))))) := ⟨hP, hD⟩
  obtain ⟨hP, hD⟩ : va_P G vwCl ((wT k arT (tpT) (paT) (arP 99) (pdT) (arB 99) (pkT) (psT) fiT faT) ++ ((wP k arP fiP (uF (uF faP 13 (c2)) 22 (c3))) ++ (wB k arB fiB faB))) H ∧ va_D A ((wT k arT (tpT) (paT) (arP 99) (pdT) (arB 99) (pkT) (psT) fiT faT) ++ ((wP k arP fiP (uF (uF faP 13 (c2)) 22 (c3))) ++ (wB k arB fiB faB))) := re_ord hP hD [0, 1, 10, 11, 12, 13, 14, 15, 16, 17, 18, 19, 2, 3, 4, 5, 6, 7, 8, 9] (by decide) rfl
  obtain ⟨h9, rc1, rc2, rc3, hp3⟩ : r = Int32.ofInt c1 ∧ (inR c1) ∧ (∀ t, inR (c2 t)) ∧ (∀ t, inR (c3 t)) ∧ ((0 ≤ c1 ∧ c1 ≤ 7 ∧ (c1 = 0 → 0 ≤ d0 ∧ d0 ≤ (fiP 0))) ∧ RtC c1 ((fiP 0)) (dp (fiB 0)) (gs (lc (nb (fiB 0)) ((faP 9)) 0) ((fiP 7))) (gs (lc (nb (fiB 0)) ((faP 9)) 1) ((fiP 7))) ((fiP 2)) (bkI (fun q => evR (dcf ((faP 20))) (vls (nb (fiB 0)) ((faP 8)) ((faP 9)) 0 ((fiP 7)) ((fiP 0)) (dp (fiB 0))) (stq ((faP 21)) q) ((faP 21) q)) ((fiP 24)) ∧ bkI (fun q => evR (dcf ((faP 20))) (vls (nb (fiB 0)) ((faP 8)) ((faP 9)) 1 ((fiP 7)) ((fiP 0)) (dp (fiB 0))) (stq ((faP 21)) q) ((faP 21) q)) ((fiP 24))) ((fiP 3)) ((fiP 4)) ((fiP 5)) ((fiP 6)) d0 h0) := hp
  subst h9
  obtain ⟨hp3, hRc14⟩ := hp3
  refine cz_i (wr := (wP k arP fiP (uF (uF faP 13 (c2)) 22 (c3)))) (va_runV (As := [.int (Int32.ofInt (c1))]) (rest := []) ⟨hx, hb, hml, hown, hts⟩ (mX9_judged l G k arT tpT paT (arP 99) pdT pkT psT fiT faT arB fiB faB c1 H.size hRT hRaT hRB hRaB (by omega) (show 0 ≤ (fiB 1) ∧ (fiB 1) ≤ 60 ∧ 0 ≤ (fiB 4) ∧ (fiB 4) ≤ 6 from by omega)) (cwV 1 hts (gz [.methodLink RX9 197 yX9_judged, .instanceMethod yX9_judged, .selects RX9 yX9_judged yX9_judged, .initialized RX9] (.code yX9_judged cX9_judged 3 (some .int)) [(27, 9), (27, 10), (27, 11), (0, 2), (27, 12)] rfl) rfl rfl rfl (by decide +kernel) ⟨Nat.le_of_ble_eq_true rfl, Nat.le_of_ble_eq_true rfl⟩) (cy_preV (EZ_ok k) hZ hS hX hP hD hA [0, 1, 12, 13, 14, 15, 16, 17, 18, 19] rfl rfl (ci := 6) (q0 := 0) rfl rfl) rfl rfl hl.1 rfl (lv_room (Nat.le_of_ble_eq_true rfl)) dX9_ride_17 ⟨Nat.le_of_ble_eq_true rfl, Nat.le_of_ble_eq_true rfl⟩) hP hD hS hA [0, 1, 12, 13, 14, 15, 16, 17, 18, 19] [2, 3, 4, 5, 6, 7, 8, 9, 10, 11] rfl rfl (by decide) (by decide) (fun r u H locs hp hP hD hS => ?_)
  obtain ⟨c4, c5⟩ := u
  obtain ⟨hP, hD⟩ : va_P G vwCl ((wP k arP fiP (uF (uF faP 13 (c2)) 22 (c3))) ++ ((wT k arT (tpT) (paT) (arP 99) (pdT) (arB 99) (pkT) (psT) fiT faT) ++ (wB k arB fiB (uF faB 11 (c5))))) H ∧ va_D A ((wP k arP fiP (uF (uF faP 13 (c2)) 22 (c3))) ++ ((wT k arT (tpT) (paT) (arP 99) (pdT) (arB 99) (pkT) (psT) fiT faT) ++ (wB k arB fiB (uF faB 11 (c5))))) := ⟨hP, hD⟩
  obtain ⟨hP, hD⟩ : va_P G vwCl ((wT k arT (tpT) (paT) (arP 99) (pdT) (arB 99) (pkT) (psT) fiT faT) ++ ((wP k arP fiP (uF (uF faP 13 (c2)) 22 (c3))) ++ (wB k arB fiB (uF faB 11 (c5))))) H ∧ va_D A ((wT k arT (tpT) (paT) (arP 99) (pdT) (arB 99) (pkT) (psT) fiT faT) ++ ((wP k arP fiP (uF (uF faP 13 (c2)) 22 (c3))) ++ (wB k arB fiB (uF faB 11 (c5))))) := re_ord hP hD [10, 11, 0, 1, 2, 3, 4, 5, 6, 7, 8, 9, 12, 13, 14, 15, 16, 17, 18, 19] (by decide) rfl
  obtain ⟨h9, rc4, rc5, hp5⟩ : r = Int32.ofInt c4 ∧ (inR c4) ∧ (∀ t, inR (c5 t)) ∧ (((c4 = 0 → c1 = 0) ∧ 0 ≤ ((fiB 1)) ∧ ((fiB 1)) ≤ 60 ∧ 0 ≤ ((fiB 4)) ∧ ((fiB 4)) ≤ 6) ∧ c4 = jdg c1 ((fiB 1))) := hp
  subst h9
  obtain ⟨hp5, hJd⟩ := hp5
  refine lv_istore_n (lv' := [(3, .int (Int32.ofInt (c4))), (0, .ref (arT 99)), (1, .int (Int32.ofInt (d0))), (2, .int (Int32.ofInt (h0)))]) hx hb dX9_ride_20 rfl hl (by decide) rfl (fun ls hl => ?_)
  refine lv_iload_n hx hb dX9_ride_21 rfl (lv_at hl 0 rfl) ?_
  refine iv_if_ne (tgt := 74) hx hb (by omega) dX9_ride_22 (by decide) (fun q6 => ?_) (fun q6 => ?_)
  · refine lv_iload_n hx hb dX9_ride_74 rfl (lv_at hl 0 rfl) ?_
    exact W.iret (v := Int32.ofInt (c4)) hx hb hr (fun t ht hW => ⟨⟨Int32.ofInt (c4), (c4, c2, c3, faB 5, faB 6, faB 7, faB 8, faB 9, c5, fiB 0, fiB 1, fiB 2, fiB 3), rfl, ⟨rfl, (show (inR c4) ∧ (∀ t, inR (c2 t)) ∧ (∀ t, inR (c3 t)) ∧ (∀ t, inR ((faB 5) t)) ∧ (∀ t, inR ((faB 6) t)) ∧ (∀ t, inR ((faB 7) t)) ∧ (∀ t, inR ((faB 8) t)) ∧ (∀ t, inR ((faB 9) t)) ∧ (∀ t, inR (c5 t)) ∧ (inR (fiB 0)) ∧ (inR (fiB 1)) ∧ (inR (fiB 2)) ∧ (inR (fiB 3)) ∧ ((0 ≤ (fiB 1) ∧ (fiB 1) ≤ 60 ∧ 0 ≤ (fiB 4) ∧ (fiB 4) ≤ 6) ∧ NtM c4 (fiB 1) (fiB 1) (fiB 0) (fiB 0) 2 d0 h0 (mvS (fiB 0) d0) (faB 5) (faB 5) (faB 6) (faB 6) (faB 7) (faB 7) (faB 8) (faB 8) ∧ ∃ r0, RtC r0 (fiP 0) (dp (fiB 0)) (gs (lc (nb (fiB 0)) (faP 9) 0) (fiP 7)) (gs (lc (nb (fiB 0)) (faP 9) 1) (fiP 7)) (fiP 2) (bkI (fun q => evR (dcf (faP 20)) (vls (nb (fiB 0)) (faP 8) (faP 9) 0 (fiP 7) (fiP 0) (dp (fiB 0))) (stq (faP 21) q) (faP 21 q)) (fiP 24) ∧ bkI (fun q => evR (dcf (faP 20)) (vls (nb (fiB 0)) (faP 8) (faP 9) 1 (fiP 7) (fiP 0) (dp (fiB 0))) (stq (faP 21) q) (faP 21 q)) (fiP 24)) (fiP 3) (fiP 4) (fiP 5) (fiP 6) d0 h0 ∧ c4 = jdg r0 (fiB 1)) from ⟨(by omega), rc2, rc3, (hRaB 5), (hRaB 6), (hRaB 7), (hRaB 8), (hRaB 9), rc5, (hRB 0), (hRB 1), (hRB 2), (hRB 3), (by first | exact ⟨by omega, ntm_no (by omega), _, hRc14, hJd⟩ | exact ⟨by omega, ntm_ok (by omega) hJd hNp hMv68, _, hRc14, hJd⟩)⟩)⟩, by rw [ht]; exact hP, hD⟩, hS.F ht⟩) hS.2.2 dX9_ride_75
  · refine lv_iload_n hx hb dX9_ride_25 rfl (lv_at hl 3 rfl) ?_
    refine lv_iconst (v := Int32.ofInt 2) hx hb dX9_ride_26 (by decide +kernel) ?_
    refine iv_icmp_ne (tgt := 48) hx hb (by omega) (by omega) dX9_ride_27 (by decide) (fun q7 => ?_) (fun q7 => ?_)
    · refine lv_iconst (v := Int32.ofInt 0) hx hb dX9_ride_48 (by decide +kernel) ?_
      refine lv_istore (lv' := [(4, .int (Int32.ofInt (0))), (3, .int (Int32.ofInt (c4))), (0, .ref (arT 99)), (1, .int (Int32.ofInt (d0))), (2, .int (Int32.ofInt (h0)))]) hx hb dX9_ride_49 hl (by decide) rfl (fun ls hl => ?_)
      refine lv_aload_n hx hb dX9_ride_51 rfl (lv_at hl 2 rfl) ?_
      refine va_get (D := G) (ci := 6) (v := .ref (arB 99)) (C := RX9) (T := TX9) (N := 11) (ref := RX9) hx hb hts h1w hown hX.1 hP 0 rfl rfl 6 (by decide) h2w (fun _ h9 => h9) rfl dX9_ride_52 ?_
      refine lv_iconst (v := Int32.ofInt 2) hx hb dX9_ride_55 (by decide +kernel) ?_
      refine lv_iload_n hx hb dX9_ride_56 rfl (lv_at hl 3 rfl) ?_
      refine lv_iload_n hx hb dX9_ride_57 rfl (lv_at hl 4 rfl) ?_
      refine lv_iload hx hb dX9_ride_58 (lv_at hl 0 rfl) ?_
      refine lv_aload_n hx hb dX9_ride_60 rfl (lv_at hl 2 rfl) ?_
      refine va_get (D := G) (ci := 6) (v := .ref (arB 99)) (C := RX9) (T := TX9) (N := 11) (ref := RX9) hx hb hts h1w hown hX.1 hP 0 rfl rfl 6 (by decide) h2w (fun _ h9 => h9) rfl dX9_ride_61 ?_
      refine va_getN (D := G) (ci := 0) (v := .int (Int32.ofInt (fiB 0))) (C := RX1) (T := TX1) (N := 12) (ref := RX1) (host := RX9) hx hb hts h3w hown hX.1 hP 12 rfl rfl 0 (by decide) (nf_37 hX.2.2.1) (fun _ h9 => h9) rfl dX9_ride_64 ?_
      have rf0B := hRB 0
      refine lv_iload_n hx hb dX9_ride_67 rfl (lv_at hl 3 rfl) ?_
      refine c0_i (va_runSN (As := [.int (Int32.ofInt (fiB 0)), .int (Int32.ofInt (d0))]) (rest := [.int (Int32.ofInt (0)), .int (Int32.ofInt (h0)), .int (Int32.ofInt (d0)), .int (Int32.ofInt (2)), .ref (arB 99)]) ⟨hx, hb, hml, hown, hts⟩ (mX7_move l G k (fiB 0) d0 H.size (hRB 0) (by omega)) ⟨va_cnB 2 hts (gz [] (.code yX7_move cX7_move 2 (some .int)) [(5, 11)] rfl) rfl rfl rfl (nm_22 hX.2.2.1) h7w (by decide +kernel) ⟨Nat.le_of_ble_eq_true rfl, Nat.le_of_ble_eq_true rfl⟩, h8w, trivial⟩ (cr_pre0 (EZ_ok k) hZ hS hX hP hD hA) rfl rfl hl.1 rfl (lv_room (Nat.le_of_ble_eq_true rfl)) dX9_ride_68 ⟨Nat.le_of_ble_eq_true rfl, Nat.le_of_ble_eq_true rfl⟩) hP hD hS hA (fun r u H locs hp hP hD hS => ?_)
      obtain ⟨c8, rfl⟩ : ∃ z, z = u := ⟨_, rfl⟩
      obtain ⟨h9, rc8, hp8⟩ : r = Int32.ofInt c8 ∧ (inR c8) ∧ (c8 = mvS (fiB 0) d0) := hp
      subst h9
      have hMv68 := hp8
      refine cz_v (wr := ((wT k arT (tpT) (paT) (arP 99) (pdT) (arB 99) (pkT) (psT) fiT faT) ++ (wP k arP fiP (uF (uF faP 13 (c2)) 22 (c3))))) (va_runVN (As := [.int (Int32.ofInt (2)), .int (Int32.ofInt (d0)), .int (Int32.ofInt (h0)), .int (Int32.ofInt (0)), .int (Int32.ofInt (c8))]) (rest := []) ⟨hx, hb, hml, hown, hts⟩ (mX1_note l G k arB fiB (uF faB 11 (c5)) 2 d0 h0 0 c8 H.size hRB (iG hRaB rc5) (by omega) (by omega) (by omega) (by omega) (by omega) (show 0 ≤ (fiB 1) ∧ (fiB 1) ≤ 60 from by omega)) ⟨va_cnB 5 hts (gz [] (.code yX1_note cX1_note 6 none) [(27, 15)] rfl) rfl rfl rfl (nm_15 hX.2.2.1) h9w (by decide +kernel) ⟨Nat.le_of_ble_eq_true rfl, Nat.le_of_ble_eq_true rfl⟩, h10w, h11w⟩ (cy_preV (EZ_ok k) hZ hS hX hP hD hA [12, 13, 14, 15, 16, 17, 18, 19] rfl rfl (ci := 0) (q0 := 12) rfl rfl) rfl rfl hl.1 rfl (lv_room (Nat.le_of_ble_eq_true rfl)) dX9_ride_71 ⟨Nat.le_of_ble_eq_true rfl, Nat.le_of_ble_eq_true rfl⟩) hP hD hS hA [12, 13, 14, 15, 16, 17, 18, 19] [0, 1, 2, 3, 4, 5, 6, 7, 8, 9, 10, 11] rfl rfl (by decide) (by decide) (fun u H locs hp hP hD hS => ?_)
      obtain ⟨c9, c10, c11, c12, c13, c14, c15, c16, c17⟩ := u
      obtain ⟨hP, hD⟩ : va_P G vwCl ((wT k arT (tpT) (paT) (arP 99) (pdT) (arB 99) (pkT) (psT) fiT faT) ++ ((wP k arP fiP (uF (uF faP 13 (c2)) 22 (c3))) ++ (wB k arB (uF (uF (uF (uF fiB 0 (c14)) 1 (c15)) 2 (c16)) 3 (c17)) (uF (uF (uF (uF (uF (uF faB 5 (c9)) 6 (c10)) 7 (c11)) 8 (c12)) 9 (c13)) 11 (c5))))) H ∧ va_D A ((wT k arT (tpT) (paT) (arP 99) (pdT) (arB 99) (pkT) (psT) fiT faT) ++ ((wP k arP fiP (uF (uF faP 13 (c2)) 22 (c3))) ++ (wB k arB (uF (uF (uF (uF fiB 0 (c14)) 1 (c15)) 2 (c16)) 3 (c17)) (uF (uF (uF (uF (uF (uF faB 5 (c9)) 6 (c10)) 7 (c11)) 8 (c12)) 9 (c13)) 11 (c5))))) := ⟨hP, hD⟩
      obtain ⟨rc9, rc10, rc11, rc12, rc13, rc14, rc15, rc16, rc17, hp17⟩ : (∀ t, inR (c9 t)) ∧ (∀ t, inR (c10 t)) ∧ (∀ t, inR (c11 t)) ∧ (∀ t, inR (c12 t)) ∧ (∀ t, inR (c13 t)) ∧ (inR c14) ∧ (inR c15) ∧ (inR c16) ∧ (inR c17) ∧ ((0 ≤ c15 ∧ c15 ≤ 60) ∧ NtP ((fiB 1)) c15 ((fiB 0)) c14 2 d0 h0 c8 ((faB 5)) c9 ((faB 6)) c10 ((faB 7)) c11 ((faB 8)) c12) := hp
      obtain ⟨hp17, hNp⟩ := hp17
      refine lv_iload_n hx hb dX9_ride_74 rfl (lv_at hl 1 rfl) ?_
      exact W.iret (v := Int32.ofInt (c4)) hx hb hr (fun t ht hW => ⟨⟨Int32.ofInt (c4), (c4, c2, c3, c9, c10, c11, c12, c13, c5, c14, c15, c16, c17), rfl, ⟨rfl, (show (inR c4) ∧ (∀ t, inR (c2 t)) ∧ (∀ t, inR (c3 t)) ∧ (∀ t, inR (c9 t)) ∧ (∀ t, inR (c10 t)) ∧ (∀ t, inR (c11 t)) ∧ (∀ t, inR (c12 t)) ∧ (∀ t, inR (c13 t)) ∧ (∀ t, inR (c5 t)) ∧ (inR c14) ∧ (inR c15) ∧ (inR c16) ∧ (inR c17) ∧ ((0 ≤ c15 ∧ c15 ≤ 60 ∧ 0 ≤ (fiB 4) ∧ (fiB 4) ≤ 6) ∧ NtM c4 (fiB 1) c15 (fiB 0) c14 2 d0 h0 (mvS (fiB 0) d0) (faB 5) c9 (faB 6) c10 (faB 7) c11 (faB 8) c12 ∧ ∃ r0, RtC r0 (fiP 0) (dp (fiB 0)) (gs (lc (nb (fiB 0)) (faP 9) 0) (fiP 7)) (gs (lc (nb (fiB 0)) (faP 9) 1) (fiP 7)) (fiP 2) (bkI (fun q => evR (dcf (faP 20)) (vls (nb (fiB 0)) (faP 8) (faP 9) 0 (fiP 7) (fiP 0) (dp (fiB 0))) (stq (faP 21) q) (faP 21 q)) (fiP 24) ∧ bkI (fun q => evR (dcf (faP 20)) (vls (nb (fiB 0)) (faP 8) (faP 9) 1 (fiP 7) (fiP 0) (dp (fiB 0))) (stq (faP 21) q) (faP 21 q)) (fiP 24)) (fiP 3) (fiP 4) (fiP 5) (fiP 6) d0 h0 ∧ c4 = jdg r0 (fiB 1)) from ⟨(by omega), rc2, rc3, rc9, rc10, rc11, rc12, rc13, rc5, (by omega), (by omega), (by omega), (by omega), (by first | exact ⟨by omega, ntm_no (by omega), _, hRc14, hJd⟩ | exact ⟨by omega, ntm_ok (by omega) hJd hNp hMv68, _, hRc14, hJd⟩)⟩)⟩, by rw [ht]; exact hP, hD⟩, hS.F ht⟩) hS.2.2 dX9_ride_75
    · refine lv_aload_n hx hb dX9_ride_30 rfl (lv_at hl 1 rfl) ?_
      refine va_get (D := G) (ci := 6) (v := .ref (arP 99)) (C := RX9) (T := TX9) (N := 11) (ref := RX9) hx hb hts h1w hown hX.1 hP 0 rfl rfl 4 (by decide) h0w (fun _ h9 => h9) rfl dX9_ride_31 ?_
      refine lv_aload_n hx hb dX9_ride_34 rfl (lv_at hl 1 rfl) ?_
      refine va_get (D := G) (ci := 6) (v := .ref (arB 99)) (C := RX9) (T := TX9) (N := 11) (ref := RX9) hx hb hts h1w hown hX.1 hP 0 rfl rfl 6 (by decide) h2w (fun _ h9 => h9) rfl dX9_ride_35 ?_
      refine va_getN (D := G) (ci := 0) (v := .int (Int32.ofInt (fiB 0))) (C := RX1) (T := TX1) (N := 12) (ref := RX1) (host := RX9) hx hb hts h3w hown hX.1 hP 12 rfl rfl 0 (by decide) (nf_37 hX.2.2.1) (fun _ h9 => h9) rfl dX9_ride_38 ?_
      have rf0B := hRB 0
      refine lv_iload_n hx hb dX9_ride_41 rfl (lv_at hl 2 rfl) ?_
      refine cz_i (wr := ((wT k arT (tpT) (paT) (arP 99) (pdT) (arB 99) (pkT) (psT) fiT faT) ++ (wB k arB fiB (uF faB 11 (c5))))) (va_runVN (As := [.int (Int32.ofInt (fiB 0)), .int (Int32.ofInt (d0))]) (rest := []) ⟨hx, hb, hml, hown, hts⟩ (mX3_windingTo l G k arP fiP (uF (uF faP 13 (c2)) 22 (c3)) (fiB 0) d0 H.size hRP (iG (iG hRaP rc2) rc3) hB8P hB20P hB21P (hRB 0) (by omega) (show 0 ≤ (fiP 7) ∧ (fiP 7) ≤ 7 from by omega) (show 0 ≤ (fiP 0) ∧ (fiP 0) ≤ 11 from by omega)) ⟨va_cnB 2 hts (gz [] (.code yX3_windingTo cX3_windingTo 7 (some .int)) [(29, 21)] rfl) rfl rfl rfl (nm_21 hX.2.2.1) h4w (by decide +kernel) ⟨Nat.le_of_ble_eq_true rfl, Nat.le_of_ble_eq_true rfl⟩, h12w, h13w⟩ (cy_preV (EZ_ok k) hZ hS hX hP hD hA [2, 3, 4, 5, 6, 7, 8, 9, 10, 11] rfl rfl (ci := 2) (q0 := 2) rfl rfl) rfl rfl hl.1 rfl (lv_room (Nat.le_of_ble_eq_true rfl)) dX9_ride_42 ⟨Nat.le_of_ble_eq_true rfl, Nat.le_of_ble_eq_true rfl⟩) hP hD hS hA [2, 3, 4, 5, 6, 7, 8, 9, 10, 11] [0, 1, 12, 13, 14, 15, 16, 17, 18, 19] rfl rfl (by decide) (by decide) (fun r u H locs hp hP hD hS => ?_)
      obtain ⟨c18, rfl⟩ : ∃ z, z = u := ⟨_, rfl⟩
      obtain ⟨hP, hD⟩ : va_P G vwCl ((wT k arT (tpT) (paT) (arP 99) (pdT) (arB 99) (pkT) (psT) fiT faT) ++ ((wB k arB fiB (uF faB 11 (c5))) ++ (wP k arP fiP (uF (uF faP 13 (c2)) 22 (c3))))) H ∧ va_D A ((wT k arT (tpT) (paT) (arP 99) (pdT) (arB 99) (pkT) (psT) fiT faT) ++ ((wB k arB fiB (uF faB 11 (c5))) ++ (wP k arP fiP (uF (uF faP 13 (c2)) 22 (c3))))) := ⟨hP, hD⟩
      obtain ⟨hP, hD⟩ : va_P G vwCl ((wT k arT (tpT) (paT) (arP 99) (pdT) (arB 99) (pkT) (psT) fiT faT) ++ ((wP k arP fiP (uF (uF faP 13 (c2)) 22 (c3))) ++ (wB k arB fiB (uF faB 11 (c5))))) H ∧ va_D A ((wT k arT (tpT) (paT) (arP 99) (pdT) (arB 99) (pkT) (psT) fiT faT) ++ ((wP k arP fiP (uF (uF faP 13 (c2)) 22 (c3))) ++ (wB k arB fiB (uF faB 11 (c5))))) := re_ord hP hD [0, 1, 10, 11, 12, 13, 14, 15, 16, 17, 18, 19, 2, 3, 4, 5, 6, 7, 8, 9] (by decide) rfl
      obtain ⟨h9, rc18, hp18⟩ : r = Int32.ofInt c18 ∧ (inR c18) ∧ (True) := hp
      subst h9
      refine lv_goto (tgt := 49) hx hb dX9_ride_45 (by decide) ?_
      refine lv_istore (lv' := [(4, .int (Int32.ofInt (c18))), (3, .int (Int32.ofInt (c4))), (0, .ref (arT 99)), (1, .int (Int32.ofInt (d0))), (2, .int (Int32.ofInt (h0)))]) hx hb dX9_ride_49 hl (by decide) rfl (fun ls hl => ?_)
      refine lv_aload_n hx hb dX9_ride_51 rfl (lv_at hl 2 rfl) ?_
      refine va_get (D := G) (ci := 6) (v := .ref (arB 99)) (C := RX9) (T := TX9) (N := 11) (ref := RX9) hx hb hts h1w hown hX.1 hP 0 rfl rfl 6 (by decide) h2w (fun _ h9 => h9) rfl dX9_ride_52 ?_
      refine lv_iconst (v := Int32.ofInt 2) hx hb dX9_ride_55 (by decide +kernel) ?_
      refine lv_iload_n hx hb dX9_ride_56 rfl (lv_at hl 3 rfl) ?_
      refine lv_iload_n hx hb dX9_ride_57 rfl (lv_at hl 4 rfl) ?_
      refine lv_iload hx hb dX9_ride_58 (lv_at hl 0 rfl) ?_
      refine lv_aload_n hx hb dX9_ride_60 rfl (lv_at hl 2 rfl) ?_
      refine va_get (D := G) (ci := 6) (v := .ref (arB 99)) (C := RX9) (T := TX9) (N := 11) (ref := RX9) hx hb hts h1w hown hX.1 hP 0 rfl rfl 6 (by decide) h2w (fun _ h9 => h9) rfl dX9_ride_61 ?_
      refine va_getN (D := G) (ci := 0) (v := .int (Int32.ofInt (fiB 0))) (C := RX1) (T := TX1) (N := 12) (ref := RX1) (host := RX9) hx hb hts h3w hown hX.1 hP 12 rfl rfl 0 (by decide) (nf_37 hX.2.2.1) (fun _ h9 => h9) rfl dX9_ride_64 ?_
      have rf0B := hRB 0
      refine lv_iload_n hx hb dX9_ride_67 rfl (lv_at hl 3 rfl) ?_
      refine c0_i (va_runSN (As := [.int (Int32.ofInt (fiB 0)), .int (Int32.ofInt (d0))]) (rest := [.int (Int32.ofInt (c18)), .int (Int32.ofInt (h0)), .int (Int32.ofInt (d0)), .int (Int32.ofInt (2)), .ref (arB 99)]) ⟨hx, hb, hml, hown, hts⟩ (mX7_move l G k (fiB 0) d0 H.size (hRB 0) (by omega)) ⟨va_cnB 2 hts (gz [] (.code yX7_move cX7_move 2 (some .int)) [(5, 11)] rfl) rfl rfl rfl (nm_22 hX.2.2.1) h7w (by decide +kernel) ⟨Nat.le_of_ble_eq_true rfl, Nat.le_of_ble_eq_true rfl⟩, h8w, trivial⟩ (cr_pre0 (EZ_ok k) hZ hS hX hP hD hA) rfl rfl hl.1 rfl (lv_room (Nat.le_of_ble_eq_true rfl)) dX9_ride_68 ⟨Nat.le_of_ble_eq_true rfl, Nat.le_of_ble_eq_true rfl⟩) hP hD hS hA (fun r u H locs hp hP hD hS => ?_)
      obtain ⟨c19, rfl⟩ : ∃ z, z = u := ⟨_, rfl⟩
      obtain ⟨h9, rc19, hp19⟩ : r = Int32.ofInt c19 ∧ (inR c19) ∧ (c19 = mvS (fiB 0) d0) := hp
      subst h9
      have hMv68 := hp19
      refine cz_v (wr := ((wT k arT (tpT) (paT) (arP 99) (pdT) (arB 99) (pkT) (psT) fiT faT) ++ (wP k arP fiP (uF (uF faP 13 (c2)) 22 (c3))))) (va_runVN (As := [.int (Int32.ofInt (2)), .int (Int32.ofInt (d0)), .int (Int32.ofInt (h0)), .int (Int32.ofInt (c18)), .int (Int32.ofInt (c19))]) (rest := []) ⟨hx, hb, hml, hown, hts⟩ (mX1_note l G k arB fiB (uF faB 11 (c5)) 2 d0 h0 c18 c19 H.size hRB (iG hRaB rc5) (by omega) (by omega) (by omega) (by omega) (by omega) (show 0 ≤ (fiB 1) ∧ (fiB 1) ≤ 60 from by omega)) ⟨va_cnB 5 hts (gz [] (.code yX1_note cX1_note 6 none) [(27, 15)] rfl) rfl rfl rfl (nm_15 hX.2.2.1) h9w (by decide +kernel) ⟨Nat.le_of_ble_eq_true rfl, Nat.le_of_ble_eq_true rfl⟩, h10w, h11w⟩ (cy_preV (EZ_ok k) hZ hS hX hP hD hA [12, 13, 14, 15, 16, 17, 18, 19] rfl rfl (ci := 0) (q0 := 12) rfl rfl) rfl rfl hl.1 rfl (lv_room (Nat.le_of_ble_eq_true rfl)) dX9_ride_71 ⟨Nat.le_of_ble_eq_true rfl, Nat.le_of_ble_eq_true rfl⟩) hP hD hS hA [12, 13, 14, 15, 16, 17, 18, 19] [0, 1, 2, 3, 4, 5, 6, 7, 8, 9, 10, 11] rfl rfl (by decide) (by decide) (fun u H locs hp hP hD hS => ?_)
      obtain ⟨c20, c21, c22, c23, c24, c25, c26, c27, c28⟩ := u
      obtain ⟨hP, hD⟩ : va_P G vwCl ((wT k arT (tpT) (paT) (arP 99) (pdT) (arB 99) (pkT) (psT) fiT faT) ++ ((wP k arP fiP (uF (uF faP 13 (c2)) 22 (c3))) ++ (wB k arB (uF (uF (uF (uF fiB 0 (c25)) 1 (c26)) 2 (c27)) 3 (c28)) (uF (uF (uF (uF (uF (uF faB 5 (c20)) 6 (c21)) 7 (c22)) 8 (c23)) 9 (c24)) 11 (c5))))) H ∧ va_D A ((wT k arT (tpT) (paT) (arP 99) (pdT) (arB 99) (pkT) (psT) fiT faT) ++ ((wP k arP fiP (uF (uF faP 13 (c2)) 22 (c3))) ++ (wB k arB (uF (uF (uF (uF fiB 0 (c25)) 1 (c26)) 2 (c27)) 3 (c28)) (uF (uF (uF (uF (uF (uF faB 5 (c20)) 6 (c21)) 7 (c22)) 8 (c23)) 9 (c24)) 11 (c5))))) := ⟨hP, hD⟩
      obtain ⟨rc20, rc21, rc22, rc23, rc24, rc25, rc26, rc27, rc28, hp28⟩ : (∀ t, inR (c20 t)) ∧ (∀ t, inR (c21 t)) ∧ (∀ t, inR (c22 t)) ∧ (∀ t, inR (c23 t)) ∧ (∀ t, inR (c24 t)) ∧ (inR c25) ∧ (inR c26) ∧ (inR c27) ∧ (inR c28) ∧ ((0 ≤ c26 ∧ c26 ≤ 60) ∧ NtP ((fiB 1)) c26 ((fiB 0)) c25 2 d0 h0 c19 ((faB 5)) c20 ((faB 6)) c21 ((faB 7)) c22 ((faB 8)) c23) := hp
      obtain ⟨hp28, hNp⟩ := hp28
      refine lv_iload_n hx hb dX9_ride_74 rfl (lv_at hl 1 rfl) ?_
      exact W.iret (v := Int32.ofInt (c4)) hx hb hr (fun t ht hW => ⟨⟨Int32.ofInt (c4), (c4, c2, c3, c20, c21, c22, c23, c24, c5, c25, c26, c27, c28), rfl, ⟨rfl, (show (inR c4) ∧ (∀ t, inR (c2 t)) ∧ (∀ t, inR (c3 t)) ∧ (∀ t, inR (c20 t)) ∧ (∀ t, inR (c21 t)) ∧ (∀ t, inR (c22 t)) ∧ (∀ t, inR (c23 t)) ∧ (∀ t, inR (c24 t)) ∧ (∀ t, inR (c5 t)) ∧ (inR c25) ∧ (inR c26) ∧ (inR c27) ∧ (inR c28) ∧ ((0 ≤ c26 ∧ c26 ≤ 60 ∧ 0 ≤ (fiB 4) ∧ (fiB 4) ≤ 6) ∧ NtM c4 (fiB 1) c26 (fiB 0) c25 2 d0 h0 (mvS (fiB 0) d0) (faB 5) c20 (faB 6) c21 (faB 7) c22 (faB 8) c23 ∧ ∃ r0, RtC r0 (fiP 0) (dp (fiB 0)) (gs (lc (nb (fiB 0)) (faP 9) 0) (fiP 7)) (gs (lc (nb (fiB 0)) (faP 9) 1) (fiP 7)) (fiP 2) (bkI (fun q => evR (dcf (faP 20)) (vls (nb (fiB 0)) (faP 8) (faP 9) 0 (fiP 7) (fiP 0) (dp (fiB 0))) (stq (faP 21) q) (faP 21 q)) (fiP 24) ∧ bkI (fun q => evR (dcf (faP 20)) (vls (nb (fiB 0)) (faP 8) (faP 9) 1 (fiP 7) (fiP 0) (dp (fiB 0))) (stq (faP 21) q) (faP 21 q)) (fiP 24)) (fiP 3) (fiP 4) (fiP 5) (fiP 6) d0 h0 ∧ c4 = jdg r0 (fiB 1)) from ⟨(by omega), rc2, rc3, rc20, rc21, rc22, rc23, rc24, rc5, (by omega), (by omega), (by omega), (by omega), (by first | exact ⟨by omega, ntm_no (by omega), _, hRc14, hJd⟩ | exact ⟨by omega, ntm_ok (by omega) hJd hNp hMv68, _, hRc14, hJd⟩)⟩)⟩, by rw [ht]; exact hP, hD⟩, hS.F ht⟩) hS.2.2 dX9_ride_75

set_option maxHeartbeats 4000000 in
set_option maxRecDepth 100000 in
theorem mX9_winding (l : Launch) (G : va_G) (k : Nat → ClassId) (arT : Nat → Nat) (tpT : Nat) (paT : Nat) (pdT : Nat) (pkT : Nat) (psT : Nat) (fiT : Nat → Int) (faT : Nat → Int → Int) (arP : Nat → Nat) (fiP : Nat → Int) (faP : Nat → Int → Int) (arB : Nat → Nat) (fiB : Nat → Int) (faB : Nat → Int → Int) (d0 : Int) (sz : Nat) (hRT : ∀ j, inR (fiT j)) (hRaT : ∀ j t, inR (faT j t)) (hRP : ∀ j, inR (fiP j)) (hRaP : ∀ j t, inR (faP j t)) (hB8P : bnd (faP 8) 7 0 4) (hB20P : bnd (faP 20) 600 (-1000) 10000) (hB21P : bnd (faP 21) 4 0 601) (hRB : ∀ j, inR (fiB j)) (hRaB : ∀ j t, inR (faB j t)) (hr_d0 : inR d0) (hpi : 0 ≤ fiP 7 ∧ fiP 7 ≤ 7 ∧ 0 ≤ fiP 0 ∧ fiP 0 ≤ 11 ∧ 0 ≤ fiP 24 ∧ fiP 24 ≤ 4 ∧ 0 ≤ fiP 23 ∧ fiP 23 ≤ 600) : CNi l G k (EZ k) yX9_winding wzX9_winding ({ frames := 3, cells := 0, slots := 0, locals := 71 }) [.ref (arT 99), .int (Int32.ofInt (d0))] sz ((wT k arT (tpT) (paT) (arP 99) (pdT) (arB 99) (pkT) (psT) fiT faT) ++ ((wP k arP fiP faP) ++ (wB k arB fiB faB))) (fun (r0 : Int32) (u : Int) => r0 = Int32.ofInt (u) ∧ (inR u) ∧ (True)) (fun (u : Int) => ((wT k arT (tpT) (paT) (arP 99) (pdT) (arB 99) (pkT) (psT) fiT faT) ++ ((wP k arP fiP faP) ++ (wB k arB fiB faB)))) := by
  refine Met.ofW (cc := cX9_winding) (maxL := 2) (ret := (some .int)) (by decide) rfl ?_
  intro p e s m args below meth c s₁ B hml hv
  obtain ⟨rfl, hsz, hP, hX, hD0, hZ0⟩ := hv
  have hx := B.exec
  have hb := B.bytes
  have hr := B.returns
  have hts := atoms_spec (ws := wzX9_winding) B.pre
  have hown : s.vm.findClass RX9 = some m.cls := findClass_of_methodNamed B.named
  subst hsz
  have hD := hD0.self (sz := s.heap.size)
  have hZ := hZ0
  generalize hAe : va_A ((wT k arT (tpT) (paT) (arP 99) (pdT) (arB 99) (pkT) (psT) fiT faT) ++ ((wP k arP fiP faP) ++ (wB k arB fiB faB))) s.heap.size = A at hD hZ ⊢
  have hA : ∀ q : Nat, s.heap.size ≤ q → A q := fun q h => by rw [← hAe]; exact Or.inr h
  have hS : va_S A s.heap s.heap [] := va_S.rf
  have hl := lv_entry ([.ref (arT 99), .int (Int32.ofInt (d0))]) (n := 2) (Nat.le_of_ble_eq_true rfl)
  rw [lg_entry_eq]
  generalize (lg_sl ([.ref (arT 99), .int (Int32.ofInt (d0))]) ++ List.replicate (2 - (lg_sl ([.ref (arT 99), .int (Int32.ofInt (d0))])).length) Slot.unset).toArray = ls at hl ⊢
  have hl : lv_has ls 2 [(0, .ref (arT 99)), (1, .int (Int32.ofInt (d0)))] := hl
  obtain ⟨H, eH⟩ : ∃ H, H = s.heap := ⟨_, rfl⟩
  rw [← eH] at hP
  have hS : va_S A s.heap H [] := by rw [eH]; exact hS
  have gW : s.heap = H := eH.symm
  refine iv_heap gW ?_
  have h0w := hts (.fieldLink RX9 23 "RopeTown" "plan" "LRopeTown$Plan;") (wz_at 0 20 rfl)
  have h1w : ∀ w ∈ wsX90, w ∈ wzX9_winding := fun w h => List.mem_cons_of_mem _ (inlX9 w h)
  have h2w := hts (.initialized RX3) (wz_at 0 19 rfl)
  have h3w := hts (.instanceMethod yX3_hasDepth) (wz_at 29 6 rfl)
  have h4w := hts (.selects RX3 yX3_hasDepth yX3_hasDepth) (wz_at 29 7 rfl)
  have h5w := hts (.fieldLink RX9 42 "RopeTown" "book" "LRopeTown$Book;") (wz_at 1 5 rfl)
  have h6w : ∀ w ∈ wsX10, w ∈ wzX9_winding := fun w h => List.mem_cons_of_mem _ (inlX1 w h)
  have h7w := hts (.initialized RX7) (wz_at 5 10 rfl)
  have h8w := hts (.static yX7_depth) (wz_at 22 12 rfl)
  have h9w := hts (.instanceMethod yX3_windingTo) (wz_at 29 19 rfl)
  have h10w := hts (.selects RX3 yX3_windingTo yX3_windingTo) (wz_at 29 20 rfl)
  refine lv_aload_n hx hb dX9_winding_0 rfl (lv_at hl 0 rfl) ?_
  refine va_get (D := G) (ci := 6) (v := .ref (arP 99)) (C := RX9) (T := TX9) (N := 11) (ref := RX9) hx hb hts h1w hown hX.1 hP 0 rfl rfl 4 (by decide) h0w (fun _ h9 => h9) rfl dX9_winding_1 ?_
  refine lv_iload_n hx hb dX9_winding_4 rfl (lv_at hl 1 rfl) ?_
  refine cz_i (wr := ((wT k arT (tpT) (paT) (arP 99) (pdT) (arB 99) (pkT) (psT) fiT faT) ++ (wB k arB fiB faB))) (va_runVN (As := [.int (Int32.ofInt (d0))]) (rest := []) ⟨hx, hb, hml, hown, hts⟩ (mX3_hasDepth l G k arP fiP faP d0 H.size hRP hRaP hB8P hB20P hB21P (by omega)) ⟨va_cnB 1 hts (gz [] (.code yX3_hasDepth cX3_hasDepth 2 (some .boolean)) [(29, 8)] rfl) rfl rfl rfl (nm_23 hX.2.2.1) h2w (by decide +kernel) ⟨Nat.le_of_ble_eq_true rfl, Nat.le_of_ble_eq_true rfl⟩, h3w, h4w⟩ (cy_preV (EZ_ok k) hZ hS hX hP hD hA [2, 3, 4, 5, 6, 7, 8, 9, 10, 11] rfl rfl (ci := 2) (q0 := 2) rfl rfl) rfl rfl hl.1 rfl (lv_room (Nat.le_of_ble_eq_true rfl)) dX9_winding_5 ⟨Nat.le_of_ble_eq_true rfl, Nat.le_of_ble_eq_true rfl⟩) hP hD hS hA [2, 3, 4, 5, 6, 7, 8, 9, 10, 11] [0, 1, 12, 13, 14, 15, 16, 17, 18, 19] rfl rfl (by decide) (by decide) (fun r u H locs hp hP hD hS => ?_)
  obtain ⟨c1, rfl⟩ : ∃ z, z = u := ⟨_, rfl⟩
  obtain ⟨hP, hD⟩ : va_P G vwCl ((wT k arT (tpT) (paT) (arP 99) (pdT) (arB 99) (pkT) (psT) fiT faT) ++ ((wB k arB fiB faB) ++ (wP k arP fiP faP))) H ∧ va_D A ((wT k arT (tpT) (paT) (arP 99) (pdT) (arB 99) (pkT) (psT) fiT faT) ++ ((wB k arB fiB faB) ++ (wP k arP fiP faP))) := ⟨hP, hD⟩
  obtain ⟨hP, hD⟩ : va_P G vwCl ((wT k arT (tpT) (paT) (arP 99) (pdT) (arB 99) (pkT) (psT) fiT faT) ++ ((wP k arP fiP faP) ++ (wB k arB fiB faB))) H ∧ va_D A ((wT k arT (tpT) (paT) (arP 99) (pdT) (arB 99) (pkT) (psT) fiT faT) ++ ((wP k arP fiP faP) ++ (wB k arB fiB faB))) := re_ord hP hD [0, 1, 10, 11, 12, 13, 14, 15, 16, 17, 18, 19, 2, 3, 4, 5, 6, 7, 8, 9] (by decide) rfl
  obtain ⟨h9, rc1, hp1⟩ : r = Int32.ofInt c1 ∧ (inR c1) ∧ ((c1 = 1 ∧ 0 ≤ d0 ∧ d0 ≤ (fiP 0)) ∨ (c1 = 0 ∧ (d0 < 0 ∨ (fiP 0) < d0))) := hp
  subst h9
  refine iv_if_eq (tgt := 25) hx hb (by omega) dX9_winding_8 (by decide) (fun q2 => ?_) (fun q2 => ?_)
  · refine lv_iconst (v := Int32.ofInt (-1)) hx hb dX9_winding_25 (by decide +kernel) ?_
    exact W.iret (v := Int32.ofInt ((-1))) hx hb hr (fun t ht hW => ⟨⟨Int32.ofInt ((-1)), ((-1)), rfl, ⟨rfl, (show (inR (-1)) ∧ (True) from ⟨(by omega), trivial⟩)⟩, by rw [ht]; exact hP, hD⟩, hS.F ht⟩) hS.2.2 dX9_winding_26
  · refine lv_iload_n hx hb dX9_winding_11 rfl (lv_at hl 1 rfl) ?_
    refine lv_aload_n hx hb dX9_winding_12 rfl (lv_at hl 0 rfl) ?_
    refine va_get (D := G) (ci := 6) (v := .ref (arB 99)) (C := RX9) (T := TX9) (N := 11) (ref := RX9) hx hb hts h1w hown hX.1 hP 0 rfl rfl 6 (by decide) h5w (fun _ h9 => h9) rfl dX9_winding_13 ?_
    refine va_getN (D := G) (ci := 0) (v := .int (Int32.ofInt (fiB 0))) (C := RX1) (T := TX1) (N := 12) (ref := RX1) (host := RX9) hx hb hts h6w hown hX.1 hP 12 rfl rfl 0 (by decide) (nf_37 hX.2.2.1) (fun _ h9 => h9) rfl dX9_winding_16 ?_
    have rf0B := hRB 0
    refine c0_i (va_runSN (As := [.int (Int32.ofInt (fiB 0))]) (rest := [.int (Int32.ofInt (d0))]) ⟨hx, hb, hml, hown, hts⟩ (mX7_depth l G k (fiB 0) H.size (hRB 0)) ⟨va_cnB 1 hts (gz [] (.code yX7_depth cX7_depth 1 (some .int)) [(22, 13)] rfl) rfl rfl rfl (nm_24 hX.2.2.1) h7w (by decide +kernel) ⟨Nat.le_of_ble_eq_true rfl, Nat.le_of_ble_eq_true rfl⟩, h8w, trivial⟩ (cr_pre0 (EZ_ok k) hZ hS hX hP hD hA) rfl rfl hl.1 rfl (lv_room (Nat.le_of_ble_eq_true rfl)) dX9_winding_19 ⟨Nat.le_of_ble_eq_true rfl, Nat.le_of_ble_eq_true rfl⟩) hP hD hS hA (fun r u H locs hp hP hD hS => ?_)
    obtain ⟨c3, rfl⟩ : ∃ z, z = u := ⟨_, rfl⟩
    obtain ⟨h9, rc3, hp3⟩ : r = Int32.ofInt c3 ∧ (inR c3) ∧ (c3 = dp (fiB 0) ∧ 0 ≤ c3 ∧ c3 ≤ 15) := hp
    subst h9
    have hDp19 := hp3.1
    refine iv_icmp_ne (tgt := 27) hx hb (by omega) (by omega) dX9_winding_22 (by decide) (fun q4 => ?_) (fun q4 => ?_)
    · refine lv_aload_n hx hb dX9_winding_27 rfl (lv_at hl 0 rfl) ?_
      refine va_get (D := G) (ci := 6) (v := .ref (arP 99)) (C := RX9) (T := TX9) (N := 11) (ref := RX9) hx hb hts h1w hown hX.1 hP 0 rfl rfl 4 (by decide) h0w (fun _ h9 => h9) rfl dX9_winding_28 ?_
      refine lv_aload_n hx hb dX9_winding_31 rfl (lv_at hl 0 rfl) ?_
      refine va_get (D := G) (ci := 6) (v := .ref (arB 99)) (C := RX9) (T := TX9) (N := 11) (ref := RX9) hx hb hts h1w hown hX.1 hP 0 rfl rfl 6 (by decide) h5w (fun _ h9 => h9) rfl dX9_winding_32 ?_
      refine va_getN (D := G) (ci := 0) (v := .int (Int32.ofInt (fiB 0))) (C := RX1) (T := TX1) (N := 12) (ref := RX1) (host := RX9) hx hb hts h6w hown hX.1 hP 12 rfl rfl 0 (by decide) (nf_37 hX.2.2.1) (fun _ h9 => h9) rfl dX9_winding_35 ?_
      have rf0B := hRB 0
      refine lv_iload_n hx hb dX9_winding_38 rfl (lv_at hl 1 rfl) ?_
      refine cz_i (wr := ((wT k arT (tpT) (paT) (arP 99) (pdT) (arB 99) (pkT) (psT) fiT faT) ++ (wB k arB fiB faB))) (va_runVN (As := [.int (Int32.ofInt (fiB 0)), .int (Int32.ofInt (d0))]) (rest := []) ⟨hx, hb, hml, hown, hts⟩ (mX3_windingTo l G k arP fiP faP (fiB 0) d0 H.size hRP hRaP hB8P hB20P hB21P (hRB 0) (by omega) (show 0 ≤ (fiP 7) ∧ (fiP 7) ≤ 7 from by omega) (show 0 ≤ (fiP 0) ∧ (fiP 0) ≤ 11 from by omega)) ⟨va_cnB 2 hts (gz [] (.code yX3_windingTo cX3_windingTo 7 (some .int)) [(29, 21)] rfl) rfl rfl rfl (nm_21 hX.2.2.1) h2w (by decide +kernel) ⟨Nat.le_of_ble_eq_true rfl, Nat.le_of_ble_eq_true rfl⟩, h9w, h10w⟩ (cy_preV (EZ_ok k) hZ hS hX hP hD hA [2, 3, 4, 5, 6, 7, 8, 9, 10, 11] rfl rfl (ci := 2) (q0 := 2) rfl rfl) rfl rfl hl.1 rfl (lv_room (Nat.le_of_ble_eq_true rfl)) dX9_winding_39 ⟨Nat.le_of_ble_eq_true rfl, Nat.le_of_ble_eq_true rfl⟩) hP hD hS hA [2, 3, 4, 5, 6, 7, 8, 9, 10, 11] [0, 1, 12, 13, 14, 15, 16, 17, 18, 19] rfl rfl (by decide) (by decide) (fun r u H locs hp hP hD hS => ?_)
      obtain ⟨c5, rfl⟩ : ∃ z, z = u := ⟨_, rfl⟩
      obtain ⟨hP, hD⟩ : va_P G vwCl ((wT k arT (tpT) (paT) (arP 99) (pdT) (arB 99) (pkT) (psT) fiT faT) ++ ((wB k arB fiB faB) ++ (wP k arP fiP faP))) H ∧ va_D A ((wT k arT (tpT) (paT) (arP 99) (pdT) (arB 99) (pkT) (psT) fiT faT) ++ ((wB k arB fiB faB) ++ (wP k arP fiP faP))) := ⟨hP, hD⟩
      obtain ⟨hP, hD⟩ : va_P G vwCl ((wT k arT (tpT) (paT) (arP 99) (pdT) (arB 99) (pkT) (psT) fiT faT) ++ ((wP k arP fiP faP) ++ (wB k arB fiB faB))) H ∧ va_D A ((wT k arT (tpT) (paT) (arP 99) (pdT) (arB 99) (pkT) (psT) fiT faT) ++ ((wP k arP fiP faP) ++ (wB k arB fiB faB))) := re_ord hP hD [0, 1, 10, 11, 12, 13, 14, 15, 16, 17, 18, 19, 2, 3, 4, 5, 6, 7, 8, 9] (by decide) rfl
      obtain ⟨h9, rc5, hp5⟩ : r = Int32.ofInt c5 ∧ (inR c5) ∧ (True) := hp
      subst h9
      exact W.iret (v := Int32.ofInt (c5)) hx hb hr (fun t ht hW => ⟨⟨Int32.ofInt (c5), (c5), rfl, ⟨rfl, (show (inR c5) ∧ (True) from ⟨(by omega), trivial⟩)⟩, by rw [ht]; exact hP, hD⟩, hS.F ht⟩) hS.2.2 dX9_winding_42
    · refine lv_iconst (v := Int32.ofInt (-1)) hx hb dX9_winding_25 (by decide +kernel) ?_
      exact W.iret (v := Int32.ofInt ((-1))) hx hb hr (fun t ht hW => ⟨⟨Int32.ofInt ((-1)), ((-1)), rfl, ⟨rfl, (show (inR (-1)) ∧ (True) from ⟨(by omega), trivial⟩)⟩, by rw [ht]; exact hP, hD⟩, hS.F ht⟩) hS.2.2 dX9_winding_26

