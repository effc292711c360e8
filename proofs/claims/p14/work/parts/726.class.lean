set_option maxHeartbeats 4000000 in
set_option maxRecDepth 100000 in
theorem mX9_bucket (l : Launch) (G : va_G) (k : Nat → ClassId) (arT : Nat → Nat) (tpT : Nat) (paT : Nat) (pdT : Nat) (pkT : Nat) (psT : Nat) (fiT : Nat → Int) (faT : Nat → Int → Int) (arP : Nat → Nat) (fiP : Nat → Int) (faP : Nat → Int → Int) (arB : Nat → Nat) (fiB : Nat → Int) (faB : Nat → Int → Int) (b0 : Int) (w0 : Int) (sz : Nat) (hRT : ∀ j, inR (fiT j)) (hRaT : ∀ j t, inR (faT j t)) (hRP : ∀ j, inR (fiP j)) (hRaP : ∀ j t, inR (faP j t)) (hB8P : bnd (faP 8) 7 0 4) (hB20P : bnd (faP 20) 600 (-1000) 10000) (hB21P : bnd (faP 21) 4 0 601) (hRB : ∀ j, inR (fiB j)) (hRaB : ∀ j t, inR (faB j t)) (hr_b0 : inR b0) (hr_w0 : inR w0) (hpi : 0 ≤ fiP 7 ∧ fiP 7 ≤ 7 ∧ 0 ≤ fiP 0 ∧ fiP 0 ≤ 11 ∧ 0 ≤ fiP 24 ∧ fiP 24 ≤ 4 ∧ 0 ≤ fiP 23 ∧ fiP 23 ≤ 600) (hRC : ∀ q9, 0 ≤ q9 → q9 < fiP 24 → RWf (dcf (faP 20)) (stq (faP 21) q9) (faP 21 q9)) (ht : 0 ≤ b0 ∧ b0 ≤ 1 ∧ 0 ≤ w0 ∧ w0 ≤ 4) : CNi l G k (EZ k) yX9_bucket wzX9_bucket ({ frames := 3, cells := 0, slots := 0, locals := 72 }) [.ref (arT 99), .int (Int32.ofInt (b0)), .int (Int32.ofInt (w0))] sz ((wT k arT (tpT) (paT) (arP 99) (pdT) (arB 99) (pkT) (psT) fiT faT) ++ ((wP k arP fiP faP) ++ (wB k arB fiB faB))) (fun (r0 : Int32) (u : Int × (Int → Int) × (Int → Int)) => r0 = Int32.ofInt (u.1) ∧ (inR u.1) ∧ (∀ t, inR (u.2.1 t)) ∧ (∀ t, inR (u.2.2 t)) ∧ (BuP w0 u.1 (gs (lc (nb (fiB 0)) (faP 9) b0) (fiP 7)) (sdV (gs (lc (nb (fiB 0)) (faP 9) b0) (fiP 7)) (fiP 3) (buD b0 (dp (fiB 0)) (fiP 0))) (buD b0 (dp (fiB 0)) (fiP 0)) (og (bs (nb (fiB 0)) b0) 7) (fun q => evR (dcf (faP 20)) (vls (nb (fiB 0)) (faP 8) (faP 9) b0 (fiP 7) (fiP 0) (dp (fiB 0))) (stq (faP 21) q) (faP 21 q)) (fiP 24))) (fun (u : Int × (Int → Int) × (Int → Int)) => ((wT k arT (tpT) (paT) (arP 99) (pdT) (arB 99) (pkT) (psT) fiT faT) ++ ((wP k arP fiP (uF (uF faP 13 (u.2.1)) 22 (u.2.2))) ++ (wB k arB fiB faB)))) := by
  refine Met.ofW (cc := cX9_bucket) (maxL := 4) (ret := (some .int)) (by decide) rfl ?_
  intro p e s m args below meth c s₁ B hml hv
  obtain ⟨rfl, hsz, hP, hX, hD0, hZ0⟩ := hv
  have hx := B.exec
  have hb := B.bytes
  have hr := B.returns
  have hts := atoms_spec (ws := wzX9_bucket) B.pre
  have hown : s.vm.findClass RX9 = some m.cls := findClass_of_methodNamed B.named
  subst hsz
  have hD := hD0.self (sz := s.heap.size)
  have hZ := hZ0
  generalize hAe : va_A ((wT k arT (tpT) (paT) (arP 99) (pdT) (arB 99) (pkT) (psT) fiT faT) ++ ((wP k arP fiP faP) ++ (wB k arB fiB faB))) s.heap.size = A at hD hZ ⊢
  have hA : ∀ q : Nat, s.heap.size ≤ q → A q := fun q h => by rw [← hAe]; exact Or.inr h
  have hS : va_S A s.heap s.heap [] := va_S.rf
  have hl := lv_entry ([.ref (arT 99), .int (Int32.ofInt (b0)), .int (Int32.ofInt (w0))]) (n := 4) (Nat.le_of_ble_eq_true rfl)
  rw [lg_entry_eq]
  generalize (lg_sl ([.ref (arT 99), .int (Int32.ofInt (b0)), .int (Int32.ofInt (w0))]) ++ List.replicate (4 - (lg_sl ([.ref (arT 99), .int (Int32.ofInt (b0)), .int (Int32.ofInt (w0))])).length) Slot.unset).toArray = ls at hl ⊢
  have hl : lv_has ls 4 [(0, .ref (arT 99)), (1, .int (Int32.ofInt (b0))), (2, .int (Int32.ofInt (w0)))] := hl
  obtain ⟨H, eH⟩ : ∃ H, H = s.heap := ⟨_, rfl⟩
  rw [← eH] at hP
  have hS : va_S A s.heap H [] := by rw [eH]; exact hS
  have gW : s.heap = H := eH.symm
  refine iv_heap gW ?_
  have h0w := hts (.fieldLink RX9 23 "RopeTown" "plan" "LRopeTown$Plan;") (wz_at 0 20 rfl)
  have h1w : ∀ w ∈ wsX90, w ∈ wzX9_bucket := fun w h => List.mem_cons_of_mem _ (inlX9 w h)
  have h2w := hts (.fieldLink RX9 42 "RopeTown" "book" "LRopeTown$Book;") (wz_at 1 5 rfl)
  have h3w : ∀ w ∈ wsX10, w ∈ wzX9_bucket := fun w h => List.mem_cons_of_mem _ (inlX1 w h)
  have h4w := hts (.initialized RX3) (wz_at 0 19 rfl)
  have h5w := hts (.instanceMethod yX3_bucketDepth) (wz_at 23 14 rfl)
  have h6w := hts (.selects RX3 yX3_bucketDepth yX3_bucketDepth) (wz_at 23 15 rfl)
  have h7w := hts (.instanceMethod yX3_weightIn) (wz_at 25 2 rfl)
  have h8w := hts (.selects RX3 yX3_weightIn yX3_weightIn) (wz_at 25 3 rfl)
  have h9w : ∀ w ∈ wsX30, w ∈ wzX9_bucket := fun w h => List.mem_cons_of_mem _ (inlX3 w h)
  have h10w := hts (.initialized RX7) (wz_at 5 10 rfl)
  have h11w := hts (.static yX7_thingsIn) (wz_at 25 5 rfl)
  have h12w := hts (.instanceMethod yX3_brokenRule) (wz_at 25 7 rfl)
  have h13w := hts (.selects RX3 yX3_brokenRule yX3_brokenRule) (wz_at 25 8 rfl)
  refine lv_iload_n hx hb dX9_bucket_0 rfl (lv_at hl 1 rfl) ?_
  refine iv_if_lt (tgt := 9) hx hb (by omega) dX9_bucket_1 (by decide) (fun q1 => ?_) (fun q1 => ?_)
  · exfalso; omega
  · refine lv_iload_n hx hb dX9_bucket_4 rfl (lv_at hl 1 rfl) ?_
    refine lv_iconst (v := Int32.ofInt 1) hx hb dX9_bucket_5 (by decide +kernel) ?_
    refine iv_icmp_le (tgt := 19) hx hb (by omega) (by omega) dX9_bucket_6 (by decide) (fun q2 => ?_) (fun q2 => ?_)
    · refine lv_aload_n hx hb dX9_bucket_19 rfl (lv_at hl 0 rfl) ?_
      refine va_get (D := G) (ci := 6) (v := .ref (arP 99)) (C := RX9) (T := TX9) (N := 11) (ref := RX9) hx hb hts h1w hown hX.1 hP 0 rfl rfl 4 (by decide) h0w (fun _ h9 => h9) rfl dX9_bucket_20 ?_
      refine lv_aload_n hx hb dX9_bucket_23 rfl (lv_at hl 0 rfl) ?_
      refine va_get (D := G) (ci := 6) (v := .ref (arB 99)) (C := RX9) (T := TX9) (N := 11) (ref := RX9) hx hb hts h1w hown hX.1 hP 0 rfl rfl 6 (by decide) h2w (fun _ h9 => h9) rfl dX9_bucket_24 ?_
      refine va_getN (D := G) (ci := 0) (v := .int (Int32.ofInt (fiB 0))) (C := RX1) (T := TX1) (N := 12) (ref := RX1) (host := RX9) hx hb hts h3w hown hX.1 hP 12 rfl rfl 0 (by decide) (nf_37 hX.2.2.1) (fun _ h9 => h9) rfl dX9_bucket_27 ?_
      have rf0B := hRB 0
      refine lv_iload_n hx hb dX9_bucket_30 rfl (lv_at hl 1 rfl) ?_
      refine cz_i (wr := ((wT k arT (tpT) (paT) (arP 99) (pdT) (arB 99) (pkT) (psT) fiT faT) ++ (wB k arB fiB faB))) (va_runVN (As := [.int (Int32.ofInt (fiB 0)), .int (Int32.ofInt (b0))]) (rest := []) ⟨hx, hb, hml, hown, hts⟩ (mX3_bucketDepth l G k arP fiP faP (fiB 0) b0 H.size hRP hRaP hB8P hB20P hB21P (hRB 0) (by omega) (show 0 ≤ (fiP 0) ∧ (fiP 0) ≤ 11 from by omega)) ⟨va_cnB 2 hts (gz [] (.code yX3_bucketDepth cX3_bucketDepth 3 (some .int)) [(23, 16)] rfl) rfl rfl rfl (nm_42 hX.2.2.1) h4w (by decide +kernel) ⟨Nat.le_of_ble_eq_true rfl, Nat.le_of_ble_eq_true rfl⟩, h5w, h6w⟩ (cy_preV (EZ_ok k) hZ hS hX hP hD hA [2, 3, 4, 5, 6, 7, 8, 9, 10, 11] rfl rfl (ci := 2) (q0 := 2) rfl rfl) rfl rfl hl.1 rfl (lv_room (Nat.le_of_ble_eq_true rfl)) dX9_bucket_31 ⟨Nat.le_of_ble_eq_true rfl, Nat.le_of_ble_eq_true rfl⟩) hP hD hS hA [2, 3, 4, 5, 6, 7, 8, 9, 10, 11] [0, 1, 12, 13, 14, 15, 16, 17, 18, 19] rfl rfl (by decide) (by decide) (fun r u H locs hp hP hD hS => ?_)
      obtain ⟨c3, rfl⟩ : ∃ z, z = u := ⟨_, rfl⟩
      obtain ⟨hP, hD⟩ : va_P G vwCl ((wT k arT (tpT) (paT) (arP 99) (pdT) (arB 99) (pkT) (psT) fiT faT) ++ ((wB k arB fiB faB) ++ (wP k arP fiP faP))) H ∧ va_D A ((wT k arT (tpT) (paT) (arP 99) (pdT) (arB 99) (pkT) (psT) fiT faT) ++ ((wB k arB fiB faB) ++ (wP k arP fiP faP))) := ⟨hP, hD⟩
      obtain ⟨hP, hD⟩ : va_P G vwCl ((wT k arT (tpT) (paT) (arP 99) (pdT) (arB 99) (pkT) (psT) fiT faT) ++ ((wP k arP fiP faP) ++ (wB k arB fiB faB))) H ∧ va_D A ((wT k arT (tpT) (paT) (arP 99) (pdT) (arB 99) (pkT) (psT) fiT faT) ++ ((wP k arP fiP faP) ++ (wB k arB fiB faB))) := re_ord hP hD [0, 1, 10, 11, 12, 13, 14, 15, 16, 17, 18, 19, 2, 3, 4, 5, 6, 7, 8, 9] (by decide) rfl
      obtain ⟨h9, rc3, hp3⟩ : r = Int32.ofInt c3 ∧ (inR c3) ∧ (c3 = buD b0 (dp (fiB 0)) ((fiP 0)) ∧ -15 ≤ c3 ∧ c3 ≤ 15) := hp
      subst h9
      have hBu31 := hp3.1
      refine lv_istore_n (lv' := [(3, .int (Int32.ofInt (c3))), (0, .ref (arT 99)), (1, .int (Int32.ofInt (b0))), (2, .int (Int32.ofInt (w0)))]) hx hb dX9_bucket_34 rfl hl (by decide) rfl (fun ls hl => ?_)
      refine lv_iload_n hx hb dX9_bucket_35 rfl (lv_at hl 3 rfl) ?_
      obtain q4 | q4 | q4 | q4 | q4 | q4 : (w0 < 0 ∨ 4 < w0) ∨ w0 = 0 ∨ w0 = 1 ∨ w0 = 2 ∨ w0 = 3 ∨ w0 = 4 := by omega
      · refine lv_tableOut (tgt := 144) hx hb dX9_bucket_36 (by rw [iz_toInt (by omega)]; exact q4) (by decide) ?_
        exfalso; omega
      · refine lv_tableIn (tgt := 72) hx hb dX9_bucket_36 (by rw [iz_toInt (by omega)]; omega) (by rw [iz_toInt (by omega)]; omega) (off := 36) (by rw [iz_toInt (by omega), q4]; decide +kernel) (by decide) ?_
        refine lv_aload_n hx hb dX9_bucket_72 rfl (lv_at hl 1 rfl) ?_
        refine va_get (D := G) (ci := 6) (v := .ref (arP 99)) (C := RX9) (T := TX9) (N := 11) (ref := RX9) hx hb hts h1w hown hX.1 hP 0 rfl rfl 4 (by decide) h0w (fun _ h9 => h9) rfl dX9_bucket_73 ?_
        refine lv_aload_n hx hb dX9_bucket_76 rfl (lv_at hl 1 rfl) ?_
        refine va_get (D := G) (ci := 6) (v := .ref (arB 99)) (C := RX9) (T := TX9) (N := 11) (ref := RX9) hx hb hts h1w hown hX.1 hP 0 rfl rfl 6 (by decide) h2w (fun _ h9 => h9) rfl dX9_bucket_77 ?_
        refine va_getN (D := G) (ci := 0) (v := .int (Int32.ofInt (fiB 0))) (C := RX1) (T := TX1) (N := 12) (ref := RX1) (host := RX9) hx hb hts h3w hown hX.1 hP 12 rfl rfl 0 (by decide) (nf_37 hX.2.2.1) (fun _ h9 => h9) rfl dX9_bucket_80 ?_
        have rf0B := hRB 0
        refine lv_iload_n hx hb dX9_bucket_83 rfl (lv_at hl 2 rfl) ?_
        refine cz_i (wr := ((wT k arT (tpT) (paT) (arP 99) (pdT) (arB 99) (pkT) (psT) fiT faT) ++ (wB k arB fiB faB))) (va_runVN (As := [.int (Int32.ofInt (fiB 0)), .int (Int32.ofInt (b0))]) (rest := []) ⟨hx, hb, hml, hown, hts⟩ (mX3_weightIn l G k arP fiP faP (fiB 0) b0 H.size hRP hRaP hB8P hB20P hB21P (hRB 0) (by omega) (show 0 ≤ (fiP 7) ∧ (fiP 7) ≤ 7 from by omega) (show b0 = 0 ∨ b0 = 1 from by omega)) ⟨va_cnB 2 hts (gz [] (.code yX3_weightIn cX3_weightIn 5 (some .int)) [(25, 4)] rfl) rfl rfl rfl (nm_43 hX.2.2.1) h4w (by decide +kernel) ⟨Nat.le_of_ble_eq_true rfl, Nat.le_of_ble_eq_true rfl⟩, h7w, h8w⟩ (cy_preV (EZ_ok k) hZ hS hX hP hD hA [2, 3, 4, 5, 6, 7, 8, 9, 10, 11] rfl rfl (ci := 2) (q0 := 2) rfl rfl) rfl rfl hl.1 rfl (lv_room (Nat.le_of_ble_eq_true rfl)) dX9_bucket_84 ⟨Nat.le_of_ble_eq_true rfl, Nat.le_of_ble_eq_true rfl⟩) hP hD hS hA [2, 3, 4, 5, 6, 7, 8, 9, 10, 11] [0, 1, 12, 13, 14, 15, 16, 17, 18, 19] rfl rfl (by decide) (by decide) (fun r u H locs hp hP hD hS => ?_)
        obtain ⟨c5, rfl⟩ : ∃ z, z = u := ⟨_, rfl⟩
        obtain ⟨hP, hD⟩ : va_P G vwCl ((wT k arT (tpT) (paT) (arP 99) (pdT) (arB 99) (pkT) (psT) fiT faT) ++ ((wB k arB fiB faB) ++ (wP k arP fiP faP))) H ∧ va_D A ((wT k arT (tpT) (paT) (arP 99) (pdT) (arB 99) (pkT) (psT) fiT faT) ++ ((wB k arB fiB faB) ++ (wP k arP fiP faP))) := ⟨hP, hD⟩
        obtain ⟨hP, hD⟩ : va_P G vwCl ((wT k arT (tpT) (paT) (arP 99) (pdT) (arB 99) (pkT) (psT) fiT faT) ++ ((wP k arP fiP faP) ++ (wB k arB fiB faB))) H ∧ va_D A ((wT k arT (tpT) (paT) (arP 99) (pdT) (arB 99) (pkT) (psT) fiT faT) ++ ((wP k arP fiP faP) ++ (wB k arB fiB faB))) := re_ord hP hD [0, 1, 10, 11, 12, 13, 14, 15, 16, 17, 18, 19, 2, 3, 4, 5, 6, 7, 8, 9] (by decide) rfl
        obtain ⟨h9, rc5, hp5⟩ : r = Int32.ofInt c5 ∧ (inR c5) ∧ (c5 = (gs (lc (nb (fiB 0)) ((faP 9)) b0) ((fiP 7)))) := hp
        subst h9
        have hWi84 := hp5
        exact W.iret (v := Int32.ofInt (c5)) hx hb hr (fun t ht hW => ⟨⟨Int32.ofInt (c5), (c5, faP 13, faP 22), rfl, ⟨rfl, (show (inR c5) ∧ (∀ t, inR ((faP 13) t)) ∧ (∀ t, inR ((faP 22) t)) ∧ (BuP w0 c5 (gs (lc (nb (fiB 0)) (faP 9) b0) (fiP 7)) (sdV (gs (lc (nb (fiB 0)) (faP 9) b0) (fiP 7)) (fiP 3) (buD b0 (dp (fiB 0)) (fiP 0))) (buD b0 (dp (fiB 0)) (fiP 0)) (og (bs (nb (fiB 0)) b0) 7) (fun q => evR (dcf (faP 20)) (vls (nb (fiB 0)) (faP 8) (faP 9) b0 (fiP 7) (fiP 0) (dp (fiB 0))) (stq (faP 21) q) (faP 21 q)) (fiP 24)) from ⟨(by omega), (hRaP 13), (hRaP 22), (by first | exact bu_0 (by omega) hWi84 | exact bu_1 (by omega) (sd_c hm9 hm8 hWi100 hBu31) | exact bu_2 (by omega) hBu31 | exact bu_3 (by omega) hTi124 | exact bu_4 (by omega) hBk140)⟩)⟩, by rw [ht]; exact hP, hD⟩, hS.F ht⟩) hS.2.2 dX9_bucket_87
      · refine lv_tableIn (tgt := 88) hx hb dX9_bucket_36 (by rw [iz_toInt (by omega)]; omega) (by rw [iz_toInt (by omega)]; omega) (off := 52) (by rw [iz_toInt (by omega), q4]; decide +kernel) (by decide) ?_
        refine lv_aload_n hx hb dX9_bucket_88 rfl (lv_at hl 1 rfl) ?_
        refine va_get (D := G) (ci := 6) (v := .ref (arP 99)) (C := RX9) (T := TX9) (N := 11) (ref := RX9) hx hb hts h1w hown hX.1 hP 0 rfl rfl 4 (by decide) h0w (fun _ h9 => h9) rfl dX9_bucket_89 ?_
        refine lv_aload_n hx hb dX9_bucket_92 rfl (lv_at hl 1 rfl) ?_
        refine va_get (D := G) (ci := 6) (v := .ref (arB 99)) (C := RX9) (T := TX9) (N := 11) (ref := RX9) hx hb hts h1w hown hX.1 hP 0 rfl rfl 6 (by decide) h2w (fun _ h9 => h9) rfl dX9_bucket_93 ?_
        refine va_getN (D := G) (ci := 0) (v := .int (Int32.ofInt (fiB 0))) (C := RX1) (T := TX1) (N := 12) (ref := RX1) (host := RX9) hx hb hts h3w hown hX.1 hP 12 rfl rfl 0 (by decide) (nf_37 hX.2.2.1) (fun _ h9 => h9) rfl dX9_bucket_96 ?_
        have rf0B := hRB 0
        refine lv_iload_n hx hb dX9_bucket_99 rfl (lv_at hl 2 rfl) ?_
        refine cz_i (wr := ((wT k arT (tpT) (paT) (arP 99) (pdT) (arB 99) (pkT) (psT) fiT faT) ++ (wB k arB fiB faB))) (va_runVN (As := [.int (Int32.ofInt (fiB 0)), .int (Int32.ofInt (b0))]) (rest := []) ⟨hx, hb, hml, hown, hts⟩ (mX3_weightIn l G k arP fiP faP (fiB 0) b0 H.size hRP hRaP hB8P hB20P hB21P (hRB 0) (by omega) (show 0 ≤ (fiP 7) ∧ (fiP 7) ≤ 7 from by omega) (show b0 = 0 ∨ b0 = 1 from by omega)) ⟨va_cnB 2 hts (gz [] (.code yX3_weightIn cX3_weightIn 5 (some .int)) [(25, 4)] rfl) rfl rfl rfl (nm_43 hX.2.2.1) h4w (by decide +kernel) ⟨Nat.le_of_ble_eq_true rfl, Nat.le_of_ble_eq_true rfl⟩, h7w, h8w⟩ (cy_preV (EZ_ok k) hZ hS hX hP hD hA [2, 3, 4, 5, 6, 7, 8, 9, 10, 11] rfl rfl (ci := 2) (q0 := 2) rfl rfl) rfl rfl hl.1 rfl (lv_room (Nat.le_of_ble_eq_true rfl)) dX9_bucket_100 ⟨Nat.le_of_ble_eq_true rfl, Nat.le_of_ble_eq_true rfl⟩) hP hD hS hA [2, 3, 4, 5, 6, 7, 8, 9, 10, 11] [0, 1, 12, 13, 14, 15, 16, 17, 18, 19] rfl rfl (by decide) (by decide) (fun r u H locs hp hP hD hS => ?_)
        obtain ⟨c6, rfl⟩ : ∃ z, z = u := ⟨_, rfl⟩
        obtain ⟨hP, hD⟩ : va_P G vwCl ((wT k arT (tpT) (paT) (arP 99) (pdT) (arB 99) (pkT) (psT) fiT faT) ++ ((wB k arB fiB faB) ++ (wP k arP fiP faP))) H ∧ va_D A ((wT k arT (tpT) (paT) (arP 99) (pdT) (arB 99) (pkT) (psT) fiT faT) ++ ((wB k arB fiB faB) ++ (wP k arP fiP faP))) := ⟨hP, hD⟩
        obtain ⟨hP, hD⟩ : va_P G vwCl ((wT k arT (tpT) (paT) (arP 99) (pdT) (arB 99) (pkT) (psT) fiT faT) ++ ((wP k arP fiP faP) ++ (wB k arB fiB faB))) H ∧ va_D A ((wT k arT (tpT) (paT) (arP 99) (pdT) (arB 99) (pkT) (psT) fiT faT) ++ ((wP k arP fiP faP) ++ (wB k arB fiB faB))) := re_ord hP hD [0, 1, 10, 11, 12, 13, 14, 15, 16, 17, 18, 19, 2, 3, 4, 5, 6, 7, 8, 9] (by decide) rfl
        obtain ⟨h9, rc6, hp6⟩ : r = Int32.ofInt c6 ∧ (inR c6) ∧ (c6 = (gs (lc (nb (fiB 0)) ((faP 9)) b0) ((fiP 7)))) := hp
        subst h9
        have hWi100 := hp6
        refine lv_aload_n hx hb dX9_bucket_103 rfl (lv_at hl 1 rfl) ?_
        refine va_get (D := G) (ci := 6) (v := .ref (arP 99)) (C := RX9) (T := TX9) (N := 11) (ref := RX9) hx hb hts h1w hown hX.1 hP 0 rfl rfl 4 (by decide) h0w (fun _ h9 => h9) rfl dX9_bucket_104 ?_
        refine va_getN (D := G) (ci := 2) (v := .int (Int32.ofInt (fiP 3))) (C := RX3) (T := TX3) (N := 14) (ref := RX3) (host := RX9) hx hb hts h9w hown hX.1 hP 2 rfl rfl 3 (by decide) (nf_10 hX.2.2.1) (fun _ h9 => h9) rfl dX9_bucket_107 ?_
        have rf3P := hRP 3
        refine lv_iload_n hx hb dX9_bucket_110 rfl (lv_at hl 0 rfl) ?_
        refine iv_mul (x := fiP 3) (y := c3) hx hb dX9_bucket_111 ?_
        refine iv_wr ?_
        refine iv_top (fun z7 ez7 => ?_)
        have rz7 : inR z7 := ez7 ▸ bWr_r _
        have hm9 := ez7
        refine iv_add (x := c6) (y := z7) hx hb dX9_bucket_112 ?_
        refine iv_wr ?_
        refine iv_top (fun z8 ez8 => ?_)
        have rz8 : inR z8 := ez8 ▸ bWr_r _
        have hm8 := ez8
        exact W.iret (v := Int32.ofInt (z8)) hx hb hr (fun t ht hW => ⟨⟨Int32.ofInt (z8), (z8, faP 13, faP 22), rfl, ⟨rfl, (show (inR z8) ∧ (∀ t, inR ((faP 13) t)) ∧ (∀ t, inR ((faP 22) t)) ∧ (BuP w0 z8 (gs (lc (nb (fiB 0)) (faP 9) b0) (fiP 7)) (sdV (gs (lc (nb (fiB 0)) (faP 9) b0) (fiP 7)) (fiP 3) (buD b0 (dp (fiB 0)) (fiP 0))) (buD b0 (dp (fiB 0)) (fiP 0)) (og (bs (nb (fiB 0)) b0) 7) (fun q => evR (dcf (faP 20)) (vls (nb (fiB 0)) (faP 8) (faP 9) b0 (fiP 7) (fiP 0) (dp (fiB 0))) (stq (faP 21) q) (faP 21 q)) (fiP 24)) from ⟨(by omega), (hRaP 13), (hRaP 22), (by first | exact bu_0 (by omega) hWi84 | exact bu_1 (by omega) (sd_c hm9 hm8 hWi100 hBu31) | exact bu_2 (by omega) hBu31 | exact bu_3 (by omega) hTi124 | exact bu_4 (by omega) hBk140)⟩)⟩, by rw [ht]; exact hP, hD⟩, hS.F ht⟩) hS.2.2 dX9_bucket_113
      · refine lv_tableIn (tgt := 114) hx hb dX9_bucket_36 (by rw [iz_toInt (by omega)]; omega) (by rw [iz_toInt (by omega)]; omega) (off := 78) (by rw [iz_toInt (by omega), q4]; decide +kernel) (by decide) ?_
        refine lv_iload_n hx hb dX9_bucket_114 rfl (lv_at hl 0 rfl) ?_
        exact W.iret (v := Int32.ofInt (c3)) hx hb hr (fun t ht hW => ⟨⟨Int32.ofInt (c3), (c3, faP 13, faP 22), rfl, ⟨rfl, (show (inR c3) ∧ (∀ t, inR ((faP 13) t)) ∧ (∀ t, inR ((faP 22) t)) ∧ (BuP w0 c3 (gs (lc (nb (fiB 0)) (faP 9) b0) (fiP 7)) (sdV (gs (lc (nb (fiB 0)) (faP 9) b0) (fiP 7)) (fiP 3) (buD b0 (dp (fiB 0)) (fiP 0))) (buD b0 (dp (fiB 0)) (fiP 0)) (og (bs (nb (fiB 0)) b0) 7) (fun q => evR (dcf (faP 20)) (vls (nb (fiB 0)) (faP 8) (faP 9) b0 (fiP 7) (fiP 0) (dp (fiB 0))) (stq (faP 21) q) (faP 21 q)) (fiP 24)) from ⟨(by omega), (hRaP 13), (hRaP 22), (by first | exact bu_0 (by omega) hWi84 | exact bu_1 (by omega) (sd_c hm9 hm8 hWi100 hBu31) | exact bu_2 (by omega) hBu31 | exact bu_3 (by omega) hTi124 | exact bu_4 (by omega) hBk140)⟩)⟩, by rw [ht]; exact hP, hD⟩, hS.F ht⟩) hS.2.2 dX9_bucket_115
      · refine lv_tableIn (tgt := 116) hx hb dX9_bucket_36 (by rw [iz_toInt (by omega)]; omega) (by rw [iz_toInt (by omega)]; omega) (off := 80) (by rw [iz_toInt (by omega), q4]; decide +kernel) (by decide) ?_
        refine lv_aload_n hx hb dX9_bucket_116 rfl (lv_at hl 1 rfl) ?_
        refine va_get (D := G) (ci := 6) (v := .ref (arB 99)) (C := RX9) (T := TX9) (N := 11) (ref := RX9) hx hb hts h1w hown hX.1 hP 0 rfl rfl 6 (by decide) h2w (fun _ h9 => h9) rfl dX9_bucket_117 ?_
        refine va_getN (D := G) (ci := 0) (v := .int (Int32.ofInt (fiB 0))) (C := RX1) (T := TX1) (N := 12) (ref := RX1) (host := RX9) hx hb hts h3w hown hX.1 hP 12 rfl rfl 0 (by decide) (nf_37 hX.2.2.1) (fun _ h9 => h9) rfl dX9_bucket_120 ?_
        have rf0B := hRB 0
        refine lv_iload_n hx hb dX9_bucket_123 rfl (lv_at hl 2 rfl) ?_
        refine c0_i (va_runSN (As := [.int (Int32.ofInt (fiB 0)), .int (Int32.ofInt (b0))]) (rest := []) ⟨hx, hb, hml, hown, hts⟩ (mX7_thingsIn l G k (fiB 0) b0 H.size (hRB 0) (by omega) (show b0 = 0 ∨ b0 = 1 from by omega)) ⟨va_cnB 2 hts (gz [] (.code yX7_thingsIn cX7_thingsIn 4 (some .int)) [(25, 6)] rfl) rfl rfl rfl (nm_44 hX.2.2.1) h10w (by decide +kernel) ⟨Nat.le_of_ble_eq_true rfl, Nat.le_of_ble_eq_true rfl⟩, h11w, trivial⟩ (cr_pre0 (EZ_ok k) hZ hS hX hP hD hA) rfl rfl hl.1 rfl (lv_room (Nat.le_of_ble_eq_true rfl)) dX9_bucket_124 ⟨Nat.le_of_ble_eq_true rfl, Nat.le_of_ble_eq_true rfl⟩) hP hD hS hA (fun r u H locs hp hP hD hS => ?_)
        obtain ⟨c9, rfl⟩ : ∃ z, z = u := ⟨_, rfl⟩
        obtain ⟨h9, rc9, hp9⟩ : r = Int32.ofInt c9 ∧ (inR c9) ∧ (c9 = og (bs (nb (fiB 0)) b0) 7) := hp
        subst h9
        have hTi124 := hp9
        exact W.iret (v := Int32.ofInt (c9)) hx hb hr (fun t ht hW => ⟨⟨Int32.ofInt (c9), (c9, faP 13, faP 22), rfl, ⟨rfl, (show (inR c9) ∧ (∀ t, inR ((faP 13) t)) ∧ (∀ t, inR ((faP 22) t)) ∧ (BuP w0 c9 (gs (lc (nb (fiB 0)) (faP 9) b0) (fiP 7)) (sdV (gs (lc (nb (fiB 0)) (faP 9) b0) (fiP 7)) (fiP 3) (buD b0 (dp (fiB 0)) (fiP 0))) (buD b0 (dp (fiB 0)) (fiP 0)) (og (bs (nb (fiB 0)) b0) 7) (fun q => evR (dcf (faP 20)) (vls (nb (fiB 0)) (faP 8) (faP 9) b0 (fiP 7) (fiP 0) (dp (fiB 0))) (stq (faP 21) q) (faP 21 q)) (fiP 24)) from ⟨(by omega), (hRaP 13), (hRaP 22), (by first | exact bu_0 (by omega) hWi84 | exact bu_1 (by omega) (sd_c hm9 hm8 hWi100 hBu31) | exact bu_2 (by omega) hBu31 | exact bu_3 (by omega) hTi124 | exact bu_4 (by omega) hBk140)⟩)⟩, by rw [ht]; exact hP, hD⟩, hS.F ht⟩) hS.2.2 dX9_bucket_127
      · refine lv_tableIn (tgt := 128) hx hb dX9_bucket_36 (by rw [iz_toInt (by omega)]; omega) (by rw [iz_toInt (by omega)]; omega) (off := 92) (by rw [iz_toInt (by omega), q4]; decide +kernel) (by decide) ?_
        refine lv_aload_n hx hb dX9_bucket_128 rfl (lv_at hl 1 rfl) ?_
        refine va_get (D := G) (ci := 6) (v := .ref (arP 99)) (C := RX9) (T := TX9) (N := 11) (ref := RX9) hx hb hts h1w hown hX.1 hP 0 rfl rfl 4 (by decide) h0w (fun _ h9 => h9) rfl dX9_bucket_129 ?_
        refine lv_aload_n hx hb dX9_bucket_132 rfl (lv_at hl 1 rfl) ?_
        refine va_get (D := G) (ci := 6) (v := .ref (arB 99)) (C := RX9) (T := TX9) (N := 11) (ref := RX9) hx hb hts h1w hown hX.1 hP 0 rfl rfl 6 (by decide) h2w (fun _ h9 => h9) rfl dX9_bucket_133 ?_
        refine va_getN (D := G) (ci := 0) (v := .int (Int32.ofInt (fiB 0))) (C := RX1) (T := TX1) (N := 12) (ref := RX1) (host := RX9) hx hb hts h3w hown hX.1 hP 12 rfl rfl 0 (by decide) (nf_37 hX.2.2.1) (fun _ h9 => h9) rfl dX9_bucket_136 ?_
        have rf0B := hRB 0
        refine lv_iload_n hx hb dX9_bucket_139 rfl (lv_at hl 2 rfl) ?_
        refine cz_i (wr := ((wT k arT (tpT) (paT) (arP 99) (pdT) (arB 99) (pkT) (psT) fiT faT) ++ (wB k arB fiB faB))) (va_runVN (As := [.int (Int32.ofInt (fiB 0)), .int (Int32.ofInt (b0))]) (rest := []) ⟨hx, hb, hml, hown, hts⟩ (mX3_brokenRule l G k arP fiP faP (fiB 0) b0 H.size hRP hRaP hB8P hB20P hB21P (hRB 0) (by omega) (show 0 ≤ (fiP 7) ∧ (fiP 7) ≤ 7 from by omega) (show 0 ≤ (fiP 0) ∧ (fiP 0) ≤ 11 from by omega) (show 0 ≤ (fiP 24) ∧ (fiP 24) ≤ 4 from by omega) (show b0 = 0 ∨ b0 = 1 from by omega) (show ∀ q9, 0 ≤ q9 → q9 < (fiP 24) → RWf (dcf ((faP 20))) (stq ((faP 21)) q9) ((faP 21) q9) from by first | exact hRC | omega)) ⟨va_cnB 2 hts (gz [] (.code yX3_brokenRule cX3_brokenRule 5 (some .int)) [(25, 9)] rfl) rfl rfl rfl (nm_45 hX.2.2.1) h4w (by decide +kernel) ⟨Nat.le_of_ble_eq_true rfl, Nat.le_of_ble_eq_true rfl⟩, h12w, h13w⟩ (cy_preV (EZ_ok k) hZ hS hX hP hD hA [2, 3, 4, 5, 6, 7, 8, 9, 10, 11] rfl rfl (ci := 2) (q0 := 2) rfl rfl) rfl rfl hl.1 rfl (lv_room (Nat.le_of_ble_eq_true rfl)) dX9_bucket_140 ⟨Nat.le_of_ble_eq_true rfl, Nat.le_of_ble_eq_true rfl⟩) hP hD hS hA [2, 3, 4, 5, 6, 7, 8, 9, 10, 11] [0, 1, 12, 13, 14, 15, 16, 17, 18, 19] rfl rfl (by decide) (by decide) (fun r u H locs hp hP hD hS => ?_)
        obtain ⟨c10, c11, c12⟩ := u
        obtain ⟨hP, hD⟩ : va_P G vwCl ((wT k arT (tpT) (paT) (arP 99) (pdT) (arB 99) (pkT) (psT) fiT faT) ++ ((wB k arB fiB faB) ++ (wP k arP fiP (uF (uF faP 13 (c11)) 22 (c12))))) H ∧ va_D A ((wT k arT (tpT) (paT) (arP 99) (pdT) (arB 99) (pkT) (psT) fiT faT) ++ ((wB k arB fiB faB) ++ (wP k arP fiP (uF (uF faP 13 (c11)) 22 (c12))))) := ⟨hP, hD⟩
        obtain ⟨hP, hD⟩ : va_P G vwCl ((wT k arT (tpT) (paT) (arP 99) (pdT) (arB 99) (pkT) (psT) fiT faT) ++ ((wP k arP fiP (uF (uF faP 13 (c11)) 22 (c12))) ++ (wB k arB fiB faB))) H ∧ va_D A ((wT k arT (tpT) (paT) (arP 99) (pdT) (arB 99) (pkT) (psT) fiT faT) ++ ((wP k arP fiP (uF (uF faP 13 (c11)) 22 (c12))) ++ (wB k arB fiB faB))) := re_ord hP hD [0, 1, 10, 11, 12, 13, 14, 15, 16, 17, 18, 19, 2, 3, 4, 5, 6, 7, 8, 9] (by decide) rfl
        obtain ⟨h9, rc10, rc11, rc12, hp12⟩ : r = Int32.ofInt c10 ∧ (inR c10) ∧ (∀ t, inR (c11 t)) ∧ (∀ t, inR (c12 t)) ∧ ((-1 ≤ c10 ∧ c10 < 4) ∧ brkP c10 (fun q => evR (dcf ((faP 20))) (vls (nb (fiB 0)) ((faP 8)) ((faP 9)) b0 ((fiP 7)) ((fiP 0)) (dp (fiB 0))) (stq ((faP 21)) q) ((faP 21) q)) ((fiP 24))) := hp
        subst h9
        obtain ⟨hp12, hBk140⟩ := hp12
        exact W.iret (v := Int32.ofInt (c10)) hx hb hr (fun t ht hW => ⟨⟨Int32.ofInt (c10), (c10, c11, c12), rfl, ⟨rfl, (show (inR c10) ∧ (∀ t, inR (c11 t)) ∧ (∀ t, inR (c12 t)) ∧ (BuP w0 c10 (gs (lc (nb (fiB 0)) (faP 9) b0) (fiP 7)) (sdV (gs (lc (nb (fiB 0)) (faP 9) b0) (fiP 7)) (fiP 3) (buD b0 (dp (fiB 0)) (fiP 0))) (buD b0 (dp (fiB 0)) (fiP 0)) (og (bs (nb (fiB 0)) b0) 7) (fun q => evR (dcf (faP 20)) (vls (nb (fiB 0)) (faP 8) (faP 9) b0 (fiP 7) (fiP 0) (dp (fiB 0))) (stq (faP 21) q) (faP 21 q)) (fiP 24)) from ⟨(by omega), rc11, rc12, (by first | exact bu_0 (by omega) hWi84 | exact bu_1 (by omega) (sd_c hm9 hm8 hWi100 hBu31) | exact bu_2 (by omega) hBu31 | exact bu_3 (by omega) hTi124 | exact bu_4 (by omega) hBk140)⟩)⟩, by rw [ht]; exact hP, hD⟩, hS.F ht⟩) hS.2.2 dX9_bucket_143
    · exfalso; omega

set_option maxHeartbeats 4000000 in
set_option maxRecDepth 100000 in
theorem mX9_judged (l : Launch) (G : va_G) (k : Nat → ClassId) (arT : Nat → Nat) (tpT : Nat) (paT : Nat) (ppT : Nat) (pdT : Nat) (pkT : Nat) (psT : Nat) (fiT : Nat → Int) (faT : Nat → Int → Int) (arB : Nat → Nat) (fiB : Nat → Int) (faB : Nat → Int → Int) (k0 : Int) (sz : Nat) (hRT : ∀ j, inR (fiT j)) (hRaT : ∀ j t, inR (faT j t)) (hRB : ∀ j, inR (fiB j)) (hRaB : ∀ j t, inR (faB j t)) (hr_k0 : inR k0) (hbi : 0 ≤ fiB 1 ∧ fiB 1 ≤ 60 ∧ 0 ≤ fiB 4 ∧ fiB 4 ≤ 6) : CNi l G k (EZ k) yX9_judged wzX9_judged ({ frames := 0, cells := 0, slots := 0, locals := 0 }) [.ref (arT 99), .int (Int32.ofInt (k0))] sz ((wT k arT (tpT) (paT) (ppT) (pdT) (arB 99) (pkT) (psT) fiT faT) ++ (wB k arB fiB faB)) (fun (r0 : Int32) (u : Int × (Int → Int)) => r0 = Int32.ofInt (u.1) ∧ (inR u.1) ∧ (∀ t, inR (u.2 t)) ∧ (((u.1 = 0 → k0 = 0) ∧ 0 ≤ (fiB 1) ∧ (fiB 1) ≤ 60 ∧ 0 ≤ (fiB 4) ∧ (fiB 4) ≤ 6) ∧ u.1 = jdg k0 (fiB 1))) (fun (u : Int × (Int → Int)) => ((wT k arT (tpT) (paT) (ppT) (pdT) (arB 99) (pkT) (psT) fiT faT) ++ (wB k arB fiB (uF faB 11 (u.2))))) := by
  refine Met.ofW (cc := cX9_judged) (maxL := 3) (ret := (some .int)) (by decide) rfl ?_
  intro p e s m args below meth c s₁ B hml hv
  obtain ⟨rfl, hsz, hP, hX, hD0, hZ0⟩ := hv
  have hx := B.exec
  have hb := B.bytes
  have hr := B.returns
  have hts := atoms_spec (ws := wzX9_judged) B.pre
  have hown : s.vm.findClass RX9 = some m.cls := findClass_of_methodNamed B.named
  subst hsz
  have hD := hD0.self (sz := s.heap.size)
  have hZ := hZ0
  generalize hAe : va_A ((wT k arT (tpT) (paT) (ppT) (pdT) (arB 99) (pkT) (psT) fiT faT) ++ (wB k arB fiB faB)) s.heap.size = A at hD hZ ⊢
  have hA : ∀ q : Nat, s.heap.size ≤ q → A q := fun q h => by rw [← hAe]; exact Or.inr h
  have hS : va_S A s.heap s.heap [] := va_S.rf
  have hl := lv_entry ([.ref (arT 99), .int (Int32.ofInt (k0))]) (n := 3) (Nat.le_of_ble_eq_true rfl)
  rw [lg_entry_eq]
  generalize (lg_sl ([.ref (arT 99), .int (Int32.ofInt (k0))]) ++ List.replicate (3 - (lg_sl ([.ref (arT 99), .int (Int32.ofInt (k0))])).length) Slot.unset).toArray = ls at hl ⊢
  have hl : lv_has ls 3 [(0, .ref (arT 99)), (1, .int (Int32.ofInt (k0)))] := hl
  obtain ⟨H, eH⟩ : ∃ H, H = s.heap := ⟨_, rfl⟩
  rw [← eH] at hP
  have hS : va_S A s.heap H [] := by rw [eH]; exact hS
  have gW : s.heap = H := eH.symm
  refine iv_heap gW ?_
  have h0w := hts (.fieldLink RX9 42 "RopeTown" "book" "LRopeTown$Book;") (wz_at 1 5 rfl)
  have h1w : ∀ w ∈ wsX90, w ∈ wzX9_judged := fun w h => List.mem_cons_of_mem _ (inlX9 w h)
  have h2w : ∀ w ∈ wsX10, w ∈ wzX9_judged := fun w h => List.mem_cons_of_mem _ (inlX1 w h)
  refine iv_join (G := G) (A := A) (H0 := s.heap) (α := Int) (nL := 3) 22 (fun b9 => [.int (Int32.ofInt (b9))]) (fun b9 => ((wT k arT (tpT) (paT) (ppT) (pdT) (arB 99) (pkT) (psT) fiT faT) ++ (wB k arB fiB faB))) (fun b9 => [(0, .ref (arT 99)), (1, .int (Int32.ofInt (k0)))]) (fun b9 => inR b9 ∧ (b9 = jdg k0 (fiB 1))) ?_ (fun J22 => ?_)
  · intro s0_1 hi9 H locs ls hP hD hS hl
    obtain ⟨r_s0_1, hinv⟩ : inR s0_1 ∧ (s0_1 = jdg k0 (fiB 1)) := hi9
    obtain ⟨hP, hD⟩ : va_P G vwCl ((wT k arT (tpT) (paT) (ppT) (pdT) (arB 99) (pkT) (psT) fiT faT) ++ (wB k arB fiB faB)) H ∧ va_D A ((wT k arT (tpT) (paT) (ppT) (pdT) (arB 99) (pkT) (psT) fiT faT) ++ (wB k arB fiB faB)) := ⟨hP, hD⟩
    have hl : lv_has ls 3 [(0, .ref (arT 99)), (1, .int (Int32.ofInt (k0)))] := hl
    refine lv_istore_n (lv' := [(2, .int (Int32.ofInt (s0_1))), (0, .ref (arT 99)), (1, .int (Int32.ofInt (k0)))]) hx hb dX9_judged_22 rfl hl (by decide) rfl (fun ls hl => ?_)
    refine lv_iload_n hx hb dX9_judged_23 rfl (lv_at hl 0 rfl) ?_
    refine iv_if_eq (tgt := 40) hx hb (by omega) dX9_judged_24 (by decide) (fun q2 => ?_) (fun q2 => ?_)
    · refine lv_iload_n hx hb dX9_judged_40 rfl (lv_at hl 0 rfl) ?_
      exact W.iret (v := Int32.ofInt (s0_1)) hx hb hr (fun t ht hW => ⟨⟨Int32.ofInt (s0_1), (s0_1, faB 11), rfl, ⟨rfl, (show (inR s0_1) ∧ (∀ t, inR ((faB 11) t)) ∧ (((s0_1 = 0 → k0 = 0) ∧ 0 ≤ (fiB 1) ∧ (fiB 1) ≤ 60 ∧ 0 ≤ (fiB 4) ∧ (fiB 4) ≤ 6) ∧ s0_1 = jdg k0 (fiB 1)) from ⟨(by omega), (hRaB 11), (by first | exact ⟨by unfold jdg at hinv; omega, hinv⟩ | exact ⟨by unfold jdg at hinv; omega, by omega⟩)⟩)⟩, by rw [ht]; exact hP, hD⟩, hS.F ht⟩) hS.2.2 dX9_judged_41
    · refine lv_aload_n hx hb dX9_judged_27 rfl (lv_at hl 1 rfl) ?_
      refine va_get (D := G) (ci := 6) (v := .ref (arB 99)) (C := RX9) (T := TX9) (N := 11) (ref := RX9) hx hb hts h1w hown hX.1 hP 0 rfl rfl 6 (by decide) h0w (fun _ h9 => h9) rfl dX9_judged_28 ?_
      refine va_getN (D := G) (ci := 0) (v := .ref (arB 11)) (C := RX1) (T := TX1) (N := 12) (ref := RX1) (host := RX9) hx hb hts h2w hown hX.1 hP 2 rfl rfl 11 (by decide) (nf_47 hX.2.2.1) (fun _ h9 => h9) rfl dX9_judged_31 ?_
      refine lv_iconst (v := Int32.ofInt 1) hx hb dX9_judged_34 (by decide +kernel) ?_
      refine lv_dup2_11 hx hb dX9_judged_35 rfl rfl ?_
      refine iv_iald hx hb hX.1 hP 9 0 rfl rfl (by omega) (by omega) (by decide) dX9_judged_36 ?_
      refine iv_top (fun z3 ez3 => ?_)
      have rz3 : inR z3 := ez3 ▸ (hRaB 11) _
      have ez3 : z3 = (faB 11) 1 := ez3
      refine lv_iconst (v := Int32.ofInt 1) hx hb dX9_judged_37 (by decide +kernel) ?_
      refine iv_add (x := z3) (y := 1) hx hb dX9_judged_38 ?_
      refine iv_wr ?_
      refine iv_top (fun z4 ez4 => ?_)
      have rz4 : inR z4 := ez4 ▸ bWr_r _
      refine iv_iast hx hb hX.1 hP hD hS 9 0 rfl rfl (fun g' => show _ = ((wT k arT (tpT) (paT) (ppT) (pdT) (arB 99) (pkT) (psT) fiT faT) ++ (wB k arB fiB (uF faB 11 (g')))) from rfl) (by omega) (by omega) (by decide) dX9_judged_39 (fun H locs hP hD hS => ?_)
      obtain ⟨g5, eg5, rg5⟩ : ∃ z, z = uA (faB 11) (1) (z4) ∧ ∀ t, inR (z t) := ⟨_, rfl, iU (hRaB 11) (by omega)⟩
      rw [← eg5] at hP hD
      refine lv_iload_n hx hb dX9_judged_40 rfl (lv_at hl 0 rfl) ?_
      exact W.iret (v := Int32.ofInt (s0_1)) hx hb hr (fun t ht hW => ⟨⟨Int32.ofInt (s0_1), (s0_1, g5), rfl, ⟨rfl, (show (inR s0_1) ∧ (∀ t, inR (g5 t)) ∧ (((s0_1 = 0 → k0 = 0) ∧ 0 ≤ (fiB 1) ∧ (fiB 1) ≤ 60 ∧ 0 ≤ (fiB 4) ∧ (fiB 4) ≤ 6) ∧ s0_1 = jdg k0 (fiB 1)) from ⟨(by omega), rg5, (by first | exact ⟨by unfold jdg at hinv; omega, hinv⟩ | exact ⟨by unfold jdg at hinv; omega, by omega⟩)⟩)⟩, by rw [ht]; exact hP, hD⟩, hS.F ht⟩) hS.2.2 dX9_judged_41
  · refine lv_iload_n hx hb dX9_judged_0 rfl (lv_at hl 1 rfl) ?_
    refine iv_if_ne (tgt := 21) hx hb (by omega) dX9_judged_1 (by decide) (fun q6 => ?_) (fun q6 => ?_)
    · refine lv_iload_n hx hb dX9_judged_21 rfl (lv_at hl 1 rfl) ?_
      have hl : lv_has ls 3 [(0, .ref (arT 99)), (1, .int (Int32.ofInt (k0)))] := lv_sub hl [0, 1] rfl
      exact J22 (k0) (show inR k0 ∧ (k0 = jdg k0 (fiB 1)) from ⟨(by omega), (by unfold jdg; omega)⟩) _ _ _ hP hD hS hl
    · refine lv_aload_n hx hb dX9_judged_4 rfl (lv_at hl 0 rfl) ?_
      refine va_get (D := G) (ci := 6) (v := .ref (arB 99)) (C := RX9) (T := TX9) (N := 11) (ref := RX9) hx hb hts h1w hown hX.1 hP 0 rfl rfl 6 (by decide) h0w (fun _ h9 => h9) rfl dX9_judged_5 ?_
      refine va_getN (D := G) (ci := 0) (v := .int (Int32.ofInt (fiB 1))) (C := RX1) (T := TX1) (N := 12) (ref := RX1) (host := RX9) hx hb hts h2w hown hX.1 hP 2 rfl rfl 1 (by decide) (nf_38 hX.2.2.1) (fun _ h9 => h9) rfl dX9_judged_8 ?_
      have rf1B := hRB 1
      refine lv_bipush (v := Int32.ofInt 60) hx hb dX9_judged_11 (by decide +kernel) ?_
      refine iv_icmp_lt (tgt := 21) hx hb (by omega) (by omega) dX9_judged_13 (by decide) (fun q7 => ?_) (fun q7 => ?_)
      · refine lv_iload_n hx hb dX9_judged_21 rfl (lv_at hl 1 rfl) ?_
        have hl : lv_has ls 3 [(0, .ref (arT 99)), (1, .int (Int32.ofInt (k0)))] := lv_sub hl [0, 1] rfl
        exact J22 (k0) (show inR k0 ∧ (k0 = jdg k0 (fiB 1)) from ⟨(by omega), (by unfold jdg; omega)⟩) _ _ _ hP hD hS hl
      · refine lv_bipush (v := Int32.ofInt 8) hx hb dX9_judged_16 (by decide +kernel) ?_
        refine lv_goto (tgt := 22) hx hb dX9_judged_18 (by decide) ?_
        have hl : lv_has ls 3 [(0, .ref (arT 99)), (1, .int (Int32.ofInt (k0)))] := lv_sub hl [0, 1] rfl
        exact J22 (8) (show inR 8 ∧ (8 = jdg k0 (fiB 1)) from ⟨(by omega), (by unfold jdg; omega)⟩) _ _ _ hP hD hS hl

set_option maxHeartbeats 4000000 in
set_option maxRecDepth 100000 in
theorem mX9_load (l : Launch) (G : va_G) (k : Nat → ClassId) (arT : Nat → Nat) (tpT : Nat) (paT : Nat) (pdT : Nat) (pkT : Nat) (psT : Nat) (fiT : Nat → Int) (faT : Nat → Int → Int) (arP : Nat → Nat) (fiP : Nat → Int) (faP : Nat → Int → Int) (arB : Nat → Nat) (fiB : Nat → Int) (faB : Nat → Int → Int) (t0 : Int) (b0 : Int) (sz : Nat) (hRT : ∀ j, inR (fiT j)) (hRaT : ∀ j t, inR (faT j t)) (hRP : ∀ j, inR (fiP j)) (hRaP : ∀ j t, inR (faP j t)) (hB8P : bnd (faP 8) 7 0 4) (hB20P : bnd (faP 20) 600 (-1000) 10000) (hB21P : bnd (faP 21) 4 0 601) (hRB : ∀ j, inR (fiB j)) (hRaB : ∀ j t, inR (faB j t)) (hr_t0 : inR t0) (hr_b0 : inR b0) (hpi : 0 ≤ fiP 7 ∧ fiP 7 ≤ 7 ∧ 0 ≤ fiP 0 ∧ fiP 0 ≤ 11 ∧ 0 ≤ fiP 24 ∧ fiP 24 ≤ 4 ∧ 0 ≤ fiP 23 ∧ fiP 23 ≤ 600) (hbi : 0 ≤ fiB 1 ∧ fiB 1 ≤ 60 ∧ 0 ≤ fiB 4 ∧ fiB 4 ≤ 6) : CNi l G k (EZ k) yX9_load wzX9_load ({ frames := 4, cells := 0, slots := 0, locals := 88 }) [.ref (arT 99), .int (Int32.ofInt (t0)), .int (Int32.ofInt (b0))] sz ((wT k arT (tpT) (paT) (arP 99) (pdT) (arB 99) (pkT) (psT) fiT faT) ++ ((wP k arP fiP faP) ++ (wB k arB fiB faB))) (fun (r0 : Int32) (u : Int × (Int → Int) × (Int → Int) × (Int → Int) × (Int → Int) × (Int → Int) × (Int → Int) × Int × Int × Int × Int) => r0 = Int32.ofInt (u.1) ∧ (inR u.1) ∧ (∀ t, inR (u.2.1 t)) ∧ (∀ t, inR (u.2.2.1 t)) ∧ (∀ t, inR (u.2.2.2.1 t)) ∧ (∀ t, inR (u.2.2.2.2.1 t)) ∧ (∀ t, inR (u.2.2.2.2.2.1 t)) ∧ (∀ t, inR (u.2.2.2.2.2.2.1 t)) ∧ (inR u.2.2.2.2.2.2.2.1) ∧ (inR u.2.2.2.2.2.2.2.2.1) ∧ (inR u.2.2.2.2.2.2.2.2.2.1) ∧ (inR u.2.2.2.2.2.2.2.2.2.2) ∧ ((0 ≤ u.2.2.2.2.2.2.2.2.1 ∧ u.2.2.2.2.2.2.2.2.1 ≤ 60 ∧ 0 ≤ (fiB 4) ∧ (fiB 4) ≤ 6) ∧ NtM u.1 (fiB 1) u.2.2.2.2.2.2.2.2.1 (fiB 0) u.2.2.2.2.2.2.2.1 0 t0 b0 (putS (fiB 0) t0 (12 + b0)) (faB 5) u.2.1 (faB 6) u.2.2.1 (faB 7) u.2.2.2.1 (faB 8) u.2.2.2.2.1 ∧ u.1 = jdg (ldC (fiP 7) t0 b0 (nb (fiB 0) t0) (faP 11 t0) (dp (fiB 0)) (fiP 0)) (fiB 1))) (fun (u : Int × (Int → Int) × (Int → Int) × (Int → Int) × (Int → Int) × (Int → Int) × (Int → Int) × Int × Int × Int × Int) => ((wT k arT (tpT) (paT) (arP 99) (pdT) (arB 99) (pkT) (psT) fiT faT) ++ ((wP k arP fiP faP) ++ (wB k arB (uF (uF (uF (uF fiB 0 (u.2.2.2.2.2.2.2.1)) 1 (u.2.2.2.2.2.2.2.2.1)) 2 (u.2.2.2.2.2.2.2.2.2.1)) 3 (u.2.2.2.2.2.2.2.2.2.2)) (uF (uF (uF (uF (uF (uF faB 5 (u.2.1)) 6 (u.2.2.1)) 7 (u.2.2.2.1)) 8 (u.2.2.2.2.1)) 9 (u.2.2.2.2.2.1)) 11 (u.2.2.2.2.2.2.1)))))) := by
  refine Met.ofW (cc := cX9_load) (maxL := 4) (ret := (some .int)) (by decide) rfl ?_
  intro p e s m args below meth c s₁ B hml hv
  obtain ⟨rfl, hsz, hP, hX, hD0, hZ0⟩ := hv
  have hx := B.exec
  have hb := B.bytes
  have hr := B.returns
  have hts := atoms_spec (ws := wzX9_load) B.pre
  have hown : s.vm.findClass RX9 = some m.cls := findClass_of_methodNamed B.named
  subst hsz
  have hD := hD0.self (sz := s.heap.size)
  have hZ := hZ0
  generalize hAe : va_A ((wT k arT (tpT) (paT) (arP 99) (pdT) (arB 99) (pkT) (psT) fiT faT) ++ ((wP k arP fiP faP) ++ (wB k arB fiB faB))) s.heap.size = A at hD hZ ⊢
  have hA : ∀ q : Nat, s.heap.size ≤ q → A q := fun q h => by rw [← hAe]; exact Or.inr h
  have hS : va_S A s.heap s.heap [] := va_S.rf
  have hl := lv_entry ([.ref (arT 99), .int (Int32.ofInt (t0)), .int (Int32.ofInt (b0))]) (n := 4) (Nat.le_of_ble_eq_true rfl)
  rw [lg_entry_eq]
  generalize (lg_sl ([.ref (arT 99), .int (Int32.ofInt (t0)), .int (Int32.ofInt (b0))]) ++ List.replicate (4 - (lg_sl ([.ref (arT 99), .int (Int32.ofInt (t0)), .int (Int32.ofInt (b0))])).length) Slot.unset).toArray = ls at hl ⊢
  have hl : lv_has ls 4 [(0, .ref (arT 99)), (1, .int (Int32.ofInt (t0))), (2, .int (Int32.ofInt (b0)))] := hl
  obtain ⟨H, eH⟩ : ∃ H, H = s.heap := ⟨_, rfl⟩
  rw [← eH] at hP
  have hS : va_S A s.heap H [] := by rw [eH]; exact hS
  have gW : s.heap = H := eH.symm
  refine iv_heap gW ?_
  have h0w := hts (.fieldLink RX9 23 "RopeTown" "plan" "LRopeTown$Plan;") (wz_at 0 20 rfl)
  have h1w : ∀ w ∈ wsX90, w ∈ wzX9_load := fun w h => List.mem_cons_of_mem _ (inlX9 w h)
  have h2w := hts (.fieldLink RX9 42 "RopeTown" "book" "LRopeTown$Book;") (wz_at 1 5 rfl)
  have h3w : ∀ w ∈ wsX10, w ∈ wzX9_load := fun w h => List.mem_cons_of_mem _ (inlX1 w h)
  have h4w := hts (.initialized RX3) (wz_at 0 19 rfl)
  have h5w := hts (.instanceMethod yX3_loadTrouble) (wz_at 27 3 rfl)
  have h6w := hts (.selects RX3 yX3_loadTrouble yX3_loadTrouble) (wz_at 27 4 rfl)
  have h7w := hts (.initialized RX7) (wz_at 5 10 rfl)
  have h8w := hts (.static yX7_put) (wz_at 5 13 rfl)
  have h9w := hts (.initialized RX1) (wz_at 1 4 rfl)
  have h10w := hts (.instanceMethod yX1_note) (wz_at 27 13 rfl)
  have h11w := hts (.selects RX1 yX1_note yX1_note) (wz_at 27 14 rfl)
  refine lv_aload_n hx hb dX9_load_0 rfl (lv_at hl 0 rfl) ?_
  refine lv_aload_n hx hb dX9_load_1 rfl (lv_at hl 0 rfl) ?_
  refine va_get (D := G) (ci := 6) (v := .ref (arP 99)) (C := RX9) (T := TX9) (N := 11) (ref := RX9) hx hb hts h1w hown hX.1 hP 0 rfl rfl 4 (by decide) h0w (fun _ h9 => h9) rfl dX9_load_2 ?_
  refine lv_aload_n hx hb dX9_load_5 rfl (lv_at hl 0 rfl) ?_
  refine va_get (D := G) (ci := 6) (v := .ref (arB 99)) (C := RX9) (T := TX9) (N := 11) (ref := RX9) hx hb hts h1w hown hX.1 hP 0 rfl rfl 6 (by decide) h2w (fun _ h9 => h9) rfl dX9_load_6 ?_
  refine va_getN (D := G) (ci := 0) (v := .int (Int32.ofInt (fiB 0))) (C := RX1) (T := TX1) (N := 12) (ref := RX1) (host := RX9) hx hb hts h3w hown hX.1 hP 12 rfl rfl 0 (by decide) (nf_37 hX.2.2.1) (fun _ h9 => h9) rfl dX9_load_9 ?_
  have rf0B := hRB 0
  refine lv_iload_n hx hb dX9_load_12 rfl (lv_at hl 1 rfl) ?_
  refine lv_iload_n hx hb dX9_load_13 rfl (lv_at hl 2 rfl) ?_
  refine cz_i (wr := ((wT k arT (tpT) (paT) (arP 99) (pdT) (arB 99) (pkT) (psT) fiT faT) ++ (wB k arB fiB faB))) (va_runVN (As := [.int (Int32.ofInt (fiB 0)), .int (Int32.ofInt (t0)), .int (Int32.ofInt (b0))]) (rest := [.ref (arT 99)]) ⟨hx, hb, hml, hown, hts⟩ (mX3_loadTrouble l G k arP fiP faP (fiB 0) t0 b0 H.size hRP hRaP hB8P hB20P hB21P (hRB 0) (by omega) (by omega) (show 0 ≤ (fiP 7) ∧ (fiP 7) ≤ 7 from by omega) (show 0 ≤ (fiP 0) ∧ (fiP 0) ≤ 11 from by omega)) ⟨va_cnB 3 hts (gz [] (.code yX3_loadTrouble cX3_loadTrouble 4 (some .int)) [(27, 5)] rfl) rfl rfl rfl (nm_11 hX.2.2.1) h4w (by decide +kernel) ⟨Nat.le_of_ble_eq_true rfl, Nat.le_of_ble_eq_true rfl⟩, h5w, h6w⟩ (cy_preV (EZ_ok k) hZ hS hX hP hD hA [2, 3, 4, 5, 6, 7, 8, 9, 10, 11] rfl rfl (ci := 2) (q0 := 2) rfl rfl) rfl rfl hl.1 rfl (lv_room (Nat.le_of_ble_eq_true rfl)) dX9_load_14 ⟨Nat.le_of_ble_eq_true rfl, Nat.le_of_ble_eq_true rfl⟩) hP hD hS hA [2, 3, 4, 5, 6, 7, 8, 9, 10, 11] [0, 1, 12, 13, 14, 15, 16, 17, 18, 19] rfl rfl (by decide) (by decide) (fun r u H locs hp hP hD hS => ?_)
  obtain ⟨c1, rfl⟩ : ∃ z, z = u := ⟨_, rfl⟩
  obtain ⟨hP, hD⟩ : va_P G vwCl ((wT k arT (tpT) (paT) (arP 99) (pdT) (arB 99) (pkT) (psT) fiT faT) ++ ((wB k arB fiB faB) ++ (wP k arP fiP faP))) H ∧ va_D A ((wT k arT (tpT) (paT) (arP 99) (pdT) (arB 99) (pkT) (psT) fiT faT) ++ ((wB k arB fiB faB) ++ (wP k arP fiP faP))) := ⟨hP, hD⟩
  obtain ⟨hP, hD⟩ : va_P G vwCl ((wT k arT (tpT) (paT) (arP 99) (pdT) (arB 99) (pkT) (psT) fiT faT) ++ ((wP k arP fiP faP) ++ (wB k arB fiB faB))) H ∧ va_D A ((wT k arT (tpT) (paT) (arP 99) (pdT) (arB 99) (pkT) (psT) fiT faT) ++ ((wP k arP fiP faP) ++ (wB k arB fiB faB))) := re_ord hP hD [0, 1, 10, 11, 12, 13, 14, 15, 16, 17, 18, 19, 2, 3, 4, 5, 6, 7, 8, 9] (by decide) rfl
  obtain ⟨h9, rc1, hp1⟩ : r = Int32.ofInt c1 ∧ (inR c1) ∧ (((0 ≤ c1 ∧ c1 ≤ 3) ∧ (c1 = 0 → 0 ≤ t0 ∧ t0 < 7 ∧ 0 ≤ b0 ∧ b0 ≤ 1)) ∧ c1 = ldC ((fiP 7)) t0 b0 (nb (fiB 0) t0) ((faP 11) t0) (dp (fiB 0)) ((fiP 0))) := hp
  subst h9
  obtain ⟨hp1, hLc⟩ := hp1
  refine cz_i (wr := (wP k arP fiP faP)) (va_runV (As := [.int (Int32.ofInt (c1))]) (rest := []) ⟨hx, hb, hml, hown, hts⟩ (mX9_judged l G k arT tpT paT (arP 99) pdT pkT psT fiT faT arB fiB faB c1 H.size hRT hRaT hRB hRaB (by omega) (show 0 ≤ (fiB 1) ∧ (fiB 1) ≤ 60 ∧ 0 ≤ (fiB 4) ∧ (fiB 4) ≤ 6 from by omega)) (cwV 1 hts (gz [.methodLink RX9 197 yX9_judged, .instanceMethod yX9_judged, .selects RX9 yX9_judged yX9_judged, .initialized RX9] (.code yX9_judged cX9_judged 3 (some .int)) [(27, 9), (27, 10), (27, 11), (0, 2), (27, 12)] rfl) rfl rfl rfl (by decide +kernel) ⟨Nat.le_of_ble_eq_true rfl, Nat.le_of_ble_eq_true rfl⟩) (cy_preV (EZ_ok k) hZ hS hX hP hD hA [0, 1, 12, 13, 14, 15, 16, 17, 18, 19] rfl rfl (ci := 6) (q0 := 0) rfl rfl) rfl rfl hl.1 rfl (lv_room (Nat.le_of_ble_eq_true rfl)) dX9_load_17 ⟨Nat.le_of_ble_eq_true rfl, Nat.le_of_ble_eq_true rfl⟩) hP hD hS hA [0, 1, 12, 13, 14, 15, 16, 17, 18, 19] [2, 3, 4, 5, 6, 7, 8, 9, 10, 11] rfl rfl (by decide) (by decide) (fun r u H locs hp hP hD hS => ?_)
  obtain ⟨c2, c3⟩ := u
  obtain ⟨hP, hD⟩ : va_P G vwCl ((wP k arP fiP faP) ++ ((wT k arT (tpT) (paT) (arP 99) (pdT) (arB 99) (pkT) (psT) fiT faT) ++ (wB k arB fiB (uF faB 11 (c3))))) H ∧ va_D A ((wP k arP fiP faP) ++ ((wT k arT (tpT) (paT) (arP 99) (pdT) (arB 99) (pkT) (psT) fiT faT) ++ (wB k arB fiB (uF faB 11 (c3))))) := ⟨hP, hD⟩
  obtain ⟨hP, hD⟩ : va_P G vwCl ((wT k arT (tpT) (paT) (arP 99) (pdT) (arB 99) (pkT) (psT) fiT faT) ++ ((wP k arP fiP faP) ++ (wB k arB fiB (uF faB 11 (c3))))) H ∧ va_D A ((wT k arT (tpT) (paT) (arP 99) (pdT) (arB 99) (pkT) (psT) fiT faT) ++ ((wP k arP fiP faP) ++ (wB k arB fiB (uF faB 11 (c3))))) := re_ord hP hD [10, 11, 0, 1, 2, 3, 4, 5, 6, 7, 8, 9, 12, 13, 14, 15, 16, 17, 18, 19] (by decide) rfl
  obtain ⟨h9, rc2, rc3, hp3⟩ : r = Int32.ofInt c2 ∧ (inR c2) ∧ (∀ t, inR (c3 t)) ∧ (((c2 = 0 → c1 = 0) ∧ 0 ≤ ((fiB 1)) ∧ ((fiB 1)) ≤ 60 ∧ 0 ≤ ((fiB 4)) ∧ ((fiB 4)) ≤ 6) ∧ c2 = jdg c1 ((fiB 1))) := hp
  subst h9
  obtain ⟨hp3, hJd⟩ := hp3
  refine lv_istore_n (lv' := [(3, .int (Int32.ofInt (c2))), (0, .ref (arT 99)), (1, .int (Int32.ofInt (t0))), (2, .int (Int32.ofInt (b0)))]) hx hb dX9_load_20 rfl hl (by decide) rfl (fun ls hl => ?_)
  refine lv_iload_n hx hb dX9_load_21 rfl (lv_at hl 0 rfl) ?_
  refine iv_if_ne (tgt := 51) hx hb (by omega) dX9_load_22 (by decide) (fun q4 => ?_) (fun q4 => ?_)
  · refine lv_iload_n hx hb dX9_load_51 rfl (lv_at hl 0 rfl) ?_
    exact W.iret (v := Int32.ofInt (c2)) hx hb hr (fun t ht hW => ⟨⟨Int32.ofInt (c2), (c2, faB 5, faB 6, faB 7, faB 8, faB 9, c3, fiB 0, fiB 1, fiB 2, fiB 3), rfl, ⟨rfl, (show (inR c2) ∧ (∀ t, inR ((faB 5) t)) ∧ (∀ t, inR ((faB 6) t)) ∧ (∀ t, inR ((faB 7) t)) ∧ (∀ t, inR ((faB 8) t)) ∧ (∀ t, inR ((faB 9) t)) ∧ (∀ t, inR (c3 t)) ∧ (inR (fiB 0)) ∧ (inR (fiB 1)) ∧ (inR (fiB 2)) ∧ (inR (fiB 3)) ∧ ((0 ≤ (fiB 1) ∧ (fiB 1) ≤ 60 ∧ 0 ≤ (fiB 4) ∧ (fiB 4) ≤ 6) ∧ NtM c2 (fiB 1) (fiB 1) (fiB 0) (fiB 0) 0 t0 b0 (putS (fiB 0) t0 (12 + b0)) (faB 5) (faB 5) (faB 6) (faB 6) (faB 7) (faB 7) (faB 8) (faB 8) ∧ c2 = jdg (ldC (fiP 7) t0 b0 (nb (fiB 0) t0) (faP 11 t0) (dp (fiB 0)) (fiP 0)) (fiB 1)) from ⟨(by omega), (hRaB 5), (hRaB 6), (hRaB 7), (hRaB 8), (hRaB 9), rc3, (hRB 0), (hRB 1), (hRB 2), (hRB 3), (by first | exact ⟨by omega, ntm_no (by omega), by rw [← hLc]; exact hJd⟩ | exact ⟨by omega, ntm_ok (by omega) hJd hNp hPu45, by rw [← hLc]; exact hJd⟩)⟩)⟩, by rw [ht]; exact hP, hD⟩, hS.F ht⟩) hS.2.2 dX9_load_52
  · refine lv_aload_n hx hb dX9_load_25 rfl (lv_at hl 1 rfl) ?_
    refine va_get (D := G) (ci := 6) (v := .ref (arB 99)) (C := RX9) (T := TX9) (N := 11) (ref := RX9) hx hb hts h1w hown hX.1 hP 0 rfl rfl 6 (by decide) h2w (fun _ h9 => h9) rfl dX9_load_26 ?_
    refine lv_iconst (v := Int32.ofInt 0) hx hb dX9_load_29 (by decide +kernel) ?_
    refine lv_iload_n hx hb dX9_load_30 rfl (lv_at hl 2 rfl) ?_
    refine lv_iload_n hx hb dX9_load_31 rfl (lv_at hl 3 rfl) ?_
    refine lv_iconst (v := Int32.ofInt 0) hx hb dX9_load_32 (by decide +kernel) ?_
    refine lv_aload_n hx hb dX9_load_33 rfl (lv_at hl 1 rfl) ?_
    refine va_get (D := G) (ci := 6) (v := .ref (arB 99)) (C := RX9) (T := TX9) (N := 11) (ref := RX9) hx hb hts h1w hown hX.1 hP 0 rfl rfl 6 (by decide) h2w (fun _ h9 => h9) rfl dX9_load_34 ?_
    refine va_getN (D := G) (ci := 0) (v := .int (Int32.ofInt (fiB 0))) (C := RX1) (T := TX1) (N := 12) (ref := RX1) (host := RX9) hx hb hts h3w hown hX.1 hP 12 rfl rfl 0 (by decide) (nf_37 hX.2.2.1) (fun _ h9 => h9) rfl dX9_load_37 ?_
    have rf0B := hRB 0
    refine lv_iload_n hx hb dX9_load_40 rfl (lv_at hl 2 rfl) ?_
    refine lv_bipush (v := Int32.ofInt 12) hx hb dX9_load_41 (by decide +kernel) ?_
    refine lv_iload_n hx hb dX9_load_43 rfl (lv_at hl 3 rfl) ?_
    refine iv_add (x := 12) (y := b0) hx hb dX9_load_44 ?_
    refine c0_i (va_runSN (As := [.int (Int32.ofInt (fiB 0)), .int (Int32.ofInt (t0)), .int (Int32.ofInt ((12 + b0)))]) (rest := [.int (Int32.ofInt (0)), .int (Int32.ofInt (b0)), .int (Int32.ofInt (t0)), .int (Int32.ofInt (0)), .ref (arB 99)]) ⟨hx, hb, hml, hown, hts⟩ (mX7_put l G k (fiB 0) t0 (12 + b0) H.size (hRB 0) (by omega) (by omega)) ⟨va_cnB 3 hts (gz [] (.code yX7_put cX7_put 3 (some .int)) [(5, 14)] rfl) rfl rfl rfl (nm_14 hX.2.2.1) h7w (by decide +kernel) ⟨Nat.le_of_ble_eq_true rfl, Nat.le_of_ble_eq_true rfl⟩, h8w, trivial⟩ (cr_pre0 (EZ_ok k) hZ hS hX hP hD hA) rfl rfl hl.1 rfl (lv_room (Nat.le_of_ble_eq_true rfl)) dX9_load_45 ⟨Nat.le_of_ble_eq_true rfl, Nat.le_of_ble_eq_true rfl⟩) hP hD hS hA (fun r u H locs hp hP hD hS => ?_)
    obtain ⟨c5, rfl⟩ : ∃ z, z = u := ⟨_, rfl⟩
    obtain ⟨h9, rc5, hp5⟩ : r = Int32.ofInt c5 ∧ (inR c5) ∧ (c5 = putS (fiB 0) t0 (12 + b0)) := hp
    subst h9
    have hPu45 := hp5
    refine cz_v (wr := ((wT k arT (tpT) (paT) (arP 99) (pdT) (arB 99) (pkT) (psT) fiT faT) ++ (wP k arP fiP faP))) (va_runVN (As := [.int (Int32.ofInt (0)), .int (Int32.ofInt (t0)), .int (Int32.ofInt (b0)), .int (Int32.ofInt (0)), .int (Int32.ofInt (c5))]) (rest := []) ⟨hx, hb, hml, hown, hts⟩ (mX1_note l G k arB fiB (uF faB 11 (c3)) 0 t0 b0 0 c5 H.size hRB (iG hRaB rc3) (by omega) (by omega) (by omega) (by omega) (by omega) (show 0 ≤ (fiB 1) ∧ (fiB 1) ≤ 60 from by omega)) ⟨va_cnB 5 hts (gz [] (.code yX1_note cX1_note 6 none) [(27, 15)] rfl) rfl rfl rfl (nm_15 hX.2.2.1) h9w (by decide +kernel) ⟨Nat.le_of_ble_eq_true rfl, Nat.le_of_ble_eq_true rfl⟩, h10w, h11w⟩ (cy_preV (EZ_ok k) hZ hS hX hP hD hA [12, 13, 14, 15, 16, 17, 18, 19] rfl rfl (ci := 0) (q0 := 12) rfl rfl) rfl rfl hl.1 rfl (lv_room (Nat.le_of_ble_eq_true rfl)) dX9_load_48 ⟨Nat.le_of_ble_eq_true rfl, Nat.le_of_ble_eq_true rfl⟩) hP hD hS hA [12, 13, 14, 15, 16, 17, 18, 19] [0, 1, 2, 3, 4, 5, 6, 7, 8, 9, 10, 11] rfl rfl (by decide) (by decide) (fun u H locs hp hP hD hS => ?_)
    obtain ⟨c6, c7, c8, c9, c10, c11, c12, c13, c14⟩ := u
    obtain ⟨hP, hD⟩ : va_P G vwCl ((wT k arT (tpT) (paT) (arP 99) (pdT) (arB 99) (pkT) (psT) fiT faT) ++ ((wP k arP fiP faP) ++ (wB k arB (uF (uF (uF (uF fiB 0 (c11)) 1 (c12)) 2 (c13)) 3 (c14)) (uF (uF (uF (uF (uF (uF faB 5 (c6)) 6 (c7)) 7 (c8)) 8 (c9)) 9 (c10)) 11 (c3))))) H ∧ va_D A ((wT k arT (tpT) (paT) (arP 99) (pdT) (arB 99) (pkT) (psT) fiT faT) ++ ((wP k arP fiP faP) ++ (wB k arB (uF (uF (uF (uF fiB 0 (c11)) 1 (c12)) 2 (c13)) 3 (c14)) (uF (uF (uF (uF (uF (uF faB 5 (c6)) 6 (c7)) 7 (c8)) 8 (c9)) 9 (c10)) 11 (c3))))) := ⟨hP, hD⟩
    obtain ⟨rc6, rc7, rc8, rc9, rc10, rc11, rc12, rc13, rc14, hp14⟩ : (∀ t, inR (c6 t)) ∧ (∀ t, inR (c7 t)) ∧ (∀ t, inR (c8 t)) ∧ (∀ t, inR (c9 t)) ∧ (∀ t, inR (c10 t)) ∧ (inR c11) ∧ (inR c12) ∧ (inR c13) ∧ (inR c14) ∧ ((0 ≤ c12 ∧ c12 ≤ 60) ∧ NtP ((fiB 1)) c12 ((fiB 0)) c11 0 t0 b0 c5 ((faB 5)) c6 ((faB 6)) c7 ((faB 7)) c8 ((faB 8)) c9) := hp
    obtain ⟨hp14, hNp⟩ := hp14
    refine lv_iload_n hx hb dX9_load_51 rfl (lv_at hl 0 rfl) ?_
    exact W.iret (v := Int32.ofInt (c2)) hx hb hr (fun t ht hW => ⟨⟨Int32.ofInt (c2), (c2, c6, c7, c8, c9, c10, c3, c11, c12, c13, c14), rfl, ⟨rfl, (show (inR c2) ∧ (∀ t, inR (c6 t)) ∧ (∀ t, inR (c7 t)) ∧ (∀ t, inR (c8 t)) ∧ (∀ t, inR (c9 t)) ∧ (∀ t, inR (c10 t)) ∧ (∀ t, inR (c3 t)) ∧ (inR c11) ∧ (inR c12) ∧ (inR c13) ∧ (inR c14) ∧ ((0 ≤ c12 ∧ c12 ≤ 60 ∧ 0 ≤ (fiB 4) ∧ (fiB 4) ≤ 6) ∧ NtM c2 (fiB 1) c12 (fiB 0) c11 0 t0 b0 (putS (fiB 0) t0 (12 + b0)) (faB 5) c6 (faB 6) c7 (faB 7) c8 (faB 8) c9 ∧ c2 = jdg (ldC (fiP 7) t0 b0 (nb (fiB 0) t0) (faP 11 t0) (dp (fiB 0)) (fiP 0)) (fiB 1)) from ⟨(by omega), rc6, rc7, rc8, rc9, rc10, rc3, (by omega), (by omega), (by omega), (by omega), (by first | exact ⟨by omega, ntm_no (by omega), by rw [← hLc]; exact hJd⟩ | exact ⟨by omega, ntm_ok (by omega) hJd hNp hPu45, by rw [← hLc]; exact hJd⟩)⟩)⟩, by rw [ht]; exact hP, hD⟩, hS.F ht⟩) hS.2.2 dX9_load_52

