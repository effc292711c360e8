set_option maxHeartbeats 4000000 in
set_option maxRecDepth 100000 in
theorem mX9_day (l : Launch) (G : va_G) (k : Nat → ClassId) (arT : Nat → Nat) (tpT : Nat) (paT : Nat) (pdT : Nat) (pkT : Nat) (psT : Nat) (fiT : Nat → Int) (faT : Nat → Int → Int) (arP : Nat → Nat) (fiP : Nat → Int) (faP : Nat → Int → Int) (arB : Nat → Nat) (fiB : Nat → Int) (faB : Nat → Int → Int) (s0 : Int) (sz : Nat) (hRT : ∀ j, inR (fiT j)) (hRaT : ∀ j t, inR (faT j t)) (hRP : ∀ j, inR (fiP j)) (hRaP : ∀ j t, inR (faP j t)) (hB8P : bnd (faP 8) 7 0 4) (hB21P : bnd (faP 21) 4 0 601) (hRB : ∀ j, inR (fiB j)) (hRaB : ∀ j t, inR (faB j t)) (hr_s0 : inR s0) (hpi : 0 ≤ fiP 7 ∧ fiP 7 ≤ 7 ∧ 0 ≤ fiP 0 ∧ fiP 0 ≤ 11 ∧ 0 ≤ fiP 24 ∧ fiP 24 ≤ 4 ∧ 0 ≤ fiP 23 ∧ fiP 23 ≤ 600) (hbi : 0 ≤ fiB 1 ∧ fiB 1 ≤ 60 ∧ 0 ≤ fiB 4 ∧ fiB 4 ≤ 6) : CNi l G k (EZ k) yX9_day wzX9_day ({ frames := 1, cells := 0, slots := 0, locals := 22 }) [.ref (arT 99), .int (Int32.ofInt (s0))] sz ((wT k arT (tpT) (paT) (arP 99) (pdT) (arB 99) (pkT) (psT) fiT faT) ++ ((wP k arP fiP faP) ++ (wB k arB fiB faB))) (fun (r0 : Int32) (u : Int × (Int → Int) × (Int → Int) × Int) => r0 = Int32.ofInt (u.1) ∧ (inR u.1) ∧ (∀ t, inR (u.2.1 t)) ∧ (∀ t, inR (u.2.2.1 t)) ∧ (inR u.2.2.2) ∧ (0 ≤ (fiB 1) ∧ (fiB 1) ≤ 60 ∧ 0 ≤ u.2.2.2 ∧ u.2.2.2 ≤ 6)) (fun (u : Int × (Int → Int) × (Int → Int) × Int) => ((wT k arT (tpT) (paT) (arP 99) (pdT) (arB 99) (pkT) (psT) fiT faT) ++ ((wP k arP fiP faP) ++ (wB k arB (uF fiB 4 (u.2.2.2)) (uF (uF faB 10 (u.2.1)) 11 (u.2.2.1)))))) := by
  refine Met.ofW (cc := cX9_day) (maxL := 2) (ret := (some .int)) (by decide) rfl ?_
  intro p e s m args below meth c s₁ B hml hv
  obtain ⟨rfl, hsz, hP, hX, hD0, hZ0⟩ := hv
  have hx := B.exec
  have hb := B.bytes
  have hr := B.returns
  have hts := atoms_spec (ws := wzX9_day) B.pre
  have hown : s.vm.findClass RX9 = some m.cls := findClass_of_methodNamed B.named
  subst hsz
  have hD := hD0.self (sz := s.heap.size)
  have hZ := hZ0
  generalize hAe : va_A ((wT k arT (tpT) (paT) (arP 99) (pdT) (arB 99) (pkT) (psT) fiT faT) ++ ((wP k arP fiP faP) ++ (wB k arB fiB faB))) s.heap.size = A at hD hZ ⊢
  have hA : ∀ q : Nat, s.heap.size ≤ q → A q := fun q h => by rw [← hAe]; exact Or.inr h
  have hS : va_S A s.heap s.heap [] := va_S.rf
  have hl := lv_entry ([.ref (arT 99), .int (Int32.ofInt (s0))]) (n := 2) (Nat.le_of_ble_eq_true rfl)
  rw [lg_entry_eq]
  generalize (lg_sl ([.ref (arT 99), .int (Int32.ofInt (s0))]) ++ List.replicate (2 - (lg_sl ([.ref (arT 99), .int (Int32.ofInt (s0))])).length) Slot.unset).toArray = ls at hl ⊢
  have hl : lv_has ls 2 [(0, .ref (arT 99)), (1, .int (Int32.ofInt (s0)))] := hl
  obtain ⟨H, eH⟩ : ∃ H, H = s.heap := ⟨_, rfl⟩
  rw [← eH] at hP
  have hS : va_S A s.heap H [] := by rw [eH]; exact hS
  have gW : s.heap = H := eH.symm
  refine iv_heap gW ?_
  have h0w := hts (.fieldLink RX9 42 "RopeTown" "book" "LRopeTown$Book;") (wz_at 1 5 rfl)
  have h1w : ∀ w ∈ wsX90, w ∈ wzX9_day := fun w h => List.mem_cons_of_mem _ (inlX9 w h)
  have h2w : ∀ w ∈ wsX10, w ∈ wzX9_day := fun w h => List.mem_cons_of_mem _ (inlX1 w h)
  have h3w := hts (.fieldLink RX9 23 "RopeTown" "plan" "LRopeTown$Plan;") (wz_at 0 20 rfl)
  have h4w := hts (.initialized RX3) (wz_at 0 19 rfl)
  have h5w := hts (.instanceMethod yX3_thingsWithAims) (wz_at 39 18 rfl)
  have h6w := hts (.selects RX3 yX3_thingsWithAims yX3_thingsWithAims) (wz_at 39 19 rfl)
  refine lv_aload_n hx hb dX9_day_0 rfl (lv_at hl 0 rfl) ?_
  refine va_get (D := G) (ci := 6) (v := .ref (arB 99)) (C := RX9) (T := TX9) (N := 11) (ref := RX9) hx hb hts h1w hown hX.1 hP 0 rfl rfl 6 (by decide) h0w (fun _ h9 => h9) rfl dX9_day_1 ?_
  refine va_getN (D := G) (ci := 0) (v := .int (Int32.ofInt (fiB 4))) (C := RX1) (T := TX1) (N := 12) (ref := RX1) (host := RX9) hx hb hts h2w hown hX.1 hP 12 rfl rfl 4 (by decide) (nf_41 hX.2.2.1) (fun _ h9 => h9) rfl dX9_day_4 ?_
  have rf4B := hRB 4
  refine lv_bipush (v := Int32.ofInt 6) hx hb dX9_day_7 (by decide +kernel) ?_
  refine iv_icmp_ge (tgt := 26) hx hb (by omega) (by omega) dX9_day_9 (by decide) (fun q1 => ?_) (fun q1 => ?_)
  · refine lv_aload_n hx hb dX9_day_26 rfl (lv_at hl 0 rfl) ?_
    refine va_get (D := G) (ci := 6) (v := .ref (arB 99)) (C := RX9) (T := TX9) (N := 11) (ref := RX9) hx hb hts h1w hown hX.1 hP 0 rfl rfl 6 (by decide) h0w (fun _ h9 => h9) rfl dX9_day_27 ?_
    refine va_getN (D := G) (ci := 0) (v := .ref (arB 11)) (C := RX1) (T := TX1) (N := 12) (ref := RX1) (host := RX9) hx hb hts h2w hown hX.1 hP 12 rfl rfl 11 (by decide) (nf_47 hX.2.2.1) (fun _ h9 => h9) rfl dX9_day_30 ?_
    refine lv_iconst (v := Int32.ofInt 2) hx hb dX9_day_33 (by decide +kernel) ?_
    refine lv_dup2_11 hx hb dX9_day_34 rfl rfl ?_
    refine iv_iald hx hb hX.1 hP 19 0 rfl rfl (by omega) (by omega) (by decide) dX9_day_35 ?_
    refine iv_top (fun z2 ez2 => ?_)
    have rz2 : inR z2 := ez2 ▸ (hRaB 11) _
    have ez2 : z2 = (faB 11) 2 := ez2
    refine lv_iconst (v := Int32.ofInt 1) hx hb dX9_day_36 (by decide +kernel) ?_
    refine iv_add (x := z2) (y := 1) hx hb dX9_day_37 ?_
    refine iv_wr ?_
    refine iv_top (fun z3 ez3 => ?_)
    have rz3 : inR z3 := ez3 ▸ bWr_r _
    refine iv_iast hx hb hX.1 hP hD hS 19 0 rfl rfl (fun g' => show _ = ((wT k arT (tpT) (paT) (arP 99) (pdT) (arB 99) (pkT) (psT) fiT faT) ++ ((wP k arP fiP faP) ++ (wB k arB fiB (uF faB 11 (g'))))) from rfl) (by omega) (by omega) (by decide) dX9_day_38 (fun H locs hP hD hS => ?_)
    obtain ⟨g4, eg4, rg4⟩ : ∃ z, z = uA (faB 11) (2) (z3) ∧ ∀ t, inR (z t) := ⟨_, rfl, iU (hRaB 11) (by omega)⟩
    rw [← eg4] at hP hD
    refine lv_iconst (v := Int32.ofInt (-1)) hx hb dX9_day_39 (by decide +kernel) ?_
    exact W.iret (v := Int32.ofInt ((-1))) hx hb hr (fun t ht hW => ⟨⟨Int32.ofInt ((-1)), ((-1), faB 10, g4, fiB 4), rfl, ⟨rfl, (show (inR (-1)) ∧ (∀ t, inR ((faB 10) t)) ∧ (∀ t, inR (g4 t)) ∧ (inR (fiB 4)) ∧ (0 ≤ (fiB 1) ∧ (fiB 1) ≤ 60 ∧ 0 ≤ (fiB 4) ∧ (fiB 4) ≤ 6) from ⟨(by omega), (hRaB 10), rg4, (hRB 4), (by omega)⟩)⟩, by rw [ht]; exact hP, hD⟩, hS.F ht⟩) hS.2.2 dX9_day_40
  · refine lv_iload_n hx hb dX9_day_12 rfl (lv_at hl 1 rfl) ?_
    refine lv_aload_n hx hb dX9_day_13 rfl (lv_at hl 0 rfl) ?_
    refine va_get (D := G) (ci := 6) (v := .ref (arP 99)) (C := RX9) (T := TX9) (N := 11) (ref := RX9) hx hb hts h1w hown hX.1 hP 0 rfl rfl 4 (by decide) h3w (fun _ h9 => h9) rfl dX9_day_14 ?_
    refine cz_i (wr := ((wT k arT (tpT) (paT) (arP 99) (pdT) (arB 99) (pkT) (psT) fiT faT) ++ (wB k arB fiB faB))) (va_runVN (As := []) (rest := [.int (Int32.ofInt (s0))]) ⟨hx, hb, hml, hown, hts⟩ (mX3_thingsWithAims l G k arP fiP faP H.size hRP hRaP hB8P hB21P (show 0 ≤ (fiP 7) ∧ (fiP 7) ≤ 7 from by omega)) ⟨va_cnB 0 hts (gz [] (.code yX3_thingsWithAims cX3_thingsWithAims 3 (some .int)) [(39, 20)] rfl) rfl rfl rfl (nm_26 hX.2.2.1) h4w (by decide +kernel) ⟨Nat.le_of_ble_eq_true rfl, Nat.le_of_ble_eq_true rfl⟩, h5w, h6w⟩ (cy_preV (EZ_ok k) hZ hS hX hP hD hA [2, 3, 4, 5, 6, 7, 8, 9, 10, 11] rfl rfl (ci := 2) (q0 := 2) rfl rfl) rfl rfl hl.1 rfl (lv_room (Nat.le_of_ble_eq_true rfl)) dX9_day_17 ⟨Nat.le_of_ble_eq_true rfl, Nat.le_of_ble_eq_true rfl⟩) hP hD hS hA [2, 3, 4, 5, 6, 7, 8, 9, 10, 11] [0, 1, 12, 13, 14, 15, 16, 17, 18, 19] rfl rfl (by decide) (by decide) (fun r u H locs hp hP hD hS => ?_)
    obtain ⟨c5, rfl⟩ : ∃ z, z = u := ⟨_, rfl⟩
    obtain ⟨hP, hD⟩ : va_P G vwCl ((wT k arT (tpT) (paT) (arP 99) (pdT) (arB 99) (pkT) (psT) fiT faT) ++ ((wB k arB fiB faB) ++ (wP k arP fiP faP))) H ∧ va_D A ((wT k arT (tpT) (paT) (arP 99) (pdT) (arB 99) (pkT) (psT) fiT faT) ++ ((wB k arB fiB faB) ++ (wP k arP fiP faP))) := ⟨hP, hD⟩
    obtain ⟨hP, hD⟩ : va_P G vwCl ((wT k arT (tpT) (paT) (arP 99) (pdT) (arB 99) (pkT) (psT) fiT faT) ++ ((wP k arP fiP faP) ++ (wB k arB fiB faB))) H ∧ va_D A ((wT k arT (tpT) (paT) (arP 99) (pdT) (arB 99) (pkT) (psT) fiT faT) ++ ((wP k arP fiP faP) ++ (wB k arB fiB faB))) := re_ord hP hD [0, 1, 10, 11, 12, 13, 14, 15, 16, 17, 18, 19, 2, 3, 4, 5, 6, 7, 8, 9] (by decide) rfl
    obtain ⟨h9, rc5, hp5⟩ : r = Int32.ofInt c5 ∧ (inR c5) ∧ (True) := hp
    subst h9
    refine lv_iconst (v := Int32.ofInt (-1)) hx hb dX9_day_20 (by decide +kernel) ?_
    refine iv_xor hx hb dX9_day_21 ?_
    refine iv_top (fun z6 ez6 => ?_)
    have rz6 : inR z6 := ez6 ▸ bXor_r _ _
    refine iv_and hx hb dX9_day_22 ?_
    refine iv_top (fun z7 ez7 => ?_)
    have rz7 : inR z7 := ez7 ▸ bAnd_r _ _
    refine iv_if_eq (tgt := 41) hx hb (by omega) dX9_day_23 (by decide) (fun q8 => ?_) (fun q8 => ?_)
    · refine lv_aload_n hx hb dX9_day_41 rfl (lv_at hl 0 rfl) ?_
      refine va_get (D := G) (ci := 6) (v := .ref (arB 99)) (C := RX9) (T := TX9) (N := 11) (ref := RX9) hx hb hts h1w hown hX.1 hP 0 rfl rfl 6 (by decide) h0w (fun _ h9 => h9) rfl dX9_day_42 ?_
      refine va_getN (D := G) (ci := 0) (v := .ref (arB 10)) (C := RX1) (T := TX1) (N := 12) (ref := RX1) (host := RX9) hx hb hts h2w hown hX.1 hP 12 rfl rfl 10 (by decide) (nf_46 hX.2.2.1) (fun _ h9 => h9) rfl dX9_day_45 ?_
      refine lv_aload_n hx hb dX9_day_48 rfl (lv_at hl 0 rfl) ?_
      refine va_get (D := G) (ci := 6) (v := .ref (arB 99)) (C := RX9) (T := TX9) (N := 11) (ref := RX9) hx hb hts h1w hown hX.1 hP 0 rfl rfl 6 (by decide) h0w (fun _ h9 => h9) rfl dX9_day_49 ?_
      refine va_getN (D := G) (ci := 0) (v := .int (Int32.ofInt (fiB 4))) (C := RX1) (T := TX1) (N := 12) (ref := RX1) (host := RX9) hx hb hts h2w hown hX.1 hP 12 rfl rfl 4 (by decide) (nf_41 hX.2.2.1) (fun _ h9 => h9) rfl dX9_day_52 ?_
      have rf4B := hRB 4
      refine lv_iload_n hx hb dX9_day_55 rfl (lv_at hl 1 rfl) ?_
      refine iv_iast hx hb hX.1 hP hD hS 18 0 rfl rfl (fun g' => show _ = ((wT k arT (tpT) (paT) (arP 99) (pdT) (arB 99) (pkT) (psT) fiT faT) ++ ((wP k arP fiP faP) ++ (wB k arB fiB (uF faB 10 (g'))))) from rfl) (by omega) (by omega) (by decide) dX9_day_56 (fun H locs hP hD hS => ?_)
      obtain ⟨g9, eg9, rg9⟩ : ∃ z, z = uA (faB 10) (fiB 4) (s0) ∧ ∀ t, inR (z t) := ⟨_, rfl, iU (hRaB 10) (by omega)⟩
      rw [← eg9] at hP hD
      refine lv_aload_n hx hb dX9_day_57 rfl (lv_at hl 0 rfl) ?_
      refine va_get (D := G) (ci := 6) (v := .ref (arB 99)) (C := RX9) (T := TX9) (N := 11) (ref := RX9) hx hb hts h1w hown hX.1 hP 0 rfl rfl 6 (by decide) h0w (fun _ h9 => h9) rfl dX9_day_58 ?_
      refine lv_dup hx hb dX9_day_61 rfl ?_
      refine va_getN (D := G) (ci := 0) (v := .int (Int32.ofInt (fiB 4))) (C := RX1) (T := TX1) (N := 12) (ref := RX1) (host := RX9) hx hb hts h2w hown hX.1 hP 12 rfl rfl 4 (by decide) (nf_41 hX.2.2.1) (fun _ h9 => h9) rfl dX9_day_62 ?_
      have rf4B := hRB 4
      refine lv_iconst (v := Int32.ofInt 1) hx hb dX9_day_65 (by decide +kernel) ?_
      refine iv_add (x := fiB 4) (y := 1) hx hb dX9_day_66 ?_
      refine iv_putN (ci := 0) (v := .int (Int32.ofInt ((fiB 4 + 1)))) (ty := .int) (C := RX1) (T := TX1) (N := 12) (ref := RX1) (host := RX9) hx hb hts h2w tyX1 tyX1_ok nmX1 hown hX.1 hP hD hS 12 rfl rfl 4 (by decide) (nf_41 hX.2.2.1) (fun _ h9 => h9) rfl (by decide +kernel) rfl rfl (Nat.le_of_ble_eq_true rfl) (show _ = ((wT k arT (tpT) (paT) (arP 99) (pdT) (arB 99) (pkT) (psT) fiT faT) ++ ((wP k arP fiP faP) ++ (wB k arB (uF fiB 4 ((fiB 4 + 1))) (uF faB 10 (g9))))) from rfl) dX9_day_67 (fun H locs hP hD hS => ?_)
      refine lv_aload_n hx hb dX9_day_70 rfl (lv_at hl 0 rfl) ?_
      refine va_get (D := G) (ci := 6) (v := .ref (arB 99)) (C := RX9) (T := TX9) (N := 11) (ref := RX9) hx hb hts h1w hown hX.1 hP 0 rfl rfl 6 (by decide) h0w (fun _ h9 => h9) rfl dX9_day_71 ?_
      refine va_getN (D := G) (ci := 0) (v := .int (Int32.ofInt ((fiB 4 + 1)))) (C := RX1) (T := TX1) (N := 12) (ref := RX1) (host := RX9) hx hb hts h2w hown hX.1 hP 12 rfl rfl 4 (by decide) (nf_41 hX.2.2.1) (fun _ h9 => h9) rfl dX9_day_74 ?_
      exact W.iret (v := Int32.ofInt ((fiB 4 + 1))) hx hb hr (fun t ht hW => ⟨⟨Int32.ofInt ((fiB 4 + 1)), ((fiB 4 + 1), g9, faB 11, (fiB 4 + 1)), rfl, ⟨rfl, (show (inR (fiB 4 + 1)) ∧ (∀ t, inR (g9 t)) ∧ (∀ t, inR ((faB 11) t)) ∧ (inR (fiB 4 + 1)) ∧ (0 ≤ (fiB 1) ∧ (fiB 1) ≤ 60 ∧ 0 ≤ (fiB 4 + 1) ∧ (fiB 4 + 1) ≤ 6) from ⟨(by omega), rg9, (hRaB 11), (by omega), (by omega)⟩)⟩, by rw [ht]; exact hP, hD⟩, hS.F ht⟩) hS.2.2 dX9_day_77
    · refine lv_aload_n hx hb dX9_day_26 rfl (lv_at hl 0 rfl) ?_
      refine va_get (D := G) (ci := 6) (v := .ref (arB 99)) (C := RX9) (T := TX9) (N := 11) (ref := RX9) hx hb hts h1w hown hX.1 hP 0 rfl rfl 6 (by decide) h0w (fun _ h9 => h9) rfl dX9_day_27 ?_
      refine va_getN (D := G) (ci := 0) (v := .ref (arB 11)) (C := RX1) (T := TX1) (N := 12) (ref := RX1) (host := RX9) hx hb hts h2w hown hX.1 hP 12 rfl rfl 11 (by decide) (nf_47 hX.2.2.1) (fun _ h9 => h9) rfl dX9_day_30 ?_
      refine lv_iconst (v := Int32.ofInt 2) hx hb dX9_day_33 (by decide +kernel) ?_
      refine lv_dup2_11 hx hb dX9_day_34 rfl rfl ?_
      refine iv_iald hx hb hX.1 hP 19 0 rfl rfl (by omega) (by omega) (by decide) dX9_day_35 ?_
      refine iv_top (fun z10 ez10 => ?_)
      have rz10 : inR z10 := ez10 ▸ (hRaB 11) _
      have ez10 : z10 = (faB 11) 2 := ez10
      refine lv_iconst (v := Int32.ofInt 1) hx hb dX9_day_36 (by decide +kernel) ?_
      refine iv_add (x := z10) (y := 1) hx hb dX9_day_37 ?_
      refine iv_wr ?_
      refine iv_top (fun z11 ez11 => ?_)
      have rz11 : inR z11 := ez11 ▸ bWr_r _
      refine iv_iast hx hb hX.1 hP hD hS 19 0 rfl rfl (fun g' => show _ = ((wT k arT (tpT) (paT) (arP 99) (pdT) (arB 99) (pkT) (psT) fiT faT) ++ ((wP k arP fiP faP) ++ (wB k arB fiB (uF faB 11 (g'))))) from rfl) (by omega) (by omega) (by decide) dX9_day_38 (fun H locs hP hD hS => ?_)
      obtain ⟨g12, eg12, rg12⟩ : ∃ z, z = uA (faB 11) (2) (z11) ∧ ∀ t, inR (z t) := ⟨_, rfl, iU (hRaB 11) (by omega)⟩
      rw [← eg12] at hP hD
      refine lv_iconst (v := Int32.ofInt (-1)) hx hb dX9_day_39 (by decide +kernel) ?_
      exact W.iret (v := Int32.ofInt ((-1))) hx hb hr (fun t ht hW => ⟨⟨Int32.ofInt ((-1)), ((-1), faB 10, g12, fiB 4), rfl, ⟨rfl, (show (inR (-1)) ∧ (∀ t, inR ((faB 10) t)) ∧ (∀ t, inR (g12 t)) ∧ (inR (fiB 4)) ∧ (0 ≤ (fiB 1) ∧ (fiB 1) ≤ 60 ∧ 0 ≤ (fiB 4) ∧ (fiB 4) ≤ 6) from ⟨(by omega), (hRaB 10), rg12, (hRB 4), (by omega)⟩)⟩, by rw [ht]; exact hP, hD⟩, hS.F ht⟩) hS.2.2 dX9_day_40

set_option maxHeartbeats 4000000 in
set_option maxRecDepth 100000 in
theorem mX9_firstFailingDay (l : Launch) (G : va_G) (k : Nat → ClassId) (arT : Nat → Nat) (tpT : Nat) (paT : Nat) (pdT : Nat) (pkT : Nat) (fiT : Nat → Int) (faT : Nat → Int → Int) (arP : Nat → Nat) (fiP : Nat → Int) (faP : Nat → Int → Int) (arB : Nat → Nat) (fiB : Nat → Int) (faB : Nat → Int → Int) (arS : Nat → Nat) (plS : Nat) (fiS : Nat → Int) (faS : Nat → Int → Int) (k0 : Int) (sz : Nat) (hRT : ∀ j, inR (fiT j)) (hRaT : ∀ j t, inR (faT j t)) (hRP : ∀ j, inR (fiP j)) (hRaP : ∀ j t, inR (faP j t)) (hB8P : bnd (faP 8) 7 0 4) (hB21P : bnd (faP 21) 4 0 601) (hRB : ∀ j, inR (fiB j)) (hRaB : ∀ j t, inR (faB j t)) (hRS : ∀ j, inR (fiS j)) (hRaS : ∀ j t, inR (faS j t)) (hB5S : bnd (faS 5) 1500 (-1) 1500) (hB7S : bnd (faS 7) 1024 (-1) 1500) (hB8S : bnd (faS 8) 1500 (-1) 1500) (hB9S : bnd (faS 9) 1500 0 1500) (hB10S : bnd (faS 10) 1500 0 1500) (hr_k0 : inR k0) (hpi : 0 ≤ fiP 7 ∧ fiP 7 ≤ 7 ∧ 0 ≤ fiP 0 ∧ fiP 0 ≤ 11 ∧ 0 ≤ fiP 24 ∧ fiP 24 ≤ 4 ∧ 0 ≤ fiP 23 ∧ fiP 23 ≤ 600) (hbi : 0 ≤ fiB 1 ∧ fiB 1 ≤ 60 ∧ 0 ≤ fiB 4 ∧ fiB 4 ≤ 6) (hsz : 0 ≤ fiS 6 ∧ fiS 6 ≤ 1500) (hpl : 0 < fiS 6 → plS = arP 99) : CNi l G k (EZ k) yX9_firstFailingDay wzX9_firstFailingDay ({ frames := 13, cells := 0, slots := 0, locals := 343 }) [.ref (arT 99), .int (Int32.ofInt (k0))] sz ((wT k arT (tpT) (paT) (arP 99) (pdT) (arB 99) (pkT) (arS 99) fiT faT) ++ ((wP k arP fiP faP) ++ ((wB k arB fiB faB) ++ (wS k arS (plS) fiS faS)))) (fun (r0 : Int32) (u : Int × (Int → Int) × (Int → Int) × (Int → Int) × (Int → Int) × (Int → Int) × (Int → Int) × (Int → Int) × (Int → Int) × (Int → Int) × (Int → Int) × (Int → Int) × Int × Int × Int × Int × Int × Nat) => r0 = Int32.ofInt (u.1) ∧ (inR u.1) ∧ (∀ t, inR (u.2.1 t)) ∧ (∀ t, inR (u.2.2.1 t)) ∧ (∀ t, inR (u.2.2.2.1 t)) ∧ (∀ t, inR (u.2.2.2.2.1 t)) ∧ (∀ t, inR (u.2.2.2.2.2.1 t)) ∧ (bnd u.2.2.2.2.2.1 1500 (-1) 1500) ∧ (∀ t, inR (u.2.2.2.2.2.2.1 t)) ∧ (bnd u.2.2.2.2.2.2.1 1024 (-1) 1500) ∧ (∀ t, inR (u.2.2.2.2.2.2.2.1 t)) ∧ (bnd u.2.2.2.2.2.2.2.1 1500 (-1) 1500) ∧ (∀ t, inR (u.2.2.2.2.2.2.2.2.1 t)) ∧ (bnd u.2.2.2.2.2.2.2.2.1 1500 0 1500) ∧ (∀ t, inR (u.2.2.2.2.2.2.2.2.2.1 t)) ∧ (bnd u.2.2.2.2.2.2.2.2.2.1 1500 0 1500) ∧ (∀ t, inR (u.2.2.2.2.2.2.2.2.2.2.1 t)) ∧ (∀ t, inR (u.2.2.2.2.2.2.2.2.2.2.2.1 t)) ∧ (inR u.2.2.2.2.2.2.2.2.2.2.2.2.1) ∧ (inR u.2.2.2.2.2.2.2.2.2.2.2.2.2.1) ∧ (inR u.2.2.2.2.2.2.2.2.2.2.2.2.2.2.1) ∧ (inR u.2.2.2.2.2.2.2.2.2.2.2.2.2.2.2.1) ∧ (inR u.2.2.2.2.2.2.2.2.2.2.2.2.2.2.2.2.1) ∧ (-2 ≤ u.1 ∧ u.1 < 6 ∧ 0 ≤ u.2.2.2.2.2.2.2.2.2.2.2.2.2.2.1 ∧ u.2.2.2.2.2.2.2.2.2.2.2.2.2.2.1 ≤ 1500 ∧ (0 < u.2.2.2.2.2.2.2.2.2.2.2.2.2.2.1 → u.2.2.2.2.2.2.2.2.2.2.2.2.2.2.2.2.2 = arP 99))) (fun (u : Int × (Int → Int) × (Int → Int) × (Int → Int) × (Int → Int) × (Int → Int) × (Int → Int) × (Int → Int) × (Int → Int) × (Int → Int) × (Int → Int) × (Int → Int) × Int × Int × Int × Int × Int × Nat) => ((wT k arT (tpT) (paT) (arP 99) (pdT) (arB 99) (pkT) (arS 99) fiT faT) ++ ((wP k arP fiP (uF (uF faP 13 (u.2.1)) 22 (u.2.2.1))) ++ ((wB k arB fiB faB) ++ (wS k arS (u.2.2.2.2.2.2.2.2.2.2.2.2.2.2.2.2.2) (uF (uF (uF (uF (uF fiS 1 (u.2.2.2.2.2.2.2.2.2.2.2.2.1)) 2 (u.2.2.2.2.2.2.2.2.2.2.2.2.2.1)) 6 (u.2.2.2.2.2.2.2.2.2.2.2.2.2.2.1)) 11 (u.2.2.2.2.2.2.2.2.2.2.2.2.2.2.2.1)) 12 (u.2.2.2.2.2.2.2.2.2.2.2.2.2.2.2.2.1)) (uF (uF (uF (uF (uF (uF (uF (uF (uF faS 3 (u.2.2.2.1)) 4 (u.2.2.2.2.1)) 5 (u.2.2.2.2.2.1)) 7 (u.2.2.2.2.2.2.1)) 8 (u.2.2.2.2.2.2.2.1)) 9 (u.2.2.2.2.2.2.2.2.1)) 10 (u.2.2.2.2.2.2.2.2.2.1)) 13 (u.2.2.2.2.2.2.2.2.2.2.1)) 14 (u.2.2.2.2.2.2.2.2.2.2.2.1))))))) := by
  refine Met.ofW (cc := cX9_firstFailingDay) (maxL := 5) (ret := (some .int)) (by decide) rfl ?_
  intro p e s m args below meth c s₁ B hml hv
  obtain ⟨rfl, hsz, hP, hX, hD0, hZ0⟩ := hv
  have hx := B.exec
  have hb := B.bytes
  have hr := B.returns
  have hts := atoms_spec (ws := wzX9_firstFailingDay) B.pre
  have hown : s.vm.findClass RX9 = some m.cls := findClass_of_methodNamed B.named
  subst hsz
  have hD := hD0.self (sz := s.heap.size)
  have hZ := hZ0
  generalize hAe : va_A ((wT k arT (tpT) (paT) (arP 99) (pdT) (arB 99) (pkT) (arS 99) fiT faT) ++ ((wP k arP fiP faP) ++ ((wB k arB fiB faB) ++ (wS k arS (plS) fiS faS)))) s.heap.size = A at hD hZ ⊢
  have hA : ∀ q : Nat, s.heap.size ≤ q → A q := fun q h => by rw [← hAe]; exact Or.inr h
  have hS : va_S A s.heap s.heap [] := va_S.rf
  have hl := lv_entry ([.ref (arT 99), .int (Int32.ofInt (k0))]) (n := 5) (Nat.le_of_ble_eq_true rfl)
  rw [lg_entry_eq]
  generalize (lg_sl ([.ref (arT 99), .int (Int32.ofInt (k0))]) ++ List.replicate (5 - (lg_sl ([.ref (arT 99), .int (Int32.ofInt (k0))])).length) Slot.unset).toArray = ls at hl ⊢
  have hl : lv_has ls 5 [(0, .ref (arT 99)), (1, .int (Int32.ofInt (k0)))] := hl
  obtain ⟨H, eH⟩ : ∃ H, H = s.heap := ⟨_, rfl⟩
  rw [← eH] at hP
  have hS : va_S A s.heap H [] := by rw [eH]; exact hS
  have gW : s.heap = H := eH.symm
  refine iv_heap gW ?_
  have h0w := hts (.fieldLink RX9 23 "RopeTown" "plan" "LRopeTown$Plan;") (wz_at 0 20 rfl)
  have h1w : ∀ w ∈ wsX90, w ∈ wzX9_firstFailingDay := fun w h => List.mem_cons_of_mem _ (inlX9 w h)
  have h2w := hts (.initialized RX3) (wz_at 0 19 rfl)
  have h3w := hts (.instanceMethod yX3_firstStones) (wz_at 40 15 rfl)
  have h4w := hts (.selects RX3 yX3_firstStones yX3_firstStones) (wz_at 40 16 rfl)
  have h5w := hts (.fieldLink RX9 42 "RopeTown" "book" "LRopeTown$Book;") (wz_at 1 5 rfl)
  have h6w : ∀ w ∈ wsX10, w ∈ wzX9_firstFailingDay := fun w h => List.mem_cons_of_mem _ (inlX1 w h)
  have h7w := hts (.fieldLink RX9 56 "RopeTown" "search" "LRopeTown$Search;") (wz_at 1 11 rfl)
  have h8w := hts (.instanceMethod yX3_firstState) (wz_at 5 5 rfl)
  have h9w := hts (.selects RX3 yX3_firstState yX3_firstState) (wz_at 5 6 rfl)
  have h10w := hts (.initialized RX7) (wz_at 5 10 rfl)
  have h11w := hts (.static yX7_without) (wz_at 38 22 rfl)
  have h12w := hts (.initialized RX6) (wz_at 1 10 rfl)
  have h13w := hts (.instanceMethod yX6_explore) (wz_at 33 15 rfl)
  have h14w := hts (.selects RX6 yX6_explore yX6_explore) (wz_at 33 16 rfl)
  have h15w := hts (.instanceMethod yX6_leastTillServed) (wz_at 35 3 rfl)
  have h16w := hts (.selects RX6 yX6_leastTillServed yX6_leastTillServed) (wz_at 35 4 rfl)
  refine lv_aload_n hx hb dX9_firstFailingDay_0 rfl (lv_at hl 0 rfl) ?_
  refine va_get (D := G) (ci := 6) (v := .ref (arP 99)) (C := RX9) (T := TX9) (N := 11) (ref := RX9) hx hb hts h1w hown hX.1 hP 0 rfl rfl 4 (by decide) h0w (fun _ h9 => h9) rfl dX9_firstFailingDay_1 ?_
  refine lv_iload_n hx hb dX9_firstFailingDay_4 rfl (lv_at hl 1 rfl) ?_
  refine cz_i (wr := ((wT k arT (tpT) (paT) (arP 99) (pdT) (arB 99) (pkT) (arS 99) fiT faT) ++ ((wB k arB fiB faB) ++ (wS k arS (plS) fiS faS)))) (va_runVN (As := [.int (Int32.ofInt (k0))]) (rest := []) ⟨hx, hb, hml, hown, hts⟩ (mX3_firstStones l G k arP fiP faP k0 H.size hRP hRaP hB8P hB21P (by omega) (show 0 ≤ (fiP 7) ∧ (fiP 7) ≤ 7 from by omega)) ⟨va_cnB 1 hts (gz [] (.code yX3_firstStones cX3_firstStones 5 (some .int)) [(40, 17)] rfl) rfl rfl rfl (nm_67 hX.2.2.1) h2w (by decide +kernel) ⟨Nat.le_of_ble_eq_true rfl, Nat.le_of_ble_eq_true rfl⟩, h3w, h4w⟩ (cy_preV (EZ_ok k) hZ hS hX hP hD hA [2, 3, 4, 5, 6, 7, 8, 9, 10, 11] rfl rfl (ci := 2) (q0 := 2) rfl rfl) rfl rfl hl.1 rfl (lv_room (Nat.le_of_ble_eq_true rfl)) dX9_firstFailingDay_5 ⟨Nat.le_of_ble_eq_true rfl, Nat.le_of_ble_eq_true rfl⟩) hP hD hS hA [2, 3, 4, 5, 6, 7, 8, 9, 10, 11] [0, 1, 12, 13, 14, 15, 16, 17, 18, 19, 20, 21, 22, 23, 24, 25, 26, 27, 28, 29] rfl rfl (by decide) (by decide) (fun r u H locs hp hP hD hS => ?_)
  obtain ⟨c1, rfl⟩ : ∃ z, z = u := ⟨_, rfl⟩
  obtain ⟨hP, hD⟩ : va_P G vwCl ((wT k arT (tpT) (paT) (arP 99) (pdT) (arB 99) (pkT) (arS 99) fiT faT) ++ ((wB k arB fiB faB) ++ ((wS k arS (plS) fiS faS) ++ (wP k arP fiP faP)))) H ∧ va_D A ((wT k arT (tpT) (paT) (arP 99) (pdT) (arB 99) (pkT) (arS 99) fiT faT) ++ ((wB k arB fiB faB) ++ ((wS k arS (plS) fiS faS) ++ (wP k arP fiP faP)))) := ⟨hP, hD⟩
  obtain ⟨hP, hD⟩ : va_P G vwCl ((wT k arT (tpT) (paT) (arP 99) (pdT) (arB 99) (pkT) (arS 99) fiT faT) ++ ((wP k arP fiP faP) ++ ((wB k arB fiB faB) ++ (wS k arS (plS) fiS faS)))) H ∧ va_D A ((wT k arT (tpT) (paT) (arP 99) (pdT) (arB 99) (pkT) (arS 99) fiT faT) ++ ((wP k arP fiP faP) ++ ((wB k arB fiB faB) ++ (wS k arS (plS) fiS faS)))) := re_ord hP hD [0, 1, 20, 21, 22, 23, 24, 25, 26, 27, 28, 29, 2, 3, 4, 5, 6, 7, 8, 9, 10, 11, 12, 13, 14, 15, 16, 17, 18, 19] (by decide) rfl
  obtain ⟨h9, rc1, hp1⟩ : r = Int32.ofInt c1 ∧ (inR c1) ∧ (True) := hp
  subst h9
  refine lv_istore_n (lv' := [(2, .int (Int32.ofInt (c1))), (0, .ref (arT 99)), (1, .int (Int32.ofInt (k0)))]) hx hb dX9_firstFailingDay_8 rfl hl (by decide) rfl (fun ls hl => ?_)
  refine lv_iconst (v := Int32.ofInt 0) hx hb dX9_firstFailingDay_9 (by decide +kernel) ?_
  refine lv_istore_n (lv' := [(3, .int (Int32.ofInt (0))), (2, .int (Int32.ofInt (c1))), (0, .ref (arT 99)), (1, .int (Int32.ofInt (k0)))]) hx hb dX9_firstFailingDay_10 rfl hl (by decide) rfl (fun ls hl => ?_)
  refine iv_loop (α := Int × Int × Int × Int × Int × Int × (Int → Int) × (Int → Int) × (Int → Int) × (Int → Int) × (Int → Int) × (Int → Int) × (Int → Int) × (Int → Int) × (Int → Int) × (Int → Int) × (Int → Int) × Nat) (nL := 5) (fun b9 => ((wT k arT (tpT) (paT) (arP 99) (pdT) (arB 99) (pkT) (arS 99) fiT faT) ++ ((wP k arP fiP (uF (uF faP 13 (b9.2.2.2.2.2.2.1)) 22 (b9.2.2.2.2.2.2.2.1))) ++ ((wB k arB fiB faB) ++ (wS k arS (b9.2.2.2.2.2.2.2.2.2.2.2.2.2.2.2.2.2) (uF (uF (uF (uF (uF fiS 1 (b9.2.1)) 2 (b9.2.2.1)) 6 (b9.2.2.2.1)) 11 (b9.2.2.2.2.1)) 12 (b9.2.2.2.2.2.1)) (uF (uF (uF (uF (uF (uF (uF (uF (uF faS 3 (b9.2.2.2.2.2.2.2.2.1)) 4 (b9.2.2.2.2.2.2.2.2.2.1)) 5 (b9.2.2.2.2.2.2.2.2.2.2.1)) 7 (b9.2.2.2.2.2.2.2.2.2.2.2.1)) 8 (b9.2.2.2.2.2.2.2.2.2.2.2.2.1)) 9 (b9.2.2.2.2.2.2.2.2.2.2.2.2.2.1)) 10 (b9.2.2.2.2.2.2.2.2.2.2.2.2.2.2.1)) 13 (b9.2.2.2.2.2.2.2.2.2.2.2.2.2.2.2.1)) 14 (b9.2.2.2.2.2.2.2.2.2.2.2.2.2.2.2.2.1))))))) (fun b9 => [(3, .int (Int32.ofInt (b9.1))), (2, .int (Int32.ofInt (c1))), (0, .ref (arT 99)), (1, .int (Int32.ofInt (k0)))]) (fun b9 => (fiB 4 - b9.1).toNat) (fun b9 => inR b9.1 ∧ inR b9.2.1 ∧ inR b9.2.2.1 ∧ inR b9.2.2.2.1 ∧ inR b9.2.2.2.2.1 ∧ inR b9.2.2.2.2.2.1 ∧ (∀ t, inR (b9.2.2.2.2.2.2.1 t)) ∧ (∀ t, inR (b9.2.2.2.2.2.2.2.1 t)) ∧ (∀ t, inR (b9.2.2.2.2.2.2.2.2.1 t)) ∧ (∀ t, inR (b9.2.2.2.2.2.2.2.2.2.1 t)) ∧ (∀ t, inR (b9.2.2.2.2.2.2.2.2.2.2.1 t)) ∧ (∀ t, inR (b9.2.2.2.2.2.2.2.2.2.2.2.1 t)) ∧ (∀ t, inR (b9.2.2.2.2.2.2.2.2.2.2.2.2.1 t)) ∧ (∀ t, inR (b9.2.2.2.2.2.2.2.2.2.2.2.2.2.1 t)) ∧ (∀ t, inR (b9.2.2.2.2.2.2.2.2.2.2.2.2.2.2.1 t)) ∧ (∀ t, inR (b9.2.2.2.2.2.2.2.2.2.2.2.2.2.2.2.1 t)) ∧ (∀ t, inR (b9.2.2.2.2.2.2.2.2.2.2.2.2.2.2.2.2.1 t)) ∧ (bnd b9.2.2.2.2.2.2.2.2.2.2.1 1500 (-1) 1500) ∧ (bnd b9.2.2.2.2.2.2.2.2.2.2.2.1 1024 (-1) 1500) ∧ (bnd b9.2.2.2.2.2.2.2.2.2.2.2.2.1 1500 (-1) 1500) ∧ (bnd b9.2.2.2.2.2.2.2.2.2.2.2.2.2.1 1500 0 1500) ∧ (bnd b9.2.2.2.2.2.2.2.2.2.2.2.2.2.2.1 1500 0 1500) ∧ (0 ≤ b9.1 ∧ 0 ≤ b9.2.2.2.1 ∧ b9.2.2.2.1 ≤ 1500 ∧ (0 < b9.2.2.2.1 → b9.2.2.2.2.2.2.2.2.2.2.2.2.2.2.2.2.2 = arP 99))) ?_ (0, fiS 1, fiS 2, fiS 6, fiS 11, fiS 12, faP 13, faP 22, faS 3, faS 4, faS 5, faS 7, faS 8, faS 9, faS 10, faS 13, faS 14, plS) (show inR 0 ∧ inR (fiS 1) ∧ inR (fiS 2) ∧ inR (fiS 6) ∧ inR (fiS 11) ∧ inR (fiS 12) ∧ (∀ t, inR ((faP 13) t)) ∧ (∀ t, inR ((faP 22) t)) ∧ (∀ t, inR ((faS 3) t)) ∧ (∀ t, inR ((faS 4) t)) ∧ (∀ t, inR ((faS 5) t)) ∧ (∀ t, inR ((faS 7) t)) ∧ (∀ t, inR ((faS 8) t)) ∧ (∀ t, inR ((faS 9) t)) ∧ (∀ t, inR ((faS 10) t)) ∧ (∀ t, inR ((faS 13) t)) ∧ (∀ t, inR ((faS 14) t)) ∧ (bnd (faS 5) 1500 (-1) 1500) ∧ (bnd (faS 7) 1024 (-1) 1500) ∧ (bnd (faS 8) 1500 (-1) 1500) ∧ (bnd (faS 9) 1500 0 1500) ∧ (bnd (faS 10) 1500 0 1500) ∧ (0 ≤ 0 ∧ 0 ≤ (fiS 6) ∧ (fiS 6) ≤ 1500 ∧ (0 < (fiS 6) → plS = arP 99)) from ⟨(by omega), (hRS 1), (hRS 2), (hRS 6), (hRS 11), (hRS 12), (hRaP 13), (hRaP 22), (hRaS 3), (hRaS 4), (hRaS 5), (hRaS 7), (hRaS 8), (hRaS 9), (hRaS 10), (hRaS 13), (hRaS 14), hB5S, hB7S, hB8S, hB9S, hB10S, (by omega)⟩) hP hD hS hl
  rintro ⟨x3_2, n1S_3, n2S_4, n6S_5, n11S_6, n12S_7, g13P_8, g22P_9, g3S_10, g4S_11, g5S_12, g7S_13, g8S_14, g9S_15, g10S_16, g13S_17, g14S_18, pplS_19⟩ ih hi9 H locs ls hP hD hS hl
  obtain ⟨r_x3_2, r_n1S_3, r_n2S_4, r_n6S_5, r_n11S_6, r_n12S_7, r_g13P_8, r_g22P_9, r_g3S_10, r_g4S_11, r_g5S_12, r_g7S_13, r_g8S_14, r_g9S_15, r_g10S_16, r_g13S_17, r_g14S_18, b_g5S_12, b_g7S_13, b_g8S_14, b_g9S_15, b_g10S_16, hinv⟩ : inR x3_2 ∧ inR n1S_3 ∧ inR n2S_4 ∧ inR n6S_5 ∧ inR n11S_6 ∧ inR n12S_7 ∧ (∀ t, inR (g13P_8 t)) ∧ (∀ t, inR (g22P_9 t)) ∧ (∀ t, inR (g3S_10 t)) ∧ (∀ t, inR (g4S_11 t)) ∧ (∀ t, inR (g5S_12 t)) ∧ (∀ t, inR (g7S_13 t)) ∧ (∀ t, inR (g8S_14 t)) ∧ (∀ t, inR (g9S_15 t)) ∧ (∀ t, inR (g10S_16 t)) ∧ (∀ t, inR (g13S_17 t)) ∧ (∀ t, inR (g14S_18 t)) ∧ (bnd g5S_12 1500 (-1) 1500) ∧ (bnd g7S_13 1024 (-1) 1500) ∧ (bnd g8S_14 1500 (-1) 1500) ∧ (bnd g9S_15 1500 0 1500) ∧ (bnd g10S_16 1500 0 1500) ∧ (0 ≤ x3_2 ∧ 0 ≤ n6S_5 ∧ n6S_5 ≤ 1500 ∧ (0 < n6S_5 → pplS_19 = arP 99)) := hi9
  obtain ⟨hP, hD⟩ : va_P G vwCl ((wT k arT (tpT) (paT) (arP 99) (pdT) (arB 99) (pkT) (arS 99) fiT faT) ++ ((wP k arP fiP (uF (uF faP 13 (g13P_8)) 22 (g22P_9))) ++ ((wB k arB fiB faB) ++ (wS k arS (pplS_19) (uF (uF (uF (uF (uF fiS 1 (n1S_3)) 2 (n2S_4)) 6 (n6S_5)) 11 (n11S_6)) 12 (n12S_7)) (uF (uF (uF (uF (uF (uF (uF (uF (uF faS 3 (g3S_10)) 4 (g4S_11)) 5 (g5S_12)) 7 (g7S_13)) 8 (g8S_14)) 9 (g9S_15)) 10 (g10S_16)) 13 (g13S_17)) 14 (g14S_18)))))) H ∧ va_D A ((wT k arT (tpT) (paT) (arP 99) (pdT) (arB 99) (pkT) (arS 99) fiT faT) ++ ((wP k arP fiP (uF (uF faP 13 (g13P_8)) 22 (g22P_9))) ++ ((wB k arB fiB faB) ++ (wS k arS (pplS_19) (uF (uF (uF (uF (uF fiS 1 (n1S_3)) 2 (n2S_4)) 6 (n6S_5)) 11 (n11S_6)) 12 (n12S_7)) (uF (uF (uF (uF (uF (uF (uF (uF (uF faS 3 (g3S_10)) 4 (g4S_11)) 5 (g5S_12)) 7 (g7S_13)) 8 (g8S_14)) 9 (g9S_15)) 10 (g10S_16)) 13 (g13S_17)) 14 (g14S_18)))))) := ⟨hP, hD⟩
  have hl : lv_has ls 5 [(3, .int (Int32.ofInt (x3_2))), (2, .int (Int32.ofInt (c1))), (0, .ref (arT 99)), (1, .int (Int32.ofInt (k0)))] := hl
  refine lv_iload_n hx hb dX9_firstFailingDay_11 rfl (lv_at hl 0 rfl) ?_
  refine lv_aload_n hx hb dX9_firstFailingDay_12 rfl (lv_at hl 2 rfl) ?_
  refine va_get (D := G) (ci := 6) (v := .ref (arB 99)) (C := RX9) (T := TX9) (N := 11) (ref := RX9) hx hb hts h1w hown hX.1 hP 0 rfl rfl 6 (by decide) h5w (fun _ h9 => h9) rfl dX9_firstFailingDay_13 ?_
  refine va_getN (D := G) (ci := 0) (v := .int (Int32.ofInt (fiB 4))) (C := RX1) (T := TX1) (N := 12) (ref := RX1) (host := RX9) hx hb hts h6w hown hX.1 hP 12 rfl rfl 4 (by decide) (nf_41 hX.2.2.1) (fun _ h9 => h9) rfl dX9_firstFailingDay_16 ?_
  have rf4B := hRB 4
  refine iv_icmp_ge (tgt := 86) hx hb (by omega) (by omega) dX9_firstFailingDay_19 (by decide) (fun q20 => ?_) (fun q20 => ?_)
  · refine lv_iconst (v := Int32.ofInt (-1)) hx hb dX9_firstFailingDay_86 (by decide +kernel) ?_
    exact W.iret (v := Int32.ofInt ((-1))) hx hb hr (fun t ht hW => ⟨⟨Int32.ofInt ((-1)), ((-1), g13P_8, g22P_9, g3S_10, g4S_11, g5S_12, g7S_13, g8S_14, g9S_15, g10S_16, g13S_17, g14S_18, n1S_3, n2S_4, n6S_5, n11S_6, n12S_7, pplS_19), rfl, ⟨rfl, (show (inR (-1)) ∧ (∀ t, inR (g13P_8 t)) ∧ (∀ t, inR (g22P_9 t)) ∧ (∀ t, inR (g3S_10 t)) ∧ (∀ t, inR (g4S_11 t)) ∧ (∀ t, inR (g5S_12 t)) ∧ (bnd g5S_12 1500 (-1) 1500) ∧ (∀ t, inR (g7S_13 t)) ∧ (bnd g7S_13 1024 (-1) 1500) ∧ (∀ t, inR (g8S_14 t)) ∧ (bnd g8S_14 1500 (-1) 1500) ∧ (∀ t, inR (g9S_15 t)) ∧ (bnd g9S_15 1500 0 1500) ∧ (∀ t, inR (g10S_16 t)) ∧ (bnd g10S_16 1500 0 1500) ∧ (∀ t, inR (g13S_17 t)) ∧ (∀ t, inR (g14S_18 t)) ∧ (inR n1S_3) ∧ (inR n2S_4) ∧ (inR n6S_5) ∧ (inR n11S_6) ∧ (inR n12S_7) ∧ (-2 ≤ (-1) ∧ (-1) < 6 ∧ 0 ≤ n6S_5 ∧ n6S_5 ≤ 1500 ∧ (0 < n6S_5 → pplS_19 = arP 99)) from ⟨(by omega), r_g13P_8, r_g22P_9, r_g3S_10, r_g4S_11, r_g5S_12, b_g5S_12, r_g7S_13, b_g7S_13, r_g8S_14, b_g8S_14, r_g9S_15, b_g9S_15, r_g10S_16, b_g10S_16, r_g13S_17, r_g14S_18, (by omega), (by omega), (by omega), (by omega), (by omega), (by omega)⟩)⟩, by rw [ht]; exact hP, hD⟩, hS.F ht⟩) hS.2.2 dX9_firstFailingDay_87
  · refine lv_aload_n hx hb dX9_firstFailingDay_22 rfl (lv_at hl 2 rfl) ?_
    refine va_get (D := G) (ci := 6) (v := .ref (arB 99)) (C := RX9) (T := TX9) (N := 11) (ref := RX9) hx hb hts h1w hown hX.1 hP 0 rfl rfl 6 (by decide) h5w (fun _ h9 => h9) rfl dX9_firstFailingDay_23 ?_
    refine va_getN (D := G) (ci := 0) (v := .ref (arB 10)) (C := RX1) (T := TX1) (N := 12) (ref := RX1) (host := RX9) hx hb hts h6w hown hX.1 hP 12 rfl rfl 10 (by decide) (nf_46 hX.2.2.1) (fun _ h9 => h9) rfl dX9_firstFailingDay_26 ?_
    refine lv_iload_n hx hb dX9_firstFailingDay_29 rfl (lv_at hl 0 rfl) ?_
    refine iv_iald hx hb hX.1 hP 18 0 rfl rfl (by omega) (by omega) (by decide) dX9_firstFailingDay_30 ?_
    refine iv_top (fun z21 ez21 => ?_)
    have rz21 : inR z21 := ez21 ▸ (hRaB 10) _
    have ez21 : z21 = (faB 10) x3_2 := ez21
    refine lv_iload_n hx hb dX9_firstFailingDay_31 rfl (lv_at hl 1 rfl) ?_
    refine iv_or hx hb dX9_firstFailingDay_32 ?_
    refine iv_top (fun z22 ez22 => ?_)
    have rz22 : inR z22 := ez22 ▸ bOr_r _ _
    refine lv_iconst (v := Int32.ofInt (-1)) hx hb dX9_firstFailingDay_33 (by decide +kernel) ?_
    refine iv_xor hx hb dX9_firstFailingDay_34 ?_
    refine iv_top (fun z23 ez23 => ?_)
    have rz23 : inR z23 := ez23 ▸ bXor_r _ _
    refine lv_istore (lv' := [(4, .int (Int32.ofInt (z23))), (3, .int (Int32.ofInt (x3_2))), (2, .int (Int32.ofInt (c1))), (0, .ref (arT 99)), (1, .int (Int32.ofInt (k0)))]) hx hb dX9_firstFailingDay_35 hl (by decide) rfl (fun ls hl => ?_)
    refine lv_aload_n hx hb dX9_firstFailingDay_37 rfl (lv_at hl 3 rfl) ?_
    refine va_get (D := G) (ci := 6) (v := .ref (arS 99)) (C := RX9) (T := TX9) (N := 11) (ref := RX9) hx hb hts h1w hown hX.1 hP 0 rfl rfl 9 (by decide) h7w (fun _ h9 => h9) rfl dX9_firstFailingDay_38 ?_
    refine lv_aload_n hx hb dX9_firstFailingDay_41 rfl (lv_at hl 3 rfl) ?_
    refine va_get (D := G) (ci := 6) (v := .ref (arP 99)) (C := RX9) (T := TX9) (N := 11) (ref := RX9) hx hb hts h1w hown hX.1 hP 0 rfl rfl 4 (by decide) h0w (fun _ h9 => h9) rfl dX9_firstFailingDay_42 ?_
    refine lv_aload_n hx hb dX9_firstFailingDay_45 rfl (lv_at hl 3 rfl) ?_
    refine va_get (D := G) (ci := 6) (v := .ref (arP 99)) (C := RX9) (T := TX9) (N := 11) (ref := RX9) hx hb hts h1w hown hX.1 hP 0 rfl rfl 4 (by decide) h0w (fun _ h9 => h9) rfl dX9_firstFailingDay_46 ?_
    refine cz_i (wr := ((wT k arT (tpT) (paT) (arP 99) (pdT) (arB 99) (pkT) (arS 99) fiT faT) ++ ((wB k arB fiB faB) ++ (wS k arS (pplS_19) (uF (uF (uF (uF (uF fiS 1 (n1S_3)) 2 (n2S_4)) 6 (n6S_5)) 11 (n11S_6)) 12 (n12S_7)) (uF (uF (uF (uF (uF (uF (uF (uF (uF faS 3 (g3S_10)) 4 (g4S_11)) 5 (g5S_12)) 7 (g7S_13)) 8 (g8S_14)) 9 (g9S_15)) 10 (g10S_16)) 13 (g13S_17)) 14 (g14S_18)))))) (va_runVN (As := []) (rest := [.ref (arP 99), .ref (arS 99)]) ⟨hx, hb, hml, hown, hts⟩ (mX3_firstState l G k arP fiP (uF (uF faP 13 (g13P_8)) 22 (g22P_9)) H.size hRP (iG (iG hRaP r_g13P_8) r_g22P_9) hB8P hB21P (show 0 ≤ (fiP 7) ∧ (fiP 7) ≤ 7 from by omega)) ⟨va_cnB 0 hts (gz [] (.code yX3_firstState cX3_firstState 3 (some .int)) [(5, 7)] rfl) rfl rfl rfl (nm_7 hX.2.2.1) h2w (by decide +kernel) ⟨Nat.le_of_ble_eq_true rfl, Nat.le_of_ble_eq_true rfl⟩, h8w, h9w⟩ (cy_preV (EZ_ok k) hZ hS hX hP hD hA [2, 3, 4, 5, 6, 7, 8, 9, 10, 11] rfl rfl (ci := 2) (q0 := 2) rfl rfl) rfl rfl hl.1 rfl (lv_room (Nat.le_of_ble_eq_true rfl)) dX9_firstFailingDay_49 ⟨Nat.le_of_ble_eq_true rfl, Nat.le_of_ble_eq_true rfl⟩) hP hD hS hA [2, 3, 4, 5, 6, 7, 8, 9, 10, 11] [0, 1, 12, 13, 14, 15, 16, 17, 18, 19, 20, 21, 22, 23, 24, 25, 26, 27, 28, 29] rfl rfl (by decide) (by decide) (fun r u H locs hp hP hD hS => ?_)
    obtain ⟨c24, rfl⟩ : ∃ z, z = u := ⟨_, rfl⟩
    obtain ⟨hP, hD⟩ : va_P G vwCl ((wT k arT (tpT) (paT) (arP 99) (pdT) (arB 99) (pkT) (arS 99) fiT faT) ++ ((wB k arB fiB faB) ++ ((wS k arS (pplS_19) (uF (uF (uF (uF (uF fiS 1 (n1S_3)) 2 (n2S_4)) 6 (n6S_5)) 11 (n11S_6)) 12 (n12S_7)) (uF (uF (uF (uF (uF (uF (uF (uF (uF faS 3 (g3S_10)) 4 (g4S_11)) 5 (g5S_12)) 7 (g7S_13)) 8 (g8S_14)) 9 (g9S_15)) 10 (g10S_16)) 13 (g13S_17)) 14 (g14S_18))) ++ (wP k arP fiP (uF (uF faP 13 (g13P_8)) 22 (g22P_9)))))) H ∧ va_D A ((wT k arT (tpT) (paT) (arP 99) (pdT) (arB 99) (pkT) (arS 99) fiT faT) ++ ((wB k arB fiB faB) ++ ((wS k arS (pplS_19) (uF (uF (uF (uF (uF fiS 1 (n1S_3)) 2 (n2S_4)) 6 (n6S_5)) 11 (n11S_6)) 12 (n12S_7)) (uF (uF (uF (uF (uF (uF (uF (uF (uF faS 3 (g3S_10)) 4 (g4S_11)) 5 (g5S_12)) 7 (g7S_13)) 8 (g8S_14)) 9 (g9S_15)) 10 (g10S_16)) 13 (g13S_17)) 14 (g14S_18))) ++ (wP k arP fiP (uF (uF faP 13 (g13P_8)) 22 (g22P_9)))))) := ⟨hP, hD⟩
    obtain ⟨hP, hD⟩ : va_P G vwCl ((wT k arT (tpT) (paT) (arP 99) (pdT) (arB 99) (pkT) (arS 99) fiT faT) ++ ((wP k arP fiP (uF (uF faP 13 (g13P_8)) 22 (g22P_9))) ++ ((wB k arB fiB faB) ++ (wS k arS (pplS_19) (uF (uF (uF (uF (uF fiS 1 (n1S_3)) 2 (n2S_4)) 6 (n6S_5)) 11 (n11S_6)) 12 (n12S_7)) (uF (uF (uF (uF (uF (uF (uF (uF (uF faS 3 (g3S_10)) 4 (g4S_11)) 5 (g5S_12)) 7 (g7S_13)) 8 (g8S_14)) 9 (g9S_15)) 10 (g10S_16)) 13 (g13S_17)) 14 (g14S_18)))))) H ∧ va_D A ((wT k arT (tpT) (paT) (arP 99) (pdT) (arB 99) (pkT) (arS 99) fiT faT) ++ ((wP k arP fiP (uF (uF faP 13 (g13P_8)) 22 (g22P_9))) ++ ((wB k arB fiB faB) ++ (wS k arS (pplS_19) (uF (uF (uF (uF (uF fiS 1 (n1S_3)) 2 (n2S_4)) 6 (n6S_5)) 11 (n11S_6)) 12 (n12S_7)) (uF (uF (uF (uF (uF (uF (uF (uF (uF faS 3 (g3S_10)) 4 (g4S_11)) 5 (g5S_12)) 7 (g7S_13)) 8 (g8S_14)) 9 (g9S_15)) 10 (g10S_16)) 13 (g13S_17)) 14 (g14S_18)))))) := re_ord hP hD [0, 1, 20, 21, 22, 23, 24, 25, 26, 27, 28, 29, 2, 3, 4, 5, 6, 7, 8, 9, 10, 11, 12, 13, 14, 15, 16, 17, 18, 19] (by decide) rfl
    obtain ⟨h9, rc24, hp24⟩ : r = Int32.ofInt c24 ∧ (inR c24) ∧ (True) := hp
    subst h9
    refine lv_iload hx hb dX9_firstFailingDay_52 (lv_at hl 0 rfl) ?_
    refine c0_i (va_runSN (As := [.int (Int32.ofInt (c24)), .int (Int32.ofInt (z23))]) (rest := [.ref (arP 99), .ref (arS 99)]) ⟨hx, hb, hml, hown, hts⟩ (mX7_without l G k c24 z23 H.size (by omega) (by omega)) ⟨va_cnB 2 hts (gz [] (.code yX7_without cX7_without 4 (some .int)) [(38, 23)] rfl) rfl rfl rfl (nm_62 hX.2.2.1) h10w (by decide +kernel) ⟨Nat.le_of_ble_eq_true rfl, Nat.le_of_ble_eq_true rfl⟩, h11w, trivial⟩ (cr_pre0 (EZ_ok k) hZ hS hX hP hD hA) rfl rfl hl.1 rfl (lv_room (Nat.le_of_ble_eq_true rfl)) dX9_firstFailingDay_54 ⟨Nat.le_of_ble_eq_true rfl, Nat.le_of_ble_eq_true rfl⟩) hP hD hS hA (fun r u H locs hp hP hD hS => ?_)
    obtain ⟨c25, rfl⟩ : ∃ z, z = u := ⟨_, rfl⟩
    obtain ⟨h9, rc25, hp25⟩ : r = Int32.ofInt c25 ∧ (inR c25) ∧ (True) := hp
    subst h9
    refine lv_iconst (v := Int32.ofInt 0) hx hb dX9_firstFailingDay_57 (by decide +kernel) ?_
    refine cz_i (wr := ((wT k arT (tpT) (paT) (arP 99) (pdT) (arB 99) (pkT) (arS 99) fiT faT) ++ (wB k arB fiB faB))) (va_runVN (As := [.ref (arP 99), .int (Int32.ofInt (c25)), .int (Int32.ofInt (0))]) (rest := []) ⟨hx, hb, hml, hown, hts⟩ (mX6_explore l G k arS pplS_19 (uF (uF (uF (uF (uF fiS 1 (n1S_3)) 2 (n2S_4)) 6 (n6S_5)) 11 (n11S_6)) 12 (n12S_7)) (uF (uF (uF (uF (uF (uF (uF (uF (uF faS 3 (g3S_10)) 4 (g4S_11)) 5 (g5S_12)) 7 (g7S_13)) 8 (g8S_14)) 9 (g9S_15)) 10 (g10S_16)) 13 (g13S_17)) 14 (g14S_18)) arP fiP (uF (uF faP 13 (g13P_8)) 22 (g22P_9)) c25 0 H.size (iF (iF (iF (iF (iF hRS (by omega)) (by omega)) (by omega)) (by omega)) (by omega)) (iG (iG (iG (iG (iG (iG (iG (iG (iG hRaS r_g3S_10) r_g4S_11) r_g5S_12) r_g7S_13) r_g8S_14) r_g9S_15) r_g10S_16) r_g13S_17) r_g14S_18) b_g5S_12 b_g7S_13 b_g8S_14 b_g9S_15 b_g10S_16 hRP (iG (iG hRaP r_g13P_8) r_g22P_9) hB8P hB21P (by omega) (by omega) (show 0 ≤ n6S_5 ∧ n6S_5 ≤ 1500 from by omega) (show 0 = 0 ∨ 0 = 1 from by omega) (show 0 < n6S_5 → pplS_19 = arP 99 from by omega) (show 0 ≤ (fiP 7) ∧ (fiP 7) ≤ 7 from by omega) (show 0 ≤ (fiP 0) ∧ (fiP 0) ≤ 11 from by omega) (show 0 ≤ (fiP 24) ∧ (fiP 24) ≤ 4 from by omega)) ⟨va_cnB 3 hts (gz [] (.code yX6_explore cX6_explore 5 (some .boolean)) [(33, 17)] rfl) rfl rfl rfl (nm_46 hX.2.2.1) h12w (by decide +kernel) ⟨Nat.le_of_ble_eq_true rfl, Nat.le_of_ble_eq_true rfl⟩, h13w, h14w⟩ (cy_preV (EZ_ok k) hZ hS hX hP hD hA [20, 21, 22, 23, 24, 25, 26, 27, 28, 29, 2, 3, 4, 5, 6, 7, 8, 9, 10, 11] rfl rfl (ci := 5) (q0 := 20) rfl rfl) rfl rfl hl.1 rfl (lv_room (Nat.le_of_ble_eq_true rfl)) dX9_firstFailingDay_58 ⟨Nat.le_of_ble_eq_true rfl, Nat.le_of_ble_eq_true rfl⟩) hP hD hS hA [20, 21, 22, 23, 24, 25, 26, 27, 28, 29, 2, 3, 4, 5, 6, 7, 8, 9, 10, 11] [0, 1, 12, 13, 14, 15, 16, 17, 18, 19] rfl rfl (by decide) (by decide) (fun r u H locs hp hP hD hS => ?_)
    obtain ⟨c26, c27, c28, c29, c30, c31, c32, c33, c34, c35, c36, c37, c38, c39, c40, c41, c42⟩ := u
    obtain ⟨hP, hD⟩ : va_P G vwCl ((wT k arT (tpT) (paT) (arP 99) (pdT) (arB 99) (pkT) (arS 99) fiT faT) ++ ((wB k arB fiB faB) ++ ((wS k arS (arP 99) (uF (uF (uF (uF (uF fiS 1 (c36)) 2 (c37)) 6 (c38)) 11 (c39)) 12 (c40)) (uF (uF (uF (uF (uF (uF (uF (uF (uF faS 3 (c27)) 4 (c28)) 5 (c29)) 7 (c30)) 8 (c31)) 9 (c32)) 10 (c33)) 13 (c34)) 14 (c35))) ++ (wP k arP fiP (uF (uF faP 13 (c41)) 22 (c42)))))) H ∧ va_D A ((wT k arT (tpT) (paT) (arP 99) (pdT) (arB 99) (pkT) (arS 99) fiT faT) ++ ((wB k arB fiB faB) ++ ((wS k arS (arP 99) (uF (uF (uF (uF (uF fiS 1 (c36)) 2 (c37)) 6 (c38)) 11 (c39)) 12 (c40)) (uF (uF (uF (uF (uF (uF (uF (uF (uF faS 3 (c27)) 4 (c28)) 5 (c29)) 7 (c30)) 8 (c31)) 9 (c32)) 10 (c33)) 13 (c34)) 14 (c35))) ++ (wP k arP fiP (uF (uF faP 13 (c41)) 22 (c42)))))) := ⟨hP, hD⟩
    obtain ⟨hP, hD⟩ : va_P G vwCl ((wT k arT (tpT) (paT) (arP 99) (pdT) (arB 99) (pkT) (arS 99) fiT faT) ++ ((wP k arP fiP (uF (uF faP 13 (c41)) 22 (c42))) ++ ((wB k arB fiB faB) ++ (wS k arS (arP 99) (uF (uF (uF (uF (uF fiS 1 (c36)) 2 (c37)) 6 (c38)) 11 (c39)) 12 (c40)) (uF (uF (uF (uF (uF (uF (uF (uF (uF faS 3 (c27)) 4 (c28)) 5 (c29)) 7 (c30)) 8 (c31)) 9 (c32)) 10 (c33)) 13 (c34)) 14 (c35)))))) H ∧ va_D A ((wT k arT (tpT) (paT) (arP 99) (pdT) (arB 99) (pkT) (arS 99) fiT faT) ++ ((wP k arP fiP (uF (uF faP 13 (c41)) 22 (c42))) ++ ((wB k arB fiB faB) ++ (wS k arS (arP 99) (uF (uF (uF (uF (uF fiS 1 (c36)) 2 (c37)) 6 (c38)) 11 (c39)) 12 (c40)) (uF (uF (uF (uF (uF (uF (uF (uF (uF faS 3 (c27)) 4 (c28)) 5 (c29)) 7 (c30)) 8 (c31)) 9 (c32)) 10 (c33)) 13 (c34)) 14 (c35)))))) := re_ord hP hD [0, 1, 20, 21, 22, 23, 24, 25, 26, 27, 28, 29, 2, 3, 4, 5, 6, 7, 8, 9, 10, 11, 12, 13, 14, 15, 16, 17, 18, 19] (by decide) rfl
    obtain ⟨h9, rc26, rc27, rc28, rc29, bc29, rc30, bc30, rc31, bc31, rc32, bc32, rc33, bc33, rc34, rc35, rc36, rc37, rc38, rc39, rc40, rc41, rc42, hp42⟩ : r = Int32.ofInt c26 ∧ (inR c26) ∧ (∀ t, inR (c27 t)) ∧ (∀ t, inR (c28 t)) ∧ (∀ t, inR (c29 t)) ∧ (bnd c29 1500 (-1) 1500) ∧ (∀ t, inR (c30 t)) ∧ (bnd c30 1024 (-1) 1500) ∧ (∀ t, inR (c31 t)) ∧ (bnd c31 1500 (-1) 1500) ∧ (∀ t, inR (c32 t)) ∧ (bnd c32 1500 0 1500) ∧ (∀ t, inR (c33 t)) ∧ (bnd c33 1500 0 1500) ∧ (∀ t, inR (c34 t)) ∧ (∀ t, inR (c35 t)) ∧ (inR c36) ∧ (inR c37) ∧ (inR c38) ∧ (inR c39) ∧ (inR c40) ∧ (∀ t, inR (c41 t)) ∧ (∀ t, inR (c42 t)) ∧ ((c26 = 0 ∨ c26 = 1) ∧ 0 ≤ c38 ∧ c38 ≤ 1500) := hp
    subst h9
    refine iv_if_ne (tgt := 67) hx hb (by omega) dX9_firstFailingDay_61 (by decide) (fun q43 => ?_) (fun q43 => ?_)
    · refine lv_aload_n hx hb dX9_firstFailingDay_67 rfl (lv_at hl 3 rfl) ?_
      refine va_get (D := G) (ci := 6) (v := .ref (arS 99)) (C := RX9) (T := TX9) (N := 11) (ref := RX9) hx hb hts h1w hown hX.1 hP 0 rfl rfl 9 (by decide) h7w (fun _ h9 => h9) rfl dX9_firstFailingDay_68 ?_
      refine cz_i (wr := ((wT k arT (tpT) (paT) (arP 99) (pdT) (arB 99) (pkT) (arS 99) fiT faT) ++ (wB k arB fiB faB))) (va_runVN (As := []) (rest := []) ⟨hx, hb, hml, hown, hts⟩ (mX6_leastTillServed l G k arS (uF (uF (uF (uF (uF fiS 1 (c36)) 2 (c37)) 6 (c38)) 11 (c39)) 12 (c40)) (uF (uF (uF (uF (uF (uF (uF (uF (uF faS 3 (c27)) 4 (c28)) 5 (c29)) 7 (c30)) 8 (c31)) 9 (c32)) 10 (c33)) 13 (c34)) 14 (c35)) arP fiP (uF (uF faP 13 (c41)) 22 (c42)) H.size (iF (iF (iF (iF (iF hRS (by omega)) (by omega)) (by omega)) (by omega)) (by omega)) (iG (iG (iG (iG (iG (iG (iG (iG (iG hRaS rc27) rc28) rc29) rc30) rc31) rc32) rc33) rc34) rc35) bc29 bc30 bc31 bc32 bc33 hRP (iG (iG hRaP rc41) rc42) hB8P hB21P (show 0 ≤ c38 ∧ c38 ≤ 1500 from by omega) (show 0 ≤ (fiP 7) ∧ (fiP 7) ≤ 7 from by omega) (show 0 ≤ (fiP 0) ∧ (fiP 0) ≤ 11 from by omega)) ⟨va_cnB 0 hts (gz [] (.code yX6_leastTillServed cX6_leastTillServed 4 (some .int)) [(35, 5)] rfl) rfl rfl rfl (nm_59 hX.2.2.1) h12w (by decide +kernel) ⟨Nat.le_of_ble_eq_true rfl, Nat.le_of_ble_eq_true rfl⟩, h15w, h16w⟩ (cy_preV (EZ_ok k) hZ hS hX hP hD hA [20, 21, 22, 23, 24, 25, 26, 27, 28, 29, 2, 3, 4, 5, 6, 7, 8, 9, 10, 11] rfl rfl (ci := 5) (q0 := 20) rfl rfl) rfl rfl hl.1 rfl (lv_room (Nat.le_of_ble_eq_true rfl)) dX9_firstFailingDay_71 ⟨Nat.le_of_ble_eq_true rfl, Nat.le_of_ble_eq_true rfl⟩) hP hD hS hA [20, 21, 22, 23, 24, 25, 26, 27, 28, 29, 2, 3, 4, 5, 6, 7, 8, 9, 10, 11] [0, 1, 12, 13, 14, 15, 16, 17, 18, 19] rfl rfl (by decide) (by decide) (fun r u H locs hp hP hD hS => ?_)
      obtain ⟨c44, rfl⟩ : ∃ z, z = u := ⟨_, rfl⟩
      obtain ⟨hP, hD⟩ : va_P G vwCl ((wT k arT (tpT) (paT) (arP 99) (pdT) (arB 99) (pkT) (arS 99) fiT faT) ++ ((wB k arB fiB faB) ++ ((wS k arS (arP 99) (uF (uF (uF (uF (uF fiS 1 (c36)) 2 (c37)) 6 (c38)) 11 (c39)) 12 (c40)) (uF (uF (uF (uF (uF (uF (uF (uF (uF faS 3 (c27)) 4 (c28)) 5 (c29)) 7 (c30)) 8 (c31)) 9 (c32)) 10 (c33)) 13 (c34)) 14 (c35))) ++ (wP k arP fiP (uF (uF faP 13 (c41)) 22 (c42)))))) H ∧ va_D A ((wT k arT (tpT) (paT) (arP 99) (pdT) (arB 99) (pkT) (arS 99) fiT faT) ++ ((wB k arB fiB faB) ++ ((wS k arS (arP 99) (uF (uF (uF (uF (uF fiS 1 (c36)) 2 (c37)) 6 (c38)) 11 (c39)) 12 (c40)) (uF (uF (uF (uF (uF (uF (uF (uF (uF faS 3 (c27)) 4 (c28)) 5 (c29)) 7 (c30)) 8 (c31)) 9 (c32)) 10 (c33)) 13 (c34)) 14 (c35))) ++ (wP k arP fiP (uF (uF faP 13 (c41)) 22 (c42)))))) := ⟨hP, hD⟩
      obtain ⟨hP, hD⟩ : va_P G vwCl ((wT k arT (tpT) (paT) (arP 99) (pdT) (arB 99) (pkT) (arS 99) fiT faT) ++ ((wP k arP fiP (uF (uF faP 13 (c41)) 22 (c42))) ++ ((wB k arB fiB faB) ++ (wS k arS (arP 99) (uF (uF (uF (uF (uF fiS 1 (c36)) 2 (c37)) 6 (c38)) 11 (c39)) 12 (c40)) (uF (uF (uF (uF (uF (uF (uF (uF (uF faS 3 (c27)) 4 (c28)) 5 (c29)) 7 (c30)) 8 (c31)) 9 (c32)) 10 (c33)) 13 (c34)) 14 (c35)))))) H ∧ va_D A ((wT k arT (tpT) (paT) (arP 99) (pdT) (arB 99) (pkT) (arS 99) fiT faT) ++ ((wP k arP fiP (uF (uF faP 13 (c41)) 22 (c42))) ++ ((wB k arB fiB faB) ++ (wS k arS (arP 99) (uF (uF (uF (uF (uF fiS 1 (c36)) 2 (c37)) 6 (c38)) 11 (c39)) 12 (c40)) (uF (uF (uF (uF (uF (uF (uF (uF (uF faS 3 (c27)) 4 (c28)) 5 (c29)) 7 (c30)) 8 (c31)) 9 (c32)) 10 (c33)) 13 (c34)) 14 (c35)))))) := re_ord hP hD [0, 1, 20, 21, 22, 23, 24, 25, 26, 27, 28, 29, 2, 3, 4, 5, 6, 7, 8, 9, 10, 11, 12, 13, 14, 15, 16, 17, 18, 19] (by decide) rfl
      obtain ⟨h9, rc44, hp44⟩ : r = Int32.ofInt c44 ∧ (inR c44) ∧ (True) := hp
      subst h9
      refine lv_iconst (v := Int32.ofInt (-1)) hx hb dX9_firstFailingDay_74 (by decide +kernel) ?_
      refine iv_icmp_ne (tgt := 80) hx hb (by omega) (by omega) dX9_firstFailingDay_75 (by decide) (fun q45 => ?_) (fun q45 => ?_)
      · refine lv_iinc (v := Int32.ofInt (x3_2 + 1)) (lv' := [(3, .int (Int32.ofInt ((x3_2 + 1)))), (4, .int (Int32.ofInt (z23))), (2, .int (Int32.ofInt (c1))), (0, .ref (arT 99)), (1, .int (Int32.ofInt (k0)))]) hx hb dX9_firstFailingDay_80 hl (k := 1) rfl (Int32.ofInt_add _ _).symm (by decide) rfl (fun ls hl => ?_)
        refine lv_goto (tgt := 11) hx hb dX9_firstFailingDay_83 (by decide) ?_
        have hl : lv_has ls 5 [(3, .int (Int32.ofInt ((x3_2 + 1)))), (2, .int (Int32.ofInt (c1))), (0, .ref (arT 99)), (1, .int (Int32.ofInt (k0)))] := lv_sub hl [0, 2, 3, 4] rfl
        exact ih ((x3_2 + 1), c36, c37, c38, c39, c40, c41, c42, c27, c28, c29, c30, c31, c32, c33, c34, c35, arP 99) (show (fiB 4 - (x3_2 + 1)).toNat < (fiB 4 - x3_2).toNat from by omega) (show inR (x3_2 + 1) ∧ inR c36 ∧ inR c37 ∧ inR c38 ∧ inR c39 ∧ inR c40 ∧ (∀ t, inR (c41 t)) ∧ (∀ t, inR (c42 t)) ∧ (∀ t, inR (c27 t)) ∧ (∀ t, inR (c28 t)) ∧ (∀ t, inR (c29 t)) ∧ (∀ t, inR (c30 t)) ∧ (∀ t, inR (c31 t)) ∧ (∀ t, inR (c32 t)) ∧ (∀ t, inR (c33 t)) ∧ (∀ t, inR (c34 t)) ∧ (∀ t, inR (c35 t)) ∧ (bnd c29 1500 (-1) 1500) ∧ (bnd c30 1024 (-1) 1500) ∧ (bnd c31 1500 (-1) 1500) ∧ (bnd c32 1500 0 1500) ∧ (bnd c33 1500 0 1500) ∧ (0 ≤ (x3_2 + 1) ∧ 0 ≤ c38 ∧ c38 ≤ 1500 ∧ (0 < c38 → (arP 99) = arP 99)) from ⟨(by omega), (by omega), (by omega), (by omega), (by omega), (by omega), rc41, rc42, rc27, rc28, rc29, rc30, rc31, rc32, rc33, rc34, rc35, bc29, bc30, bc31, bc32, bc33, (by omega)⟩) _ _ _ hP hD hS hl
      · refine lv_iload_n hx hb dX9_firstFailingDay_78 rfl (lv_at hl 1 rfl) ?_
        exact W.iret (v := Int32.ofInt (x3_2)) hx hb hr (fun t ht hW => ⟨⟨Int32.ofInt (x3_2), (x3_2, c41, c42, c27, c28, c29, c30, c31, c32, c33, c34, c35, c36, c37, c38, c39, c40, arP 99), rfl, ⟨rfl, (show (inR x3_2) ∧ (∀ t, inR (c41 t)) ∧ (∀ t, inR (c42 t)) ∧ (∀ t, inR (c27 t)) ∧ (∀ t, inR (c28 t)) ∧ (∀ t, inR (c29 t)) ∧ (bnd c29 1500 (-1) 1500) ∧ (∀ t, inR (c30 t)) ∧ (bnd c30 1024 (-1) 1500) ∧ (∀ t, inR (c31 t)) ∧ (bnd c31 1500 (-1) 1500) ∧ (∀ t, inR (c32 t)) ∧ (bnd c32 1500 0 1500) ∧ (∀ t, inR (c33 t)) ∧ (bnd c33 1500 0 1500) ∧ (∀ t, inR (c34 t)) ∧ (∀ t, inR (c35 t)) ∧ (inR c36) ∧ (inR c37) ∧ (inR c38) ∧ (inR c39) ∧ (inR c40) ∧ (-2 ≤ x3_2 ∧ x3_2 < 6 ∧ 0 ≤ c38 ∧ c38 ≤ 1500 ∧ (0 < c38 → (arP 99) = arP 99)) from ⟨(by omega), rc41, rc42, rc27, rc28, rc29, bc29, rc30, bc30, rc31, bc31, rc32, bc32, rc33, bc33, rc34, rc35, (by omega), (by omega), (by omega), (by omega), (by omega), (by omega)⟩)⟩, by rw [ht]; exact hP, hD⟩, hS.F ht⟩) hS.2.2 dX9_firstFailingDay_79
    · refine lv_bipush (v := Int32.ofInt (-2)) hx hb dX9_firstFailingDay_64 (by decide +kernel) ?_
      exact W.iret (v := Int32.ofInt ((-2))) hx hb hr (fun t ht hW => ⟨⟨Int32.ofInt ((-2)), ((-2), c41, c42, c27, c28, c29, c30, c31, c32, c33, c34, c35, c36, c37, c38, c39, c40, arP 99), rfl, ⟨rfl, (show (inR (-2)) ∧ (∀ t, inR (c41 t)) ∧ (∀ t, inR (c42 t)) ∧ (∀ t, inR (c27 t)) ∧ (∀ t, inR (c28 t)) ∧ (∀ t, inR (c29 t)) ∧ (bnd c29 1500 (-1) 1500) ∧ (∀ t, inR (c30 t)) ∧ (bnd c30 1024 (-1) 1500) ∧ (∀ t, inR (c31 t)) ∧ (bnd c31 1500 (-1) 1500) ∧ (∀ t, inR (c32 t)) ∧ (bnd c32 1500 0 1500) ∧ (∀ t, inR (c33 t)) ∧ (bnd c33 1500 0 1500) ∧ (∀ t, inR (c34 t)) ∧ (∀ t, inR (c35 t)) ∧ (inR c36) ∧ (inR c37) ∧ (inR c38) ∧ (inR c39) ∧ (inR c40) ∧ (-2 ≤ (-2) ∧ (-2) < 6 ∧ 0 ≤ c38 ∧ c38 ≤ 1500 ∧ (0 < c38 → (arP 99) = arP 99)) from ⟨(by omega), rc41, rc42, rc27, rc28, rc29, bc29, rc30, bc30, rc31, bc31, rc32, bc32, rc33, bc33, rc34, rc35, (by omega), (by omega), (by omega), (by omega), (by omega), (by omega)⟩)⟩, by rw [ht]; exact hP, hD⟩, hS.F ht⟩) hS.2.2 dX9_firstFailingDay_66

