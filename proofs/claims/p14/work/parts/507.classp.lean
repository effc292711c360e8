set_option maxHeartbeats 4000000 in
set_option maxRecDepth 100000 in
theorem mX4_takeNumber (l : Launch) (G : va_G) (k : Nat → ClassId) (arR : Nat → Nat) (plR : Nat) (fiR : Nat → Int) (faR : Nat → Int → Int) (arY : Nat → Nat) (fiY : Nat → Int) (faY : Nat → Int → Int) (sz : Nat) (hRR : ∀ j, inR (fiR j)) (hRaR : ∀ j t, inR (faR j t)) (hRY : ∀ j, inR (fiY j)) (hRaY : ∀ j t, inR (faY j t)) (hB0Y : bnd (faY 0) 600 (-128) 128) (hst : 0 ≤ fiR 22 ∧ fiR 22 ≤ fiR 23 ∧ fiR 23 ≤ fiR 21 ∧ fiR 21 ≤ 600) (hkn : kd (uT (faY 0)) (fiR 21) (fiR 22) = 2 ∧ fiR 23 = en (uT (faY 0)) (fiR 21) (fiR 22)) : CNv l G k (EZ k) yX4_takeNumber wzX4_takeNumber ({ frames := 0, cells := 0, slots := 0, locals := 0 }) [.ref (arR 98)] sz ((wR k arR (plR) (arY 0) fiR faR) ++ (wY k arY fiY faY)) (fun (u : Int × Int) => (inR u.1) ∧ (inR u.2) ∧ (u.1 = 2 ∧ u.2 = nmb (uT (faY 0)) (fiR 21) (fiR 22))) (fun (u : Int × Int) => ((wR k arR (plR) (arY 0) (uF (uF fiR 24 (u.1)) 26 (u.2)) faR) ++ (wY k arY fiY faY))) := by
  refine Met.ofW (cc := cX4_takeNumber) (maxL := 2) (ret := none) (by decide) rfl ?_
  intro p e s m args below meth c s₁ B hml hv
  obtain ⟨rfl, hsz, hP, hX, hD0, hZ0⟩ := hv
  have hx := B.exec
  have hb := B.bytes
  have hr := B.returns
  have hts := atoms_spec (ws := wzX4_takeNumber) B.pre
  have hown : s.vm.findClass RX4 = some m.cls := findClass_of_methodNamed B.named
  subst hsz
  have hD := hD0.self (sz := s.heap.size)
  have hZ := hZ0
  generalize hAe : va_A ((wR k arR (plR) (arY 0) fiR faR) ++ (wY k arY fiY faY)) s.heap.size = A at hD hZ ⊢
  have hA : ∀ q : Nat, s.heap.size ≤ q → A q := fun q h => by rw [← hAe]; exact Or.inr h
  have hS : va_S A s.heap s.heap [] := va_S.rf
  have hl := lv_entry ([.ref (arR 98)]) (n := 2) (Nat.le_of_ble_eq_true rfl)
  rw [lg_entry_eq]
  generalize (lg_sl ([.ref (arR 98)]) ++ List.replicate (2 - (lg_sl ([.ref (arR 98)])).length) Slot.unset).toArray = ls at hl ⊢
  have hl : lv_has ls 2 [(0, .ref (arR 98))] := hl
  obtain ⟨H, eH⟩ : ∃ H, H = s.heap := ⟨_, rfl⟩
  rw [← eH] at hP
  have hS : va_S A s.heap H [] := by rw [eH]; exact hS
  have gW : s.heap = H := eH.symm
  refine iv_heap gW ?_
  have h0w := hts (.fieldLink RX4 25 "RopeTown$Reader" "kind" "I") (wz_at 3 20 rfl)
  have h1w : ∀ w ∈ wsX40, w ∈ wzX4_takeNumber := fun w h => List.mem_cons_of_mem _ (inlX4 w h)
  have h2w := hts (.fieldLink RX4 37 "RopeTown$Reader" "number" "I") (wz_at 3 23 rfl)
  have h3w := hts (.fieldLink RX4 19 "RopeTown$Reader" "start" "I") (wz_at 3 18 rfl)
  have h4w := hts (.fieldLink RX4 22 "RopeTown$Reader" "next" "I") (wz_at 3 19 rfl)
  have h5w := hts (.fieldLink RX4 9 "RopeTown$Reader" "text" "[B") (wz_at 3 16 rfl)
  refine lv_aload_n hx hb dX4_takeNumber_0 rfl (lv_at hl 0 rfl) ?_
  refine lv_iconst (v := Int32.ofInt 2) hx hb dX4_takeNumber_1 (by decide +kernel) ?_
  refine iv_put (ci := 3) (v := .int (Int32.ofInt (2))) (ty := .int) (C := RX4) (T := TX4) (N := 8) (ref := RX4) hx hb hts h1w tyX4 tyX4_ok nmX4 hown hX.1 hP hD hS 1 rfl rfl 4 (by decide) h0w (fun _ h9 => h9) rfl (by decide +kernel) rfl rfl (Nat.le_of_ble_eq_true rfl) (show _ = ((wR k arR (plR) (arY 0) (uF fiR 24 (2)) faR) ++ (wY k arY fiY faY)) from rfl) dX4_takeNumber_2 (fun H locs hP hD hS => ?_)
  refine lv_aload_n hx hb dX4_takeNumber_5 rfl (lv_at hl 0 rfl) ?_
  refine iv_join (G := G) (A := A) (H0 := s.heap) (α := Int) (nL := 2) 24 (fun b9 => [.int (Int32.ofInt (b9)), .ref (arR 98)]) (fun b9 => ((wR k arR (plR) (arY 0) (uF fiR 24 (2)) faR) ++ (wY k arY fiY faY))) (fun b9 => [(0, .ref (arR 98))]) (fun b9 => inR b9 ∧ (b9 = -1 ∧ 4 < fiR 23 - fiR 22 ∨ b9 = 0 ∧ fiR 23 - fiR 22 ≤ 4)) ?_ (fun J24 => ?_)
  · intro s0_1 hi9 H locs ls hP hD hS hl
    obtain ⟨r_s0_1, hinv⟩ : inR s0_1 ∧ (s0_1 = -1 ∧ 4 < fiR 23 - fiR 22 ∨ s0_1 = 0 ∧ fiR 23 - fiR 22 ≤ 4) := hi9
    obtain ⟨hP, hD⟩ : va_P G vwCl ((wR k arR (plR) (arY 0) (uF fiR 24 (2)) faR) ++ (wY k arY fiY faY)) H ∧ va_D A ((wR k arR (plR) (arY 0) (uF fiR 24 (2)) faR) ++ (wY k arY fiY faY)) := ⟨hP, hD⟩
    have hl : lv_has ls 2 [(0, .ref (arR 98))] := hl
    refine iv_put (ci := 3) (v := .int (Int32.ofInt (s0_1))) (ty := .int) (C := RX4) (T := TX4) (N := 8) (ref := RX4) hx hb hts h1w tyX4 tyX4_ok nmX4 hown hX.1 hP hD hS 1 rfl rfl 6 (by decide) h2w (fun _ h9 => h9) rfl (by decide +kernel) rfl rfl (Nat.le_of_ble_eq_true rfl) (show _ = ((wR k arR (plR) (arY 0) (uF (uF fiR 24 (2)) 26 (s0_1)) faR) ++ (wY k arY fiY faY)) from rfl) dX4_takeNumber_24 (fun H locs hP hD hS => ?_)
    refine lv_aload_n hx hb dX4_takeNumber_27 rfl (lv_at hl 0 rfl) ?_
    refine va_get (D := G) (ci := 3) (v := .int (Int32.ofInt (fiR 22))) (C := RX4) (T := TX4) (N := 8) (ref := RX4) hx hb hts h1w hown hX.1 hP 1 rfl rfl 2 (by decide) h3w (fun _ h9 => h9) rfl dX4_takeNumber_28 ?_
    have rf22R := hRR 22
    refine lv_istore_n (lv' := [(1, .int (Int32.ofInt (fiR 22))), (0, .ref (arR 98))]) hx hb dX4_takeNumber_31 rfl hl (by decide) rfl (fun ls hl => ?_)
    refine iv_loop (α := Int × Int) (nL := 2) (fun b9 => ((wR k arR (plR) (arY 0) (uF (uF fiR 24 (2)) 26 (b9.2)) faR) ++ (wY k arY fiY faY))) (fun b9 => [(1, .int (Int32.ofInt (b9.1))), (0, .ref (arR 98))]) (fun b9 => (fiR 23 - b9.1).toNat) (fun b9 => inR b9.1 ∧ inR b9.2 ∧ (((fiR 22 ≤ b9.1 ∧ b9.1 ≤ fiR 23) ∧ (b9.2 = -1 ∧ 4 < fiR 23 - fiR 22 ∨ fiR 23 - fiR 22 ≤ 4 ∧ 0 ≤ b9.2 ∧ b9.2 ≤ 9999)) ∧ NB (uT (faY 0)) (fiR 22) (fiR 23) b9.1 b9.2)) ?_ (fiR 22, s0_1) (show inR (fiR 22) ∧ inR s0_1 ∧ (((fiR 22 ≤ (fiR 22) ∧ (fiR 22) ≤ fiR 23) ∧ (s0_1 = -1 ∧ 4 < fiR 23 - fiR 22 ∨ fiR 23 - fiR 22 ≤ 4 ∧ 0 ≤ s0_1 ∧ s0_1 ≤ 9999)) ∧ NB (uT (faY 0)) (fiR 22) (fiR 23) (fiR 22) s0_1) from ⟨(hRR 22), (by omega), (by exact ⟨by omega, nb_i (by omega) rfl⟩)⟩) hP hD hS hl
    rintro ⟨x1_2, n26R_3⟩ ih hi9 H locs ls hP hD hS hl
    obtain ⟨r_x1_2, r_n26R_3, hinv⟩ : inR x1_2 ∧ inR n26R_3 ∧ (((fiR 22 ≤ x1_2 ∧ x1_2 ≤ fiR 23) ∧ (n26R_3 = -1 ∧ 4 < fiR 23 - fiR 22 ∨ fiR 23 - fiR 22 ≤ 4 ∧ 0 ≤ n26R_3 ∧ n26R_3 ≤ 9999)) ∧ NB (uT (faY 0)) (fiR 22) (fiR 23) x1_2 n26R_3) := hi9
    obtain ⟨hJ1, hNB⟩ := hinv
    obtain ⟨hP, hD⟩ : va_P G vwCl ((wR k arR (plR) (arY 0) (uF (uF fiR 24 (2)) 26 (n26R_3)) faR) ++ (wY k arY fiY faY)) H ∧ va_D A ((wR k arR (plR) (arY 0) (uF (uF fiR 24 (2)) 26 (n26R_3)) faR) ++ (wY k arY fiY faY)) := ⟨hP, hD⟩
    have hl : lv_has ls 2 [(1, .int (Int32.ofInt (x1_2))), (0, .ref (arR 98))] := hl
    refine lv_iload_n hx hb dX4_takeNumber_32 rfl (lv_at hl 0 rfl) ?_
    refine lv_aload_n hx hb dX4_takeNumber_33 rfl (lv_at hl 1 rfl) ?_
    refine va_get (D := G) (ci := 3) (v := .int (Int32.ofInt (fiR 23))) (C := RX4) (T := TX4) (N := 8) (ref := RX4) hx hb hts h1w hown hX.1 hP 1 rfl rfl 3 (by decide) h4w (fun _ h9 => h9) rfl dX4_takeNumber_34 ?_
    have rf23R := hRR 23
    refine iv_icmp_ge (tgt := 75) hx hb (by omega) (by omega) dX4_takeNumber_37 (by decide) (fun q4 => ?_) (fun q4 => ?_)
    · exact W.vret hx hb hr (fun t ht hW => ⟨⟨(2, n26R_3), rfl, (show (inR 2) ∧ (inR n26R_3) ∧ (2 = 2 ∧ n26R_3 = nmb (uT (faY 0)) (fiR 21) (fiR 22)) from ⟨(by omega), (by omega), (by exact ⟨by omega, nb_x hNB (by omega) (by omega) hkn.2⟩)⟩), by rw [ht]; exact hP, hD⟩, hS.F ht⟩) hS.2.2 dX4_takeNumber_75
    · refine lv_aload_n hx hb dX4_takeNumber_40 rfl (lv_at hl 1 rfl) ?_
      refine va_get (D := G) (ci := 3) (v := .int (Int32.ofInt (n26R_3))) (C := RX4) (T := TX4) (N := 8) (ref := RX4) hx hb hts h1w hown hX.1 hP 1 rfl rfl 6 (by decide) h2w (fun _ h9 => h9) rfl dX4_takeNumber_41 ?_
      refine lv_iconst (v := Int32.ofInt (-1)) hx hb dX4_takeNumber_44 (by decide +kernel) ?_
      refine iv_icmp_eq (tgt := 75) hx hb (by omega) (by omega) dX4_takeNumber_45 (by decide) (fun q5 => ?_) (fun q5 => ?_)
      · exact W.vret hx hb hr (fun t ht hW => ⟨⟨(2, n26R_3), rfl, (show (inR 2) ∧ (inR n26R_3) ∧ (2 = 2 ∧ n26R_3 = nmb (uT (faY 0)) (fiR 21) (fiR 22)) from ⟨(by omega), (by omega), (by exact ⟨by omega, nb_x hNB (by omega) (by omega) hkn.2⟩)⟩), by rw [ht]; exact hP, hD⟩, hS.F ht⟩) hS.2.2 dX4_takeNumber_75
      · refine lv_aload_n hx hb dX4_takeNumber_48 rfl (lv_at hl 1 rfl) ?_
        refine lv_bipush (v := Int32.ofInt 10) hx hb dX4_takeNumber_49 (by decide +kernel) ?_
        refine lv_aload_n hx hb dX4_takeNumber_51 rfl (lv_at hl 1 rfl) ?_
        refine va_get (D := G) (ci := 3) (v := .int (Int32.ofInt (n26R_3))) (C := RX4) (T := TX4) (N := 8) (ref := RX4) hx hb hts h1w hown hX.1 hP 1 rfl rfl 6 (by decide) h2w (fun _ h9 => h9) rfl dX4_takeNumber_52 ?_
        refine iv_mul (x := 10) (y := n26R_3) hx hb dX4_takeNumber_55 ?_
        refine lv_aload_n hx hb dX4_takeNumber_56 rfl (lv_at hl 1 rfl) ?_
        refine va_get (D := G) (ci := 3) (v := .ref (arY 0)) (C := RX4) (T := TX4) (N := 8) (ref := RX4) hx hb hts h1w hown hX.1 hP 1 rfl rfl 0 (by decide) h5w (fun _ h9 => h9) rfl dX4_takeNumber_57 ?_
        refine lv_iload_n hx hb dX4_takeNumber_60 rfl (lv_at hl 0 rfl) ?_
        refine iv_bald hx hb hX.1 hP 2 1 rfl rfl (by omega) (by omega) (by decide) dX4_takeNumber_61 ?_
        refine iv_top (fun z6 ez6 => ?_)
        have rz6 : inR z6 := ez6 ▸ (hRaY 0) _
        have ez6 : z6 = (faY 0) x1_2 := ez6
        have bz6 : (-128) ≤ z6 ∧ z6 < 128 := by rw [ez6]; exact bnd_at hB0Y (by omega) (by omega)
        have hd6 := nb_d hkn.1 hkn.2 (by omega) (by omega) ez6 bz6
        refine iv_add (x := (10 * n26R_3)) (y := z6) hx hb dX4_takeNumber_62 ?_
        refine lv_bipush (v := Int32.ofInt 48) hx hb dX4_takeNumber_63 (by decide +kernel) ?_
        refine iv_sub (x := ((10 * n26R_3) + z6)) (y := 48) hx hb dX4_takeNumber_65 ?_
        refine iv_put (ci := 3) (v := .int (Int32.ofInt ((((10 * n26R_3) + z6) - 48)))) (ty := .int) (C := RX4) (T := TX4) (N := 8) (ref := RX4) hx hb hts h1w tyX4 tyX4_ok nmX4 hown hX.1 hP hD hS 1 rfl rfl 6 (by decide) h2w (fun _ h9 => h9) rfl (by decide +kernel) rfl rfl (Nat.le_of_ble_eq_true rfl) (show _ = ((wR k arR (plR) (arY 0) (uF (uF fiR 24 (2)) 26 ((((10 * n26R_3) + z6) - 48))) faR) ++ (wY k arY fiY faY)) from rfl) dX4_takeNumber_66 (fun H locs hP hD hS => ?_)
        refine lv_iinc (v := Int32.ofInt (x1_2 + 1)) (lv' := [(1, .int (Int32.ofInt ((x1_2 + 1)))), (0, .ref (arR 98))]) hx hb dX4_takeNumber_69 hl (k := 0) rfl (Int32.ofInt_add _ _).symm (by decide) rfl (fun ls hl => ?_)
        refine lv_goto (tgt := 32) hx hb dX4_takeNumber_72 (by decide) ?_
        have hl : lv_has ls 2 [(1, .int (Int32.ofInt ((x1_2 + 1)))), (0, .ref (arR 98))] := lv_sub hl [0, 1] rfl
        exact ih ((x1_2 + 1), (((10 * n26R_3) + z6) - 48)) (show (fiR 23 - (x1_2 + 1)).toNat < (fiR 23 - x1_2).toNat from by omega) (show inR (x1_2 + 1) ∧ inR (((10 * n26R_3) + z6) - 48) ∧ (((fiR 22 ≤ (x1_2 + 1) ∧ (x1_2 + 1) ≤ fiR 23) ∧ ((((10 * n26R_3) + z6) - 48) = -1 ∧ 4 < fiR 23 - fiR 22 ∨ fiR 23 - fiR 22 ≤ 4 ∧ 0 ≤ (((10 * n26R_3) + z6) - 48) ∧ (((10 * n26R_3) + z6) - 48) ≤ 9999)) ∧ NB (uT (faY 0)) (fiR 22) (fiR 23) (x1_2 + 1) (((10 * n26R_3) + z6) - 48)) from ⟨(by omega), (by omega), (by have hn9 := nb_s hNB hkn.1 hkn.2 (by omega) (by omega) (by omega) hd6.2.2 rfl; exact ⟨by omega, hn9.1⟩)⟩) _ _ _ hP hD hS hl
  · refine lv_aload_n hx hb dX4_takeNumber_6 rfl (lv_at hl 0 rfl) ?_
    refine va_get (D := G) (ci := 3) (v := .int (Int32.ofInt (fiR 23))) (C := RX4) (T := TX4) (N := 8) (ref := RX4) hx hb hts h1w hown hX.1 hP 1 rfl rfl 3 (by decide) h4w (fun _ h9 => h9) rfl dX4_takeNumber_7 ?_
    have rf23R := hRR 23
    refine lv_aload_n hx hb dX4_takeNumber_10 rfl (lv_at hl 0 rfl) ?_
    refine va_get (D := G) (ci := 3) (v := .int (Int32.ofInt (fiR 22))) (C := RX4) (T := TX4) (N := 8) (ref := RX4) hx hb hts h1w hown hX.1 hP 1 rfl rfl 2 (by decide) h3w (fun _ h9 => h9) rfl dX4_takeNumber_11 ?_
    have rf22R := hRR 22
    refine iv_sub (x := fiR 23) (y := fiR 22) hx hb dX4_takeNumber_14 ?_
    refine lv_iconst (v := Int32.ofInt 4) hx hb dX4_takeNumber_15 (by decide +kernel) ?_
    refine iv_icmp_le (tgt := 23) hx hb (by omega) (by omega) dX4_takeNumber_16 (by decide) (fun q7 => ?_) (fun q7 => ?_)
    · refine lv_iconst (v := Int32.ofInt 0) hx hb dX4_takeNumber_23 (by decide +kernel) ?_
      have hl : lv_has ls 2 [(0, .ref (arR 98))] := lv_sub hl [0] rfl
      exact J24 (0) (show inR 0 ∧ (0 = -1 ∧ 4 < fiR 23 - fiR 22 ∨ 0 = 0 ∧ fiR 23 - fiR 22 ≤ 4) from ⟨(by omega), (by omega)⟩) _ _ _ hP hD hS hl
    · refine lv_iconst (v := Int32.ofInt (-1)) hx hb dX4_takeNumber_19 (by decide +kernel) ?_
      refine lv_goto (tgt := 24) hx hb dX4_takeNumber_20 (by decide) ?_
      have hl : lv_has ls 2 [(0, .ref (arR 98))] := lv_sub hl [0] rfl
      exact J24 ((-1)) (show inR (-1) ∧ ((-1) = -1 ∧ 4 < fiR 23 - fiR 22 ∨ (-1) = 0 ∧ fiR 23 - fiR 22 ≤ 4) from ⟨(by omega), (by omega)⟩) _ _ _ hP hD hS hl

