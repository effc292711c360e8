set_option maxHeartbeats 4000000 in
set_option maxRecDepth 100000 in
theorem mX1_takeBack (l : Launch) (G : va_G) (k : Nat → ClassId) (ar : Nat → Nat) (fi : Nat → Int) (fa : Nat → Int → Int) (sz : Nat) (hR : ∀ j, inR (fi j)) (hRa : ∀ j t, inR (fa j t)) (hmv : 0 ≤ fi 1 ∧ fi 1 ≤ 60) : CNv l G k (EZ k) yX1_takeBack wzX1_takeBack ({ frames := 0, cells := 0, slots := 0, locals := 0 }) [.ref (ar 99)] sz (wB k ar fi fa) (fun (u : Int × Int × Int × Int) => (inR u.1) ∧ (inR u.2.1) ∧ (inR u.2.2.1) ∧ (inR u.2.2.2) ∧ ((0 ≤ u.2.1 ∧ u.2.1 ≤ 60) ∧ (fi 1 ≤ 0 → u.2.1 = fi 1 ∧ u.1 = fi 0) ∧ (0 < fi 1 → u.2.1 = fi 1 - 1 ∧ u.1 = fa 8 (fi 1 - 1)))) (fun (u : Int × Int × Int × Int) => (wB k ar (uF (uF (uF (uF fi 0 (u.1)) 1 (u.2.1)) 2 (u.2.2.1)) 3 (u.2.2.2)) fa)) := by
  refine Met.ofW (cc := cX1_takeBack) (maxL := 1) (ret := none) (by decide) rfl ?_
  intro p e s m args below meth c s₁ B hml hv
  obtain ⟨rfl, hsz, hP, hX, hD0, hZ0⟩ := hv
  have hx := B.exec
  have hb := B.bytes
  have hr := B.returns
  have hts := atoms_spec (ws := wzX1_takeBack) B.pre
  have hown : s.vm.findClass RX1 = some m.cls := findClass_of_methodNamed B.named
  subst hsz
  have hD := hD0.self (sz := s.heap.size)
  have hZ := hZ0
  generalize hAe : va_A (wB k ar fi fa) s.heap.size = A at hD hZ ⊢
  have hA : ∀ q : Nat, s.heap.size ≤ q → A q := fun q h => by rw [← hAe]; exact Or.inr h
  have hS : va_S A s.heap s.heap [] := va_S.rf
  have hl := lv_entry ([.ref (ar 99)]) (n := 1) (Nat.le_of_ble_eq_true rfl)
  rw [lg_entry_eq]
  generalize (lg_sl ([.ref (ar 99)]) ++ List.replicate (1 - (lg_sl ([.ref (ar 99)])).length) Slot.unset).toArray = ls at hl ⊢
  have hl : lv_has ls 1 [(0, .ref (ar 99))] := hl
  obtain ⟨H, eH⟩ : ∃ H, H = s.heap := ⟨_, rfl⟩
  rw [← eH] at hP
  have hS : va_S A s.heap H [] := by rw [eH]; exact hS
  have gW : s.heap = H := eH.symm
  refine iv_heap gW ?_
  have h0w := hts (.fieldLink RX1 37 "RopeTown$Book" "moves" "I") (wz_at 5 19 rfl)
  have h1w : ∀ w ∈ wsX10, w ∈ wzX1_takeBack := fun w h => List.mem_cons_of_mem _ (inlX1 w h)
  have h2w := hts (.fieldLink RX1 40 "RopeTown$Book" "rides" "I") (wz_at 5 20 rfl)
  have h3w := hts (.fieldLink RX1 9 "RopeTown$Book" "which" "[I") (wz_at 4 4 rfl)
  have h4w := hts (.fieldLink RX1 43 "RopeTown$Book" "cost" "I") (wz_at 5 21 rfl)
  have h5w := hts (.fieldLink RX1 24 "RopeTown$Book" "wound" "[I") (wz_at 4 8 rfl)
  have h6w := hts (.fieldLink RX1 21 "RopeTown$Book" "before" "[I") (wz_at 4 7 rfl)
  have h7w := hts (.fieldLink RX1 33 "RopeTown$Book" "state" "I") (wz_at 5 18 rfl)
  refine lv_aload_n hx hb dX1_takeBack_0 rfl (lv_at hl 0 rfl) ?_
  refine va_get (D := G) (ci := 0) (v := .int (Int32.ofInt (fi 1))) (C := RX1) (T := TX1) (N := 12) (ref := RX1) hx hb hts h1w hown hX.1 hP 0 rfl rfl 1 (by decide) h0w (fun _ h9 => h9) rfl dX1_takeBack_1 ?_
  have rf1 := hR 1
  refine iv_if_gt (tgt := 8) hx hb (by omega) dX1_takeBack_4 (by decide) (fun q1 => ?_) (fun q1 => ?_)
  · refine lv_aload_n hx hb dX1_takeBack_8 rfl (lv_at hl 0 rfl) ?_
    refine lv_dup hx hb dX1_takeBack_9 rfl ?_
    refine va_get (D := G) (ci := 0) (v := .int (Int32.ofInt (fi 1))) (C := RX1) (T := TX1) (N := 12) (ref := RX1) hx hb hts h1w hown hX.1 hP 0 rfl rfl 1 (by decide) h0w (fun _ h9 => h9) rfl dX1_takeBack_10 ?_
    have rf1 := hR 1
    refine lv_iconst (v := Int32.ofInt 1) hx hb dX1_takeBack_13 (by decide +kernel) ?_
    refine iv_sub (x := fi 1) (y := 1) hx hb dX1_takeBack_14 ?_
    refine iv_put (ci := 0) (v := .int (Int32.ofInt ((fi 1 - 1)))) (ty := .int) (C := RX1) (T := TX1) (N := 12) (ref := RX1) hx hb hts h1w tyX1 tyX1_ok nmX1 hown hX.1 hP hD hS 0 rfl rfl 1 (by decide) h0w (fun _ h9 => h9) rfl (by decide +kernel) rfl rfl (Nat.le_of_ble_eq_true rfl) (show _ = (wB k ar (uF fi 1 ((fi 1 - 1))) fa) from rfl) dX1_takeBack_15 (fun H locs hP hD hS => ?_)
    refine lv_aload_n hx hb dX1_takeBack_18 rfl (lv_at hl 0 rfl) ?_
    refine lv_dup hx hb dX1_takeBack_19 rfl ?_
    refine va_get (D := G) (ci := 0) (v := .int (Int32.ofInt (fi 2))) (C := RX1) (T := TX1) (N := 12) (ref := RX1) hx hb hts h1w hown hX.1 hP 0 rfl rfl 2 (by decide) h2w (fun _ h9 => h9) rfl dX1_takeBack_20 ?_
    have rf2 := hR 2
    refine lv_aload_n hx hb dX1_takeBack_23 rfl (lv_at hl 0 rfl) ?_
    refine va_get (D := G) (ci := 0) (v := .ref (ar 5)) (C := RX1) (T := TX1) (N := 12) (ref := RX1) hx hb hts h1w hown hX.1 hP 0 rfl rfl 5 (by decide) h3w (fun _ h9 => h9) rfl dX1_takeBack_24 ?_
    refine lv_aload_n hx hb dX1_takeBack_27 rfl (lv_at hl 0 rfl) ?_
    refine va_get (D := G) (ci := 0) (v := .int (Int32.ofInt ((fi 1 - 1)))) (C := RX1) (T := TX1) (N := 12) (ref := RX1) hx hb hts h1w hown hX.1 hP 0 rfl rfl 1 (by decide) h0w (fun _ h9 => h9) rfl dX1_takeBack_28 ?_
    refine iv_iald hx hb hX.1 hP 1 0 rfl rfl (by omega) (by omega) (by decide) dX1_takeBack_31 ?_
    refine iv_top (fun z2 ez2 => ?_)
    have rz2 : inR z2 := ez2 ▸ (hRa 5) _
    have ez2 : z2 = (fa 5) (fi 1 - 1) := ez2
    refine lv_iconst (v := Int32.ofInt 2) hx hb dX1_takeBack_32 (by decide +kernel) ?_
    refine iv_icmp_ne (tgt := 40) hx hb (by omega) (by omega) dX1_takeBack_33 (by decide) (fun q3 => ?_) (fun q3 => ?_)
    · refine lv_iconst (v := Int32.ofInt 0) hx hb dX1_takeBack_40 (by decide +kernel) ?_
      refine iv_sub (x := fi 2) (y := 0) hx hb dX1_takeBack_41 ?_
      refine iv_wr ?_
      refine iv_top (fun z4 ez4 => ?_)
      have rz4 : inR z4 := ez4 ▸ bWr_r _
      refine iv_put (ci := 0) (v := .int (Int32.ofInt (z4))) (ty := .int) (C := RX1) (T := TX1) (N := 12) (ref := RX1) hx hb hts h1w tyX1 tyX1_ok nmX1 hown hX.1 hP hD hS 0 rfl rfl 2 (by decide) h2w (fun _ h9 => h9) rfl (by decide +kernel) rfl rfl (Nat.le_of_ble_eq_true rfl) (show _ = (wB k ar (uF (uF fi 1 ((fi 1 - 1))) 2 (z4)) fa) from rfl) dX1_takeBack_42 (fun H locs hP hD hS => ?_)
      refine lv_aload_n hx hb dX1_takeBack_45 rfl (lv_at hl 0 rfl) ?_
      refine lv_dup hx hb dX1_takeBack_46 rfl ?_
      refine va_get (D := G) (ci := 0) (v := .int (Int32.ofInt (fi 3))) (C := RX1) (T := TX1) (N := 12) (ref := RX1) hx hb hts h1w hown hX.1 hP 0 rfl rfl 3 (by decide) h4w (fun _ h9 => h9) rfl dX1_takeBack_47 ?_
      have rf3 := hR 3
      refine lv_aload_n hx hb dX1_takeBack_50 rfl (lv_at hl 0 rfl) ?_
      refine va_get (D := G) (ci := 0) (v := .ref (ar 9)) (C := RX1) (T := TX1) (N := 12) (ref := RX1) hx hb hts h1w hown hX.1 hP 0 rfl rfl 9 (by decide) h5w (fun _ h9 => h9) rfl dX1_takeBack_51 ?_
      refine lv_aload_n hx hb dX1_takeBack_54 rfl (lv_at hl 0 rfl) ?_
      refine va_get (D := G) (ci := 0) (v := .int (Int32.ofInt ((fi 1 - 1)))) (C := RX1) (T := TX1) (N := 12) (ref := RX1) hx hb hts h1w hown hX.1 hP 0 rfl rfl 1 (by decide) h0w (fun _ h9 => h9) rfl dX1_takeBack_55 ?_
      refine iv_iald hx hb hX.1 hP 5 0 rfl rfl (by omega) (by omega) (by decide) dX1_takeBack_58 ?_
      refine iv_top (fun z5 ez5 => ?_)
      have rz5 : inR z5 := ez5 ▸ (hRa 9) _
      have ez5 : z5 = (fa 9) (fi 1 - 1) := ez5
      refine iv_sub (x := fi 3) (y := z5) hx hb dX1_takeBack_59 ?_
      refine iv_wr ?_
      refine iv_top (fun z6 ez6 => ?_)
      have rz6 : inR z6 := ez6 ▸ bWr_r _
      refine iv_put (ci := 0) (v := .int (Int32.ofInt (z6))) (ty := .int) (C := RX1) (T := TX1) (N := 12) (ref := RX1) hx hb hts h1w tyX1 tyX1_ok nmX1 hown hX.1 hP hD hS 0 rfl rfl 3 (by decide) h4w (fun _ h9 => h9) rfl (by decide +kernel) rfl rfl (Nat.le_of_ble_eq_true rfl) (show _ = (wB k ar (uF (uF (uF fi 1 ((fi 1 - 1))) 2 (z4)) 3 (z6)) fa) from rfl) dX1_takeBack_60 (fun H locs hP hD hS => ?_)
      refine lv_aload_n hx hb dX1_takeBack_63 rfl (lv_at hl 0 rfl) ?_
      refine lv_aload_n hx hb dX1_takeBack_64 rfl (lv_at hl 0 rfl) ?_
      refine va_get (D := G) (ci := 0) (v := .ref (ar 8)) (C := RX1) (T := TX1) (N := 12) (ref := RX1) hx hb hts h1w hown hX.1 hP 0 rfl rfl 8 (by decide) h6w (fun _ h9 => h9) rfl dX1_takeBack_65 ?_
      refine lv_aload_n hx hb dX1_takeBack_68 rfl (lv_at hl 0 rfl) ?_
      refine va_get (D := G) (ci := 0) (v := .int (Int32.ofInt ((fi 1 - 1)))) (C := RX1) (T := TX1) (N := 12) (ref := RX1) hx hb hts h1w hown hX.1 hP 0 rfl rfl 1 (by decide) h0w (fun _ h9 => h9) rfl dX1_takeBack_69 ?_
      refine iv_iald hx hb hX.1 hP 4 0 rfl rfl (by omega) (by omega) (by decide) dX1_takeBack_72 ?_
      refine iv_top (fun z7 ez7 => ?_)
      have rz7 : inR z7 := ez7 ▸ (hRa 8) _
      have ez7 : z7 = (fa 8) (fi 1 - 1) := ez7
      refine iv_put (ci := 0) (v := .int (Int32.ofInt (z7))) (ty := .int) (C := RX1) (T := TX1) (N := 12) (ref := RX1) hx hb hts h1w tyX1 tyX1_ok nmX1 hown hX.1 hP hD hS 0 rfl rfl 0 (by decide) h7w (fun _ h9 => h9) rfl (by decide +kernel) rfl rfl (Nat.le_of_ble_eq_true rfl) (show _ = (wB k ar (uF (uF (uF (uF fi 0 (z7)) 1 ((fi 1 - 1))) 2 (z4)) 3 (z6)) fa) from rfl) dX1_takeBack_73 (fun H locs hP hD hS => ?_)
      exact W.vret hx hb hr (fun t ht hW => ⟨⟨(z7, (fi 1 - 1), z4, z6), rfl, (show (inR z7) ∧ (inR (fi 1 - 1)) ∧ (inR z4) ∧ (inR z6) ∧ ((0 ≤ (fi 1 - 1) ∧ (fi 1 - 1) ≤ 60) ∧ (fi 1 ≤ 0 → (fi 1 - 1) = fi 1 ∧ z7 = fi 0) ∧ (0 < fi 1 → (fi 1 - 1) = fi 1 - 1 ∧ z7 = fa 8 (fi 1 - 1))) from ⟨(by omega), (by omega), (by omega), (by omega), (by omega)⟩), by rw [ht]; exact hP, hD⟩, hS.F ht⟩) hS.2.2 dX1_takeBack_76
    · refine lv_iconst (v := Int32.ofInt 1) hx hb dX1_takeBack_36 (by decide +kernel) ?_
      refine lv_goto (tgt := 41) hx hb dX1_takeBack_37 (by decide) ?_
      refine iv_sub (x := fi 2) (y := 1) hx hb dX1_takeBack_41 ?_
      refine iv_wr ?_
      refine iv_top (fun z8 ez8 => ?_)
      have rz8 : inR z8 := ez8 ▸ bWr_r _
      refine iv_put (ci := 0) (v := .int (Int32.ofInt (z8))) (ty := .int) (C := RX1) (T := TX1) (N := 12) (ref := RX1) hx hb hts h1w tyX1 tyX1_ok nmX1 hown hX.1 hP hD hS 0 rfl rfl 2 (by decide) h2w (fun _ h9 => h9) rfl (by decide +kernel) rfl rfl (Nat.le_of_ble_eq_true rfl) (show _ = (wB k ar (uF (uF fi 1 ((fi 1 - 1))) 2 (z8)) fa) from rfl) dX1_takeBack_42 (fun H locs hP hD hS => ?_)
      refine lv_aload_n hx hb dX1_takeBack_45 rfl (lv_at hl 0 rfl) ?_
      refine lv_dup hx hb dX1_takeBack_46 rfl ?_
      refine va_get (D := G) (ci := 0) (v := .int (Int32.ofInt (fi 3))) (C := RX1) (T := TX1) (N := 12) (ref := RX1) hx hb hts h1w hown hX.1 hP 0 rfl rfl 3 (by decide) h4w (fun _ h9 => h9) rfl dX1_takeBack_47 ?_
      have rf3 := hR 3
      refine lv_aload_n hx hb dX1_takeBack_50 rfl (lv_at hl 0 rfl) ?_
      refine va_get (D := G) (ci := 0) (v := .ref (ar 9)) (C := RX1) (T := TX1) (N := 12) (ref := RX1) hx hb hts h1w hown hX.1 hP 0 rfl rfl 9 (by decide) h5w (fun _ h9 => h9) rfl dX1_takeBack_51 ?_
      refine lv_aload_n hx hb dX1_takeBack_54 rfl (lv_at hl 0 rfl) ?_
      refine va_get (D := G) (ci := 0) (v := .int (Int32.ofInt ((fi 1 - 1)))) (C := RX1) (T := TX1) (N := 12) (ref := RX1) hx hb hts h1w hown hX.1 hP 0 rfl rfl 1 (by decide) h0w (fun _ h9 => h9) rfl dX1_takeBack_55 ?_
      refine iv_iald hx hb hX.1 hP 5 0 rfl rfl (by omega) (by omega) (by decide) dX1_takeBack_58 ?_
      refine iv_top (fun z9 ez9 => ?_)
      have rz9 : inR z9 := ez9 ▸ (hRa 9) _
      have ez9 : z9 = (fa 9) (fi 1 - 1) := ez9
      refine iv_sub (x := fi 3) (y := z9) hx hb dX1_takeBack_59 ?_
      refine iv_wr ?_
      refine iv_top (fun z10 ez10 => ?_)
      have rz10 : inR z10 := ez10 ▸ bWr_r _
      refine iv_put (ci := 0) (v := .int (Int32.ofInt (z10))) (ty := .int) (C := RX1) (T := TX1) (N := 12) (ref := RX1) hx hb hts h1w tyX1 tyX1_ok nmX1 hown hX.1 hP hD hS 0 rfl rfl 3 (by decide) h4w (fun _ h9 => h9) rfl (by decide +kernel) rfl rfl (Nat.le_of_ble_eq_true rfl) (show _ = (wB k ar (uF (uF (uF fi 1 ((fi 1 - 1))) 2 (z8)) 3 (z10)) fa) from rfl) dX1_takeBack_60 (fun H locs hP hD hS => ?_)
      refine lv_aload_n hx hb dX1_takeBack_63 rfl (lv_at hl 0 rfl) ?_
      refine lv_aload_n hx hb dX1_takeBack_64 rfl (lv_at hl 0 rfl) ?_
      refine va_get (D := G) (ci := 0) (v := .ref (ar 8)) (C := RX1) (T := TX1) (N := 12) (ref := RX1) hx hb hts h1w hown hX.1 hP 0 rfl rfl 8 (by decide) h6w (fun _ h9 => h9) rfl dX1_takeBack_65 ?_
      refine lv_aload_n hx hb dX1_takeBack_68 rfl (lv_at hl 0 rfl) ?_
      refine va_get (D := G) (ci := 0) (v := .int (Int32.ofInt ((fi 1 - 1)))) (C := RX1) (T := TX1) (N := 12) (ref := RX1) hx hb hts h1w hown hX.1 hP 0 rfl rfl 1 (by decide) h0w (fun _ h9 => h9) rfl dX1_takeBack_69 ?_
      refine iv_iald hx hb hX.1 hP 4 0 rfl rfl (by omega) (by omega) (by decide) dX1_takeBack_72 ?_
      refine iv_top (fun z11 ez11 => ?_)
      have rz11 : inR z11 := ez11 ▸ (hRa 8) _
      have ez11 : z11 = (fa 8) (fi 1 - 1) := ez11
      refine iv_put (ci := 0) (v := .int (Int32.ofInt (z11))) (ty := .int) (C := RX1) (T := TX1) (N := 12) (ref := RX1) hx hb hts h1w tyX1 tyX1_ok nmX1 hown hX.1 hP hD hS 0 rfl rfl 0 (by decide) h7w (fun _ h9 => h9) rfl (by decide +kernel) rfl rfl (Nat.le_of_ble_eq_true rfl) (show _ = (wB k ar (uF (uF (uF (uF fi 0 (z11)) 1 ((fi 1 - 1))) 2 (z8)) 3 (z10)) fa) from rfl) dX1_takeBack_73 (fun H locs hP hD hS => ?_)
      exact W.vret hx hb hr (fun t ht hW => ⟨⟨(z11, (fi 1 - 1), z8, z10), rfl, (show (inR z11) ∧ (inR (fi 1 - 1)) ∧ (inR z8) ∧ (inR z10) ∧ ((0 ≤ (fi 1 - 1) ∧ (fi 1 - 1) ≤ 60) ∧ (fi 1 ≤ 0 → (fi 1 - 1) = fi 1 ∧ z11 = fi 0) ∧ (0 < fi 1 → (fi 1 - 1) = fi 1 - 1 ∧ z11 = fa 8 (fi 1 - 1))) from ⟨(by omega), (by omega), (by omega), (by omega), (by omega)⟩), by rw [ht]; exact hP, hD⟩, hS.F ht⟩) hS.2.2 dX1_takeBack_76
  · exact W.vret hx hb hr (fun t ht hW => ⟨⟨(fi 0, fi 1, fi 2, fi 3), rfl, (show (inR (fi 0)) ∧ (inR (fi 1)) ∧ (inR (fi 2)) ∧ (inR (fi 3)) ∧ ((0 ≤ (fi 1) ∧ (fi 1) ≤ 60) ∧ (fi 1 ≤ 0 → (fi 1) = fi 1 ∧ (fi 0) = fi 0) ∧ (0 < fi 1 → (fi 1) = fi 1 - 1 ∧ (fi 0) = fa 8 (fi 1 - 1))) from ⟨(hR 0), (hR 1), (hR 2), (hR 3), (by omega)⟩), by rw [ht]; exact hP, hD⟩, hS.F ht⟩) hS.2.2 dX1_takeBack_7

set_option maxHeartbeats 4000000 in
set_option maxRecDepth 100000 in
theorem mX6_raise (l : Launch) (G : va_G) (k : Nat → ClassId) (ar : Nat → Nat) (pl : Nat) (fi : Nat → Int) (fa : Nat → Int → Int) (i0 : Int) (sz : Nat) (hR : ∀ j, inR (fi j)) (hRa : ∀ j t, inR (fa j t)) (hB5 : bnd (fa 5) 1500 (-1) 1500) (hB7 : bnd (fa 7) 1024 (-1) 1500) (hB8 : bnd (fa 8) 1500 (-1) 1500) (hB9 : bnd (fa 9) 1500 0 1500) (hB10 : bnd (fa 10) 1500 0 1500) (hr_i0 : inR i0) (hi0 : 0 ≤ i0 ∧ i0 < 1500) : CNv l G k (EZ k) yX6_raise wzX6_raise ({ frames := 0, cells := 0, slots := 0, locals := 0 }) [.ref (ar 99), .int (Int32.ofInt (i0))] sz (wS k ar (pl) fi fa) (fun (u : (Int → Int) × (Int → Int)) => (∀ t, inR (u.1 t)) ∧ (bnd u.1 1500 0 1500) ∧ (∀ t, inR (u.2 t)) ∧ (bnd u.2 1500 0 1500) ∧ (True)) (fun (u : (Int → Int) × (Int → Int)) => (wS k ar (pl) fi (uF (uF fa 9 (u.1)) 10 (u.2)))) := by
  refine Met.ofW (cc := cX6_raise) (maxL := 5) (ret := none) (by decide) rfl ?_
  intro p e s m args below meth c s₁ B hml hv
  obtain ⟨rfl, hsz, hP, hX, hD0, hZ0⟩ := hv
  have hx := B.exec
  have hb := B.bytes
  have hr := B.returns
  have hts := atoms_spec (ws := wzX6_raise) B.pre
  have hown : s.vm.findClass RX6 = some m.cls := findClass_of_methodNamed B.named
  subst hsz
  have hD := hD0.self (sz := s.heap.size)
  have hZ := hZ0
  generalize hAe : va_A (wS k ar (pl) fi fa) s.heap.size = A at hD hZ ⊢
  have hA : ∀ q : Nat, s.heap.size ≤ q → A q := fun q h => by rw [← hAe]; exact Or.inr h
  have hS : va_S A s.heap s.heap [] := va_S.rf
  have hl := lv_entry ([.ref (ar 99), .int (Int32.ofInt (i0))]) (n := 5) (Nat.le_of_ble_eq_true rfl)
  rw [lg_entry_eq]
  generalize (lg_sl ([.ref (ar 99), .int (Int32.ofInt (i0))]) ++ List.replicate (5 - (lg_sl ([.ref (ar 99), .int (Int32.ofInt (i0))])).length) Slot.unset).toArray = ls at hl ⊢
  have hl : lv_has ls 5 [(0, .ref (ar 99)), (1, .int (Int32.ofInt (i0)))] := hl
  obtain ⟨H, eH⟩ : ∃ H, H = s.heap := ⟨_, rfl⟩
  rw [← eH] at hP
  have hS : va_S A s.heap H [] := by rw [eH]; exact hS
  have gW : s.heap = H := eH.symm
  refine iv_heap gW ?_
  have h0w := hts (.fieldLink RX6 51 "RopeTown$Search" "spots" "[I") (wz_at 5 2 rfl)
  have h1w : ∀ w ∈ wsX60, w ∈ wzX6_raise := fun w h => List.mem_cons_of_mem _ (inlX6 w h)
  have h2w := hts (.fieldLink RX6 48 "RopeTown$Search" "heap" "[I") (wz_at 5 1 rfl)
  have h3w := hts (.fieldLink RX6 36 "RopeTown$Search" "costs" "[I") (wz_at 4 21 rfl)
  refine lv_aload_n hx hb dX6_raise_0 rfl (lv_at hl 0 rfl) ?_
  refine va_get (D := G) (ci := 5) (v := .ref (ar 10)) (C := RX6) (T := TX6) (N := 15) (ref := RX6) hx hb hts h1w hown hX.1 hP 0 rfl rfl 10 (by decide) h0w (fun _ h9 => h9) rfl dX6_raise_1 ?_
  refine lv_iload_n hx hb dX6_raise_4 rfl (lv_at hl 1 rfl) ?_
  refine iv_iald hx hb hX.1 hP 7 0 rfl rfl (by omega) (by omega) (by decide) dX6_raise_5 ?_
  refine iv_top (fun z1 ez1 => ?_)
  have rz1 : inR z1 := ez1 ▸ (hRa 10) _
  have ez1 : z1 = (fa 10) i0 := ez1
  have bz1 : 0 ≤ z1 ∧ z1 < 1500 := by rw [ez1]; exact bnd_at hB10 (by omega) (by omega)
  refine lv_istore_n (lv' := [(2, .int (Int32.ofInt (z1))), (0, .ref (ar 99)), (1, .int (Int32.ofInt (i0)))]) hx hb dX6_raise_6 rfl hl (by decide) rfl (fun ls hl => ?_)
  refine lv_iconst (v := Int32.ofInt 0) hx hb dX6_raise_7 (by decide +kernel) ?_
  refine lv_istore_n (lv' := [(3, .int (Int32.ofInt (0))), (2, .int (Int32.ofInt (z1))), (0, .ref (ar 99)), (1, .int (Int32.ofInt (i0)))]) hx hb dX6_raise_8 rfl hl (by decide) rfl (fun ls hl => ?_)
  refine iv_loop (α := Int × Int × (Int → Int) × (Int → Int)) (nL := 5) (fun b9 => (wS k ar (pl) fi (uF (uF fa 9 (b9.2.2.1)) 10 (b9.2.2.2)))) (fun b9 => [(3, .int (Int32.ofInt (b9.1))), (2, .int (Int32.ofInt (b9.2.1))), (0, .ref (ar 99)), (1, .int (Int32.ofInt (i0)))]) (fun b9 => (1500 - b9.1).toNat) (fun b9 => inR b9.1 ∧ inR b9.2.1 ∧ (∀ t, inR (b9.2.2.1 t)) ∧ (∀ t, inR (b9.2.2.2 t)) ∧ (bnd b9.2.2.1 1500 0 1500) ∧ (bnd b9.2.2.2 1500 0 1500) ∧ (0 ≤ b9.1 ∧ b9.1 ≤ 1500 ∧ 0 ≤ b9.2.1 ∧ b9.2.1 < 1500)) ?_ (0, z1, fa 9, fa 10) (show inR 0 ∧ inR z1 ∧ (∀ t, inR ((fa 9) t)) ∧ (∀ t, inR ((fa 10) t)) ∧ (bnd (fa 9) 1500 0 1500) ∧ (bnd (fa 10) 1500 0 1500) ∧ (0 ≤ 0 ∧ 0 ≤ 1500 ∧ 0 ≤ z1 ∧ z1 < 1500) from ⟨(by omega), (by omega), (hRa 9), (hRa 10), hB9, hB10, (by omega)⟩) hP hD hS hl
  rintro ⟨x3_2, x2_3, g9_4, g10_5⟩ ih hi9 H locs ls hP hD hS hl
  obtain ⟨r_x3_2, r_x2_3, r_g9_4, r_g10_5, b_g9_4, b_g10_5, hinv⟩ : inR x3_2 ∧ inR x2_3 ∧ (∀ t, inR (g9_4 t)) ∧ (∀ t, inR (g10_5 t)) ∧ (bnd g9_4 1500 0 1500) ∧ (bnd g10_5 1500 0 1500) ∧ (0 ≤ x3_2 ∧ x3_2 ≤ 1500 ∧ 0 ≤ x2_3 ∧ x2_3 < 1500) := hi9
  obtain ⟨hP, hD⟩ : va_P G vwCl (wS k ar (pl) fi (uF (uF fa 9 (g9_4)) 10 (g10_5))) H ∧ va_D A (wS k ar (pl) fi (uF (uF fa 9 (g9_4)) 10 (g10_5))) := ⟨hP, hD⟩
  have hl : lv_has ls 5 [(3, .int (Int32.ofInt (x3_2))), (2, .int (Int32.ofInt (x2_3))), (0, .ref (ar 99)), (1, .int (Int32.ofInt (i0)))] := hl
  refine lv_iload_n hx hb dX6_raise_9 rfl (lv_at hl 0 rfl) ?_
  refine lv_sipush (v := Int32.ofInt 1500) hx hb dX6_raise_10 (by decide +kernel) ?_
  refine iv_icmp_ge (tgt := 79) hx hb (by omega) (by omega) dX6_raise_13 (by decide) (fun q6 => ?_) (fun q6 => ?_)
  · refine lv_aload_n hx hb dX6_raise_79 rfl (lv_at hl 2 rfl) ?_
    refine va_get (D := G) (ci := 5) (v := .ref (ar 9)) (C := RX6) (T := TX6) (N := 15) (ref := RX6) hx hb hts h1w hown hX.1 hP 0 rfl rfl 9 (by decide) h2w (fun _ h9 => h9) rfl dX6_raise_80 ?_
    refine lv_iload_n hx hb dX6_raise_83 rfl (lv_at hl 1 rfl) ?_
    refine lv_iload_n hx hb dX6_raise_84 rfl (lv_at hl 3 rfl) ?_
    refine iv_iast hx hb hX.1 hP hD hS 6 0 rfl rfl (fun g' => show _ = (wS k ar (pl) fi (uF (uF fa 9 (g')) 10 (g10_5))) from rfl) (by omega) (by omega) (by decide) dX6_raise_85 (fun H locs hP hD hS => ?_)
    obtain ⟨hP, hD⟩ : va_P G vwCl (wS k ar (pl) fi (uF (uF fa 9 (uA (g9_4) (x2_3) (i0))) 10 (g10_5))) H ∧ va_D A (wS k ar (pl) fi (uF (uF fa 9 (uA (g9_4) (x2_3) (i0))) 10 (g10_5))) := ⟨hP, hD⟩
    obtain ⟨g7, eg7, rg7⟩ : ∃ z, z = uA (g9_4) (x2_3) (i0) ∧ ∀ t, inR (z t) := ⟨_, rfl, iU r_g9_4 (by omega)⟩
    rw [← eg7] at hP hD
    have bg7 : bnd g7 1500 0 1500 := bnd_up b_g9_4 (by omega) (by omega) eg7
    refine lv_aload_n hx hb dX6_raise_86 rfl (lv_at hl 2 rfl) ?_
    refine va_get (D := G) (ci := 5) (v := .ref (ar 10)) (C := RX6) (T := TX6) (N := 15) (ref := RX6) hx hb hts h1w hown hX.1 hP 0 rfl rfl 10 (by decide) h0w (fun _ h9 => h9) rfl dX6_raise_87 ?_
    refine lv_iload_n hx hb dX6_raise_90 rfl (lv_at hl 3 rfl) ?_
    refine lv_iload_n hx hb dX6_raise_91 rfl (lv_at hl 1 rfl) ?_
    refine iv_iast hx hb hX.1 hP hD hS 7 0 rfl rfl (fun g' => show _ = (wS k ar (pl) fi (uF (uF fa 9 (g7)) 10 (g'))) from rfl) (by omega) (by omega) (by decide) dX6_raise_92 (fun H locs hP hD hS => ?_)
    obtain ⟨hP, hD⟩ : va_P G vwCl (wS k ar (pl) fi (uF (uF fa 9 (g7)) 10 (uA (g10_5) (i0) (x2_3)))) H ∧ va_D A (wS k ar (pl) fi (uF (uF fa 9 (g7)) 10 (uA (g10_5) (i0) (x2_3)))) := ⟨hP, hD⟩
    obtain ⟨g8, eg8, rg8⟩ : ∃ z, z = uA (g10_5) (i0) (x2_3) ∧ ∀ t, inR (z t) := ⟨_, rfl, iU r_g10_5 (by omega)⟩
    rw [← eg8] at hP hD
    have bg8 : bnd g8 1500 0 1500 := bnd_up b_g10_5 (by omega) (by omega) eg8
    exact W.vret hx hb hr (fun t ht hW => ⟨⟨(g7, g8), rfl, (show (∀ t, inR (g7 t)) ∧ (bnd g7 1500 0 1500) ∧ (∀ t, inR (g8 t)) ∧ (bnd g8 1500 0 1500) ∧ (True) from ⟨rg7, bg7, rg8, bg8, trivial⟩), by rw [ht]; exact hP, hD⟩, hS.F ht⟩) hS.2.2 dX6_raise_93
  · refine lv_iload_n hx hb dX6_raise_16 rfl (lv_at hl 1 rfl) ?_
    refine iv_if_le (tgt := 79) hx hb (by omega) dX6_raise_17 (by decide) (fun q9 => ?_) (fun q9 => ?_)
    · refine lv_aload_n hx hb dX6_raise_79 rfl (lv_at hl 2 rfl) ?_
      refine va_get (D := G) (ci := 5) (v := .ref (ar 9)) (C := RX6) (T := TX6) (N := 15) (ref := RX6) hx hb hts h1w hown hX.1 hP 0 rfl rfl 9 (by decide) h2w (fun _ h9 => h9) rfl dX6_raise_80 ?_
      refine lv_iload_n hx hb dX6_raise_83 rfl (lv_at hl 1 rfl) ?_
      refine lv_iload_n hx hb dX6_raise_84 rfl (lv_at hl 3 rfl) ?_
      refine iv_iast hx hb hX.1 hP hD hS 6 0 rfl rfl (fun g' => show _ = (wS k ar (pl) fi (uF (uF fa 9 (g')) 10 (g10_5))) from rfl) (by omega) (by omega) (by decide) dX6_raise_85 (fun H locs hP hD hS => ?_)
      obtain ⟨hP, hD⟩ : va_P G vwCl (wS k ar (pl) fi (uF (uF fa 9 (uA (g9_4) (x2_3) (i0))) 10 (g10_5))) H ∧ va_D A (wS k ar (pl) fi (uF (uF fa 9 (uA (g9_4) (x2_3) (i0))) 10 (g10_5))) := ⟨hP, hD⟩
      obtain ⟨g10, eg10, rg10⟩ : ∃ z, z = uA (g9_4) (x2_3) (i0) ∧ ∀ t, inR (z t) := ⟨_, rfl, iU r_g9_4 (by omega)⟩
      rw [← eg10] at hP hD
      have bg10 : bnd g10 1500 0 1500 := bnd_up b_g9_4 (by omega) (by omega) eg10
      refine lv_aload_n hx hb dX6_raise_86 rfl (lv_at hl 2 rfl) ?_
      refine va_get (D := G) (ci := 5) (v := .ref (ar 10)) (C := RX6) (T := TX6) (N := 15) (ref := RX6) hx hb hts h1w hown hX.1 hP 0 rfl rfl 10 (by decide) h0w (fun _ h9 => h9) rfl dX6_raise_87 ?_
      refine lv_iload_n hx hb dX6_raise_90 rfl (lv_at hl 3 rfl) ?_
      refine lv_iload_n hx hb dX6_raise_91 rfl (lv_at hl 1 rfl) ?_
      refine iv_iast hx hb hX.1 hP hD hS 7 0 rfl rfl (fun g' => show _ = (wS k ar (pl) fi (uF (uF fa 9 (g10)) 10 (g'))) from rfl) (by omega) (by omega) (by decide) dX6_raise_92 (fun H locs hP hD hS => ?_)
      obtain ⟨hP, hD⟩ : va_P G vwCl (wS k ar (pl) fi (uF (uF fa 9 (g10)) 10 (uA (g10_5) (i0) (x2_3)))) H ∧ va_D A (wS k ar (pl) fi (uF (uF fa 9 (g10)) 10 (uA (g10_5) (i0) (x2_3)))) := ⟨hP, hD⟩
      obtain ⟨g11, eg11, rg11⟩ : ∃ z, z = uA (g10_5) (i0) (x2_3) ∧ ∀ t, inR (z t) := ⟨_, rfl, iU r_g10_5 (by omega)⟩
      rw [← eg11] at hP hD
      have bg11 : bnd g11 1500 0 1500 := bnd_up b_g10_5 (by omega) (by omega) eg11
      exact W.vret hx hb hr (fun t ht hW => ⟨⟨(g10, g11), rfl, (show (∀ t, inR (g10 t)) ∧ (bnd g10 1500 0 1500) ∧ (∀ t, inR (g11 t)) ∧ (bnd g11 1500 0 1500) ∧ (True) from ⟨rg10, bg10, rg11, bg11, trivial⟩), by rw [ht]; exact hP, hD⟩, hS.F ht⟩) hS.2.2 dX6_raise_93
    · refine lv_aload_n hx hb dX6_raise_20 rfl (lv_at hl 2 rfl) ?_
      refine va_get (D := G) (ci := 5) (v := .ref (ar 9)) (C := RX6) (T := TX6) (N := 15) (ref := RX6) hx hb hts h1w hown hX.1 hP 0 rfl rfl 9 (by decide) h2w (fun _ h9 => h9) rfl dX6_raise_21 ?_
      refine lv_iload_n hx hb dX6_raise_24 rfl (lv_at hl 1 rfl) ?_
      refine lv_iconst (v := Int32.ofInt 1) hx hb dX6_raise_25 (by decide +kernel) ?_
      refine iv_sub (x := x2_3) (y := 1) hx hb dX6_raise_26 ?_
      refine lv_iconst (v := Int32.ofInt 2) hx hb dX6_raise_27 (by decide +kernel) ?_
      refine iv_div hx hb dX6_raise_28 (by omega) (by omega) ?_
      refine iv_top (fun z12 ez12 => ?_)
      have rz12 : inR z12 := ez12 ▸ bDiv_r _ _
      have qd : 0 ≤ z12 ∧ 2 * z12 ≤ x2_3 - 1 := ez12 ▸ bDiv2 (by omega) (by omega)
      refine iv_iald hx hb hX.1 hP 6 0 rfl rfl (by omega) (by omega) (by decide) dX6_raise_29 ?_
      refine iv_top (fun z13 ez13 => ?_)
      have rz13 : inR z13 := ez13 ▸ r_g9_4 _
      have ez13 : z13 = g9_4 z12 := ez13
      have bz13 : 0 ≤ z13 ∧ z13 < 1500 := by rw [ez13]; exact bnd_at b_g9_4 (by omega) (by omega)
      refine lv_istore (lv' := [(4, .int (Int32.ofInt (z13))), (3, .int (Int32.ofInt (x3_2))), (2, .int (Int32.ofInt (x2_3))), (0, .ref (ar 99)), (1, .int (Int32.ofInt (i0)))]) hx hb dX6_raise_30 hl (by decide) rfl (fun ls hl => ?_)
      refine lv_aload_n hx hb dX6_raise_32 rfl (lv_at hl 3 rfl) ?_
      refine va_get (D := G) (ci := 5) (v := .ref (ar 4)) (C := RX6) (T := TX6) (N := 15) (ref := RX6) hx hb hts h1w hown hX.1 hP 0 rfl rfl 4 (by decide) h3w (fun _ h9 => h9) rfl dX6_raise_33 ?_
      refine lv_iload hx hb dX6_raise_36 (lv_at hl 0 rfl) ?_
      refine iv_iald hx hb hX.1 hP 2 0 rfl rfl (by omega) (by omega) (by decide) dX6_raise_38 ?_
      refine iv_top (fun z14 ez14 => ?_)
      have rz14 : inR z14 := ez14 ▸ (hRa 4) _
      have ez14 : z14 = (fa 4) z13 := ez14
      refine lv_aload_n hx hb dX6_raise_39 rfl (lv_at hl 3 rfl) ?_
      refine va_get (D := G) (ci := 5) (v := .ref (ar 4)) (C := RX6) (T := TX6) (N := 15) (ref := RX6) hx hb hts h1w hown hX.1 hP 0 rfl rfl 4 (by decide) h3w (fun _ h9 => h9) rfl dX6_raise_40 ?_
      refine lv_iload_n hx hb dX6_raise_43 rfl (lv_at hl 4 rfl) ?_
      refine iv_iald hx hb hX.1 hP 2 0 rfl rfl (by omega) (by omega) (by decide) dX6_raise_44 ?_
      refine iv_top (fun z15 ez15 => ?_)
      have rz15 : inR z15 := ez15 ▸ (hRa 4) _
      have ez15 : z15 = (fa 4) i0 := ez15
      refine iv_icmp_gt (tgt := 51) hx hb (by omega) (by omega) dX6_raise_45 (by decide) (fun q16 => ?_) (fun q16 => ?_)
      · refine lv_aload_n hx hb dX6_raise_51 rfl (lv_at hl 3 rfl) ?_
        refine va_get (D := G) (ci := 5) (v := .ref (ar 9)) (C := RX6) (T := TX6) (N := 15) (ref := RX6) hx hb hts h1w hown hX.1 hP 0 rfl rfl 9 (by decide) h2w (fun _ h9 => h9) rfl dX6_raise_52 ?_
        refine lv_iload_n hx hb dX6_raise_55 rfl (lv_at hl 2 rfl) ?_
        refine lv_iload hx hb dX6_raise_56 (lv_at hl 0 rfl) ?_
        refine iv_iast hx hb hX.1 hP hD hS 6 0 rfl rfl (fun g' => show _ = (wS k ar (pl) fi (uF (uF fa 9 (g')) 10 (g10_5))) from rfl) (by omega) (by omega) (by decide) dX6_raise_58 (fun H locs hP hD hS => ?_)
        obtain ⟨hP, hD⟩ : va_P G vwCl (wS k ar (pl) fi (uF (uF fa 9 (uA (g9_4) (x2_3) (z13))) 10 (g10_5))) H ∧ va_D A (wS k ar (pl) fi (uF (uF fa 9 (uA (g9_4) (x2_3) (z13))) 10 (g10_5))) := ⟨hP, hD⟩
        obtain ⟨g17, eg17, rg17⟩ : ∃ z, z = uA (g9_4) (x2_3) (z13) ∧ ∀ t, inR (z t) := ⟨_, rfl, iU r_g9_4 (by omega)⟩
        rw [← eg17] at hP hD
        have bg17 : bnd g17 1500 0 1500 := bnd_up b_g9_4 (by omega) (by omega) eg17
        refine lv_aload_n hx hb dX6_raise_59 rfl (lv_at hl 3 rfl) ?_
        refine va_get (D := G) (ci := 5) (v := .ref (ar 10)) (C := RX6) (T := TX6) (N := 15) (ref := RX6) hx hb hts h1w hown hX.1 hP 0 rfl rfl 10 (by decide) h0w (fun _ h9 => h9) rfl dX6_raise_60 ?_
        refine lv_iload hx hb dX6_raise_63 (lv_at hl 0 rfl) ?_
        refine lv_iload_n hx hb dX6_raise_65 rfl (lv_at hl 2 rfl) ?_
        refine iv_iast hx hb hX.1 hP hD hS 7 0 rfl rfl (fun g' => show _ = (wS k ar (pl) fi (uF (uF fa 9 (g17)) 10 (g'))) from rfl) (by omega) (by omega) (by decide) dX6_raise_66 (fun H locs hP hD hS => ?_)
        obtain ⟨hP, hD⟩ : va_P G vwCl (wS k ar (pl) fi (uF (uF fa 9 (g17)) 10 (uA (g10_5) (z13) (x2_3)))) H ∧ va_D A (wS k ar (pl) fi (uF (uF fa 9 (g17)) 10 (uA (g10_5) (z13) (x2_3)))) := ⟨hP, hD⟩
        obtain ⟨g18, eg18, rg18⟩ : ∃ z, z = uA (g10_5) (z13) (x2_3) ∧ ∀ t, inR (z t) := ⟨_, rfl, iU r_g10_5 (by omega)⟩
        rw [← eg18] at hP hD
        have bg18 : bnd g18 1500 0 1500 := bnd_up b_g10_5 (by omega) (by omega) eg18
        refine lv_iload_n hx hb dX6_raise_67 rfl (lv_at hl 2 rfl) ?_
        refine lv_iconst (v := Int32.ofInt 1) hx hb dX6_raise_68 (by decide +kernel) ?_
        refine iv_sub (x := x2_3) (y := 1) hx hb dX6_raise_69 ?_
        refine lv_iconst (v := Int32.ofInt 2) hx hb dX6_raise_70 (by decide +kernel) ?_
        refine iv_div hx hb dX6_raise_71 (by omega) (by omega) ?_
        refine iv_top (fun z19 ez19 => ?_)
        have rz19 : inR z19 := ez19 ▸ bDiv_r _ _
        have qd : 0 ≤ z19 ∧ 2 * z19 ≤ x2_3 - 1 := ez19 ▸ bDiv2 (by omega) (by omega)
        refine lv_istore_n (lv' := [(2, .int (Int32.ofInt (z19))), (4, .int (Int32.ofInt (z13))), (3, .int (Int32.ofInt (x3_2))), (0, .ref (ar 99)), (1, .int (Int32.ofInt (i0)))]) hx hb dX6_raise_72 rfl hl (by decide) rfl (fun ls hl => ?_)
        refine lv_iinc (v := Int32.ofInt (x3_2 + 1)) (lv' := [(3, .int (Int32.ofInt ((x3_2 + 1)))), (2, .int (Int32.ofInt (z19))), (4, .int (Int32.ofInt (z13))), (0, .ref (ar 99)), (1, .int (Int32.ofInt (i0)))]) hx hb dX6_raise_73 hl (k := 2) rfl (Int32.ofInt_add _ _).symm (by decide) rfl (fun ls hl => ?_)
        refine lv_goto (tgt := 9) hx hb dX6_raise_76 (by decide) ?_
        have hl : lv_has ls 5 [(3, .int (Int32.ofInt ((x3_2 + 1)))), (2, .int (Int32.ofInt (z19))), (0, .ref (ar 99)), (1, .int (Int32.ofInt (i0)))] := lv_sub hl [0, 1, 3, 4] rfl
        exact ih ((x3_2 + 1), z19, g17, g18) (show (1500 - (x3_2 + 1)).toNat < (1500 - x3_2).toNat from by omega) (show inR (x3_2 + 1) ∧ inR z19 ∧ (∀ t, inR (g17 t)) ∧ (∀ t, inR (g18 t)) ∧ (bnd g17 1500 0 1500) ∧ (bnd g18 1500 0 1500) ∧ (0 ≤ (x3_2 + 1) ∧ (x3_2 + 1) ≤ 1500 ∧ 0 ≤ z19 ∧ z19 < 1500) from ⟨(by omega), (by omega), rg17, rg18, bg17, bg18, (by omega)⟩) _ _ _ hP hD hS hl
      · refine lv_goto (tgt := 79) hx hb dX6_raise_48 (by decide) ?_
        refine lv_aload_n hx hb dX6_raise_79 rfl (lv_at hl 3 rfl) ?_
        refine va_get (D := G) (ci := 5) (v := .ref (ar 9)) (C := RX6) (T := TX6) (N := 15) (ref := RX6) hx hb hts h1w hown hX.1 hP 0 rfl rfl 9 (by decide) h2w (fun _ h9 => h9) rfl dX6_raise_80 ?_
        refine lv_iload_n hx hb dX6_raise_83 rfl (lv_at hl 2 rfl) ?_
        refine lv_iload_n hx hb dX6_raise_84 rfl (lv_at hl 4 rfl) ?_
        refine iv_iast hx hb hX.1 hP hD hS 6 0 rfl rfl (fun g' => show _ = (wS k ar (pl) fi (uF (uF fa 9 (g')) 10 (g10_5))) from rfl) (by omega) (by omega) (by decide) dX6_raise_85 (fun H locs hP hD hS => ?_)
        obtain ⟨hP, hD⟩ : va_P G vwCl (wS k ar (pl) fi (uF (uF fa 9 (uA (g9_4) (x2_3) (i0))) 10 (g10_5))) H ∧ va_D A (wS k ar (pl) fi (uF (uF fa 9 (uA (g9_4) (x2_3) (i0))) 10 (g10_5))) := ⟨hP, hD⟩
        obtain ⟨g20, eg20, rg20⟩ : ∃ z, z = uA (g9_4) (x2_3) (i0) ∧ ∀ t, inR (z t) := ⟨_, rfl, iU r_g9_4 (by omega)⟩
        rw [← eg20] at hP hD
        have bg20 : bnd g20 1500 0 1500 := bnd_up b_g9_4 (by omega) (by omega) eg20
        refine lv_aload_n hx hb dX6_raise_86 rfl (lv_at hl 3 rfl) ?_
        refine va_get (D := G) (ci := 5) (v := .ref (ar 10)) (C := RX6) (T := TX6) (N := 15) (ref := RX6) hx hb hts h1w hown hX.1 hP 0 rfl rfl 10 (by decide) h0w (fun _ h9 => h9) rfl dX6_raise_87 ?_
        refine lv_iload_n hx hb dX6_raise_90 rfl (lv_at hl 4 rfl) ?_
        refine lv_iload_n hx hb dX6_raise_91 rfl (lv_at hl 2 rfl) ?_
        refine iv_iast hx hb hX.1 hP hD hS 7 0 rfl rfl (fun g' => show _ = (wS k ar (pl) fi (uF (uF fa 9 (g20)) 10 (g'))) from rfl) (by omega) (by omega) (by decide) dX6_raise_92 (fun H locs hP hD hS => ?_)
        obtain ⟨hP, hD⟩ : va_P G vwCl (wS k ar (pl) fi (uF (uF fa 9 (g20)) 10 (uA (g10_5) (i0) (x2_3)))) H ∧ va_D A (wS k ar (pl) fi (uF (uF fa 9 (g20)) 10 (uA (g10_5) (i0) (x2_3)))) := ⟨hP, hD⟩
        obtain ⟨g21, eg21, rg21⟩ : ∃ z, z = uA (g10_5) (i0) (x2_3) ∧ ∀ t, inR (z t) := ⟨_, rfl, iU r_g10_5 (by omega)⟩
        rw [← eg21] at hP hD
        have bg21 : bnd g21 1500 0 1500 := bnd_up b_g10_5 (by omega) (by omega) eg21
        exact W.vret hx hb hr (fun t ht hW => ⟨⟨(g20, g21), rfl, (show (∀ t, inR (g20 t)) ∧ (bnd g20 1500 0 1500) ∧ (∀ t, inR (g21 t)) ∧ (bnd g21 1500 0 1500) ∧ (True) from ⟨rg20, bg20, rg21, bg21, trivial⟩), by rw [ht]; exact hP, hD⟩, hS.F ht⟩) hS.2.2 dX6_raise_93

