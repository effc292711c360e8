set_option maxHeartbeats 4000000 in
set_option maxRecDepth 100000 in
theorem mX5_clear (l : Launch) (G : va_G) (k : Nat → ClassId) (ar : Nat → Nat) (fi : Nat → Int) (fa : Nat → Int → Int) (sz : Nat) (hR : ∀ j, inR (fi j)) (hRa : ∀ j t, inR (fa j t)) (hB8 : bnd (fa 8) 7 0 4) (hB20 : bnd (fa 20) 600 (-1000) 10000) (hB21 : bnd (fa 21) 4 0 601) : CNv l G k (EZ k) yX5_clear wzX5_clear ({ frames := 0, cells := 0, slots := 0, locals := 0 }) [.ref (ar 98)] sz (wP k ar fi fa) (fun (u : Int × Int) => (inR u.1) ∧ (inR u.2) ∧ (u.1 = 0 ∧ u.2 = 0)) (fun (u : Int × Int) => (wP k ar (uF (uF fi 23 (u.1)) 24 (u.2)) fa)) := by
  refine Met.ofW (cc := cX5_clear) (maxL := 1) (ret := none) (by decide) rfl ?_
  intro p e s m args below meth c s₁ B hml hv
  obtain ⟨rfl, hsz, hP, hX, hD0, hZ0⟩ := hv
  have hx := B.exec
  have hb := B.bytes
  have hr := B.returns
  have hts := atoms_spec (ws := wzX5_clear) B.pre
  have hown : s.vm.findClass RX5 = some m.cls := findClass_of_methodNamed B.named
  subst hsz
  have hD := hD0.self (sz := s.heap.size)
  have hZ := hZ0
  generalize hAe : va_A (wP k ar fi fa) s.heap.size = A at hD hZ ⊢
  have hA : ∀ q : Nat, s.heap.size ≤ q → A q := fun q h => by rw [← hAe]; exact Or.inr h
  have hS : va_S A s.heap s.heap [] := va_S.rf
  have hl := lv_entry ([.ref (ar 98)]) (n := 1) (Nat.le_of_ble_eq_true rfl)
  rw [lg_entry_eq]
  generalize (lg_sl ([.ref (ar 98)]) ++ List.replicate (1 - (lg_sl ([.ref (ar 98)])).length) Slot.unset).toArray = ls at hl ⊢
  have hl : lv_has ls 1 [(0, .ref (ar 98))] := hl
  obtain ⟨H, eH⟩ : ∃ H, H = s.heap := ⟨_, rfl⟩
  rw [← eH] at hP
  have hS : va_S A s.heap H [] := by rw [eH]; exact hS
  have gW : s.heap = H := eH.symm
  refine iv_heap gW ?_
  have h0w := hts (.fieldLink RX5 24 "RopeTown$Rules" "length" "I") (wz_at 2 12 rfl)
  have h1w : ∀ w ∈ wsX50, w ∈ wzX5_clear := fun w h => List.mem_cons_of_mem _ (inlX5 w h)
  have h2w := hts (.fieldLink RX5 28 "RopeTown$Rules" "size" "I") (wz_at 2 13 rfl)
  refine lv_aload_n hx hb dX5_clear_0 rfl (lv_at hl 0 rfl) ?_
  refine lv_iconst (v := Int32.ofInt 0) hx hb dX5_clear_1 (by decide +kernel) ?_
  refine iv_put (ci := 4) (v := .int (Int32.ofInt (0))) (ty := .int) (C := RX5) (T := TX5) (N := 5) (ref := RX5) hx hb hts h1w tyX5 tyX5_ok nmX5 hown hX.1 hP hD hS 1 rfl rfl 3 (by decide) h0w (fun _ h9 => h9) rfl (by decide +kernel) rfl rfl (Nat.le_of_ble_eq_true rfl) (show _ = (wP k ar (uF fi 23 (0)) fa) from rfl) dX5_clear_2 (fun H locs hP hD hS => ?_)
  refine lv_aload_n hx hb dX5_clear_5 rfl (lv_at hl 0 rfl) ?_
  refine lv_iconst (v := Int32.ofInt 0) hx hb dX5_clear_6 (by decide +kernel) ?_
  refine iv_put (ci := 4) (v := .int (Int32.ofInt (0))) (ty := .int) (C := RX5) (T := TX5) (N := 5) (ref := RX5) hx hb hts h1w tyX5 tyX5_ok nmX5 hown hX.1 hP hD hS 1 rfl rfl 4 (by decide) h2w (fun _ h9 => h9) rfl (by decide +kernel) rfl rfl (Nat.le_of_ble_eq_true rfl) (show _ = (wP k ar (uF (uF fi 23 (0)) 24 (0)) fa) from rfl) dX5_clear_7 (fun H locs hP hD hS => ?_)
  exact W.vret hx hb hr (fun t ht hW => ⟨⟨(0, 0), rfl, (show (inR 0) ∧ (inR 0) ∧ (0 = 0 ∧ 0 = 0) from ⟨(by omega), (by omega), (by omega)⟩), by rw [ht]; exact hP, hD⟩, hS.F ht⟩) hS.2.2 dX5_clear_10

set_option maxHeartbeats 4000000 in
set_option maxRecDepth 100000 in
theorem mX5_add (l : Launch) (G : va_G) (k : Nat → ClassId) (ar : Nat → Nat) (fi : Nat → Int) (fa : Nat → Int → Int) (i0 : Int) (sz : Nat) (hR : ∀ j, inR (fi j)) (hRa : ∀ j t, inR (fa j t)) (hB8 : bnd (fa 8) 7 0 4) (hB20 : bnd (fa 20) 600 (-1000) 10000) (hB21 : bnd (fa 21) 4 0 601) (hr_i0 : inR i0) (hln : 0 ≤ fi 23 ∧ fi 23 ≤ 600) (hi0 : -1000 ≤ i0 ∧ i0 < 10000) : CNv l G k (EZ k) yX5_add wzX5_add ({ frames := 0, cells := 0, slots := 0, locals := 0 }) [.ref (ar 98), .int (Int32.ofInt (i0))] sz (wP k ar fi fa) (fun (u : (Int → Int) × Int) => (∀ t, inR (u.1 t)) ∧ (bnd u.1 600 (-1000) 10000) ∧ (inR u.2) ∧ ((0 ≤ u.2 ∧ u.2 ≤ 600) ∧ AdP (fa 20) u.1 (fi 23) u.2 i0)) (fun (u : (Int → Int) × Int) => (wP k ar (uF fi 23 (u.2)) (uF fa 20 (u.1)))) := by
  refine Met.ofW (cc := cX5_add) (maxL := 2) (ret := none) (by decide) rfl ?_
  intro p e s m args below meth c s₁ B hml hv
  obtain ⟨rfl, hsz, hP, hX, hD0, hZ0⟩ := hv
  have hx := B.exec
  have hb := B.bytes
  have hr := B.returns
  have hts := atoms_spec (ws := wzX5_add) B.pre
  have hown : s.vm.findClass RX5 = some m.cls := findClass_of_methodNamed B.named
  subst hsz
  have hD := hD0.self (sz := s.heap.size)
  have hZ := hZ0
  generalize hAe : va_A (wP k ar fi fa) s.heap.size = A at hD hZ ⊢
  have hA : ∀ q : Nat, s.heap.size ≤ q → A q := fun q h => by rw [← hAe]; exact Or.inr h
  have hS : va_S A s.heap s.heap [] := va_S.rf
  have hl := lv_entry ([.ref (ar 98), .int (Int32.ofInt (i0))]) (n := 2) (Nat.le_of_ble_eq_true rfl)
  rw [lg_entry_eq]
  generalize (lg_sl ([.ref (ar 98), .int (Int32.ofInt (i0))]) ++ List.replicate (2 - (lg_sl ([.ref (ar 98), .int (Int32.ofInt (i0))])).length) Slot.unset).toArray = ls at hl ⊢
  have hl : lv_has ls 2 [(0, .ref (ar 98)), (1, .int (Int32.ofInt (i0)))] := hl
  obtain ⟨H, eH⟩ : ∃ H, H = s.heap := ⟨_, rfl⟩
  rw [← eH] at hP
  have hS : va_S A s.heap H [] := by rw [eH]; exact hS
  have gW : s.heap = H := eH.symm
  refine iv_heap gW ?_
  have h0w := hts (.fieldLink RX5 24 "RopeTown$Rules" "length" "I") (wz_at 2 12 rfl)
  have h1w : ∀ w ∈ wsX50, w ∈ wzX5_add := fun w h => List.mem_cons_of_mem _ (inlX5 w h)
  have h2w := hts (.fieldLink RX5 9 "RopeTown$Rules" "code" "[I") (wz_at 2 5 rfl)
  refine lv_aload_n hx hb dX5_add_0 rfl (lv_at hl 0 rfl) ?_
  refine va_get (D := G) (ci := 4) (v := .int (Int32.ofInt (fi 23))) (C := RX5) (T := TX5) (N := 5) (ref := RX5) hx hb hts h1w hown hX.1 hP 1 rfl rfl 3 (by decide) h0w (fun _ h9 => h9) rfl dX5_add_1 ?_
  have rf23 := hR 23
  refine lv_aload_n hx hb dX5_add_4 rfl (lv_at hl 0 rfl) ?_
  refine va_get (D := G) (ci := 4) (v := .ref (ar 20)) (C := RX5) (T := TX5) (N := 5) (ref := RX5) hx hb hts h1w hown hX.1 hP 1 rfl rfl 0 (by decide) h2w (fun _ h9 => h9) rfl dX5_add_5 ?_
  refine va_alen (v := Int32.ofInt 600) hx hb hX.1 hP 7 0 rfl rfl (show Int32.ofNat 600 = Int32.ofInt 600 from by decide) dX5_add_8 ?_
  refine iv_icmp_ge (tgt := 32) hx hb (by omega) (by omega) dX5_add_9 (by decide) (fun q1 => ?_) (fun q1 => ?_)
  · exact W.vret hx hb hr (fun t ht hW => ⟨⟨(fa 20, fi 23), rfl, (show (∀ t, inR ((fa 20) t)) ∧ (bnd (fa 20) 600 (-1000) 10000) ∧ (inR (fi 23)) ∧ ((0 ≤ (fi 23) ∧ (fi 23) ≤ 600) ∧ AdP (fa 20) (fa 20) (fi 23) (fi 23) i0) from ⟨(hRa 20), hB20, (hR 23), (by first | exact ⟨by omega, ad_no (by omega)⟩ | exact ⟨by omega, ad_ok (by omega) efa 20 rfl rfl⟩)⟩), by rw [ht]; exact hP, hD⟩, hS.F ht⟩) hS.2.2 dX5_add_32
  · refine lv_aload_n hx hb dX5_add_12 rfl (lv_at hl 0 rfl) ?_
    refine va_get (D := G) (ci := 4) (v := .ref (ar 20)) (C := RX5) (T := TX5) (N := 5) (ref := RX5) hx hb hts h1w hown hX.1 hP 1 rfl rfl 0 (by decide) h2w (fun _ h9 => h9) rfl dX5_add_13 ?_
    refine lv_aload_n hx hb dX5_add_16 rfl (lv_at hl 0 rfl) ?_
    refine va_get (D := G) (ci := 4) (v := .int (Int32.ofInt (fi 23))) (C := RX5) (T := TX5) (N := 5) (ref := RX5) hx hb hts h1w hown hX.1 hP 1 rfl rfl 3 (by decide) h0w (fun _ h9 => h9) rfl dX5_add_17 ?_
    have rf23 := hR 23
    refine lv_iload_n hx hb dX5_add_20 rfl (lv_at hl 1 rfl) ?_
    refine iv_iast hx hb hX.1 hP hD hS 7 0 rfl rfl (fun g' => show _ = (wP k ar fi (uF fa 20 (g'))) from rfl) (by omega) (by omega) (by decide) dX5_add_21 (fun H locs hP hD hS => ?_)
    obtain ⟨g2, eg2, rg2⟩ : ∃ z, z = uA (fa 20) (fi 23) (i0) ∧ ∀ t, inR (z t) := ⟨_, rfl, iU (hRa 20) (by omega)⟩
    rw [← eg2] at hP hD
    have bg2 : bnd g2 600 (-1000) 10000 := bnd_up hB20 (by omega) (by omega) eg2
    refine lv_aload_n hx hb dX5_add_22 rfl (lv_at hl 0 rfl) ?_
    refine lv_dup hx hb dX5_add_23 rfl ?_
    refine va_get (D := G) (ci := 4) (v := .int (Int32.ofInt (fi 23))) (C := RX5) (T := TX5) (N := 5) (ref := RX5) hx hb hts h1w hown hX.1 hP 1 rfl rfl 3 (by decide) h0w (fun _ h9 => h9) rfl dX5_add_24 ?_
    have rf23 := hR 23
    refine lv_iconst (v := Int32.ofInt 1) hx hb dX5_add_27 (by decide +kernel) ?_
    refine iv_add (x := fi 23) (y := 1) hx hb dX5_add_28 ?_
    refine iv_put (ci := 4) (v := .int (Int32.ofInt ((fi 23 + 1)))) (ty := .int) (C := RX5) (T := TX5) (N := 5) (ref := RX5) hx hb hts h1w tyX5 tyX5_ok nmX5 hown hX.1 hP hD hS 1 rfl rfl 3 (by decide) h0w (fun _ h9 => h9) rfl (by decide +kernel) rfl rfl (Nat.le_of_ble_eq_true rfl) (show _ = (wP k ar (uF fi 23 ((fi 23 + 1))) (uF fa 20 (g2))) from rfl) dX5_add_29 (fun H locs hP hD hS => ?_)
    exact W.vret hx hb hr (fun t ht hW => ⟨⟨(g2, (fi 23 + 1)), rfl, (show (∀ t, inR (g2 t)) ∧ (bnd g2 600 (-1000) 10000) ∧ (inR (fi 23 + 1)) ∧ ((0 ≤ (fi 23 + 1) ∧ (fi 23 + 1) ≤ 600) ∧ AdP (fa 20) g2 (fi 23) (fi 23 + 1) i0) from ⟨rg2, bg2, (by omega), (by first | exact ⟨by omega, ad_no (by omega)⟩ | exact ⟨by omega, ad_ok (by omega) eg2 rfl rfl⟩)⟩), by rw [ht]; exact hP, hD⟩, hS.F ht⟩) hS.2.2 dX5_add_32

