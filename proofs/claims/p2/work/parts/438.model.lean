set_option maxHeartbeats 4000000 in
set_option maxRecDepth 100000 in
theorem mX10_lay (l : Launch) (G : va_G) (k : Nat → ClassId) (ar : Nat → Nat) (fi : Nat → Int) (fa : Nat → Int → Int) (fl : Nat → Int64) (s0 : Int) (sz : Nat) (hR : ∀ j, inR (fi j)) (hRa : ∀ j t, inR (fa j t)) (hr_s0 : inR s0) (hl0 : fi 24 = 0 → 0 ≤ fi 27 ∧ fi 27 < 600) : CNv l G k (EZ k) yX10_lay wzX10_lay ({ frames := 0, cells := 0, slots := 0, locals := 0 }) [.ref (ar 71), .int (Int32.ofInt (s0))] sz (wM k ar fi fa fl) (fun (u : (Int → Int) × Int) => (∀ t, inR (u.1 t)) ∧ (inR u.2) ∧ (((fi 24 = 0 → u.2 = fi 27 + 1) ∧ (¬ fi 24 = 0 → u.2 = fi 27)) ∧ (fi 24 = 0 → u.1 = uA (fa 10) (600 + fi 27) s0) ∧ (¬ fi 24 = 0 → u.1 = fa 10))) (fun (u : (Int → Int) × Int) => (wM k ar (uF fi 27 (u.2)) (uF fa 10 (u.1)) fl)) := by
  refine Met.ofW (cc := cX10_lay) (maxL := 2) (ret := none) (by decide) rfl ?_
  intro p e s m args below meth c s₁ B hml hv
  obtain ⟨rfl, hsz, hP, hX, hD0, hZ0⟩ := hv
  have hx := B.exec
  have hb := B.bytes
  have hr := B.returns
  have hts := atoms_spec (ws := wzX10_lay) B.pre
  have hown : s.vm.findClass RX10 = some m.cls := findClass_of_methodNamed B.named
  subst hsz
  have hD := hD0.self (sz := s.heap.size)
  have hZ := hZ0
  generalize hAe : va_A (wM k ar fi fa fl) s.heap.size = A at hD hZ ⊢
  have hA : ∀ q : Nat, s.heap.size ≤ q → A q := fun q h => by rw [← hAe]; exact Or.inr h
  have hS : va_S A s.heap s.heap [] := va_S.rf
  have hl := lv_entry ([.ref (ar 71), .int (Int32.ofInt (s0))]) (n := 2) (Nat.le_of_ble_eq_true rfl)
  rw [lg_entry_eq]
  generalize (lg_sl ([.ref (ar 71), .int (Int32.ofInt (s0))]) ++ List.replicate (2 - (lg_sl ([.ref (ar 71), .int (Int32.ofInt (s0))])).length) Slot.unset).toArray = ls at hl ⊢
  have hl : lv_has ls 2 [(0, .ref (ar 71)), (1, .int (Int32.ofInt (s0)))] := hl
  obtain ⟨H, eH⟩ : ∃ H, H = s.heap := ⟨_, rfl⟩
  rw [← eH] at hP
  have hS : va_S A s.heap H [] := by rw [eH]; exact hS
  have gW : s.heap = H := eH.symm
  refine iv_heap gW ?_
  have h0w := hts (.fieldLink RX10 223 "RopeTownModel" "bad" "I") (wz_at 16 11 rfl)
  have h1w : ∀ w ∈ wsX100, w ∈ wzX10_lay := fun w h => List.mem_cons_of_mem _ (inlX10 w h)
  have h2w := hts (.fieldLink RX10 74 "RopeTownModel" "signs" "[I") (wz_at 6 13 rfl)
  have h3w := hts (.fieldLink RX10 250 "RopeTownModel" "laid" "I") (wz_at 16 12 rfl)
  refine lv_aload_n hx hb dX10_lay_0 rfl (lv_at hl 0 rfl) ?_
  refine va_get (D := G) (ci := 7) (v := .int (Int32.ofInt (fi 24))) (C := RX10) (T := TX10) (N := 71) (ref := RX10) hx hb hts h1w hown hX.1 hP 0 rfl rfl 24 (by decide) h0w (fun _ h9 => h9) rfl dX10_lay_1 ?_
  have rf24 := hR 24
  refine iv_if_eq (tgt := 8) hx hb (by omega) dX10_lay_4 (by decide) (fun q1 => ?_) (fun q1 => ?_)
  · refine lv_aload_n hx hb dX10_lay_8 rfl (lv_at hl 0 rfl) ?_
    refine va_get (D := G) (ci := 7) (v := .ref (ar 10)) (C := RX10) (T := TX10) (N := 71) (ref := RX10) hx hb hts h1w hown hX.1 hP 0 rfl rfl 10 (by decide) h2w (fun _ h9 => h9) rfl dX10_lay_9 ?_
    refine lv_sipush (v := Int32.ofInt 600) hx hb dX10_lay_12 (by decide +kernel) ?_
    refine lv_aload_n hx hb dX10_lay_15 rfl (lv_at hl 0 rfl) ?_
    refine va_get (D := G) (ci := 7) (v := .int (Int32.ofInt (fi 27))) (C := RX10) (T := TX10) (N := 71) (ref := RX10) hx hb hts h1w hown hX.1 hP 0 rfl rfl 27 (by decide) h3w (fun _ h9 => h9) rfl dX10_lay_16 ?_
    have rf27 := hR 27
    refine iv_add (x := 600) (y := fi 27) hx hb dX10_lay_19 ?_
    refine lv_iload_n hx hb dX10_lay_20 rfl (lv_at hl 1 rfl) ?_
    refine iv_iast hx hb hX.1 hP hD hS 8 0 rfl rfl (wM_A10 _ _ _ _ _) (by omega) (by omega) (by decide) dX10_lay_21 (fun H locs hP hD hS => ?_)
    obtain ⟨g2, eg2, rg2⟩ : ∃ z, z = uA (fa 10) ((600 + fi 27)) (s0) ∧ ∀ t, inR (z t) := ⟨_, rfl, iU (hRa 10) (by omega)⟩
    rw [← eg2] at hP hD
    refine lv_aload_n hx hb dX10_lay_22 rfl (lv_at hl 0 rfl) ?_
    refine lv_dup hx hb dX10_lay_23 rfl ?_
    refine va_get (D := G) (ci := 7) (v := .int (Int32.ofInt (fi 27))) (C := RX10) (T := TX10) (N := 71) (ref := RX10) hx hb hts h1w hown hX.1 hP 0 rfl rfl 27 (by decide) h3w (fun _ h9 => h9) rfl dX10_lay_24 ?_
    have rf27 := hR 27
    refine lv_iconst (v := Int32.ofInt 1) hx hb dX10_lay_27 (by decide +kernel) ?_
    refine iv_add (x := fi 27) (y := 1) hx hb dX10_lay_28 ?_
    refine iv_put (ci := 7) (v := .int (Int32.ofInt ((fi 27 + 1)))) (ty := .int) (C := RX10) (T := TX10) (N := 71) (ref := RX10) hx hb hts h1w tyX10 tyX10_ok nmX10 hown hX.1 hP hD hS 0 rfl rfl 27 (by decide) h3w (fun _ h9 => h9) rfl (by decide +kernel) rfl rfl (Nat.le_of_ble_eq_true rfl) (wM_F27 _ _ _ _ _) dX10_lay_29 (fun H locs hP hD hS => ?_)
    exact W.vret hx hb hr (fun t ht hW => ⟨⟨(g2, (fi 27 + 1)), rfl, (show (∀ t, inR (g2 t)) ∧ (inR (fi 27 + 1)) ∧ (((fi 24 = 0 → (fi 27 + 1) = fi 27 + 1) ∧ (¬ fi 24 = 0 → (fi 27 + 1) = fi 27)) ∧ (fi 24 = 0 → g2 = uA (fa 10) (600 + fi 27) s0) ∧ (¬ fi 24 = 0 → g2 = fa 10)) from ⟨rg2, (by omega), (by first | exact ⟨⟨fun h => absurd h (by omega), fun _ => rfl⟩, fun h => absurd h (by omega), fun _ => rfl⟩ | exact ⟨⟨fun _ => rfl, fun h => absurd (by omega) h⟩, fun _ => eg2, fun h => absurd (by omega) h⟩)⟩), by rw [ht]; exact hP, hD⟩, hS.F ht⟩) hS.2.2 dX10_lay_32
  · exact W.vret hx hb hr (fun t ht hW => ⟨⟨(fa 10, fi 27), rfl, (show (∀ t, inR ((fa 10) t)) ∧ (inR (fi 27)) ∧ (((fi 24 = 0 → (fi 27) = fi 27 + 1) ∧ (¬ fi 24 = 0 → (fi 27) = fi 27)) ∧ (fi 24 = 0 → (fa 10) = uA (fa 10) (600 + fi 27) s0) ∧ (¬ fi 24 = 0 → (fa 10) = fa 10)) from ⟨(hRa 10), (hR 27), (by first | exact ⟨⟨fun h => absurd h (by omega), fun _ => rfl⟩, fun h => absurd h (by omega), fun _ => rfl⟩ | exact ⟨⟨fun _ => rfl, fun h => absurd (by omega) h⟩, fun _ => efa 10, fun h => absurd (by omega) h⟩)⟩), by rw [ht]; exact hP, hD⟩, hS.F ht⟩) hS.2.2 dX10_lay_7

set_option maxHeartbeats 4000000 in
set_option maxRecDepth 100000 in
theorem mX10_readPart_6 (l : Launch) (G : va_G) (k : Nat → ClassId) (ar : Nat → Nat) (fi : Nat → Int) (fa : Nat → Int → Int) (fl : Nat → Int64) (hh : Int) (sz : Nat) (hR : ∀ j, inR (fi j)) (hRa : ∀ j t, inR (fa j t)) (htk : 0 ≤ fi 22 ∧ fi 22 ≤ fi 23 ∧ fi 23 ≤ fi 19 ∧ fi 19 ≤ 600 ∧ fi 18 = fi 23 ∧ 0 ≤ fi 20 ∧ fi 20 ≤ 4 ∧ (¬ fi 20 = 0 → fi 22 < fi 23)) (hla : 0 ≤ fi 27 ∧ fi 27 ≤ 600 ∧ (fi 24 = 0 → fi 27 ≤ fi 22)) (hhh : 0 ≤ hh ∧ hh ≤ 35) (hbd : ¬ fi 24 = 0) : CNv l G k (EZ k) yX10_readPart wzX10_readPart ({ frames := 0, cells := 0, slots := 0, locals := 0 }) [.ref (ar 71), .int (Int32.ofInt (6))] sz (wM k ar fi fa fl) (fun (u : Unit) => (((0 ≤ (fi 22) ∧ (fi 22) ≤ (fi 23) ∧ (fi 23) ≤ fi 19 ∧ fi 19 ≤ 600 ∧ (fi 18) = (fi 23) ∧ 0 ≤ (fi 20) ∧ (fi 20) ≤ 4 ∧ (¬ (fi 20) = 0 → (fi 22) < (fi 23))) ∧ ((fi 24) = 0 → fi 24 = 0) ∧ fi 22 ≤ (fi 22) ∧ fi 27 ≤ (fi 27) ∧ (fi 27) ≤ 600 ∧ ((fi 24) = 0 → (fi 27) - fi 27 ≤ (fi 22) - fi 22)) ∧ (∀ t, t < 600 + fi 27 → (fa 10) t = fa 10 t) ∧ ((fi 24) = 0 → Seg (fa 10) (600 + fi 27) (600 + (fi 27)) hh (hh + 1)))) (fun (u : Unit) => (wM k ar fi fa fl)) := by
  refine Met.ofW (cc := cX10_readPart) (maxL := 3) (ret := none) (by decide) rfl ?_
  intro p e s m args below meth c s₁ B hml hv
  obtain ⟨rfl, hsz, hP, hX, hD0, hZ0⟩ := hv
  have hx := B.exec
  have hb := B.bytes
  have hr := B.returns
  have hts := atoms_spec (ws := wzX10_readPart) B.pre
  have hown : s.vm.findClass RX10 = some m.cls := findClass_of_methodNamed B.named
  subst hsz
  have hD := hD0.self (sz := s.heap.size)
  have hZ := hZ0
  generalize hAe : va_A (wM k ar fi fa fl) s.heap.size = A at hD hZ ⊢
  have hA : ∀ q : Nat, s.heap.size ≤ q → A q := fun q h => by rw [← hAe]; exact Or.inr h
  have hS : va_S A s.heap s.heap [] := va_S.rf
  have hl := lv_entry ([.ref (ar 71), .int (Int32.ofInt (6))]) (n := 3) (Nat.le_of_ble_eq_true rfl)
  rw [lg_entry_eq]
  generalize (lg_sl ([.ref (ar 71), .int (Int32.ofInt (6))]) ++ List.replicate (3 - (lg_sl ([.ref (ar 71), .int (Int32.ofInt (6))])).length) Slot.unset).toArray = ls at hl ⊢
  have hl : lv_has ls 3 [(0, .ref (ar 71)), (1, .int (Int32.ofInt (6)))] := hl
  obtain ⟨H, eH⟩ : ∃ H, H = s.heap := ⟨_, rfl⟩
  rw [← eH] at hP
  have hS : va_S A s.heap H [] := by rw [eH]; exact hS
  have gW : s.heap = H := eH.symm
  refine iv_heap gW ?_
  have h0w := hts (.fieldLink RX10 223 "RopeTownModel" "bad" "I") (wz_at 16 11 rfl)
  have h1w : ∀ w ∈ wsX100, w ∈ wzX10_readPart := fun w h => List.mem_cons_of_mem _ (inlX10 w h)
  refine lv_aload_n hx hb dX10_readPart_0 rfl (lv_at hl 0 rfl) ?_
  refine va_get (D := G) (ci := 7) (v := .int (Int32.ofInt (fi 24))) (C := RX10) (T := TX10) (N := 71) (ref := RX10) hx hb hts h1w hown hX.1 hP 0 rfl rfl 24 (by decide) h0w (fun _ h9 => h9) rfl dX10_readPart_1 ?_
  have rf24 := hR 24
  refine iv_if_eq (tgt := 8) hx hb (by omega) dX10_readPart_4 (by decide) (fun q1 => ?_) (fun q1 => ?_)
  · exfalso; omega
  · exact W.vret hx hb hr (fun t ht hW => ⟨⟨(), rfl, (show (((0 ≤ (fi 22) ∧ (fi 22) ≤ (fi 23) ∧ (fi 23) ≤ fi 19 ∧ fi 19 ≤ 600 ∧ (fi 18) = (fi 23) ∧ 0 ≤ (fi 20) ∧ (fi 20) ≤ 4 ∧ (¬ (fi 20) = 0 → (fi 22) < (fi 23))) ∧ ((fi 24) = 0 → fi 24 = 0) ∧ fi 22 ≤ (fi 22) ∧ fi 27 ≤ (fi 27) ∧ (fi 27) ≤ 600 ∧ ((fi 24) = 0 → (fi 27) - fi 27 ≤ (fi 22) - fi 22)) ∧ (∀ t, t < 600 + fi 27 → (fa 10) t = fa 10 t) ∧ ((fi 24) = 0 → Seg (fa 10) (600 + fi 27) (600 + (fi 27)) hh (hh + 1))) from (by exact ⟨by omega, fun t ht => rfl, fun h0 => absurd h0 (by omega)⟩)), by rw [ht]; exact hP, hD⟩, hS.F ht⟩) hS.2.2 dX10_readPart_7

set_option maxHeartbeats 4000000 in
set_option maxRecDepth 100000 in
theorem mX10_readProduct_6 (l : Launch) (G : va_G) (k : Nat → ClassId) (ar : Nat → Nat) (fi : Nat → Int) (fa : Nat → Int → Int) (fl : Nat → Int64) (hh : Int) (sz : Nat) (hR : ∀ j, inR (fi j)) (hRa : ∀ j t, inR (fa j t)) (htk : 0 ≤ fi 22 ∧ fi 22 ≤ fi 23 ∧ fi 23 ≤ fi 19 ∧ fi 19 ≤ 600 ∧ fi 18 = fi 23 ∧ 0 ≤ fi 20 ∧ fi 20 ≤ 4 ∧ (¬ fi 20 = 0 → fi 22 < fi 23)) (hla : 0 ≤ fi 27 ∧ fi 27 ≤ 600 ∧ (fi 24 = 0 → fi 27 ≤ fi 22)) (hhh : 0 ≤ hh ∧ hh ≤ 34) (hbd : ¬ fi 24 = 0) : CNv l G k (EZ k) yX10_readProduct wzX10_readProduct ({ frames := 2, cells := 0, slots := 0, locals := 45 }) [.ref (ar 71), .int (Int32.ofInt (6))] sz (wM k ar fi fa fl) (fun (u : (Int → Int) × Int × Int × Int × Int × Int × Int) => (∀ t, inR (u.1 t)) ∧ (inR u.2.1) ∧ (inR u.2.2.1) ∧ (inR u.2.2.2.1) ∧ (inR u.2.2.2.2.1) ∧ (inR u.2.2.2.2.2.1) ∧ (inR u.2.2.2.2.2.2) ∧ (((0 ≤ u.2.2.2.2.1 ∧ u.2.2.2.2.1 ≤ u.2.2.2.2.2.1 ∧ u.2.2.2.2.2.1 ≤ fi 19 ∧ fi 19 ≤ 600 ∧ u.2.1 = u.2.2.2.2.2.1 ∧ 0 ≤ u.2.2.1 ∧ u.2.2.1 ≤ 4 ∧ (¬ u.2.2.1 = 0 → u.2.2.2.2.1 < u.2.2.2.2.2.1)) ∧ ((fi 24) = 0 → fi 24 = 0) ∧ fi 22 ≤ u.2.2.2.2.1 ∧ fi 27 ≤ u.2.2.2.2.2.2 ∧ u.2.2.2.2.2.2 ≤ 600 ∧ ((fi 24) = 0 → u.2.2.2.2.2.2 - fi 27 ≤ u.2.2.2.2.1 - fi 22)) ∧ (∀ t, t < 600 + fi 27 → u.1 t = fa 10 t) ∧ ((fi 24) = 0 → Seg u.1 (600 + fi 27) (600 + u.2.2.2.2.2.2) hh (hh + 1)))) (fun (u : (Int → Int) × Int × Int × Int × Int × Int × Int) => (wM k ar (uF (uF (uF (uF (uF (uF fi 18 (u.2.1)) 20 (u.2.2.1)) 21 (u.2.2.2.1)) 22 (u.2.2.2.2.1)) 23 (u.2.2.2.2.2.1)) 27 (u.2.2.2.2.2.2)) (uF fa 10 (u.1)) fl)) := by
  refine Met.ofW (cc := cX10_readProduct) (maxL := 3) (ret := none) (by decide) rfl ?_
  intro p e s m args below meth c s₁ B hml hv
  obtain ⟨rfl, hsz, hP, hX, hD0, hZ0⟩ := hv
  have hx := B.exec
  have hb := B.bytes
  have hr := B.returns
  have hts := atoms_spec (ws := wzX10_readProduct) B.pre
  have hown : s.vm.findClass RX10 = some m.cls := findClass_of_methodNamed B.named
  subst hsz
  have hD := hD0.self (sz := s.heap.size)
  have hZ := hZ0
  generalize hAe : va_A (wM k ar fi fa fl) s.heap.size = A at hD hZ ⊢
  have hA : ∀ q : Nat, s.heap.size ≤ q → A q := fun q h => by rw [← hAe]; exact Or.inr h
  have hS : va_S A s.heap s.heap [] := va_S.rf
  have hl := lv_entry ([.ref (ar 71), .int (Int32.ofInt (6))]) (n := 3) (Nat.le_of_ble_eq_true rfl)
  rw [lg_entry_eq]
  generalize (lg_sl ([.ref (ar 71), .int (Int32.ofInt (6))]) ++ List.replicate (3 - (lg_sl ([.ref (ar 71), .int (Int32.ofInt (6))])).length) Slot.unset).toArray = ls at hl ⊢
  have hl : lv_has ls 3 [(0, .ref (ar 71)), (1, .int (Int32.ofInt (6)))] := hl
  obtain ⟨H, eH⟩ : ∃ H, H = s.heap := ⟨_, rfl⟩
  rw [← eH] at hP
  have hS : va_S A s.heap H [] := by rw [eH]; exact hS
  have gW : s.heap = H := eH.symm
  refine iv_heap gW ?_
  refine lv_aload_n hx hb dX10_readProduct_0 rfl (lv_at hl 0 rfl) ?_
  refine lv_iload_n hx hb dX10_readProduct_1 rfl (lv_at hl 1 rfl) ?_
  refine cr_v (va_runV (As := [.int (Int32.ofInt (6))]) (rest := []) ⟨hx, hb, hml, hown, hts⟩ (mX10_readPart_6 l G k ar fi fa fl hh H.size hR hRa (show 0 ≤ (fi 22) ∧ (fi 22) ≤ (fi 23) ∧ (fi 23) ≤ (fi 19) ∧ (fi 19) ≤ 600 ∧ (fi 18) = (fi 23) ∧ 0 ≤ (fi 20) ∧ (fi 20) ≤ 4 ∧ (¬ (fi 20) = 0 → (fi 22) < (fi 23)) from by omega) (show 0 ≤ (fi 27) ∧ (fi 27) ≤ 600 ∧ ((fi 24) = 0 → (fi 27) ≤ (fi 22)) from by omega) (show 0 ≤ hh ∧ hh ≤ 35 from by omega) (show ¬ (fi 24) = 0 from by omega)) (cwV 1 hts (gz [.methodLink RX10 269 yX10_readPart, .instanceMethod yX10_readPart, .selects RX10 yX10_readPart yX10_readPart, .initialized RX10] (.code yX10_readPart cX10_readPart 3 none) [(21, 0), (21, 1), (21, 2), (0, 5), (20, 18)] rfl) rfl rfl rfl (by decide +kernel) ⟨Nat.le_of_ble_eq_true rfl, Nat.le_of_ble_eq_true rfl⟩) (cr_preV (EZ_ok k) hZ hS hX hP hD hA (ci := 7) (q0 := 0) rfl rfl) rfl rfl hl.1 rfl (lv_room (Nat.le_of_ble_eq_true rfl)) dX10_readProduct_2 ⟨Nat.le_of_ble_eq_true rfl, Nat.le_of_ble_eq_true rfl⟩) hD hS hA (fun u H locs hp hP hD hS => ?_)
  have hp0 : (((0 ≤ ((fi 22)) ∧ ((fi 22)) ≤ ((fi 23)) ∧ ((fi 23)) ≤ (fi 19) ∧ (fi 19) ≤ 600 ∧ ((fi 18)) = ((fi 23)) ∧ 0 ≤ ((fi 20)) ∧ ((fi 20)) ≤ 4 ∧ (¬ ((fi 20)) = 0 → ((fi 22)) < ((fi 23)))) ∧ (((fi 24)) = 0 → (fi 24) = 0) ∧ (fi 22) ≤ ((fi 22)) ∧ (fi 27) ≤ ((fi 27)) ∧ ((fi 27)) ≤ 600 ∧ (((fi 24)) = 0 → ((fi 27)) - (fi 27) ≤ ((fi 22)) - (fi 22))) ∧ (∀ t, t < 600 + (fi 27) → ((fa 10)) t = (fa 10) t) ∧ (((fi 24)) = 0 → Seg ((fa 10)) (600 + (fi 27)) (600 + ((fi 27))) hh (hh + 1))) := hp
  obtain ⟨hA1, hA2, hA3⟩ := hp0
  refine iv_loop (α := Int × Int × Int × Int × Int × Int × (Int → Int)) (nL := 3) (fun b9 => (wM k ar (uF (uF (uF (uF (uF (uF fi 18 (b9.1)) 20 (b9.2.1)) 21 (b9.2.2.1)) 22 (b9.2.2.2.1)) 23 (b9.2.2.2.2.1)) 27 (b9.2.2.2.2.2.1)) (uF fa 10 (b9.2.2.2.2.2.2)) fl)) (fun b9 => [(0, .ref (ar 71)), (1, .int (Int32.ofInt (6)))]) (fun b9 => (fi 19 - b9.2.2.2.1).toNat) (fun b9 => inR b9.1 ∧ inR b9.2.1 ∧ inR b9.2.2.1 ∧ inR b9.2.2.2.1 ∧ inR b9.2.2.2.2.1 ∧ inR b9.2.2.2.2.2.1 ∧ (∀ t, inR (b9.2.2.2.2.2.2 t)) ∧ (((0 ≤ b9.2.2.2.1 ∧ b9.2.2.2.1 ≤ b9.2.2.2.2.1 ∧ b9.2.2.2.2.1 ≤ fi 19 ∧ fi 19 ≤ 600 ∧ b9.1 = b9.2.2.2.2.1 ∧ 0 ≤ b9.2.1 ∧ b9.2.1 ≤ 4 ∧ (¬ b9.2.1 = 0 → b9.2.2.2.1 < b9.2.2.2.2.1)) ∧ ((fi 24) = 0 → fi 24 = 0) ∧ fi 22 ≤ b9.2.2.2.1 ∧ fi 27 ≤ b9.2.2.2.2.2.1 ∧ b9.2.2.2.2.2.1 ≤ 600 ∧ ((fi 24) = 0 → b9.2.2.2.2.2.1 - fi 27 ≤ b9.2.2.2.1 - fi 22)) ∧ (∀ t, t < 600 + fi 27 → b9.2.2.2.2.2.2 t = fa 10 t) ∧ ((fi 24) = 0 → Seg b9.2.2.2.2.2.2 (600 + fi 27) (600 + b9.2.2.2.2.2.1) hh (hh + 1)))) ?_ (fi 18, fi 20, fi 21, fi 22, fi 23, fi 27, fa 10) (show inR (fi 18) ∧ inR (fi 20) ∧ inR (fi 21) ∧ inR (fi 22) ∧ inR (fi 23) ∧ inR (fi 27) ∧ (∀ t, inR ((fa 10) t)) ∧ (((0 ≤ (fi 22) ∧ (fi 22) ≤ (fi 23) ∧ (fi 23) ≤ fi 19 ∧ fi 19 ≤ 600 ∧ (fi 18) = (fi 23) ∧ 0 ≤ (fi 20) ∧ (fi 20) ≤ 4 ∧ (¬ (fi 20) = 0 → (fi 22) < (fi 23))) ∧ ((fi 24) = 0 → fi 24 = 0) ∧ fi 22 ≤ (fi 22) ∧ fi 27 ≤ (fi 27) ∧ (fi 27) ≤ 600 ∧ ((fi 24) = 0 → (fi 27) - fi 27 ≤ (fi 22) - fi 22)) ∧ (∀ t, t < 600 + fi 27 → (fa 10) t = fa 10 t) ∧ ((fi 24) = 0 → Seg (fa 10) (600 + fi 27) (600 + (fi 27)) hh (hh + 1))) from ⟨(hR 18), (hR 20), (hR 21), (hR 22), (hR 23), (hR 27), (hRa 10), (by exact ⟨by omega, hA2, hA3⟩)⟩) hP hD hS hl
  rintro ⟨n18_1, n20_2, n21_3, n22_4, n23_5, n27_6, g10_7⟩ ih hi9 H locs ls hP hD hS hl
  obtain ⟨r_n18_1, r_n20_2, r_n21_3, r_n22_4, r_n23_5, r_n27_6, r_g10_7, hinv⟩ : inR n18_1 ∧ inR n20_2 ∧ inR n21_3 ∧ inR n22_4 ∧ inR n23_5 ∧ inR n27_6 ∧ (∀ t, inR (g10_7 t)) ∧ (((0 ≤ n22_4 ∧ n22_4 ≤ n23_5 ∧ n23_5 ≤ fi 19 ∧ fi 19 ≤ 600 ∧ n18_1 = n23_5 ∧ 0 ≤ n20_2 ∧ n20_2 ≤ 4 ∧ (¬ n20_2 = 0 → n22_4 < n23_5)) ∧ ((fi 24) = 0 → fi 24 = 0) ∧ fi 22 ≤ n22_4 ∧ fi 27 ≤ n27_6 ∧ n27_6 ≤ 600 ∧ ((fi 24) = 0 → n27_6 - fi 27 ≤ n22_4 - fi 22)) ∧ (∀ t, t < 600 + fi 27 → g10_7 t = fa 10 t) ∧ ((fi 24) = 0 → Seg g10_7 (600 + fi 27) (600 + n27_6) hh (hh + 1))) := hi9
  obtain ⟨hI1, hI2, hI3⟩ := hinv
  obtain ⟨hP, hD⟩ : va_P G vwCl (wM k ar (uF (uF (uF (uF (uF (uF fi 18 (n18_1)) 20 (n20_2)) 21 (n21_3)) 22 (n22_4)) 23 (n23_5)) 27 (n27_6)) (uF fa 10 (g10_7)) fl) H ∧ va_D A (wM k ar (uF (uF (uF (uF (uF (uF fi 18 (n18_1)) 20 (n20_2)) 21 (n21_3)) 22 (n22_4)) 23 (n23_5)) 27 (n27_6)) (uF fa 10 (g10_7)) fl) := ⟨hP, hD⟩
  have hl : lv_has ls 3 [(0, .ref (ar 71)), (1, .int (Int32.ofInt (6)))] := hl
  refine iv_join (G := G) (A := A) (H0 := s.heap) (α := Unit) (nL := 3) 23 (fun b9 => []) (fun b9 => (wM k ar (uF (uF (uF (uF (uF (uF fi 18 (n18_1)) 20 (n20_2)) 21 (n21_3)) 22 (n22_4)) 23 (n23_5)) 27 (n27_6)) (uF fa 10 (g10_7)) fl)) (fun b9 => [(0, .ref (ar 71)), (1, .int (Int32.ofInt (6)))]) (fun b9 => ((fi 24) = 0 ∧ n20_2 = 3)) ?_ (fun J23 => ?_)
  · rintro ⟨⟩ hi9 H locs ls hP hD hS hl
    obtain ⟨hinv⟩ : ((fi 24) = 0 ∧ n20_2 = 3) := hi9
    obtain ⟨hP, hD⟩ : va_P G vwCl (wM k ar (uF (uF (uF (uF (uF (uF fi 18 (n18_1)) 20 (n20_2)) 21 (n21_3)) 22 (n22_4)) 23 (n23_5)) 27 (n27_6)) (uF fa 10 (g10_7)) fl) H ∧ va_D A (wM k ar (uF (uF (uF (uF (uF (uF fi 18 (n18_1)) 20 (n20_2)) 21 (n21_3)) 22 (n22_4)) 23 (n23_5)) 27 (n27_6)) (uF fa 10 (g10_7)) fl) := ⟨hP, hD⟩
    have hl : lv_has ls 3 [(0, .ref (ar 71)), (1, .int (Int32.ofInt (6)))] := hl
    refine iv_join (G := G) (A := A) (H0 := s.heap) (α := Int) (nL := 3) 39 (fun b9 => [.int (Int32.ofInt (b9))]) (fun b9 => (wM k ar (uF (uF (uF (uF (uF (uF fi 18 (n18_1)) 20 (n20_2)) 21 (n21_3)) 22 (n22_4)) 23 (n23_5)) 27 (n27_6)) (uF fa 10 (g10_7)) fl)) (fun b9 => [(0, .ref (ar 71)), (1, .int (Int32.ofInt (6)))]) (fun b9 => inR b9 ∧ (b9 = -22 ∨ b9 = -23)) ?_ (fun J39 => ?_)
    · intro s0_8 hi9 H locs ls hP hD hS hl
      obtain ⟨r_s0_8, hinv⟩ : inR s0_8 ∧ (s0_8 = -22 ∨ s0_8 = -23) := hi9
      obtain ⟨hP, hD⟩ : va_P G vwCl (wM k ar (uF (uF (uF (uF (uF (uF fi 18 (n18_1)) 20 (n20_2)) 21 (n21_3)) 22 (n22_4)) 23 (n23_5)) 27 (n27_6)) (uF fa 10 (g10_7)) fl) H ∧ va_D A (wM k ar (uF (uF (uF (uF (uF (uF fi 18 (n18_1)) 20 (n20_2)) 21 (n21_3)) 22 (n22_4)) 23 (n23_5)) 27 (n27_6)) (uF fa 10 (g10_7)) fl) := ⟨hP, hD⟩
      have hl : lv_has ls 3 [(0, .ref (ar 71)), (1, .int (Int32.ofInt (6)))] := hl
      refine lv_istore_n (lv' := [(2, .int (Int32.ofInt (s0_8))), (0, .ref (ar 71)), (1, .int (Int32.ofInt (6)))]) hx hb dX10_readProduct_39 rfl hl (by decide) rfl (fun ls hl => ?_)
      refine lv_aload_n hx hb dX10_readProduct_40 rfl (lv_at hl 1 rfl) ?_
      refine cr_v (va_runV (As := []) (rest := []) ⟨hx, hb, hml, hown, hts⟩ (mX10_stepOn l G k ar (uF (uF (uF (uF (uF (uF fi 18 (n18_1)) 20 (n20_2)) 21 (n21_3)) 22 (n22_4)) 23 (n23_5)) 27 (n27_6)) (uF fa 10 (g10_7)) fl H.size (iF (iF (iF (iF (iF (iF hR (by omega)) (by omega)) (by omega)) (by omega)) (by omega)) (by omega)) (iG hRa r_g10_7) (show 0 ≤ n18_1 from by omega) (show n18_1 ≤ (fi 19) from by omega) (show (fi 19) ≤ 600 from by omega)) (cwV 0 hts (gz [.methodLink RX10 241 yX10_stepOn, .instanceMethod yX10_stepOn, .selects RX10 yX10_stepOn yX10_stepOn, .initialized RX10] (.code yX10_stepOn cX10_stepOn 2 none) [(16, 21), (16, 22), (16, 23), (0, 5), (17, 0)] rfl) rfl rfl rfl (by decide +kernel) ⟨Nat.le_of_ble_eq_true rfl, Nat.le_of_ble_eq_true rfl⟩) (cr_preV (EZ_ok k) hZ hS hX hP hD hA (ci := 7) (q0 := 0) rfl rfl) rfl rfl hl.1 rfl (lv_room (Nat.le_of_ble_eq_true rfl)) dX10_readProduct_41 ⟨Nat.le_of_ble_eq_true rfl, Nat.le_of_ble_eq_true rfl⟩) hD hS hA (fun u H locs hp hP hD hS => ?_)
      obtain ⟨c9, c10, c11, c12, c13⟩ := u
      obtain ⟨hP, hD⟩ : va_P G vwCl (wM k ar (uF (uF (uF (uF (uF (uF fi 18 (c9)) 20 (c10)) 21 (c11)) 22 (c12)) 23 (c13)) 27 (n27_6)) (uF fa 10 (g10_7)) fl) H ∧ va_D A (wM k ar (uF (uF (uF (uF (uF (uF fi 18 (c9)) 20 (c10)) 21 (c11)) 22 (c12)) 23 (c13)) 27 (n27_6)) (uF fa 10 (g10_7)) fl) := ⟨hP, hD⟩
      obtain ⟨rc9, rc10, rc11, rc12, rc13, hp13⟩ : (inR c9) ∧ (inR c10) ∧ (inR c11) ∧ (inR c12) ∧ (inR c13) ∧ (n18_1 ≤ c12 ∧ c12 ≤ c13 ∧ c13 ≤ (fi 19) ∧ c9 = c13 ∧ 0 ≤ c10 ∧ c10 ≤ 4 ∧ (¬ c10 = 0 → c12 < c13)) := hp
      refine lv_aload_n hx hb dX10_readProduct_44 rfl (lv_at hl 1 rfl) ?_
      refine lv_iload_n hx hb dX10_readProduct_45 rfl (lv_at hl 2 rfl) ?_
      refine cr_v (va_runV (As := [.int (Int32.ofInt (6))]) (rest := []) ⟨hx, hb, hml, hown, hts⟩ (mX10_readPart_6 l G k ar (uF (uF (uF (uF (uF (uF fi 18 (c9)) 20 (c10)) 21 (c11)) 22 (c12)) 23 (c13)) 27 (n27_6)) (uF fa 10 (g10_7)) fl (hh + 1) H.size (iF (iF (iF (iF (iF (iF hR (by omega)) (by omega)) (by omega)) (by omega)) (by omega)) (by omega)) (iG hRa r_g10_7) (show 0 ≤ c12 ∧ c12 ≤ c13 ∧ c13 ≤ (fi 19) ∧ (fi 19) ≤ 600 ∧ c9 = c13 ∧ 0 ≤ c10 ∧ c10 ≤ 4 ∧ (¬ c10 = 0 → c12 < c13) from by omega) (show 0 ≤ n27_6 ∧ n27_6 ≤ 600 ∧ ((fi 24) = 0 → n27_6 ≤ c12) from by omega) (show 0 ≤ (hh + 1) ∧ (hh + 1) ≤ 35 from by omega) (show ¬ (fi 24) = 0 from by omega)) (cwV 1 hts (gz [.methodLink RX10 269 yX10_readPart, .instanceMethod yX10_readPart, .selects RX10 yX10_readPart yX10_readPart, .initialized RX10] (.code yX10_readPart cX10_readPart 3 none) [(21, 0), (21, 1), (21, 2), (0, 5), (20, 18)] rfl) rfl rfl rfl (by decide +kernel) ⟨Nat.le_of_ble_eq_true rfl, Nat.le_of_ble_eq_true rfl⟩) (cr_preV (EZ_ok k) hZ hS hX hP hD hA (ci := 7) (q0 := 0) rfl rfl) rfl rfl hl.1 rfl (lv_room (Nat.le_of_ble_eq_true rfl)) dX10_readProduct_46 ⟨Nat.le_of_ble_eq_true rfl, Nat.le_of_ble_eq_true rfl⟩) hD hS hA (fun u H locs hp hP hD hS => ?_)
      have hp13 : (((0 ≤ (c12) ∧ (c12) ≤ (c13) ∧ (c13) ≤ (fi 19) ∧ (fi 19) ≤ 600 ∧ (c9) = (c13) ∧ 0 ≤ (c10) ∧ (c10) ≤ 4 ∧ (¬ (c10) = 0 → (c12) < (c13))) ∧ (((fi 24)) = 0 → (fi 24) = 0) ∧ c12 ≤ (c12) ∧ n27_6 ≤ (n27_6) ∧ (n27_6) ≤ 600 ∧ (((fi 24)) = 0 → (n27_6) - n27_6 ≤ (c12) - c12)) ∧ (∀ t, t < 600 + n27_6 → (g10_7) t = g10_7 t) ∧ (((fi 24)) = 0 → Seg (g10_7) (600 + n27_6) (600 + (n27_6)) (hh + 1) ((hh + 1) + 1))) := hp
      obtain ⟨hA1, hA2, hA3⟩ := hp13
      refine lv_aload_n hx hb dX10_readProduct_49 rfl (lv_at hl 1 rfl) ?_
      refine lv_iload_n hx hb dX10_readProduct_50 rfl (lv_at hl 0 rfl) ?_
      refine cr_v (va_runV (As := [.int (Int32.ofInt (s0_8))]) (rest := []) ⟨hx, hb, hml, hown, hts⟩ (mX10_lay l G k ar (uF (uF (uF (uF (uF (uF fi 18 (c9)) 20 (c10)) 21 (c11)) 22 (c12)) 23 (c13)) 27 (n27_6)) (uF fa 10 (g10_7)) fl s0_8 H.size (iF (iF (iF (iF (iF (iF hR (by omega)) (by omega)) (by omega)) (by omega)) (by omega)) (by omega)) (iG hRa r_g10_7) (by omega) (show (fi 24) = 0 → 0 ≤ n27_6 ∧ n27_6 < 600 from by omega)) (cwV 1 hts (gz [.methodLink RX10 256 yX10_lay, .instanceMethod yX10_lay, .selects RX10 yX10_lay yX10_lay, .initialized RX10] (.code yX10_lay cX10_lay 2 none) [(20, 6), (20, 7), (20, 8), (0, 5), (20, 9)] rfl) rfl rfl rfl (by decide +kernel) ⟨Nat.le_of_ble_eq_true rfl, Nat.le_of_ble_eq_true rfl⟩) (cr_preV (EZ_ok k) hZ hS hX hP hD hA (ci := 7) (q0 := 0) rfl rfl) rfl rfl hl.1 rfl (lv_room (Nat.le_of_ble_eq_true rfl)) dX10_readProduct_51 ⟨Nat.le_of_ble_eq_true rfl, Nat.le_of_ble_eq_true rfl⟩) hD hS hA (fun u H locs hp hP hD hS => ?_)
      obtain ⟨c14, c15⟩ := u
      obtain ⟨hP, hD⟩ : va_P G vwCl (wM k ar (uF (uF (uF (uF (uF (uF fi 18 (c9)) 20 (c10)) 21 (c11)) 22 (c12)) 23 (c13)) 27 (c15)) (uF fa 10 (c14)) fl) H ∧ va_D A (wM k ar (uF (uF (uF (uF (uF (uF fi 18 (c9)) 20 (c10)) 21 (c11)) 22 (c12)) 23 (c13)) 27 (c15)) (uF fa 10 (c14)) fl) := ⟨hP, hD⟩
      obtain ⟨rc14, rc15, hp15⟩ : (∀ t, inR (c14 t)) ∧ (inR c15) ∧ ((((fi 24) = 0 → c15 = n27_6 + 1) ∧ (¬ (fi 24) = 0 → c15 = n27_6)) ∧ ((fi 24) = 0 → c14 = uA (g10_7) (600 + n27_6) s0_8) ∧ (¬ (fi 24) = 0 → c14 = g10_7)) := hp
      obtain ⟨hL1, hL2, hL3⟩ := hp15
      refine lv_goto (tgt := 5) hx hb dX10_readProduct_54 (by decide) ?_
      have hl : lv_has ls 3 [(0, .ref (ar 71)), (1, .int (Int32.ofInt (6)))] := lv_sub hl [1, 2] rfl
      exact ih (c9, c10, c11, c12, c13, c15, c14) (show (fi 19 - c12).toNat < (fi 19 - n22_4).toNat from by omega) (show inR c9 ∧ inR c10 ∧ inR c11 ∧ inR c12 ∧ inR c13 ∧ inR c15 ∧ (∀ t, inR (c14 t)) ∧ (((0 ≤ c12 ∧ c12 ≤ c13 ∧ c13 ≤ fi 19 ∧ fi 19 ≤ 600 ∧ c9 = c13 ∧ 0 ≤ c10 ∧ c10 ≤ 4 ∧ (¬ c10 = 0 → c12 < c13)) ∧ ((fi 24) = 0 → fi 24 = 0) ∧ fi 22 ≤ c12 ∧ fi 27 ≤ c15 ∧ c15 ≤ 600 ∧ ((fi 24) = 0 → c15 - fi 27 ≤ c12 - fi 22)) ∧ (∀ t, t < 600 + fi 27 → c14 t = fa 10 t) ∧ ((fi 24) = 0 → Seg c14 (600 + fi 27) (600 + c15) hh (hh + 1))) from ⟨(by omega), (by omega), (by omega), (by omega), (by omega), (by omega), rc14, (by refine ⟨by omega, fun t ht => (lay_fr hL2 hL3 (by omega)).trans ((hA2 t (by omega)).trans (hI2 t ht)), fun h0 => seg_bin (by omega) (by omega) (hI3 (by omega)) hA2 (hA3 (by omega)) (hL2 (by omega)) (by omega) (by omega) (by omega)⟩)⟩) _ _ _ hP hD hS hl
    · refine lv_aload_n hx hb dX10_readProduct_23 rfl (lv_at hl 0 rfl) ?_
      refine lv_bipush (v := Int32.ofInt 42) hx hb dX10_readProduct_24 (by decide +kernel) ?_
      refine cr_i (va_runV (As := [.int (Int32.ofInt (42))]) (rest := []) ⟨hx, hb, hml, hown, hts⟩ (mX10_isMarked l G k ar (uF (uF (uF (uF (uF (uF fi 18 (n18_1)) 20 (n20_2)) 21 (n21_3)) 22 (n22_4)) 23 (n23_5)) 27 (n27_6)) (uF fa 10 (g10_7)) fl 42 H.size (iF (iF (iF (iF (iF (iF hR (by omega)) (by omega)) (by omega)) (by omega)) (by omega)) (by omega)) (iG hRa r_g10_7) (by omega) (show n20_2 = 3 → 0 ≤ n22_4 ∧ n22_4 < 600 from by omega)) (cwV 1 hts (gz [.methodLink RX10 247 yX10_isMarked, .instanceMethod yX10_isMarked, .selects RX10 yX10_isMarked yX10_isMarked, .initialized RX10] (.code yX10_isMarked cX10_isMarked 2 (some .boolean)) [(19, 23), (20, 0), (20, 1), (0, 5), (20, 2)] rfl) rfl rfl rfl (by decide +kernel) ⟨Nat.le_of_ble_eq_true rfl, Nat.le_of_ble_eq_true rfl⟩) (cr_preV (EZ_ok k) hZ hS hX hP hD hA (ci := 7) (q0 := 0) rfl rfl) rfl rfl hl.1 rfl (lv_room (Nat.le_of_ble_eq_true rfl)) dX10_readProduct_26 ⟨Nat.le_of_ble_eq_true rfl, Nat.le_of_ble_eq_true rfl⟩) hD hS hA (fun r u H locs hp hP hD hS => ?_)
      obtain ⟨c16, rfl⟩ : ∃ z, z = u := ⟨_, rfl⟩
      obtain ⟨h9, rc16, hp16⟩ : r = Int32.ofInt c16 ∧ (inR c16) ∧ ((c16 = 0 ∨ c16 = 1) ∧ (c16 = 1 → (fi 24) = 0 ∧ n20_2 = 3)) := hp
      subst h9
      refine iv_if_eq (tgt := 37) hx hb (by omega) dX10_readProduct_29 (by decide) (fun q17 => ?_) (fun q17 => ?_)
      · refine lv_bipush (v := Int32.ofInt (-23)) hx hb dX10_readProduct_37 (by decide +kernel) ?_
        have hl : lv_has ls 3 [(0, .ref (ar 71)), (1, .int (Int32.ofInt (6)))] := lv_sub hl [0, 1] rfl
        exact J39 ((-23)) (show inR (-23) ∧ ((-23) = -22 ∨ (-23) = -23) from ⟨(by omega), (by omega)⟩) _ _ _ hP hD hS hl
      · refine lv_bipush (v := Int32.ofInt (-22)) hx hb dX10_readProduct_32 (by decide +kernel) ?_
        refine lv_goto (tgt := 39) hx hb dX10_readProduct_34 (by decide) ?_
        have hl : lv_has ls 3 [(0, .ref (ar 71)), (1, .int (Int32.ofInt (6)))] := lv_sub hl [0, 1] rfl
        exact J39 ((-22)) (show inR (-22) ∧ ((-22) = -22 ∨ (-22) = -23) from ⟨(by omega), (by omega)⟩) _ _ _ hP hD hS hl
  · refine lv_aload_n hx hb dX10_readProduct_5 rfl (lv_at hl 0 rfl) ?_
    refine lv_bipush (v := Int32.ofInt 42) hx hb dX10_readProduct_6 (by decide +kernel) ?_
    refine cr_i (va_runV (As := [.int (Int32.ofInt (42))]) (rest := []) ⟨hx, hb, hml, hown, hts⟩ (mX10_isMarked l G k ar (uF (uF (uF (uF (uF (uF fi 18 (n18_1)) 20 (n20_2)) 21 (n21_3)) 22 (n22_4)) 23 (n23_5)) 27 (n27_6)) (uF fa 10 (g10_7)) fl 42 H.size (iF (iF (iF (iF (iF (iF hR (by omega)) (by omega)) (by omega)) (by omega)) (by omega)) (by omega)) (iG hRa r_g10_7) (by omega) (show n20_2 = 3 → 0 ≤ n22_4 ∧ n22_4 < 600 from by omega)) (cwV 1 hts (gz [.methodLink RX10 247 yX10_isMarked, .instanceMethod yX10_isMarked, .selects RX10 yX10_isMarked yX10_isMarked, .initialized RX10] (.code yX10_isMarked cX10_isMarked 2 (some .boolean)) [(19, 23), (20, 0), (20, 1), (0, 5), (20, 2)] rfl) rfl rfl rfl (by decide +kernel) ⟨Nat.le_of_ble_eq_true rfl, Nat.le_of_ble_eq_true rfl⟩) (cr_preV (EZ_ok k) hZ hS hX hP hD hA (ci := 7) (q0 := 0) rfl rfl) rfl rfl hl.1 rfl (lv_room (Nat.le_of_ble_eq_true rfl)) dX10_readProduct_8 ⟨Nat.le_of_ble_eq_true rfl, Nat.le_of_ble_eq_true rfl⟩) hD hS hA (fun r u H locs hp hP hD hS => ?_)
    obtain ⟨c18, rfl⟩ : ∃ z, z = u := ⟨_, rfl⟩
    obtain ⟨h9, rc18, hp18⟩ : r = Int32.ofInt c18 ∧ (inR c18) ∧ ((c18 = 0 ∨ c18 = 1) ∧ (c18 = 1 → (fi 24) = 0 ∧ n20_2 = 3)) := hp
    subst h9
    refine iv_if_ne (tgt := 23) hx hb (by omega) dX10_readProduct_11 (by decide) (fun q19 => ?_) (fun q19 => ?_)
    · have hl : lv_has ls 3 [(0, .ref (ar 71)), (1, .int (Int32.ofInt (6)))] := lv_sub hl [0, 1] rfl
      exact J23 () (show ((fi 24) = 0 ∧ n20_2 = 3) from (by omega)) _ _ _ hP hD hS hl
    · refine lv_aload_n hx hb dX10_readProduct_14 rfl (lv_at hl 0 rfl) ?_
      refine lv_bipush (v := Int32.ofInt 47) hx hb dX10_readProduct_15 (by decide +kernel) ?_
      refine cr_i (va_runV (As := [.int (Int32.ofInt (47))]) (rest := []) ⟨hx, hb, hml, hown, hts⟩ (mX10_isMarked l G k ar (uF (uF (uF (uF (uF (uF fi 18 (n18_1)) 20 (n20_2)) 21 (n21_3)) 22 (n22_4)) 23 (n23_5)) 27 (n27_6)) (uF fa 10 (g10_7)) fl 47 H.size (iF (iF (iF (iF (iF (iF hR (by omega)) (by omega)) (by omega)) (by omega)) (by omega)) (by omega)) (iG hRa r_g10_7) (by omega) (show n20_2 = 3 → 0 ≤ n22_4 ∧ n22_4 < 600 from by omega)) (cwV 1 hts (gz [.methodLink RX10 247 yX10_isMarked, .instanceMethod yX10_isMarked, .selects RX10 yX10_isMarked yX10_isMarked, .initialized RX10] (.code yX10_isMarked cX10_isMarked 2 (some .boolean)) [(19, 23), (20, 0), (20, 1), (0, 5), (20, 2)] rfl) rfl rfl rfl (by decide +kernel) ⟨Nat.le_of_ble_eq_true rfl, Nat.le_of_ble_eq_true rfl⟩) (cr_preV (EZ_ok k) hZ hS hX hP hD hA (ci := 7) (q0 := 0) rfl rfl) rfl rfl hl.1 rfl (lv_room (Nat.le_of_ble_eq_true rfl)) dX10_readProduct_17 ⟨Nat.le_of_ble_eq_true rfl, Nat.le_of_ble_eq_true rfl⟩) hD hS hA (fun r u H locs hp hP hD hS => ?_)
      obtain ⟨c20, rfl⟩ : ∃ z, z = u := ⟨_, rfl⟩
      obtain ⟨h9, rc20, hp20⟩ : r = Int32.ofInt c20 ∧ (inR c20) ∧ ((c20 = 0 ∨ c20 = 1) ∧ (c20 = 1 → (fi 24) = 0 ∧ n20_2 = 3)) := hp
      subst h9
      refine iv_if_eq (tgt := 57) hx hb (by omega) dX10_readProduct_20 (by decide) (fun q21 => ?_) (fun q21 => ?_)
      · exact W.vret hx hb hr (fun t ht hW => ⟨⟨(g10_7, n18_1, n20_2, n21_3, n22_4, n23_5, n27_6), rfl, (show (∀ t, inR (g10_7 t)) ∧ (inR n18_1) ∧ (inR n20_2) ∧ (inR n21_3) ∧ (inR n22_4) ∧ (inR n23_5) ∧ (inR n27_6) ∧ (((0 ≤ n22_4 ∧ n22_4 ≤ n23_5 ∧ n23_5 ≤ fi 19 ∧ fi 19 ≤ 600 ∧ n18_1 = n23_5 ∧ 0 ≤ n20_2 ∧ n20_2 ≤ 4 ∧ (¬ n20_2 = 0 → n22_4 < n23_5)) ∧ ((fi 24) = 0 → fi 24 = 0) ∧ fi 22 ≤ n22_4 ∧ fi 27 ≤ n27_6 ∧ n27_6 ≤ 600 ∧ ((fi 24) = 0 → n27_6 - fi 27 ≤ n22_4 - fi 22)) ∧ (∀ t, t < 600 + fi 27 → g10_7 t = fa 10 t) ∧ ((fi 24) = 0 → Seg g10_7 (600 + fi 27) (600 + n27_6) hh (hh + 1))) from ⟨r_g10_7, (by omega), (by omega), (by omega), (by omega), (by omega), (by omega), (by exact ⟨by omega, hI2, hI3⟩)⟩), by rw [ht]; exact hP, hD⟩, hS.F ht⟩) hS.2.2 dX10_readProduct_57
      · have hl : lv_has ls 3 [(0, .ref (ar 71)), (1, .int (Int32.ofInt (6)))] := lv_sub hl [0, 1] rfl
        exact J23 () (show ((fi 24) = 0 ∧ n20_2 = 3) from (by omega)) _ _ _ hP hD hS hl

set_option maxHeartbeats 4000000 in
set_option maxRecDepth 100000 in
theorem mX10_readSum_6 (l : Launch) (G : va_G) (k : Nat → ClassId) (ar : Nat → Nat) (fi : Nat → Int) (fa : Nat → Int → Int) (fl : Nat → Int64) (hh : Int) (sz : Nat) (hR : ∀ j, inR (fi j)) (hRa : ∀ j t, inR (fa j t)) (htk : 0 ≤ fi 22 ∧ fi 22 ≤ fi 23 ∧ fi 23 ≤ fi 19 ∧ fi 19 ≤ 600 ∧ fi 18 = fi 23 ∧ 0 ≤ fi 20 ∧ fi 20 ≤ 4 ∧ (¬ fi 20 = 0 → fi 22 < fi 23)) (hla : 0 ≤ fi 27 ∧ fi 27 ≤ 600 ∧ (fi 24 = 0 → fi 27 ≤ fi 22)) (hhh : 0 ≤ hh ∧ hh ≤ 33) (hbd : ¬ fi 24 = 0) : CNv l G k (EZ k) yX10_readSum wzX10_readSum ({ frames := 3, cells := 0, slots := 0, locals := 67 }) [.ref (ar 71), .int (Int32.ofInt (6))] sz (wM k ar fi fa fl) (fun (u : (Int → Int) × Int × Int × Int × Int × Int × Int) => (∀ t, inR (u.1 t)) ∧ (inR u.2.1) ∧ (inR u.2.2.1) ∧ (inR u.2.2.2.1) ∧ (inR u.2.2.2.2.1) ∧ (inR u.2.2.2.2.2.1) ∧ (inR u.2.2.2.2.2.2) ∧ (((0 ≤ u.2.2.2.2.1 ∧ u.2.2.2.2.1 ≤ u.2.2.2.2.2.1 ∧ u.2.2.2.2.2.1 ≤ fi 19 ∧ fi 19 ≤ 600 ∧ u.2.1 = u.2.2.2.2.2.1 ∧ 0 ≤ u.2.2.1 ∧ u.2.2.1 ≤ 4 ∧ (¬ u.2.2.1 = 0 → u.2.2.2.2.1 < u.2.2.2.2.2.1)) ∧ ((fi 24) = 0 → fi 24 = 0) ∧ fi 22 ≤ u.2.2.2.2.1 ∧ fi 27 ≤ u.2.2.2.2.2.2 ∧ u.2.2.2.2.2.2 ≤ 600 ∧ ((fi 24) = 0 → u.2.2.2.2.2.2 - fi 27 ≤ u.2.2.2.2.1 - fi 22)) ∧ (∀ t, t < 600 + fi 27 → u.1 t = fa 10 t) ∧ ((fi 24) = 0 → Seg u.1 (600 + fi 27) (600 + u.2.2.2.2.2.2) hh (hh + 1)))) (fun (u : (Int → Int) × Int × Int × Int × Int × Int × Int) => (wM k ar (uF (uF (uF (uF (uF (uF fi 18 (u.2.1)) 20 (u.2.2.1)) 21 (u.2.2.2.1)) 22 (u.2.2.2.2.1)) 23 (u.2.2.2.2.2.1)) 27 (u.2.2.2.2.2.2)) (uF fa 10 (u.1)) fl)) := by
  refine Met.ofW (cc := cX10_readSum) (maxL := 3) (ret := none) (by decide) rfl ?_
  intro p e s m args below meth c s₁ B hml hv
  obtain ⟨rfl, hsz, hP, hX, hD0, hZ0⟩ := hv
  have hx := B.exec
  have hb := B.bytes
  have hr := B.returns
  have hts := atoms_spec (ws := wzX10_readSum) B.pre
  have hown : s.vm.findClass RX10 = some m.cls := findClass_of_methodNamed B.named
  subst hsz
  have hD := hD0.self (sz := s.heap.size)
  have hZ := hZ0
  generalize hAe : va_A (wM k ar fi fa fl) s.heap.size = A at hD hZ ⊢
  have hA : ∀ q : Nat, s.heap.size ≤ q → A q := fun q h => by rw [← hAe]; exact Or.inr h
  have hS : va_S A s.heap s.heap [] := va_S.rf
  have hl := lv_entry ([.ref (ar 71), .int (Int32.ofInt (6))]) (n := 3) (Nat.le_of_ble_eq_true rfl)
  rw [lg_entry_eq]
  generalize (lg_sl ([.ref (ar 71), .int (Int32.ofInt (6))]) ++ List.replicate (3 - (lg_sl ([.ref (ar 71), .int (Int32.ofInt (6))])).length) Slot.unset).toArray = ls at hl ⊢
  have hl : lv_has ls 3 [(0, .ref (ar 71)), (1, .int (Int32.ofInt (6)))] := hl
  obtain ⟨H, eH⟩ : ∃ H, H = s.heap := ⟨_, rfl⟩
  rw [← eH] at hP
  have hS : va_S A s.heap H [] := by rw [eH]; exact hS
  have gW : s.heap = H := eH.symm
  refine iv_heap gW ?_
  refine lv_aload_n hx hb dX10_readSum_0 rfl (lv_at hl 0 rfl) ?_
  refine lv_iload_n hx hb dX10_readSum_1 rfl (lv_at hl 1 rfl) ?_
  refine cr_v (va_runV (As := [.int (Int32.ofInt (6))]) (rest := []) ⟨hx, hb, hml, hown, hts⟩ (mX10_readProduct_6 l G k ar fi fa fl hh H.size hR hRa (show 0 ≤ (fi 22) ∧ (fi 22) ≤ (fi 23) ∧ (fi 23) ≤ (fi 19) ∧ (fi 19) ≤ 600 ∧ (fi 18) = (fi 23) ∧ 0 ≤ (fi 20) ∧ (fi 20) ≤ 4 ∧ (¬ (fi 20) = 0 → (fi 22) < (fi 23)) from by omega) (show 0 ≤ (fi 27) ∧ (fi 27) ≤ 600 ∧ ((fi 24) = 0 → (fi 27) ≤ (fi 22)) from by omega) (show 0 ≤ hh ∧ hh ≤ 34 from by omega) (show ¬ (fi 24) = 0 from by omega)) (cwV 1 hts (gz [.methodLink RX10 272 yX10_readProduct, .instanceMethod yX10_readProduct, .selects RX10 yX10_readProduct yX10_readProduct, .initialized RX10] (.code yX10_readProduct cX10_readProduct 3 none) [(21, 4), (21, 5), (21, 6), (0, 5), (20, 23)] rfl) rfl rfl rfl (by decide +kernel) ⟨Nat.le_of_ble_eq_true rfl, Nat.le_of_ble_eq_true rfl⟩) (cr_preV (EZ_ok k) hZ hS hX hP hD hA (ci := 7) (q0 := 0) rfl rfl) rfl rfl hl.1 rfl (lv_room (Nat.le_of_ble_eq_true rfl)) dX10_readSum_2 ⟨Nat.le_of_ble_eq_true rfl, Nat.le_of_ble_eq_true rfl⟩) hD hS hA (fun u H locs hp hP hD hS => ?_)
  obtain ⟨c1, c2, c3, c4, c5, c6, c7⟩ := u
  obtain ⟨hP, hD⟩ : va_P G vwCl (wM k ar (uF (uF (uF (uF (uF (uF fi 18 (c2)) 20 (c3)) 21 (c4)) 22 (c5)) 23 (c6)) 27 (c7)) (uF fa 10 (c1)) fl) H ∧ va_D A (wM k ar (uF (uF (uF (uF (uF (uF fi 18 (c2)) 20 (c3)) 21 (c4)) 22 (c5)) 23 (c6)) 27 (c7)) (uF fa 10 (c1)) fl) := ⟨hP, hD⟩
  obtain ⟨rc1, rc2, rc3, rc4, rc5, rc6, rc7, hp7⟩ : (∀ t, inR (c1 t)) ∧ (inR c2) ∧ (inR c3) ∧ (inR c4) ∧ (inR c5) ∧ (inR c6) ∧ (inR c7) ∧ (((0 ≤ c5 ∧ c5 ≤ c6 ∧ c6 ≤ (fi 19) ∧ (fi 19) ≤ 600 ∧ c2 = c6 ∧ 0 ≤ c3 ∧ c3 ≤ 4 ∧ (¬ c3 = 0 → c5 < c6)) ∧ (((fi 24)) = 0 → (fi 24) = 0) ∧ (fi 22) ≤ c5 ∧ (fi 27) ≤ c7 ∧ c7 ≤ 600 ∧ (((fi 24)) = 0 → c7 - (fi 27) ≤ c5 - (fi 22))) ∧ (∀ t, t < 600 + (fi 27) → c1 t = (fa 10) t) ∧ (((fi 24)) = 0 → Seg c1 (600 + (fi 27)) (600 + c7) hh (hh + 1))) := hp
  obtain ⟨hA1, hA2, hA3⟩ := hp7
  refine iv_loop (α := Int × Int × Int × Int × Int × Int × (Int → Int)) (nL := 3) (fun b9 => (wM k ar (uF (uF (uF (uF (uF (uF fi 18 (b9.1)) 20 (b9.2.1)) 21 (b9.2.2.1)) 22 (b9.2.2.2.1)) 23 (b9.2.2.2.2.1)) 27 (b9.2.2.2.2.2.1)) (uF fa 10 (b9.2.2.2.2.2.2)) fl)) (fun b9 => [(0, .ref (ar 71)), (1, .int (Int32.ofInt (6)))]) (fun b9 => (fi 19 - b9.2.2.2.1).toNat) (fun b9 => inR b9.1 ∧ inR b9.2.1 ∧ inR b9.2.2.1 ∧ inR b9.2.2.2.1 ∧ inR b9.2.2.2.2.1 ∧ inR b9.2.2.2.2.2.1 ∧ (∀ t, inR (b9.2.2.2.2.2.2 t)) ∧ (((0 ≤ b9.2.2.2.1 ∧ b9.2.2.2.1 ≤ b9.2.2.2.2.1 ∧ b9.2.2.2.2.1 ≤ fi 19 ∧ fi 19 ≤ 600 ∧ b9.1 = b9.2.2.2.2.1 ∧ 0 ≤ b9.2.1 ∧ b9.2.1 ≤ 4 ∧ (¬ b9.2.1 = 0 → b9.2.2.2.1 < b9.2.2.2.2.1)) ∧ ((fi 24) = 0 → fi 24 = 0) ∧ fi 22 ≤ b9.2.2.2.1 ∧ fi 27 ≤ b9.2.2.2.2.2.1 ∧ b9.2.2.2.2.2.1 ≤ 600 ∧ ((fi 24) = 0 → b9.2.2.2.2.2.1 - fi 27 ≤ b9.2.2.2.1 - fi 22)) ∧ (∀ t, t < 600 + fi 27 → b9.2.2.2.2.2.2 t = fa 10 t) ∧ ((fi 24) = 0 → Seg b9.2.2.2.2.2.2 (600 + fi 27) (600 + b9.2.2.2.2.2.1) hh (hh + 1)))) ?_ (c2, c3, c4, c5, c6, c7, c1) (show inR c2 ∧ inR c3 ∧ inR c4 ∧ inR c5 ∧ inR c6 ∧ inR c7 ∧ (∀ t, inR (c1 t)) ∧ (((0 ≤ c5 ∧ c5 ≤ c6 ∧ c6 ≤ fi 19 ∧ fi 19 ≤ 600 ∧ c2 = c6 ∧ 0 ≤ c3 ∧ c3 ≤ 4 ∧ (¬ c3 = 0 → c5 < c6)) ∧ ((fi 24) = 0 → fi 24 = 0) ∧ fi 22 ≤ c5 ∧ fi 27 ≤ c7 ∧ c7 ≤ 600 ∧ ((fi 24) = 0 → c7 - fi 27 ≤ c5 - fi 22)) ∧ (∀ t, t < 600 + fi 27 → c1 t = fa 10 t) ∧ ((fi 24) = 0 → Seg c1 (600 + fi 27) (600 + c7) hh (hh + 1))) from ⟨(by omega), (by omega), (by omega), (by omega), (by omega), (by omega), rc1, (by exact ⟨by omega, hA2, hA3⟩)⟩) hP hD hS hl
  rintro ⟨n18_8, n20_9, n21_10, n22_11, n23_12, n27_13, g10_14⟩ ih hi9 H locs ls hP hD hS hl
  obtain ⟨r_n18_8, r_n20_9, r_n21_10, r_n22_11, r_n23_12, r_n27_13, r_g10_14, hinv⟩ : inR n18_8 ∧ inR n20_9 ∧ inR n21_10 ∧ inR n22_11 ∧ inR n23_12 ∧ inR n27_13 ∧ (∀ t, inR (g10_14 t)) ∧ (((0 ≤ n22_11 ∧ n22_11 ≤ n23_12 ∧ n23_12 ≤ fi 19 ∧ fi 19 ≤ 600 ∧ n18_8 = n23_12 ∧ 0 ≤ n20_9 ∧ n20_9 ≤ 4 ∧ (¬ n20_9 = 0 → n22_11 < n23_12)) ∧ ((fi 24) = 0 → fi 24 = 0) ∧ fi 22 ≤ n22_11 ∧ fi 27 ≤ n27_13 ∧ n27_13 ≤ 600 ∧ ((fi 24) = 0 → n27_13 - fi 27 ≤ n22_11 - fi 22)) ∧ (∀ t, t < 600 + fi 27 → g10_14 t = fa 10 t) ∧ ((fi 24) = 0 → Seg g10_14 (600 + fi 27) (600 + n27_13) hh (hh + 1))) := hi9
  obtain ⟨hI1, hI2, hI3⟩ := hinv
  obtain ⟨hP, hD⟩ : va_P G vwCl (wM k ar (uF (uF (uF (uF (uF (uF fi 18 (n18_8)) 20 (n20_9)) 21 (n21_10)) 22 (n22_11)) 23 (n23_12)) 27 (n27_13)) (uF fa 10 (g10_14)) fl) H ∧ va_D A (wM k ar (uF (uF (uF (uF (uF (uF fi 18 (n18_8)) 20 (n20_9)) 21 (n21_10)) 22 (n22_11)) 23 (n23_12)) 27 (n27_13)) (uF fa 10 (g10_14)) fl) := ⟨hP, hD⟩
  have hl : lv_has ls 3 [(0, .ref (ar 71)), (1, .int (Int32.ofInt (6)))] := hl
  refine iv_join (G := G) (A := A) (H0 := s.heap) (α := Unit) (nL := 3) 23 (fun b9 => []) (fun b9 => (wM k ar (uF (uF (uF (uF (uF (uF fi 18 (n18_8)) 20 (n20_9)) 21 (n21_10)) 22 (n22_11)) 23 (n23_12)) 27 (n27_13)) (uF fa 10 (g10_14)) fl)) (fun b9 => [(0, .ref (ar 71)), (1, .int (Int32.ofInt (6)))]) (fun b9 => ((fi 24) = 0 ∧ n20_9 = 3)) ?_ (fun J23 => ?_)
  · rintro ⟨⟩ hi9 H locs ls hP hD hS hl
    obtain ⟨hinv⟩ : ((fi 24) = 0 ∧ n20_9 = 3) := hi9
    obtain ⟨hP, hD⟩ : va_P G vwCl (wM k ar (uF (uF (uF (uF (uF (uF fi 18 (n18_8)) 20 (n20_9)) 21 (n21_10)) 22 (n22_11)) 23 (n23_12)) 27 (n27_13)) (uF fa 10 (g10_14)) fl) H ∧ va_D A (wM k ar (uF (uF (uF (uF (uF (uF fi 18 (n18_8)) 20 (n20_9)) 21 (n21_10)) 22 (n22_11)) 23 (n23_12)) 27 (n27_13)) (uF fa 10 (g10_14)) fl) := ⟨hP, hD⟩
    have hl : lv_has ls 3 [(0, .ref (ar 71)), (1, .int (Int32.ofInt (6)))] := hl
    refine iv_join (G := G) (A := A) (H0 := s.heap) (α := Int) (nL := 3) 39 (fun b9 => [.int (Int32.ofInt (b9))]) (fun b9 => (wM k ar (uF (uF (uF (uF (uF (uF fi 18 (n18_8)) 20 (n20_9)) 21 (n21_10)) 22 (n22_11)) 23 (n23_12)) 27 (n27_13)) (uF fa 10 (g10_14)) fl)) (fun b9 => [(0, .ref (ar 71)), (1, .int (Int32.ofInt (6)))]) (fun b9 => inR b9 ∧ (b9 = -20 ∨ b9 = -21)) ?_ (fun J39 => ?_)
    · intro s0_15 hi9 H locs ls hP hD hS hl
      obtain ⟨r_s0_15, hinv⟩ : inR s0_15 ∧ (s0_15 = -20 ∨ s0_15 = -21) := hi9
      obtain ⟨hP, hD⟩ : va_P G vwCl (wM k ar (uF (uF (uF (uF (uF (uF fi 18 (n18_8)) 20 (n20_9)) 21 (n21_10)) 22 (n22_11)) 23 (n23_12)) 27 (n27_13)) (uF fa 10 (g10_14)) fl) H ∧ va_D A (wM k ar (uF (uF (uF (uF (uF (uF fi 18 (n18_8)) 20 (n20_9)) 21 (n21_10)) 22 (n22_11)) 23 (n23_12)) 27 (n27_13)) (uF fa 10 (g10_14)) fl) := ⟨hP, hD⟩
      have hl : lv_has ls 3 [(0, .ref (ar 71)), (1, .int (Int32.ofInt (6)))] := hl
      refine lv_istore_n (lv' := [(2, .int (Int32.ofInt (s0_15))), (0, .ref (ar 71)), (1, .int (Int32.ofInt (6)))]) hx hb dX10_readSum_39 rfl hl (by decide) rfl (fun ls hl => ?_)
      refine lv_aload_n hx hb dX10_readSum_40 rfl (lv_at hl 1 rfl) ?_
      refine cr_v (va_runV (As := []) (rest := []) ⟨hx, hb, hml, hown, hts⟩ (mX10_stepOn l G k ar (uF (uF (uF (uF (uF (uF fi 18 (n18_8)) 20 (n20_9)) 21 (n21_10)) 22 (n22_11)) 23 (n23_12)) 27 (n27_13)) (uF fa 10 (g10_14)) fl H.size (iF (iF (iF (iF (iF (iF hR (by omega)) (by omega)) (by omega)) (by omega)) (by omega)) (by omega)) (iG hRa r_g10_14) (show 0 ≤ n18_8 from by omega) (show n18_8 ≤ (fi 19) from by omega) (show (fi 19) ≤ 600 from by omega)) (cwV 0 hts (gz [.methodLink RX10 241 yX10_stepOn, .instanceMethod yX10_stepOn, .selects RX10 yX10_stepOn yX10_stepOn, .initialized RX10] (.code yX10_stepOn cX10_stepOn 2 none) [(16, 21), (16, 22), (16, 23), (0, 5), (17, 0)] rfl) rfl rfl rfl (by decide +kernel) ⟨Nat.le_of_ble_eq_true rfl, Nat.le_of_ble_eq_true rfl⟩) (cr_preV (EZ_ok k) hZ hS hX hP hD hA (ci := 7) (q0 := 0) rfl rfl) rfl rfl hl.1 rfl (lv_room (Nat.le_of_ble_eq_true rfl)) dX10_readSum_41 ⟨Nat.le_of_ble_eq_true rfl, Nat.le_of_ble_eq_true rfl⟩) hD hS hA (fun u H locs hp hP hD hS => ?_)
      obtain ⟨c16, c17, c18, c19, c20⟩ := u
      obtain ⟨hP, hD⟩ : va_P G vwCl (wM k ar (uF (uF (uF (uF (uF (uF fi 18 (c16)) 20 (c17)) 21 (c18)) 22 (c19)) 23 (c20)) 27 (n27_13)) (uF fa 10 (g10_14)) fl) H ∧ va_D A (wM k ar (uF (uF (uF (uF (uF (uF fi 18 (c16)) 20 (c17)) 21 (c18)) 22 (c19)) 23 (c20)) 27 (n27_13)) (uF fa 10 (g10_14)) fl) := ⟨hP, hD⟩
      obtain ⟨rc16, rc17, rc18, rc19, rc20, hp20⟩ : (inR c16) ∧ (inR c17) ∧ (inR c18) ∧ (inR c19) ∧ (inR c20) ∧ (n18_8 ≤ c19 ∧ c19 ≤ c20 ∧ c20 ≤ (fi 19) ∧ c16 = c20 ∧ 0 ≤ c17 ∧ c17 ≤ 4 ∧ (¬ c17 = 0 → c19 < c20)) := hp
      refine lv_aload_n hx hb dX10_readSum_44 rfl (lv_at hl 1 rfl) ?_
      refine lv_iload_n hx hb dX10_readSum_45 rfl (lv_at hl 2 rfl) ?_
      refine cr_v (va_runV (As := [.int (Int32.ofInt (6))]) (rest := []) ⟨hx, hb, hml, hown, hts⟩ (mX10_readProduct_6 l G k ar (uF (uF (uF (uF (uF (uF fi 18 (c16)) 20 (c17)) 21 (c18)) 22 (c19)) 23 (c20)) 27 (n27_13)) (uF fa 10 (g10_14)) fl (hh + 1) H.size (iF (iF (iF (iF (iF (iF hR (by omega)) (by omega)) (by omega)) (by omega)) (by omega)) (by omega)) (iG hRa r_g10_14) (show 0 ≤ c19 ∧ c19 ≤ c20 ∧ c20 ≤ (fi 19) ∧ (fi 19) ≤ 600 ∧ c16 = c20 ∧ 0 ≤ c17 ∧ c17 ≤ 4 ∧ (¬ c17 = 0 → c19 < c20) from by omega) (show 0 ≤ n27_13 ∧ n27_13 ≤ 600 ∧ ((fi 24) = 0 → n27_13 ≤ c19) from by omega) (show 0 ≤ (hh + 1) ∧ (hh + 1) ≤ 34 from by omega) (show ¬ (fi 24) = 0 from by omega)) (cwV 1 hts (gz [.methodLink RX10 272 yX10_readProduct, .instanceMethod yX10_readProduct, .selects RX10 yX10_readProduct yX10_readProduct, .initialized RX10] (.code yX10_readProduct cX10_readProduct 3 none) [(21, 4), (21, 5), (21, 6), (0, 5), (20, 23)] rfl) rfl rfl rfl (by decide +kernel) ⟨Nat.le_of_ble_eq_true rfl, Nat.le_of_ble_eq_true rfl⟩) (cr_preV (EZ_ok k) hZ hS hX hP hD hA (ci := 7) (q0 := 0) rfl rfl) rfl rfl hl.1 rfl (lv_room (Nat.le_of_ble_eq_true rfl)) dX10_readSum_46 ⟨Nat.le_of_ble_eq_true rfl, Nat.le_of_ble_eq_true rfl⟩) hD hS hA (fun u H locs hp hP hD hS => ?_)
      obtain ⟨c21, c22, c23, c24, c25, c26, c27⟩ := u
      obtain ⟨hP, hD⟩ : va_P G vwCl (wM k ar (uF (uF (uF (uF (uF (uF fi 18 (c22)) 20 (c23)) 21 (c24)) 22 (c25)) 23 (c26)) 27 (c27)) (uF fa 10 (c21)) fl) H ∧ va_D A (wM k ar (uF (uF (uF (uF (uF (uF fi 18 (c22)) 20 (c23)) 21 (c24)) 22 (c25)) 23 (c26)) 27 (c27)) (uF fa 10 (c21)) fl) := ⟨hP, hD⟩
      obtain ⟨rc21, rc22, rc23, rc24, rc25, rc26, rc27, hp27⟩ : (∀ t, inR (c21 t)) ∧ (inR c22) ∧ (inR c23) ∧ (inR c24) ∧ (inR c25) ∧ (inR c26) ∧ (inR c27) ∧ (((0 ≤ c25 ∧ c25 ≤ c26 ∧ c26 ≤ (fi 19) ∧ (fi 19) ≤ 600 ∧ c22 = c26 ∧ 0 ≤ c23 ∧ c23 ≤ 4 ∧ (¬ c23 = 0 → c25 < c26)) ∧ (((fi 24)) = 0 → (fi 24) = 0) ∧ c19 ≤ c25 ∧ n27_13 ≤ c27 ∧ c27 ≤ 600 ∧ (((fi 24)) = 0 → c27 - n27_13 ≤ c25 - c19)) ∧ (∀ t, t < 600 + n27_13 → c21 t = g10_14 t) ∧ (((fi 24)) = 0 → Seg c21 (600 + n27_13) (600 + c27) (hh + 1) ((hh + 1) + 1))) := hp
      obtain ⟨hA1, hA2, hA3⟩ := hp27
      refine lv_aload_n hx hb dX10_readSum_49 rfl (lv_at hl 1 rfl) ?_
      refine lv_iload_n hx hb dX10_readSum_50 rfl (lv_at hl 0 rfl) ?_
      refine cr_v (va_runV (As := [.int (Int32.ofInt (s0_15))]) (rest := []) ⟨hx, hb, hml, hown, hts⟩ (mX10_lay l G k ar (uF (uF (uF (uF (uF (uF fi 18 (c22)) 20 (c23)) 21 (c24)) 22 (c25)) 23 (c26)) 27 (c27)) (uF fa 10 (c21)) fl s0_15 H.size (iF (iF (iF (iF (iF (iF hR (by omega)) (by omega)) (by omega)) (by omega)) (by omega)) (by omega)) (iG hRa rc21) (by omega) (show (fi 24) = 0 → 0 ≤ c27 ∧ c27 < 600 from by omega)) (cwV 1 hts (gz [.methodLink RX10 256 yX10_lay, .instanceMethod yX10_lay, .selects RX10 yX10_lay yX10_lay, .initialized RX10] (.code yX10_lay cX10_lay 2 none) [(20, 6), (20, 7), (20, 8), (0, 5), (20, 9)] rfl) rfl rfl rfl (by decide +kernel) ⟨Nat.le_of_ble_eq_true rfl, Nat.le_of_ble_eq_true rfl⟩) (cr_preV (EZ_ok k) hZ hS hX hP hD hA (ci := 7) (q0 := 0) rfl rfl) rfl rfl hl.1 rfl (lv_room (Nat.le_of_ble_eq_true rfl)) dX10_readSum_51 ⟨Nat.le_of_ble_eq_true rfl, Nat.le_of_ble_eq_true rfl⟩) hD hS hA (fun u H locs hp hP hD hS => ?_)
      obtain ⟨c28, c29⟩ := u
      obtain ⟨hP, hD⟩ : va_P G vwCl (wM k ar (uF (uF (uF (uF (uF (uF fi 18 (c22)) 20 (c23)) 21 (c24)) 22 (c25)) 23 (c26)) 27 (c29)) (uF fa 10 (c28)) fl) H ∧ va_D A (wM k ar (uF (uF (uF (uF (uF (uF fi 18 (c22)) 20 (c23)) 21 (c24)) 22 (c25)) 23 (c26)) 27 (c29)) (uF fa 10 (c28)) fl) := ⟨hP, hD⟩
      obtain ⟨rc28, rc29, hp29⟩ : (∀ t, inR (c28 t)) ∧ (inR c29) ∧ ((((fi 24) = 0 → c29 = c27 + 1) ∧ (¬ (fi 24) = 0 → c29 = c27)) ∧ ((fi 24) = 0 → c28 = uA (c21) (600 + c27) s0_15) ∧ (¬ (fi 24) = 0 → c28 = c21)) := hp
      obtain ⟨hL1, hL2, hL3⟩ := hp29
      refine lv_goto (tgt := 5) hx hb dX10_readSum_54 (by decide) ?_
      have hl : lv_has ls 3 [(0, .ref (ar 71)), (1, .int (Int32.ofInt (6)))] := lv_sub hl [1, 2] rfl
      exact ih (c22, c23, c24, c25, c26, c29, c28) (show (fi 19 - c25).toNat < (fi 19 - n22_11).toNat from by omega) (show inR c22 ∧ inR c23 ∧ inR c24 ∧ inR c25 ∧ inR c26 ∧ inR c29 ∧ (∀ t, inR (c28 t)) ∧ (((0 ≤ c25 ∧ c25 ≤ c26 ∧ c26 ≤ fi 19 ∧ fi 19 ≤ 600 ∧ c22 = c26 ∧ 0 ≤ c23 ∧ c23 ≤ 4 ∧ (¬ c23 = 0 → c25 < c26)) ∧ ((fi 24) = 0 → fi 24 = 0) ∧ fi 22 ≤ c25 ∧ fi 27 ≤ c29 ∧ c29 ≤ 600 ∧ ((fi 24) = 0 → c29 - fi 27 ≤ c25 - fi 22)) ∧ (∀ t, t < 600 + fi 27 → c28 t = fa 10 t) ∧ ((fi 24) = 0 → Seg c28 (600 + fi 27) (600 + c29) hh (hh + 1))) from ⟨(by omega), (by omega), (by omega), (by omega), (by omega), (by omega), rc28, (by refine ⟨by omega, fun t ht => (lay_fr hL2 hL3 (by omega)).trans ((hA2 t (by omega)).trans (hI2 t ht)), fun h0 => seg_bin (by omega) (by omega) (hI3 (by omega)) hA2 (hA3 (by omega)) (hL2 (by omega)) (by omega) (by omega) (by omega)⟩)⟩) _ _ _ hP hD hS hl
    · refine lv_aload_n hx hb dX10_readSum_23 rfl (lv_at hl 0 rfl) ?_
      refine lv_bipush (v := Int32.ofInt 43) hx hb dX10_readSum_24 (by decide +kernel) ?_
      refine cr_i (va_runV (As := [.int (Int32.ofInt (43))]) (rest := []) ⟨hx, hb, hml, hown, hts⟩ (mX10_isMarked l G k ar (uF (uF (uF (uF (uF (uF fi 18 (n18_8)) 20 (n20_9)) 21 (n21_10)) 22 (n22_11)) 23 (n23_12)) 27 (n27_13)) (uF fa 10 (g10_14)) fl 43 H.size (iF (iF (iF (iF (iF (iF hR (by omega)) (by omega)) (by omega)) (by omega)) (by omega)) (by omega)) (iG hRa r_g10_14) (by omega) (show n20_9 = 3 → 0 ≤ n22_11 ∧ n22_11 < 600 from by omega)) (cwV 1 hts (gz [.methodLink RX10 247 yX10_isMarked, .instanceMethod yX10_isMarked, .selects RX10 yX10_isMarked yX10_isMarked, .initialized RX10] (.code yX10_isMarked cX10_isMarked 2 (some .boolean)) [(19, 23), (20, 0), (20, 1), (0, 5), (20, 2)] rfl) rfl rfl rfl (by decide +kernel) ⟨Nat.le_of_ble_eq_true rfl, Nat.le_of_ble_eq_true rfl⟩) (cr_preV (EZ_ok k) hZ hS hX hP hD hA (ci := 7) (q0 := 0) rfl rfl) rfl rfl hl.1 rfl (lv_room (Nat.le_of_ble_eq_true rfl)) dX10_readSum_26 ⟨Nat.le_of_ble_eq_true rfl, Nat.le_of_ble_eq_true rfl⟩) hD hS hA (fun r u H locs hp hP hD hS => ?_)
      obtain ⟨c30, rfl⟩ : ∃ z, z = u := ⟨_, rfl⟩
      obtain ⟨h9, rc30, hp30⟩ : r = Int32.ofInt c30 ∧ (inR c30) ∧ ((c30 = 0 ∨ c30 = 1) ∧ (c30 = 1 → (fi 24) = 0 ∧ n20_9 = 3)) := hp
      subst h9
      refine iv_if_eq (tgt := 37) hx hb (by omega) dX10_readSum_29 (by decide) (fun q31 => ?_) (fun q31 => ?_)
      · refine lv_bipush (v := Int32.ofInt (-21)) hx hb dX10_readSum_37 (by decide +kernel) ?_
        have hl : lv_has ls 3 [(0, .ref (ar 71)), (1, .int (Int32.ofInt (6)))] := lv_sub hl [0, 1] rfl
        exact J39 ((-21)) (show inR (-21) ∧ ((-21) = -20 ∨ (-21) = -21) from ⟨(by omega), (by omega)⟩) _ _ _ hP hD hS hl
      · refine lv_bipush (v := Int32.ofInt (-20)) hx hb dX10_readSum_32 (by decide +kernel) ?_
        refine lv_goto (tgt := 39) hx hb dX10_readSum_34 (by decide) ?_
        have hl : lv_has ls 3 [(0, .ref (ar 71)), (1, .int (Int32.ofInt (6)))] := lv_sub hl [0, 1] rfl
        exact J39 ((-20)) (show inR (-20) ∧ ((-20) = -20 ∨ (-20) = -21) from ⟨(by omega), (by omega)⟩) _ _ _ hP hD hS hl
  · refine lv_aload_n hx hb dX10_readSum_5 rfl (lv_at hl 0 rfl) ?_
    refine lv_bipush (v := Int32.ofInt 43) hx hb dX10_readSum_6 (by decide +kernel) ?_
    refine cr_i (va_runV (As := [.int (Int32.ofInt (43))]) (rest := []) ⟨hx, hb, hml, hown, hts⟩ (mX10_isMarked l G k ar (uF (uF (uF (uF (uF (uF fi 18 (n18_8)) 20 (n20_9)) 21 (n21_10)) 22 (n22_11)) 23 (n23_12)) 27 (n27_13)) (uF fa 10 (g10_14)) fl 43 H.size (iF (iF (iF (iF (iF (iF hR (by omega)) (by omega)) (by omega)) (by omega)) (by omega)) (by omega)) (iG hRa r_g10_14) (by omega) (show n20_9 = 3 → 0 ≤ n22_11 ∧ n22_11 < 600 from by omega)) (cwV 1 hts (gz [.methodLink RX10 247 yX10_isMarked, .instanceMethod yX10_isMarked, .selects RX10 yX10_isMarked yX10_isMarked, .initialized RX10] (.code yX10_isMarked cX10_isMarked 2 (some .boolean)) [(19, 23), (20, 0), (20, 1), (0, 5), (20, 2)] rfl) rfl rfl rfl (by decide +kernel) ⟨Nat.le_of_ble_eq_true rfl, Nat.le_of_ble_eq_true rfl⟩) (cr_preV (EZ_ok k) hZ hS hX hP hD hA (ci := 7) (q0 := 0) rfl rfl) rfl rfl hl.1 rfl (lv_room (Nat.le_of_ble_eq_true rfl)) dX10_readSum_8 ⟨Nat.le_of_ble_eq_true rfl, Nat.le_of_ble_eq_true rfl⟩) hD hS hA (fun r u H locs hp hP hD hS => ?_)
    obtain ⟨c32, rfl⟩ : ∃ z, z = u := ⟨_, rfl⟩
    obtain ⟨h9, rc32, hp32⟩ : r = Int32.ofInt c32 ∧ (inR c32) ∧ ((c32 = 0 ∨ c32 = 1) ∧ (c32 = 1 → (fi 24) = 0 ∧ n20_9 = 3)) := hp
    subst h9
    refine iv_if_ne (tgt := 23) hx hb (by omega) dX10_readSum_11 (by decide) (fun q33 => ?_) (fun q33 => ?_)
    · have hl : lv_has ls 3 [(0, .ref (ar 71)), (1, .int (Int32.ofInt (6)))] := lv_sub hl [0, 1] rfl
      exact J23 () (show ((fi 24) = 0 ∧ n20_9 = 3) from (by omega)) _ _ _ hP hD hS hl
    · refine lv_aload_n hx hb dX10_readSum_14 rfl (lv_at hl 0 rfl) ?_
      refine lv_bipush (v := Int32.ofInt 45) hx hb dX10_readSum_15 (by decide +kernel) ?_
      refine cr_i (va_runV (As := [.int (Int32.ofInt (45))]) (rest := []) ⟨hx, hb, hml, hown, hts⟩ (mX10_isMarked l G k ar (uF (uF (uF (uF (uF (uF fi 18 (n18_8)) 20 (n20_9)) 21 (n21_10)) 22 (n22_11)) 23 (n23_12)) 27 (n27_13)) (uF fa 10 (g10_14)) fl 45 H.size (iF (iF (iF (iF (iF (iF hR (by omega)) (by omega)) (by omega)) (by omega)) (by omega)) (by omega)) (iG hRa r_g10_14) (by omega) (show n20_9 = 3 → 0 ≤ n22_11 ∧ n22_11 < 600 from by omega)) (cwV 1 hts (gz [.methodLink RX10 247 yX10_isMarked, .instanceMethod yX10_isMarked, .selects RX10 yX10_isMarked yX10_isMarked, .initialized RX10] (.code yX10_isMarked cX10_isMarked 2 (some .boolean)) [(19, 23), (20, 0), (20, 1), (0, 5), (20, 2)] rfl) rfl rfl rfl (by decide +kernel) ⟨Nat.le_of_ble_eq_true rfl, Nat.le_of_ble_eq_true rfl⟩) (cr_preV (EZ_ok k) hZ hS hX hP hD hA (ci := 7) (q0 := 0) rfl rfl) rfl rfl hl.1 rfl (lv_room (Nat.le_of_ble_eq_true rfl)) dX10_readSum_17 ⟨Nat.le_of_ble_eq_true rfl, Nat.le_of_ble_eq_true rfl⟩) hD hS hA (fun r u H locs hp hP hD hS => ?_)
      obtain ⟨c34, rfl⟩ : ∃ z, z = u := ⟨_, rfl⟩
      obtain ⟨h9, rc34, hp34⟩ : r = Int32.ofInt c34 ∧ (inR c34) ∧ ((c34 = 0 ∨ c34 = 1) ∧ (c34 = 1 → (fi 24) = 0 ∧ n20_9 = 3)) := hp
      subst h9
      refine iv_if_eq (tgt := 57) hx hb (by omega) dX10_readSum_20 (by decide) (fun q35 => ?_) (fun q35 => ?_)
      · exact W.vret hx hb hr (fun t ht hW => ⟨⟨(g10_14, n18_8, n20_9, n21_10, n22_11, n23_12, n27_13), rfl, (show (∀ t, inR (g10_14 t)) ∧ (inR n18_8) ∧ (inR n20_9) ∧ (inR n21_10) ∧ (inR n22_11) ∧ (inR n23_12) ∧ (inR n27_13) ∧ (((0 ≤ n22_11 ∧ n22_11 ≤ n23_12 ∧ n23_12 ≤ fi 19 ∧ fi 19 ≤ 600 ∧ n18_8 = n23_12 ∧ 0 ≤ n20_9 ∧ n20_9 ≤ 4 ∧ (¬ n20_9 = 0 → n22_11 < n23_12)) ∧ ((fi 24) = 0 → fi 24 = 0) ∧ fi 22 ≤ n22_11 ∧ fi 27 ≤ n27_13 ∧ n27_13 ≤ 600 ∧ ((fi 24) = 0 → n27_13 - fi 27 ≤ n22_11 - fi 22)) ∧ (∀ t, t < 600 + fi 27 → g10_14 t = fa 10 t) ∧ ((fi 24) = 0 → Seg g10_14 (600 + fi 27) (600 + n27_13) hh (hh + 1))) from ⟨r_g10_14, (by omega), (by omega), (by omega), (by omega), (by omega), (by omega), (by exact ⟨by omega, hI2, hI3⟩)⟩), by rw [ht]; exact hP, hD⟩, hS.F ht⟩) hS.2.2 dX10_readSum_57
      · have hl : lv_has ls 3 [(0, .ref (ar 71)), (1, .int (Int32.ofInt (6)))] := lv_sub hl [0, 1] rfl
        exact J23 () (show ((fi 24) = 0 ∧ n20_9 = 3) from (by omega)) _ _ _ hP hD hS hl

