set_option maxHeartbeats 4000000 in
set_option maxRecDepth 100000 in
theorem mX10_lay (l : Launch) (G : va_G) (k : Nat → ClassId) (ar : Nat → Nat) (fi : Nat → Int) (fa : Nat → Int → Int) (fl : Nat → Int64) (s0 : Int) (sz : Nat) (hR : ∀ j, inR (fi j)) (hRa : ∀ j t, inR (fa j t)) (hr_s0 : inR s0) (hl0 : fi 24 = 0 → 0 ≤ fi 27 ∧ fi 27 < 600) : CNv l G k (EZ k) yX10_lay wzX10_lay ({ frames := 0, cells := 0, slots := 0, locals := 0 }) [.ref (ar 71), .int (Int32.ofInt (s0))] sz (wM k ar fi fa fl) (fun (u : (Int → Int) × Int) => (∀ t, inR (u.1 t)) ∧ (inR u.2) ∧ (((fi 24 = 0 → u.2 = fi 27 + 1) ∧ (¬ fi 24 = 0 → u.2 = fi 27)) ∧ (fi 24 = 0 → u.1 = uA (fa 10) (600 + fi 27) s0) ∧ (¬ fi 24 = 0 → u.1 = fa 10))) (fun (u : (Int → Int) × Int) => (wM k ar (uF fi 27 (u.2)) (uF fa 10 (u.1)) fl)) := by
  refine Met.ofW (cc := cX10_lay) (maxL := 2) (ret := none) (by decide) rfl ?_
  intro p e s m args below meth c s₁ B hml hv
  obtain ⟨rfl, hsz, hP, hX, hD0, hZ0⟩ := hv
  have hx := B.exec
  have hb := B.bytes
  have hr := B.returns
  have hts := atoms_spec (ws := wzX10_lay) B.pre
  have hown : s.vm.findClass RX10 = some m.cls := findClass_of_methodNamed B.named
  subst hsz
  have hD := hD0.self (sz := s.heap.size)
  have hZ := hZ0
  generalize hAe : va_A (wM k ar fi fa fl) s.heap.size = A at hD hZ ⊢
  have hA : ∀ q : Nat, s.heap.size ≤ q → A q := fun q h => by rw [← hAe]; exact Or.inr h
  have hS : va_S A s.heap s.heap [] := va_S.rf
  have hl := lv_entry ([.ref (ar 71), .int (Int32.ofInt (s0))]) (n := 2) (Nat.le_of_ble_eq_true rfl)
  rw [lg_entry_eq]
  generalize (lg_sl ([.ref (ar 71), .int (Int32.ofInt (s0))]) ++ List.replicate (2 - (lg_sl ([.ref (ar 71), .int (Int32.ofInt (s0))])).length) Slot.unset).toArray = ls at hl ⊢
  have hl : lv_has ls 2 [(0, .ref (ar 71)), (1, .int (Int32.ofInt (s0)))] := hl
  obtain ⟨H, eH⟩ : ∃ H, H = s.heap := ⟨_, rfl⟩
  rw [← eH] at hP
  have hS : va_S A s.heap H [] := by rw [eH]; exact hS
  have gW : s.heap = H := eH.symm
  refine iv_heap gW ?_
  have h0w := hts (.fieldLink RX10 223 "RopeTownModel" "bad" "I") (wz_at 16 11 rfl)
  have h1w : ∀ w ∈ wsX100, w ∈ wzX10_lay := fun w h => List.mem_cons_of_mem _ (inlX10 w h)
  have h2w := hts (.fieldLink RX10 74 "RopeTownModel" "signs" "[I") (wz_at 6 13 rfl)
  have h3w := hts (.fieldLink RX10 250 "RopeTownModel" "laid" "I") (wz_at 16 12 rfl)
  refine lv_aload_n hx hb dX10_lay_0 rfl (lv_at hl 0 rfl) ?_
  refine va_get (D := G) (ci := 7) (v := .int (Int32.ofInt (fi 24))) (C := RX10) (T := TX10) (N := 71) (ref := RX10) hx hb hts h1w hown hX.1 hP 0 rfl rfl 24 (by decide) h0w (fun _ h9 => h9) rfl dX10_lay_1 ?_
  have rf24 := hR 24
  refine iv_if_eq (tgt := 8) hx hb (by omega) dX10_lay_4 (by decide) (fun q1 => ?_) (fun q1 => ?_)
  · refine lv_aload_n hx hb dX10_lay_8 rfl (lv_at hl 0 rfl) ?_
    refine va_get (D := G) (ci := 7) (v := .ref (ar 10)) (C := RX10) (T := TX10) (N := 71) (ref := RX10) hx hb hts h1w hown hX.1 hP 0 rfl rfl 10 (by decide) h2w (fun _ h9 => h9) rfl dX10_lay_9 ?_
    refine lv_sipush (v := Int32.ofInt 600) hx hb dX10_lay_12 (by decide +kernel) ?_
    refine lv_aload_n hx hb dX10_lay_15 rfl (lv_at hl 0 rfl) ?_
    refine va_get (D := G) (ci := 7) (v := .int (Int32.ofInt (fi 27))) (C := RX10) (T := TX10) (N := 71) (ref := RX10) hx hb hts h1w hown hX.1 hP 0 rfl rfl 27 (by decide) h3w (fun _ h9 => h9) rfl dX10_lay_16 ?_
    have rf27 := hR 27
    refine iv_add (x := 600) (y := fi 27) hx hb dX10_lay_19 ?_
    refine lv_iload_n hx hb dX10_lay_20 rfl (lv_at hl 1 rfl) ?_
    refine iv_iast hx hb hX.1 hP hD hS 8 0 rfl rfl (wM_A10 _ _ _ _ _) (by omega) (by omega) (by decide) dX10_lay_21 (fun H locs hP hD hS => ?_)
    obtain ⟨g2, eg2, rg2⟩ : ∃ z, z = uA (fa 10) ((600 + fi 27)) (s0) ∧ ∀ t, inR (z t) := ⟨_, rfl, iU (hRa 10) (by omega)⟩
    rw [← eg2] at hP hD
    refine lv_aload_n hx hb dX10_lay_22 rfl (lv_at hl 0 rfl) ?_
    refine lv_dup hx hb dX10_lay_23 rfl ?_
    refine va_get (D := G) (ci := 7) (v := .int (Int32.ofInt (fi 27))) (C := RX10) (T := TX10) (N := 71) (ref := RX10) hx hb hts h1w hown hX.1 hP 0 rfl rfl 27 (by decide) h3w (fun _ h9 => h9) rfl dX10_lay_24 ?_
    have rf27 := hR 27
    refine lv_iconst (v := Int32.ofInt 1) hx hb dX10_lay_27 (by decide +kernel) ?_
    refine iv_add (x := fi 27) (y := 1) hx hb dX10_lay_28 ?_
    refine iv_put (ci := 7) (v := .int (Int32.ofInt ((fi 27 + 1)))) (ty := .int) (C := RX10) (T := TX10) (N := 71) (ref := RX10) hx hb hts h1w tyX10 tyX10_ok nmX10 hown hX.1 hP hD hS 0 rfl rfl 27 (by decide) h3w (fun _ h9 => h9) rfl (by decide +kernel) rfl rfl (Nat.le_of_ble_eq_true rfl) (wM_F27 _ _ _ _ _) dX10_lay_29 (fun H locs hP hD hS => ?_)
    exact W.vret hx hb hr (fun t ht hW => ⟨⟨(g2, (fi 27 + 1)), rfl, (show (∀ t, inR (g2 t)) ∧ (inR (fi 27 + 1)) ∧ (((fi 24 = 0 → (fi 27 + 1) = fi 27 + 1) ∧ (¬ fi 24 = 0 → (fi 27 + 1) = fi 27)) ∧ (fi 24 = 0 → g2 = uA (fa 10) (600 + fi 27) s0) ∧ (¬ fi 24 = 0 → g2 = fa 10)) from ⟨rg2, (by omega), (by first | exact ⟨⟨fun h => absurd h (by omega), fun _ => rfl⟩, fun h => absurd h (by omega), fun _ => rfl⟩ | exact ⟨⟨fun _ => rfl, fun h => absurd (by omega) h⟩, fun _ => eg2, fun h => absurd (by omega) h⟩)⟩), by rw [ht]; exact hP, hD⟩, hS.F ht⟩) hS.2.2 dX10_lay_32
  · exact W.vret hx hb hr (fun t ht hW => ⟨⟨(fa 10, fi 27), rfl, (show (∀ t, inR ((fa 10) t)) ∧ (inR (fi 27)) ∧ (((fi 24 = 0 → (fi 27) = fi 27 + 1) ∧ (¬ fi 24 = 0 → (fi 27) = fi 27)) ∧ (fi 24 = 0 → (fa 10) = uA (fa 10) (600 + fi 27) s0) ∧ (¬ fi 24 = 0 → (fa 10) = fa 10)) from ⟨(hRa 10), (hR 27), (by first | exact ⟨⟨fun h => absurd h (by omega), fun _ => rfl⟩, fun h => absurd h (by omega), fun _ => rfl⟩ | exact ⟨⟨fun _ => rfl, fun h => absurd (by omega) h⟩, fun _ => efa 10, fun h => absurd (by omega) h⟩)⟩), by rw [ht]; exact hP, hD⟩, hS.F ht⟩) hS.2.2 dX10_lay_7

set_option maxHeartbeats 4000000 in
set_option maxRecDepth 100000 in
theorem mX10_readPart_6 (l : Launch) (G : va_G) (k : Nat → ClassId) (ar : Nat → Nat) (fi : Nat → Int) (fa : Nat → Int → Int) (fl : Nat → Int64) (hh : Int) (mm : Nat) (sz : Nat) (hR : ∀ j, inR (fi j)) (hRa : ∀ j t, inR (fa j t)) (htk : 0 ≤ fi 22 ∧ fi 22 ≤ fi 23 ∧ fi 23 ≤ fi 19 ∧ fi 19 ≤ 600 ∧ fi 18 = fi 23 ∧ 0 ≤ fi 20 ∧ fi 20 ≤ 4 ∧ (¬ fi 20 = 0 → fi 22 < fi 23)) (hla : 0 ≤ fi 27 ∧ fi 27 ≤ 600 ∧ (fi 24 = 0 → fi 27 ≤ fi 22)) (hhh : 0 ≤ hh ∧ hh ≤ 35) (hT : ∀ t, 0 ≤ t → t < fi 19 → 0 ≤ fa 16 t ∧ fa 16 t ≤ 255) (hty : TS (fa 16) (fi 19) (fi 24) (fi 22) (fi 23) (fi 20) (fi 21)) (hbd : ¬ fi 24 = 0) : CNv l G k (EZ k) yX10_readPart wzX10_readPart ({ frames := 0, cells := 0, slots := 0, locals := 0 }) [.ref (ar 71), .int (Int32.ofInt (6))] sz (wM k ar fi fa fl) (fun (u : Unit) => ((((0 ≤ (fi 22) ∧ (fi 22) ≤ (fi 23) ∧ (fi 23) ≤ fi 19 ∧ fi 19 ≤ 600 ∧ (fi 18) = (fi 23) ∧ 0 ≤ (fi 20) ∧ (fi 20) ≤ 4 ∧ (¬ (fi 20) = 0 → (fi 22) < (fi 23))) ∧ ((fi 24) = 0 → fi 24 = 0) ∧ fi 22 ≤ (fi 22) ∧ fi 27 ≤ (fi 27) ∧ (fi 27) ≤ 600 ∧ ((fi 24) = 0 → (fi 27) - fi 27 ≤ (fi 22) - fi 22)) ∧ (∀ t, t < 600 + fi 27 → (fa 10) t = fa 10 t) ∧ ((fi 24) = 0 → Seg (fa 10) (600 + fi 27) (600 + (fi 27)) hh (hh + 1))) ∧ TS (fa 16) (fi 19) (fi 24) (fi 22) (fi 23) (fi 20) (fi 21) ∧ val (fi 24) (fi 25) (fi 22) = bd (val (fi 24) (fi 25) (fi 22)) (partF (fa 16) (fi 19) (exF (fa 16) (fi 19) mm)) ∧ Em RM (fi 24) (fa 10) (fi 27) (fa 10) (fi 27) (partE (fa 16) (fi 19) (exE (fa 16) (fi 19) mm) (fi 22)))) (fun (u : Unit) => (wM k ar fi fa fl)) := by
  refine Met.ofW (cc := cX10_readPart) (maxL := 3) (ret := none) (by decide) rfl ?_
  intro p e s m args below meth c s₁ B hml hv
  obtain ⟨rfl, hsz, hP, hX, hD0, hZ0⟩ := hv
  have hx := B.exec
  have hb := B.bytes
  have hr := B.returns
  have hts := atoms_spec (ws := wzX10_readPart) B.pre
  have hown : s.vm.findClass RX10 = some m.cls := findClass_of_methodNamed B.named
  subst hsz
  have hD := hD0.self (sz := s.heap.size)
  have hZ := hZ0
  generalize hAe : va_A (wM k ar fi fa fl) s.heap.size = A at hD hZ ⊢
  have hA : ∀ q : Nat, s.heap.size ≤ q → A q := fun q h => by rw [← hAe]; exact Or.inr h
  have hS : va_S A s.heap s.heap [] := va_S.rf
  have hl := lv_entry ([.ref (ar 71), .int (Int32.ofInt (6))]) (n := 3) (Nat.le_of_ble_eq_true rfl)
  rw [lg_entry_eq]
  generalize (lg_sl ([.ref (ar 71), .int (Int32.ofInt (6))]) ++ List.replicate (3 - (lg_sl ([.ref (ar 71), .int (Int32.ofInt (6))])).length) Slot.unset).toArray = ls at hl ⊢
  have hl : lv_has ls 3 [(0, .ref (ar 71)), (1, .int (Int32.ofInt (6)))] := hl
  obtain ⟨H, eH⟩ : ∃ H, H = s.heap := ⟨_, rfl⟩
  rw [← eH] at hP
  have hS : va_S A s.heap H [] := by rw [eH]; exact hS
  have gW : s.heap = H := eH.symm
  refine iv_heap gW ?_
  have h0w := hts (.fieldLink RX10 223 "RopeTownModel" "bad" "I") (wz_at 16 11 rfl)
  have h1w : ∀ w ∈ wsX100, w ∈ wzX10_readPart := fun w h => List.mem_cons_of_mem _ (inlX10 w h)
  refine lv_aload_n hx hb dX10_readPart_0 rfl (lv_at hl 0 rfl) ?_
  refine va_get (D := G) (ci := 7) (v := .int (Int32.ofInt (fi 24))) (C := RX10) (T := TX10) (N := 71) (ref := RX10) hx hb hts h1w hown hX.1 hP 0 rfl rfl 24 (by decide) h0w (fun _ h9 => h9) rfl dX10_readPart_1 ?_
  have rf24 := hR 24
  refine iv_if_eq (tgt := 8) hx hb (by omega) dX10_readPart_4 (by decide) (fun q1 => ?_) (fun q1 => ?_)
  · exfalso; omega
  · exact W.vret hx hb hr (fun t ht hW => ⟨⟨(), rfl, (show ((((0 ≤ (fi 22) ∧ (fi 22) ≤ (fi 23) ∧ (fi 23) ≤ fi 19 ∧ fi 19 ≤ 600 ∧ (fi 18) = (fi 23) ∧ 0 ≤ (fi 20) ∧ (fi 20) ≤ 4 ∧ (¬ (fi 20) = 0 → (fi 22) < (fi 23))) ∧ ((fi 24) = 0 → fi 24 = 0) ∧ fi 22 ≤ (fi 22) ∧ fi 27 ≤ (fi 27) ∧ (fi 27) ≤ 600 ∧ ((fi 24) = 0 → (fi 27) - fi 27 ≤ (fi 22) - fi 22)) ∧ (∀ t, t < 600 + fi 27 → (fa 10) t = fa 10 t) ∧ ((fi 24) = 0 → Seg (fa 10) (600 + fi 27) (600 + (fi 27)) hh (hh + 1))) ∧ TS (fa 16) (fi 19) (fi 24) (fi 22) (fi 23) (fi 20) (fi 21) ∧ val (fi 24) (fi 25) (fi 22) = bd (val (fi 24) (fi 25) (fi 22)) (partF (fa 16) (fi 19) (exF (fa 16) (fi 19) mm)) ∧ Em RM (fi 24) (fa 10) (fi 27) (fa 10) (fi 27) (partE (fa 16) (fi 19) (exE (fa 16) (fi 19) mm) (fi 22))) from (by exact ⟨by exact ⟨by omega, fun t ht => rfl, fun h0 => absurd h0 (by omega)⟩, hty, fv_no (by omega), em_no (by omega)⟩)), by rw [ht]; exact hP, hD⟩, hS.F ht⟩) hS.2.2 dX10_readPart_7

