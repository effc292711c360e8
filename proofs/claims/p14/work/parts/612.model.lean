set_option maxHeartbeats 4000000 in
set_option maxRecDepth 100000 in
theorem mX10_add (l : Launch) (G : va_G) (k : Nat → ClassId) (ar : Nat → Nat) (fi : Nat → Int) (fa : Nat → Int → Int) (fl : Nat → Int64) (w0 : Int) (x0 : Int) (t0 : Int) (v0 : Int) (c0 : Int) (sz : Nat) (hR : ∀ j, inR (fi j)) (hRa : ∀ j t, inR (fa j t)) (hr_w0 : inR w0) (hr_x0 : inR x0) (hr_t0 : inR t0) (hr_v0 : inR v0) (hr_c0 : inR c0) (hmv : 0 ≤ fi 29 ∧ fi 29 < 60) (hPM : ∀ i, 0 ≤ i → i < fi 29 → ¬ fa 34 i = 2 → 0 ≤ fa 35 i ∧ fa 35 i < 7) (hq : w0 = 2 ∨ (0 ≤ x0 ∧ x0 < 7)) : CNv l G k (EZ k) yX10_add wzX10_add ({ frames := 0, cells := 0, slots := 0, locals := 0 }) [.ref (ar 71), .int (Int32.ofInt (w0)), .int (Int32.ofInt (x0)), .int (Int32.ofInt (t0)), .int (Int32.ofInt (v0)), .int (Int32.ofInt (c0))] sz (wM k ar fi fa fl) (fun (u : (Int → Int) × (Int → Int) × (Int → Int) × (Int → Int) × (Int → Int) × Int × Int) => (∀ t, inR (u.1 t)) ∧ (∀ t, inR (u.2.1 t)) ∧ (∀ t, inR (u.2.2.1 t)) ∧ (∀ t, inR (u.2.2.2.1 t)) ∧ (∀ t, inR (u.2.2.2.2.1 t)) ∧ (inR u.2.2.2.2.2.1) ∧ (inR u.2.2.2.2.2.2) ∧ (u.2.2.2.2.2.1 = fi 29 + 1 ∧ (∀ i, 0 ≤ i → i < u.2.2.2.2.2.1 → ¬ u.1 i = 2 → 0 ≤ u.2.1 i ∧ u.2.1 i < 7) ∧ (u.1 = uA (fa 34) (fi 29) w0 ∧ u.2.1 = uA (fa 35) (fi 29) x0 ∧ u.2.2.1 = uA (fa 36) (fi 29) t0 ∧ u.2.2.2.1 = uA (fa 37) (fi 29) v0))) (fun (u : (Int → Int) × (Int → Int) × (Int → Int) × (Int → Int) × (Int → Int) × Int × Int) => (wM k ar (uF (uF fi 29 (u.2.2.2.2.2.1)) 30 (u.2.2.2.2.2.2)) (uF (uF (uF (uF (uF fa 34 (u.1)) 35 (u.2.1)) 36 (u.2.2.1)) 37 (u.2.2.2.1)) 38 (u.2.2.2.2.1)) fl)) := by
  refine Met.ofW (cc := cX10_add) (maxL := 6) (ret := none) (by decide) rfl ?_
  intro p e s m args below meth c s₁ B hml hv
  obtain ⟨rfl, hsz, hP, hX, hD0, hZ0⟩ := hv
  have hx := B.exec
  have hb := B.bytes
  have hr := B.returns
  have hts := atoms_spec (ws := wzX10_add) B.pre
  have hown : s.vm.findClass RX10 = some m.cls := findClass_of_methodNamed B.named
  subst hsz
  have hD := hD0.self (sz := s.heap.size)
  have hZ := hZ0
  generalize hAe : va_A (wM k ar fi fa fl) s.heap.size = A at hD hZ ⊢
  have hA : ∀ q : Nat, s.heap.size ≤ q → A q := fun q h => by rw [← hAe]; exact Or.inr h
  have hS : va_S A s.heap s.heap [] := va_S.rf
  have hl := lv_entry ([.ref (ar 71), .int (Int32.ofInt (w0)), .int (Int32.ofInt (x0)), .int (Int32.ofInt (t0)), .int (Int32.ofInt (v0)), .int (Int32.ofInt (c0))]) (n := 6) (Nat.le_of_ble_eq_true rfl)
  rw [lg_entry_eq]
  generalize (lg_sl ([.ref (ar 71), .int (Int32.ofInt (w0)), .int (Int32.ofInt (x0)), .int (Int32.ofInt (t0)), .int (Int32.ofInt (v0)), .int (Int32.ofInt (c0))]) ++ List.replicate (6 - (lg_sl ([.ref (ar 71), .int (Int32.ofInt (w0)), .int (Int32.ofInt (x0)), .int (Int32.ofInt (t0)), .int (Int32.ofInt (v0)), .int (Int32.ofInt (c0))])).length) Slot.unset).toArray = ls at hl ⊢
  have hl : lv_has ls 6 [(0, .ref (ar 71)), (1, .int (Int32.ofInt (w0))), (2, .int (Int32.ofInt (x0))), (3, .int (Int32.ofInt (t0))), (4, .int (Int32.ofInt (v0))), (5, .int (Int32.ofInt (c0)))] := hl
  obtain ⟨H, eH⟩ : ∃ H, H = s.heap := ⟨_, rfl⟩
  rw [← eH] at hP
  have hS : va_S A s.heap H [] := by rw [eH]; exact hS
  have gW : s.heap = H := eH.symm
  refine iv_heap gW ?_
  have h0w := hts (.fieldLink RX10 93 "RopeTownModel" "moveWhich" "[I") (wz_at 6 19 rfl)
  have h1w : ∀ w ∈ wsX100, w ∈ wzX10_add := fun w h => List.mem_cons_of_mem _ (inlX10 w h)
  have h2w := hts (.fieldLink RX10 330 "RopeTownModel" "moves" "I") (wz_at 21 14 rfl)
  have h3w := hts (.fieldLink RX10 96 "RopeTownModel" "moveWhat" "[I") (wz_at 6 20 rfl)
  have h4w := hts (.fieldLink RX10 99 "RopeTownModel" "moveTo" "[I") (wz_at 6 21 rfl)
  have h5w := hts (.fieldLink RX10 102 "RopeTownModel" "moveWas" "[I") (wz_at 6 22 rfl)
  have h6w := hts (.fieldLink RX10 105 "RopeTownModel" "moveCost" "[I") (wz_at 6 23 rfl)
  have h7w := hts (.fieldLink RX10 333 "RopeTownModel" "cost" "I") (wz_at 21 15 rfl)
  refine lv_aload_n hx hb dX10_add_0 rfl (lv_at hl 0 rfl) ?_
  refine va_get (D := G) (ci := 7) (v := .ref (ar 34)) (C := RX10) (T := TX10) (N := 71) (ref := RX10) hx hb hts h1w hown hX.1 hP 0 rfl rfl 34 (by decide) h0w (fun _ h9 => h9) rfl dX10_add_1 ?_
  refine lv_aload_n hx hb dX10_add_4 rfl (lv_at hl 0 rfl) ?_
  refine va_get (D := G) (ci := 7) (v := .int (Int32.ofInt (fi 29))) (C := RX10) (T := TX10) (N := 71) (ref := RX10) hx hb hts h1w hown hX.1 hP 0 rfl rfl 29 (by decide) h2w (fun _ h9 => h9) rfl dX10_add_5 ?_
  have rf29 := hR 29
  refine lv_iload_n hx hb dX10_add_8 rfl (lv_at hl 1 rfl) ?_
  refine iv_iast hx hb hX.1 hP hD hS 13 0 rfl rfl (wM_A34 _ _ _ _ _) (by omega) (by omega) (by decide) dX10_add_9 (fun H locs hP hD hS => ?_)
  obtain ⟨g1, eg1, rg1⟩ : ∃ z, z = uA (fa 34) (fi 29) (w0) ∧ ∀ t, inR (z t) := ⟨_, rfl, iU (hRa 34) (by omega)⟩
  rw [← eg1] at hP hD
  refine lv_aload_n hx hb dX10_add_10 rfl (lv_at hl 0 rfl) ?_
  refine va_get (D := G) (ci := 7) (v := .ref (ar 35)) (C := RX10) (T := TX10) (N := 71) (ref := RX10) hx hb hts h1w hown hX.1 hP 0 rfl rfl 35 (by decide) h3w (fun _ h9 => h9) rfl dX10_add_11 ?_
  refine lv_aload_n hx hb dX10_add_14 rfl (lv_at hl 0 rfl) ?_
  refine va_get (D := G) (ci := 7) (v := .int (Int32.ofInt (fi 29))) (C := RX10) (T := TX10) (N := 71) (ref := RX10) hx hb hts h1w hown hX.1 hP 0 rfl rfl 29 (by decide) h2w (fun _ h9 => h9) rfl dX10_add_15 ?_
  have rf29 := hR 29
  refine lv_iload_n hx hb dX10_add_18 rfl (lv_at hl 2 rfl) ?_
  refine iv_iast hx hb hX.1 hP hD hS 14 0 rfl rfl (wM_A35 _ _ _ _ _) (by omega) (by omega) (by decide) dX10_add_19 (fun H locs hP hD hS => ?_)
  obtain ⟨hP, hD⟩ : va_P G vwCl (wM k ar fi (uF (uF fa 34 (g1)) 35 (uA (fa 35) (fi 29) (x0))) fl) H ∧ va_D A (wM k ar fi (uF (uF fa 34 (g1)) 35 (uA (fa 35) (fi 29) (x0))) fl) := ⟨hP, hD⟩
  obtain ⟨g2, eg2, rg2⟩ : ∃ z, z = uA (fa 35) (fi 29) (x0) ∧ ∀ t, inR (z t) := ⟨_, rfl, iU (hRa 35) (by omega)⟩
  rw [← eg2] at hP hD
  refine lv_aload_n hx hb dX10_add_20 rfl (lv_at hl 0 rfl) ?_
  refine va_get (D := G) (ci := 7) (v := .ref (ar 36)) (C := RX10) (T := TX10) (N := 71) (ref := RX10) hx hb hts h1w hown hX.1 hP 0 rfl rfl 36 (by decide) h4w (fun _ h9 => h9) rfl dX10_add_21 ?_
  refine lv_aload_n hx hb dX10_add_24 rfl (lv_at hl 0 rfl) ?_
  refine va_get (D := G) (ci := 7) (v := .int (Int32.ofInt (fi 29))) (C := RX10) (T := TX10) (N := 71) (ref := RX10) hx hb hts h1w hown hX.1 hP 0 rfl rfl 29 (by decide) h2w (fun _ h9 => h9) rfl dX10_add_25 ?_
  have rf29 := hR 29
  refine lv_iload_n hx hb dX10_add_28 rfl (lv_at hl 3 rfl) ?_
  refine iv_iast hx hb hX.1 hP hD hS 15 0 rfl rfl (wM_A36 _ _ _ _ _) (by omega) (by omega) (by decide) dX10_add_29 (fun H locs hP hD hS => ?_)
  obtain ⟨hP, hD⟩ : va_P G vwCl (wM k ar fi (uF (uF (uF fa 34 (g1)) 35 (g2)) 36 (uA (fa 36) (fi 29) (t0))) fl) H ∧ va_D A (wM k ar fi (uF (uF (uF fa 34 (g1)) 35 (g2)) 36 (uA (fa 36) (fi 29) (t0))) fl) := ⟨hP, hD⟩
  obtain ⟨g3, eg3, rg3⟩ : ∃ z, z = uA (fa 36) (fi 29) (t0) ∧ ∀ t, inR (z t) := ⟨_, rfl, iU (hRa 36) (by omega)⟩
  rw [← eg3] at hP hD
  refine lv_aload_n hx hb dX10_add_30 rfl (lv_at hl 0 rfl) ?_
  refine va_get (D := G) (ci := 7) (v := .ref (ar 37)) (C := RX10) (T := TX10) (N := 71) (ref := RX10) hx hb hts h1w hown hX.1 hP 0 rfl rfl 37 (by decide) h5w (fun _ h9 => h9) rfl dX10_add_31 ?_
  refine lv_aload_n hx hb dX10_add_34 rfl (lv_at hl 0 rfl) ?_
  refine va_get (D := G) (ci := 7) (v := .int (Int32.ofInt (fi 29))) (C := RX10) (T := TX10) (N := 71) (ref := RX10) hx hb hts h1w hown hX.1 hP 0 rfl rfl 29 (by decide) h2w (fun _ h9 => h9) rfl dX10_add_35 ?_
  have rf29 := hR 29
  refine lv_iload hx hb dX10_add_38 (lv_at hl 4 rfl) ?_
  refine iv_iast hx hb hX.1 hP hD hS 16 0 rfl rfl (wM_A37 _ _ _ _ _) (by omega) (by omega) (by decide) dX10_add_40 (fun H locs hP hD hS => ?_)
  obtain ⟨hP, hD⟩ : va_P G vwCl (wM k ar fi (uF (uF (uF (uF fa 34 (g1)) 35 (g2)) 36 (g3)) 37 (uA (fa 37) (fi 29) (v0))) fl) H ∧ va_D A (wM k ar fi (uF (uF (uF (uF fa 34 (g1)) 35 (g2)) 36 (g3)) 37 (uA (fa 37) (fi 29) (v0))) fl) := ⟨hP, hD⟩
  obtain ⟨g4, eg4, rg4⟩ : ∃ z, z = uA (fa 37) (fi 29) (v0) ∧ ∀ t, inR (z t) := ⟨_, rfl, iU (hRa 37) (by omega)⟩
  rw [← eg4] at hP hD
  refine lv_aload_n hx hb dX10_add_41 rfl (lv_at hl 0 rfl) ?_
  refine va_get (D := G) (ci := 7) (v := .ref (ar 38)) (C := RX10) (T := TX10) (N := 71) (ref := RX10) hx hb hts h1w hown hX.1 hP 0 rfl rfl 38 (by decide) h6w (fun _ h9 => h9) rfl dX10_add_42 ?_
  refine lv_aload_n hx hb dX10_add_45 rfl (lv_at hl 0 rfl) ?_
  refine va_get (D := G) (ci := 7) (v := .int (Int32.ofInt (fi 29))) (C := RX10) (T := TX10) (N := 71) (ref := RX10) hx hb hts h1w hown hX.1 hP 0 rfl rfl 29 (by decide) h2w (fun _ h9 => h9) rfl dX10_add_46 ?_
  have rf29 := hR 29
  refine lv_iload hx hb dX10_add_49 (lv_at hl 5 rfl) ?_
  refine iv_iast hx hb hX.1 hP hD hS 17 0 rfl rfl (wM_A38 _ _ _ _ _) (by omega) (by omega) (by decide) dX10_add_51 (fun H locs hP hD hS => ?_)
  obtain ⟨hP, hD⟩ : va_P G vwCl (wM k ar fi (uF (uF (uF (uF (uF fa 34 (g1)) 35 (g2)) 36 (g3)) 37 (g4)) 38 (uA (fa 38) (fi 29) (c0))) fl) H ∧ va_D A (wM k ar fi (uF (uF (uF (uF (uF fa 34 (g1)) 35 (g2)) 36 (g3)) 37 (g4)) 38 (uA (fa 38) (fi 29) (c0))) fl) := ⟨hP, hD⟩
  obtain ⟨g5, eg5, rg5⟩ : ∃ z, z = uA (fa 38) (fi 29) (c0) ∧ ∀ t, inR (z t) := ⟨_, rfl, iU (hRa 38) (by omega)⟩
  rw [← eg5] at hP hD
  refine lv_aload_n hx hb dX10_add_52 rfl (lv_at hl 0 rfl) ?_
  refine lv_dup hx hb dX10_add_53 rfl ?_
  refine va_get (D := G) (ci := 7) (v := .int (Int32.ofInt (fi 29))) (C := RX10) (T := TX10) (N := 71) (ref := RX10) hx hb hts h1w hown hX.1 hP 0 rfl rfl 29 (by decide) h2w (fun _ h9 => h9) rfl dX10_add_54 ?_
  have rf29 := hR 29
  refine lv_iconst (v := Int32.ofInt 1) hx hb dX10_add_57 (by decide +kernel) ?_
  refine iv_add (x := fi 29) (y := 1) hx hb dX10_add_58 ?_
  refine iv_put (ci := 7) (v := .int (Int32.ofInt ((fi 29 + 1)))) (ty := .int) (C := RX10) (T := TX10) (N := 71) (ref := RX10) hx hb hts h1w tyX10 tyX10_ok nmX10 hown hX.1 hP hD hS 0 rfl rfl 29 (by decide) h2w (fun _ h9 => h9) rfl (by decide +kernel) rfl rfl (Nat.le_of_ble_eq_true rfl) (wM_F29 _ _ _ _ _) dX10_add_59 (fun H locs hP hD hS => ?_)
  refine lv_aload_n hx hb dX10_add_62 rfl (lv_at hl 0 rfl) ?_
  refine lv_dup hx hb dX10_add_63 rfl ?_
  refine va_get (D := G) (ci := 7) (v := .int (Int32.ofInt (fi 30))) (C := RX10) (T := TX10) (N := 71) (ref := RX10) hx hb hts h1w hown hX.1 hP 0 rfl rfl 30 (by decide) h7w (fun _ h9 => h9) rfl dX10_add_64 ?_
  have rf30 := hR 30
  refine lv_iload hx hb dX10_add_67 (lv_at hl 5 rfl) ?_
  refine iv_add (x := fi 30) (y := c0) hx hb dX10_add_69 ?_
  refine iv_wr ?_
  refine iv_top (fun z6 ez6 => ?_)
  have rz6 : inR z6 := ez6 ▸ bWr_r _
  refine iv_put (ci := 7) (v := .int (Int32.ofInt (z6))) (ty := .int) (C := RX10) (T := TX10) (N := 71) (ref := RX10) hx hb hts h1w tyX10 tyX10_ok nmX10 hown hX.1 hP hD hS 0 rfl rfl 30 (by decide) h7w (fun _ h9 => h9) rfl (by decide +kernel) rfl rfl (Nat.le_of_ble_eq_true rfl) (wM_F30 _ _ _ _ _) dX10_add_70 (fun H locs hP hD hS => ?_)
  exact W.vret hx hb hr (fun t ht hW => ⟨⟨(g1, g2, g3, g4, g5, (fi 29 + 1), z6), rfl, (show (∀ t, inR (g1 t)) ∧ (∀ t, inR (g2 t)) ∧ (∀ t, inR (g3 t)) ∧ (∀ t, inR (g4 t)) ∧ (∀ t, inR (g5 t)) ∧ (inR (fi 29 + 1)) ∧ (inR z6) ∧ ((fi 29 + 1) = fi 29 + 1 ∧ (∀ i, 0 ≤ i → i < (fi 29 + 1) → ¬ g1 i = 2 → 0 ≤ g2 i ∧ g2 i < 7) ∧ (g1 = uA (fa 34) (fi 29) w0 ∧ g2 = uA (fa 35) (fi 29) x0 ∧ g3 = uA (fa 36) (fi 29) t0 ∧ g4 = uA (fa 37) (fi 29) v0)) from ⟨rg1, rg2, rg3, rg4, rg5, (by omega), (by omega), (by exact ⟨by omega, pm_add hmv.1 hPM eg1 eg2 hq, eg1, eg2, eg3, eg4⟩)⟩), by rw [ht]; exact hP, hD⟩, hS.F ht⟩) hS.2.2 dX10_add_73

set_option maxHeartbeats 4000000 in
set_option maxRecDepth 100000 in
theorem mX10_load (l : Launch) (G : va_G) (k : Nat → ClassId) (ar : Nat → Nat) (fi : Nat → Int) (fa : Nat → Int → Int) (fl : Nat → Int64) (t0 : Int) (b0 : Int) (sz : Nat) (hR : ∀ j, inR (fi j)) (hRa : ∀ j t, inR (fa j t)) (hr_t0 : inR t0) (hr_b0 : inR b0) (hth : 0 ≤ fi 12 ∧ fi 12 ≤ 7) (hmv : 0 ≤ fi 29 ∧ fi 29 ≤ 60) (hPM : ∀ i, 0 ≤ i → i < fi 29 → ¬ fa 34 i = 2 → 0 ≤ fa 35 i ∧ fa 35 i < 7) : CNi l G k (EZ k) yX10_load wzX10_load ({ frames := 2, cells := 0, slots := 0, locals := 43 }) [.ref (ar 71), .int (Int32.ofInt (t0)), .int (Int32.ofInt (b0))] sz (wM k ar fi fa fl) (fun (r0 : Int32) (u : Int × (Int → Int) × (Int → Int) × (Int → Int) × (Int → Int) × (Int → Int) × (Int → Int) × (Int → Int) × Int × Int × Int) => r0 = Int32.ofInt (u.1) ∧ (inR u.1) ∧ (∀ t, inR (u.2.1 t)) ∧ (∀ t, inR (u.2.2.1 t)) ∧ (∀ t, inR (u.2.2.2.1 t)) ∧ (∀ t, inR (u.2.2.2.2.1 t)) ∧ (∀ t, inR (u.2.2.2.2.2.1 t)) ∧ (∀ t, inR (u.2.2.2.2.2.2.1 t)) ∧ (∀ t, inR (u.2.2.2.2.2.2.2.1 t)) ∧ (inR u.2.2.2.2.2.2.2.2.1) ∧ (inR u.2.2.2.2.2.2.2.2.2.1) ∧ (inR u.2.2.2.2.2.2.2.2.2.2) ∧ (((0 ≤ u.2.2.2.2.2.2.2.2.2.1 ∧ u.2.2.2.2.2.2.2.2.2.1 ≤ 60) ∧ (∀ i, 0 ≤ i → i < u.2.2.2.2.2.2.2.2.2.1 → ¬ u.2.2.2.1 i = 2 → 0 ≤ u.2.2.2.2.1 i ∧ u.2.2.2.2.1 i < 7)) ∧ MvM u.1 (fi 29) u.2.2.2.2.2.2.2.2.2.1 (fa 34) u.2.2.2.1 (fa 35) u.2.2.2.2.1 (fa 36) u.2.2.2.2.2.1 (fa 37) u.2.2.2.2.2.2.1 0 t0 b0 (fa 32 t0) ∧ PlM u.1 (fa 32) u.2.2.1 t0 (12 + b0) ∧ u.1 = ldM (fi 12) t0 b0 (fa 32 t0) (fa 7 t0) (fi 28) (fa 3 0) (fi 29))) (fun (u : Int × (Int → Int) × (Int → Int) × (Int → Int) × (Int → Int) × (Int → Int) × (Int → Int) × (Int → Int) × Int × Int × Int) => (wM k ar (uF (uF (uF fi 2 (u.2.2.2.2.2.2.2.2.1)) 29 (u.2.2.2.2.2.2.2.2.2.1)) 30 (u.2.2.2.2.2.2.2.2.2.2)) (uF (uF (uF (uF (uF (uF (uF fa 11 (u.2.1)) 32 (u.2.2.1)) 34 (u.2.2.2.1)) 35 (u.2.2.2.2.1)) 36 (u.2.2.2.2.2.1)) 37 (u.2.2.2.2.2.2.1)) 38 (u.2.2.2.2.2.2.2.1)) fl)) := by
  refine Met.ofW (cc := cX10_load) (maxL := 4) (ret := (some .int)) (by decide) rfl ?_
  intro p e s m args below meth c s₁ B hml hv
  obtain ⟨rfl, hsz, hP, hX, hD0, hZ0⟩ := hv
  have hx := B.exec
  have hb := B.bytes
  have hr := B.returns
  have hts := atoms_spec (ws := wzX10_load) B.pre
  have hown : s.vm.findClass RX10 = some m.cls := findClass_of_methodNamed B.named
  subst hsz
  have hD := hD0.self (sz := s.heap.size)
  have hZ := hZ0
  generalize hAe : va_A (wM k ar fi fa fl) s.heap.size = A at hD hZ ⊢
  have hA : ∀ q : Nat, s.heap.size ≤ q → A q := fun q h => by rw [← hAe]; exact Or.inr h
  have hS : va_S A s.heap s.heap [] := va_S.rf
  have hl := lv_entry ([.ref (ar 71), .int (Int32.ofInt (t0)), .int (Int32.ofInt (b0))]) (n := 4) (Nat.le_of_ble_eq_true rfl)
  rw [lg_entry_eq]
  generalize (lg_sl ([.ref (ar 71), .int (Int32.ofInt (t0)), .int (Int32.ofInt (b0))]) ++ List.replicate (4 - (lg_sl ([.ref (ar 71), .int (Int32.ofInt (t0)), .int (Int32.ofInt (b0))])).length) Slot.unset).toArray = ls at hl ⊢
  have hl : lv_has ls 4 [(0, .ref (ar 71)), (1, .int (Int32.ofInt (t0))), (2, .int (Int32.ofInt (b0)))] := hl
  obtain ⟨H, eH⟩ : ∃ H, H = s.heap := ⟨_, rfl⟩
  rw [← eH] at hP
  have hS : va_S A s.heap H [] := by rw [eH]; exact hS
  have gW : s.heap = H := eH.symm
  refine iv_heap gW ?_
  have h0w := hts (.fieldLink RX10 171 "RopeTownModel" "code" "I") (wz_at 8 12 rfl)
  have h1w : ∀ w ∈ wsX100, w ∈ wzX10_load := fun w h => List.mem_cons_of_mem _ (inlX10 w h)
  have h2w := hts (.fieldLink RX10 87 "RopeTownModel" "place" "[I") (wz_at 6 17 rfl)
  have h3w := hts (.fieldLink RX10 327 "RopeTownModel" "bucket0" "I") (wz_at 21 13 rfl)
  have h4w := hts (.fieldLink RX10 330 "RopeTownModel" "moves" "I") (wz_at 21 14 rfl)
  refine lv_aload_n hx hb dX10_load_0 rfl (lv_at hl 0 rfl) ?_
  refine lv_iconst (v := Int32.ofInt 0) hx hb dX10_load_1 (by decide +kernel) ?_
  refine iv_put (ci := 7) (v := .int (Int32.ofInt (0))) (ty := .int) (C := RX10) (T := TX10) (N := 71) (ref := RX10) hx hb hts h1w tyX10 tyX10_ok nmX10 hown hX.1 hP hD hS 0 rfl rfl 2 (by decide) h0w (fun _ h9 => h9) rfl (by decide +kernel) rfl rfl (Nat.le_of_ble_eq_true rfl) (wM_F2 _ _ _ _ _) dX10_load_2 (fun H locs hP hD hS => ?_)
  refine lv_aload_n hx hb dX10_load_5 rfl (lv_at hl 0 rfl) ?_
  refine lv_iload_n hx hb dX10_load_6 rfl (lv_at hl 1 rfl) ?_
  refine cr_i (va_runV (As := [.int (Int32.ofInt (t0))]) (rest := []) ⟨hx, hb, hml, hown, hts⟩ (mX10_isThing l G k ar (uF fi 2 (0)) fa fl t0 H.size (iF hR (by omega)) hRa (by omega) (show 0 ≤ (fi 12) ∧ (fi 12) ≤ 7 from by omega)) (cwV 1 hts (gz [.methodLink RX10 349 yX10_isThing, .instanceMethod yX10_isThing, .selects RX10 yX10_isThing yX10_isThing, .initialized RX10] (.code yX10_isThing cX10_isThing 2 (some .boolean)) [(24, 3), (24, 4), (24, 5), (0, 5), (24, 6)] rfl) rfl rfl rfl (by decide +kernel) ⟨Nat.le_of_ble_eq_true rfl, Nat.le_of_ble_eq_true rfl⟩) (cr_preV (EZ_ok k) hZ hS hX hP hD hA (ci := 7) (q0 := 0) rfl rfl) rfl rfl hl.1 rfl (lv_room (Nat.le_of_ble_eq_true rfl)) dX10_load_7 ⟨Nat.le_of_ble_eq_true rfl, Nat.le_of_ble_eq_true rfl⟩) hD hS hA (fun r u H locs hp hP hD hS => ?_)
  obtain ⟨c1, rfl⟩ : ∃ z, z = u := ⟨_, rfl⟩
  obtain ⟨h9, rc1, hp1⟩ : r = Int32.ofInt c1 ∧ (inR c1) ∧ ((c1 = 1 ∧ 0 ≤ t0 ∧ t0 < (fi 12)) ∨ (c1 = 0 ∧ (t0 < 0 ∨ (fi 12) ≤ t0))) := hp
  subst h9
  refine iv_if_eq (tgt := 22) hx hb (by omega) dX10_load_10 (by decide) (fun q2 => ?_) (fun q2 => ?_)
  · refine lv_aload_n hx hb dX10_load_22 rfl (lv_at hl 0 rfl) ?_
    refine lv_iconst (v := Int32.ofInt 1) hx hb dX10_load_23 (by decide +kernel) ?_
    refine cr_i (va_runV (As := [.int (Int32.ofInt (1))]) (rest := []) ⟨hx, hb, hml, hown, hts⟩ (mX10_refuse l G k ar (uF fi 2 (0)) fa fl 1 H.size (iF hR (by omega)) hRa (by omega)) (cwV 1 hts (gz [.methodLink RX10 412 yX10_refuse, .instanceMethod yX10_refuse, .selects RX10 yX10_refuse yX10_refuse, .initialized RX10] (.code yX10_refuse cX10_refuse 2 (some .int)) [(27, 20), (27, 21), (27, 22), (0, 5), (27, 23)] rfl) rfl rfl rfl (by decide +kernel) ⟨Nat.le_of_ble_eq_true rfl, Nat.le_of_ble_eq_true rfl⟩) (cr_preV (EZ_ok k) hZ hS hX hP hD hA (ci := 7) (q0 := 0) rfl rfl) rfl rfl hl.1 rfl (lv_room (Nat.le_of_ble_eq_true rfl)) dX10_load_24 ⟨Nat.le_of_ble_eq_true rfl, Nat.le_of_ble_eq_true rfl⟩) hD hS hA (fun r u H locs hp hP hD hS => ?_)
    obtain ⟨c3, c4⟩ := u
    obtain ⟨hP, hD⟩ : va_P G vwCl (wM k ar (uF fi 2 (0)) (uF fa 11 (c4)) fl) H ∧ va_D A (wM k ar (uF fi 2 (0)) (uF fa 11 (c4)) fl) := ⟨hP, hD⟩
    obtain ⟨h9, rc3, rc4, hp4⟩ : r = Int32.ofInt c3 ∧ (inR c3) ∧ (∀ t, inR (c4 t)) ∧ (c3 = 1) := hp
    subst h9
    exact W.iret (v := Int32.ofInt (c3)) hx hb hr (fun t ht hW => ⟨⟨Int32.ofInt (c3), (c3, c4, fa 32, fa 34, fa 35, fa 36, fa 37, fa 38, 0, fi 29, fi 30), rfl, ⟨rfl, (show (inR c3) ∧ (∀ t, inR (c4 t)) ∧ (∀ t, inR ((fa 32) t)) ∧ (∀ t, inR ((fa 34) t)) ∧ (∀ t, inR ((fa 35) t)) ∧ (∀ t, inR ((fa 36) t)) ∧ (∀ t, inR ((fa 37) t)) ∧ (∀ t, inR ((fa 38) t)) ∧ (inR 0) ∧ (inR (fi 29)) ∧ (inR (fi 30)) ∧ (((0 ≤ (fi 29) ∧ (fi 29) ≤ 60) ∧ (∀ i, 0 ≤ i → i < (fi 29) → ¬ (fa 34) i = 2 → 0 ≤ (fa 35) i ∧ (fa 35) i < 7)) ∧ MvM c3 (fi 29) (fi 29) (fa 34) (fa 34) (fa 35) (fa 35) (fa 36) (fa 36) (fa 37) (fa 37) 0 t0 b0 (fa 32 t0) ∧ PlM c3 (fa 32) (fa 32) t0 (12 + b0) ∧ c3 = ldM (fi 12) t0 b0 (fa 32 t0) (fa 7 t0) (fi 28) (fa 3 0) (fi 29)) from ⟨(by omega), rc4, (hRa 32), (hRa 34), (hRa 35), (hRa 36), (hRa 37), (hRa 38), (by omega), (hR 29), (hR 30), (by first | exact ⟨⟨by omega, hPM⟩, mv_no (by omega), pl_no (by omega), by unfold ldM svM; omega⟩ | exact ⟨⟨by omega, hP9⟩, mv_ok rfl (by omega) hA9 (by omega), pl_ok rfl efa 32 rfl, by unfold ldM svM; omega⟩)⟩)⟩, by rw [ht]; exact hP, hD⟩, hS.F ht⟩) hS.2.2 dX10_load_27
  · refine lv_iload_n hx hb dX10_load_13 rfl (lv_at hl 2 rfl) ?_
    refine lv_iconst (v := Int32.ofInt 0) hx hb dX10_load_14 (by decide +kernel) ?_
    refine lv_iconst (v := Int32.ofInt 1) hx hb dX10_load_15 (by decide +kernel) ?_
    refine c0_i (va_runS (As := [.int (Int32.ofInt (b0)), .int (Int32.ofInt (0)), .int (Int32.ofInt (1))]) (rest := []) ⟨hx, hb, hml, hown, hts⟩ (mX10_isIn l G k b0 0 1 H.size (by omega) (by omega) (by omega)) (cwS 3 hts (gz [.methodLink RX10 177 yX10_isIn, .static yX10_isIn, .initialized RX10] (.code yX10_isIn cX10_isIn 3 (some .boolean)) [(18, 16), (18, 17), (0, 5), (18, 18)] rfl) rfl rfl rfl (by decide +kernel) ⟨Nat.le_of_ble_eq_true rfl, Nat.le_of_ble_eq_true rfl⟩) (cr_pre0 (EZ_ok k) hZ hS hX hP hD hA) rfl rfl hl.1 rfl (lv_room (Nat.le_of_ble_eq_true rfl)) dX10_load_16 ⟨Nat.le_of_ble_eq_true rfl, Nat.le_of_ble_eq_true rfl⟩) hP hD hS hA (fun r u H locs hp hP hD hS => ?_)
    obtain ⟨c5, rfl⟩ : ∃ z, z = u := ⟨_, rfl⟩
    obtain ⟨h9, rc5, hp5⟩ : r = Int32.ofInt c5 ∧ (inR c5) ∧ ((c5 = 1 ∧ 0 ≤ b0 ∧ b0 ≤ 1) ∨ (c5 = 0 ∧ (b0 < 0 ∨ 1 < b0))) := hp
    subst h9
    refine iv_if_ne (tgt := 28) hx hb (by omega) dX10_load_19 (by decide) (fun q6 => ?_) (fun q6 => ?_)
    · refine lv_aload_n hx hb dX10_load_28 rfl (lv_at hl 0 rfl) ?_
      refine va_get (D := G) (ci := 7) (v := .ref (ar 32)) (C := RX10) (T := TX10) (N := 71) (ref := RX10) hx hb hts h1w hown hX.1 hP 0 rfl rfl 32 (by decide) h2w (fun _ h9 => h9) rfl dX10_load_29 ?_
      refine lv_iload_n hx hb dX10_load_32 rfl (lv_at hl 1 rfl) ?_
      refine iv_iald hx hb hX.1 hP 11 0 rfl rfl (by omega) (by omega) (by decide) dX10_load_33 ?_
      refine iv_top (fun z7 ez7 => ?_)
      have rz7 : inR z7 := ez7 ▸ (hRa 32) _
      have ez7 : z7 = (fa 32) t0 := ez7
      refine lv_istore_n (lv' := [(3, .int (Int32.ofInt (z7))), (0, .ref (ar 71)), (1, .int (Int32.ofInt (t0))), (2, .int (Int32.ofInt (b0)))]) hx hb dX10_load_34 rfl hl (by decide) rfl (fun ls hl => ?_)
      refine lv_iload_n hx hb dX10_load_35 rfl (lv_at hl 0 rfl) ?_
      refine lv_bipush (v := Int32.ofInt 12) hx hb dX10_load_36 (by decide +kernel) ?_
      refine iv_icmp_eq (tgt := 56) hx hb (by omega) (by omega) dX10_load_38 (by decide) (fun q8 => ?_) (fun q8 => ?_)
      · refine lv_aload_n hx hb dX10_load_56 rfl (lv_at hl 1 rfl) ?_
        refine lv_iconst (v := Int32.ofInt 2) hx hb dX10_load_57 (by decide +kernel) ?_
        refine cr_i (va_runV (As := [.int (Int32.ofInt (2))]) (rest := []) ⟨hx, hb, hml, hown, hts⟩ (mX10_refuse l G k ar (uF fi 2 (0)) fa fl 2 H.size (iF hR (by omega)) hRa (by omega)) (cwV 1 hts (gz [.methodLink RX10 412 yX10_refuse, .instanceMethod yX10_refuse, .selects RX10 yX10_refuse yX10_refuse, .initialized RX10] (.code yX10_refuse cX10_refuse 2 (some .int)) [(27, 20), (27, 21), (27, 22), (0, 5), (27, 23)] rfl) rfl rfl rfl (by decide +kernel) ⟨Nat.le_of_ble_eq_true rfl, Nat.le_of_ble_eq_true rfl⟩) (cr_preV (EZ_ok k) hZ hS hX hP hD hA (ci := 7) (q0 := 0) rfl rfl) rfl rfl hl.1 rfl (lv_room (Nat.le_of_ble_eq_true rfl)) dX10_load_58 ⟨Nat.le_of_ble_eq_true rfl, Nat.le_of_ble_eq_true rfl⟩) hD hS hA (fun r u H locs hp hP hD hS => ?_)
        obtain ⟨c9, c10⟩ := u
        obtain ⟨hP, hD⟩ : va_P G vwCl (wM k ar (uF fi 2 (0)) (uF fa 11 (c10)) fl) H ∧ va_D A (wM k ar (uF fi 2 (0)) (uF fa 11 (c10)) fl) := ⟨hP, hD⟩
        obtain ⟨h9, rc9, rc10, hp10⟩ : r = Int32.ofInt c9 ∧ (inR c9) ∧ (∀ t, inR (c10 t)) ∧ (c9 = 2) := hp
        subst h9
        exact W.iret (v := Int32.ofInt (c9)) hx hb hr (fun t ht hW => ⟨⟨Int32.ofInt (c9), (c9, c10, fa 32, fa 34, fa 35, fa 36, fa 37, fa 38, 0, fi 29, fi 30), rfl, ⟨rfl, (show (inR c9) ∧ (∀ t, inR (c10 t)) ∧ (∀ t, inR ((fa 32) t)) ∧ (∀ t, inR ((fa 34) t)) ∧ (∀ t, inR ((fa 35) t)) ∧ (∀ t, inR ((fa 36) t)) ∧ (∀ t, inR ((fa 37) t)) ∧ (∀ t, inR ((fa 38) t)) ∧ (inR 0) ∧ (inR (fi 29)) ∧ (inR (fi 30)) ∧ (((0 ≤ (fi 29) ∧ (fi 29) ≤ 60) ∧ (∀ i, 0 ≤ i → i < (fi 29) → ¬ (fa 34) i = 2 → 0 ≤ (fa 35) i ∧ (fa 35) i < 7)) ∧ MvM c9 (fi 29) (fi 29) (fa 34) (fa 34) (fa 35) (fa 35) (fa 36) (fa 36) (fa 37) (fa 37) 0 t0 b0 (fa 32 t0) ∧ PlM c9 (fa 32) (fa 32) t0 (12 + b0) ∧ c9 = ldM (fi 12) t0 b0 (fa 32 t0) (fa 7 t0) (fi 28) (fa 3 0) (fi 29)) from ⟨(by omega), rc10, (hRa 32), (hRa 34), (hRa 35), (hRa 36), (hRa 37), (hRa 38), (by omega), (hR 29), (hR 30), (by first | exact ⟨⟨by omega, hPM⟩, mv_no (by omega), pl_no (by omega), by unfold ldM svM; omega⟩ | exact ⟨⟨by omega, hP9⟩, mv_ok rfl (by omega) hA9 (by omega), pl_ok rfl efa 32 rfl, by unfold ldM svM; omega⟩)⟩)⟩, by rw [ht]; exact hP, hD⟩, hS.F ht⟩) hS.2.2 dX10_load_61
      · refine lv_iload_n hx hb dX10_load_41 rfl (lv_at hl 0 rfl) ?_
        refine lv_bipush (v := Int32.ofInt 13) hx hb dX10_load_42 (by decide +kernel) ?_
        refine iv_icmp_eq (tgt := 56) hx hb (by omega) (by omega) dX10_load_44 (by decide) (fun q11 => ?_) (fun q11 => ?_)
        · refine lv_aload_n hx hb dX10_load_56 rfl (lv_at hl 1 rfl) ?_
          refine lv_iconst (v := Int32.ofInt 2) hx hb dX10_load_57 (by decide +kernel) ?_
          refine cr_i (va_runV (As := [.int (Int32.ofInt (2))]) (rest := []) ⟨hx, hb, hml, hown, hts⟩ (mX10_refuse l G k ar (uF fi 2 (0)) fa fl 2 H.size (iF hR (by omega)) hRa (by omega)) (cwV 1 hts (gz [.methodLink RX10 412 yX10_refuse, .instanceMethod yX10_refuse, .selects RX10 yX10_refuse yX10_refuse, .initialized RX10] (.code yX10_refuse cX10_refuse 2 (some .int)) [(27, 20), (27, 21), (27, 22), (0, 5), (27, 23)] rfl) rfl rfl rfl (by decide +kernel) ⟨Nat.le_of_ble_eq_true rfl, Nat.le_of_ble_eq_true rfl⟩) (cr_preV (EZ_ok k) hZ hS hX hP hD hA (ci := 7) (q0 := 0) rfl rfl) rfl rfl hl.1 rfl (lv_room (Nat.le_of_ble_eq_true rfl)) dX10_load_58 ⟨Nat.le_of_ble_eq_true rfl, Nat.le_of_ble_eq_true rfl⟩) hD hS hA (fun r u H locs hp hP hD hS => ?_)
          obtain ⟨c12, c13⟩ := u
          obtain ⟨hP, hD⟩ : va_P G vwCl (wM k ar (uF fi 2 (0)) (uF fa 11 (c13)) fl) H ∧ va_D A (wM k ar (uF fi 2 (0)) (uF fa 11 (c13)) fl) := ⟨hP, hD⟩
          obtain ⟨h9, rc12, rc13, hp13⟩ : r = Int32.ofInt c12 ∧ (inR c12) ∧ (∀ t, inR (c13 t)) ∧ (c12 = 2) := hp
          subst h9
          exact W.iret (v := Int32.ofInt (c12)) hx hb hr (fun t ht hW => ⟨⟨Int32.ofInt (c12), (c12, c13, fa 32, fa 34, fa 35, fa 36, fa 37, fa 38, 0, fi 29, fi 30), rfl, ⟨rfl, (show (inR c12) ∧ (∀ t, inR (c13 t)) ∧ (∀ t, inR ((fa 32) t)) ∧ (∀ t, inR ((fa 34) t)) ∧ (∀ t, inR ((fa 35) t)) ∧ (∀ t, inR ((fa 36) t)) ∧ (∀ t, inR ((fa 37) t)) ∧ (∀ t, inR ((fa 38) t)) ∧ (inR 0) ∧ (inR (fi 29)) ∧ (inR (fi 30)) ∧ (((0 ≤ (fi 29) ∧ (fi 29) ≤ 60) ∧ (∀ i, 0 ≤ i → i < (fi 29) → ¬ (fa 34) i = 2 → 0 ≤ (fa 35) i ∧ (fa 35) i < 7)) ∧ MvM c12 (fi 29) (fi 29) (fa 34) (fa 34) (fa 35) (fa 35) (fa 36) (fa 36) (fa 37) (fa 37) 0 t0 b0 (fa 32 t0) ∧ PlM c12 (fa 32) (fa 32) t0 (12 + b0) ∧ c12 = ldM (fi 12) t0 b0 (fa 32 t0) (fa 7 t0) (fi 28) (fa 3 0) (fi 29)) from ⟨(by omega), rc13, (hRa 32), (hRa 34), (hRa 35), (hRa 36), (hRa 37), (hRa 38), (by omega), (hR 29), (hR 30), (by first | exact ⟨⟨by omega, hPM⟩, mv_no (by omega), pl_no (by omega), by unfold ldM svM; omega⟩ | exact ⟨⟨by omega, hP9⟩, mv_ok rfl (by omega) hA9 (by omega), pl_ok rfl efa 32 rfl, by unfold ldM svM; omega⟩)⟩)⟩, by rw [ht]; exact hP, hD⟩, hS.F ht⟩) hS.2.2 dX10_load_61
        · refine lv_aload_n hx hb dX10_load_47 rfl (lv_at hl 1 rfl) ?_
          refine lv_iload_n hx hb dX10_load_48 rfl (lv_at hl 2 rfl) ?_
          refine lv_iload_n hx hb dX10_load_49 rfl (lv_at hl 0 rfl) ?_
          refine cr_i (va_runV (As := [.int (Int32.ofInt (t0)), .int (Int32.ofInt (z7))]) (rest := []) ⟨hx, hb, hml, hown, hts⟩ (mX10_isServed l G k ar (uF fi 2 (0)) fa fl t0 z7 H.size (iF hR (by omega)) hRa (by omega) (by omega) (show 0 ≤ t0 ∧ t0 < 14 from by omega)) (cwV 2 hts (gz [.methodLink RX10 355 yX10_isServed, .instanceMethod yX10_isServed, .selects RX10 yX10_isServed yX10_isServed, .initialized RX10] (.code yX10_isServed cX10_isServed 3 (some .boolean)) [(24, 15), (24, 16), (24, 17), (0, 5), (24, 18)] rfl) rfl rfl rfl (by decide +kernel) ⟨Nat.le_of_ble_eq_true rfl, Nat.le_of_ble_eq_true rfl⟩) (cr_preV (EZ_ok k) hZ hS hX hP hD hA (ci := 7) (q0 := 0) rfl rfl) rfl rfl hl.1 rfl (lv_room (Nat.le_of_ble_eq_true rfl)) dX10_load_50 ⟨Nat.le_of_ble_eq_true rfl, Nat.le_of_ble_eq_true rfl⟩) hD hS hA (fun r u H locs hp hP hD hS => ?_)
          obtain ⟨c14, rfl⟩ : ∃ z, z = u := ⟨_, rfl⟩
          obtain ⟨h9, rc14, hp14⟩ : r = Int32.ofInt c14 ∧ (inR c14) ∧ ((c14 = 1 ∧ svM z7 ((fa 7) t0)) ∨ (c14 = 0 ∧ ¬ svM z7 ((fa 7) t0))) := hp
          subst h9
          unfold svM at hp14
          refine iv_if_eq (tgt := 62) hx hb (by omega) dX10_load_53 (by decide) (fun q15 => ?_) (fun q15 => ?_)
          · refine lv_aload_n hx hb dX10_load_62 rfl (lv_at hl 1 rfl) ?_
            refine lv_iload_n hx hb dX10_load_63 rfl (lv_at hl 3 rfl) ?_
            refine lv_aload_n hx hb dX10_load_64 rfl (lv_at hl 1 rfl) ?_
            refine va_get (D := G) (ci := 7) (v := .int (Int32.ofInt (fi 28))) (C := RX10) (T := TX10) (N := 71) (ref := RX10) hx hb hts h1w hown hX.1 hP 0 rfl rfl 28 (by decide) h3w (fun _ h9 => h9) rfl dX10_load_65 ?_
            have rf28 := hR 28
            refine cr_i (va_runV (As := [.int (Int32.ofInt (b0)), .int (Int32.ofInt (fi 28))]) (rest := []) ⟨hx, hb, hml, hown, hts⟩ (mX10_depthOf l G k ar (uF fi 2 (0)) fa fl b0 (fi 28) H.size (iF hR (by omega)) hRa (by omega) (hR 28)) (cwV 2 hts (gz [.methodLink RX10 352 yX10_depthOf, .instanceMethod yX10_depthOf, .selects RX10 yX10_depthOf yX10_depthOf, .initialized RX10] (.code yX10_depthOf cX10_depthOf 3 (some .int)) [(24, 7), (24, 8), (24, 9), (0, 5), (24, 10)] rfl) rfl rfl rfl (by decide +kernel) ⟨Nat.le_of_ble_eq_true rfl, Nat.le_of_ble_eq_true rfl⟩) (cr_preV (EZ_ok k) hZ hS hX hP hD hA (ci := 7) (q0 := 0) rfl rfl) rfl rfl hl.1 rfl (lv_room (Nat.le_of_ble_eq_true rfl)) dX10_load_68 ⟨Nat.le_of_ble_eq_true rfl, Nat.le_of_ble_eq_true rfl⟩) hD hS hA (fun r u H locs hp hP hD hS => ?_)
            obtain ⟨c16, rfl⟩ : ∃ z, z = u := ⟨_, rfl⟩
            obtain ⟨h9, rc16, hp16⟩ : r = Int32.ofInt c16 ∧ (inR c16) ∧ (c16 = buD b0 (fi 28) ((fa 3) 0)) := hp
            subst h9
            have hBu68 := hp16
            refine lv_iload_n hx hb dX10_load_71 rfl (lv_at hl 0 rfl) ?_
            refine iv_icmp_eq (tgt := 81) hx hb (by omega) (by omega) dX10_load_72 (by decide) (fun q17 => ?_) (fun q17 => ?_)
            · refine lv_aload_n hx hb dX10_load_81 rfl (lv_at hl 1 rfl) ?_
              refine va_get (D := G) (ci := 7) (v := .int (Int32.ofInt (fi 29))) (C := RX10) (T := TX10) (N := 71) (ref := RX10) hx hb hts h1w hown hX.1 hP 0 rfl rfl 29 (by decide) h4w (fun _ h9 => h9) rfl dX10_load_82 ?_
              have rf29 := hR 29
              refine lv_bipush (v := Int32.ofInt 60) hx hb dX10_load_85 (by decide +kernel) ?_
              refine iv_icmp_ne (tgt := 97) hx hb (by omega) (by omega) dX10_load_87 (by decide) (fun q18 => ?_) (fun q18 => ?_)
              · refine lv_aload_n hx hb dX10_load_97 rfl (lv_at hl 1 rfl) ?_
                refine lv_iconst (v := Int32.ofInt 0) hx hb dX10_load_98 (by decide +kernel) ?_
                refine lv_iload_n hx hb dX10_load_99 rfl (lv_at hl 2 rfl) ?_
                refine lv_iload_n hx hb dX10_load_100 rfl (lv_at hl 3 rfl) ?_
                refine lv_iload_n hx hb dX10_load_101 rfl (lv_at hl 0 rfl) ?_
                refine lv_iconst (v := Int32.ofInt 0) hx hb dX10_load_102 (by decide +kernel) ?_
                refine cr_v (va_runV (As := [.int (Int32.ofInt (0)), .int (Int32.ofInt (t0)), .int (Int32.ofInt (b0)), .int (Int32.ofInt (z7)), .int (Int32.ofInt (0))]) (rest := []) ⟨hx, hb, hml, hown, hts⟩ (mX10_add l G k ar (uF fi 2 (0)) fa fl 0 t0 b0 z7 0 H.size (iF hR (by omega)) hRa (by omega) (by omega) (by omega) (by omega) (by omega) (show 0 ≤ (fi 29) ∧ (fi 29) < 60 from by omega) (show ∀ i, 0 ≤ i → i < (fi 29) → ¬ (fa 34) i = 2 → 0 ≤ (fa 35) i ∧ (fa 35) i < 7 from by first | exact hPM | omega) (show 0 = 2 ∨ (0 ≤ t0 ∧ t0 < 7) from by omega)) (cwV 5 hts (gz [.methodLink RX10 415 yX10_add, .instanceMethod yX10_add, .selects RX10 yX10_add yX10_add, .initialized RX10] (.code yX10_add cX10_add 6 none) [(28, 0), (28, 1), (28, 2), (0, 5), (28, 3)] rfl) rfl rfl rfl (by decide +kernel) ⟨Nat.le_of_ble_eq_true rfl, Nat.le_of_ble_eq_true rfl⟩) (cr_preV (EZ_ok k) hZ hS hX hP hD hA (ci := 7) (q0 := 0) rfl rfl) rfl rfl hl.1 rfl (lv_room (Nat.le_of_ble_eq_true rfl)) dX10_load_103 ⟨Nat.le_of_ble_eq_true rfl, Nat.le_of_ble_eq_true rfl⟩) hD hS hA (fun u H locs hp hP hD hS => ?_)
                obtain ⟨c19, c20, c21, c22, c23, c24, c25⟩ := u
                obtain ⟨hP, hD⟩ : va_P G vwCl (wM k ar (uF (uF (uF fi 2 (0)) 29 (c24)) 30 (c25)) (uF (uF (uF (uF (uF fa 34 (c19)) 35 (c20)) 36 (c21)) 37 (c22)) 38 (c23)) fl) H ∧ va_D A (wM k ar (uF (uF (uF fi 2 (0)) 29 (c24)) 30 (c25)) (uF (uF (uF (uF (uF fa 34 (c19)) 35 (c20)) 36 (c21)) 37 (c22)) 38 (c23)) fl) := ⟨hP, hD⟩
                obtain ⟨rc19, rc20, rc21, rc22, rc23, rc24, rc25, hp25⟩ : (∀ t, inR (c19 t)) ∧ (∀ t, inR (c20 t)) ∧ (∀ t, inR (c21 t)) ∧ (∀ t, inR (c22 t)) ∧ (∀ t, inR (c23 t)) ∧ (inR c24) ∧ (inR c25) ∧ (c24 = (fi 29) + 1 ∧ (∀ i, 0 ≤ i → i < c24 → ¬ c19 i = 2 → 0 ≤ c20 i ∧ c20 i < 7) ∧ (c19 = uA ((fa 34)) ((fi 29)) 0 ∧ c20 = uA ((fa 35)) ((fi 29)) t0 ∧ c21 = uA ((fa 36)) ((fi 29)) b0 ∧ c22 = uA ((fa 37)) ((fi 29)) z7)) := hp
                obtain ⟨hp25, hP9, hA9⟩ := hp25
                refine lv_aload_n hx hb dX10_load_106 rfl (lv_at hl 1 rfl) ?_
                refine va_get (D := G) (ci := 7) (v := .ref (ar 32)) (C := RX10) (T := TX10) (N := 71) (ref := RX10) hx hb hts h1w hown hX.1 hP 0 rfl rfl 32 (by decide) h2w (fun _ h9 => h9) rfl dX10_load_107 ?_
                refine lv_iload_n hx hb dX10_load_110 rfl (lv_at hl 2 rfl) ?_
                refine lv_bipush (v := Int32.ofInt 12) hx hb dX10_load_111 (by decide +kernel) ?_
                refine lv_iload_n hx hb dX10_load_113 rfl (lv_at hl 3 rfl) ?_
                refine iv_add (x := 12) (y := b0) hx hb dX10_load_114 ?_
                refine iv_iast hx hb hX.1 hP hD hS 11 0 rfl rfl (wM_A32 _ _ _ _ _) (by omega) (by omega) (by decide) dX10_load_115 (fun H locs hP hD hS => ?_)
                obtain ⟨hP, hD⟩ : va_P G vwCl (wM k ar (uF (uF (uF fi 2 (0)) 29 (c24)) 30 (c25)) (uF (uF (uF (uF (uF (uF fa 32 (uA (fa 32) (t0) ((12 + b0)))) 34 (c19)) 35 (c20)) 36 (c21)) 37 (c22)) 38 (c23)) fl) H ∧ va_D A (wM k ar (uF (uF (uF fi 2 (0)) 29 (c24)) 30 (c25)) (uF (uF (uF (uF (uF (uF fa 32 (uA (fa 32) (t0) ((12 + b0)))) 34 (c19)) 35 (c20)) 36 (c21)) 37 (c22)) 38 (c23)) fl) := ⟨hP, hD⟩
                obtain ⟨g26, eg26, rg26⟩ : ∃ z, z = uA (fa 32) (t0) ((12 + b0)) ∧ ∀ t, inR (z t) := ⟨_, rfl, iU (hRa 32) (by omega)⟩
                rw [← eg26] at hP hD
                refine lv_iconst (v := Int32.ofInt 0) hx hb dX10_load_116 (by decide +kernel) ?_
                exact W.iret (v := Int32.ofInt (0)) hx hb hr (fun t ht hW => ⟨⟨Int32.ofInt (0), (0, fa 11, g26, c19, c20, c21, c22, c23, 0, c24, c25), rfl, ⟨rfl, (show (inR 0) ∧ (∀ t, inR ((fa 11) t)) ∧ (∀ t, inR (g26 t)) ∧ (∀ t, inR (c19 t)) ∧ (∀ t, inR (c20 t)) ∧ (∀ t, inR (c21 t)) ∧ (∀ t, inR (c22 t)) ∧ (∀ t, inR (c23 t)) ∧ (inR 0) ∧ (inR c24) ∧ (inR c25) ∧ (((0 ≤ c24 ∧ c24 ≤ 60) ∧ (∀ i, 0 ≤ i → i < c24 → ¬ c19 i = 2 → 0 ≤ c20 i ∧ c20 i < 7)) ∧ MvM 0 (fi 29) c24 (fa 34) c19 (fa 35) c20 (fa 36) c21 (fa 37) c22 0 t0 b0 (fa 32 t0) ∧ PlM 0 (fa 32) g26 t0 (12 + b0) ∧ 0 = ldM (fi 12) t0 b0 (fa 32 t0) (fa 7 t0) (fi 28) (fa 3 0) (fi 29)) from ⟨(by omega), (hRa 11), rg26, rc19, rc20, rc21, rc22, rc23, (by omega), (by omega), (by omega), (by first | exact ⟨⟨by omega, hPM⟩, mv_no (by omega), pl_no (by omega), by unfold ldM svM; omega⟩ | exact ⟨⟨by omega, hP9⟩, mv_ok rfl (by omega) hA9 (by omega), pl_ok rfl eg26 rfl, by unfold ldM svM; omega⟩)⟩)⟩, by rw [ht]; exact hP, hD⟩, hS.F ht⟩) hS.2.2 dX10_load_117
              · refine lv_aload_n hx hb dX10_load_90 rfl (lv_at hl 1 rfl) ?_
                refine lv_bipush (v := Int32.ofInt 8) hx hb dX10_load_91 (by decide +kernel) ?_
                refine cr_i (va_runV (As := [.int (Int32.ofInt (8))]) (rest := []) ⟨hx, hb, hml, hown, hts⟩ (mX10_refuse l G k ar (uF fi 2 (0)) fa fl 8 H.size (iF hR (by omega)) hRa (by omega)) (cwV 1 hts (gz [.methodLink RX10 412 yX10_refuse, .instanceMethod yX10_refuse, .selects RX10 yX10_refuse yX10_refuse, .initialized RX10] (.code yX10_refuse cX10_refuse 2 (some .int)) [(27, 20), (27, 21), (27, 22), (0, 5), (27, 23)] rfl) rfl rfl rfl (by decide +kernel) ⟨Nat.le_of_ble_eq_true rfl, Nat.le_of_ble_eq_true rfl⟩) (cr_preV (EZ_ok k) hZ hS hX hP hD hA (ci := 7) (q0 := 0) rfl rfl) rfl rfl hl.1 rfl (lv_room (Nat.le_of_ble_eq_true rfl)) dX10_load_93 ⟨Nat.le_of_ble_eq_true rfl, Nat.le_of_ble_eq_true rfl⟩) hD hS hA (fun r u H locs hp hP hD hS => ?_)
                obtain ⟨c27, c28⟩ := u
                obtain ⟨hP, hD⟩ : va_P G vwCl (wM k ar (uF fi 2 (0)) (uF fa 11 (c28)) fl) H ∧ va_D A (wM k ar (uF fi 2 (0)) (uF fa 11 (c28)) fl) := ⟨hP, hD⟩
                obtain ⟨h9, rc27, rc28, hp28⟩ : r = Int32.ofInt c27 ∧ (inR c27) ∧ (∀ t, inR (c28 t)) ∧ (c27 = 8) := hp
                subst h9
                exact W.iret (v := Int32.ofInt (c27)) hx hb hr (fun t ht hW => ⟨⟨Int32.ofInt (c27), (c27, c28, fa 32, fa 34, fa 35, fa 36, fa 37, fa 38, 0, fi 29, fi 30), rfl, ⟨rfl, (show (inR c27) ∧ (∀ t, inR (c28 t)) ∧ (∀ t, inR ((fa 32) t)) ∧ (∀ t, inR ((fa 34) t)) ∧ (∀ t, inR ((fa 35) t)) ∧ (∀ t, inR ((fa 36) t)) ∧ (∀ t, inR ((fa 37) t)) ∧ (∀ t, inR ((fa 38) t)) ∧ (inR 0) ∧ (inR (fi 29)) ∧ (inR (fi 30)) ∧ (((0 ≤ (fi 29) ∧ (fi 29) ≤ 60) ∧ (∀ i, 0 ≤ i → i < (fi 29) → ¬ (fa 34) i = 2 → 0 ≤ (fa 35) i ∧ (fa 35) i < 7)) ∧ MvM c27 (fi 29) (fi 29) (fa 34) (fa 34) (fa 35) (fa 35) (fa 36) (fa 36) (fa 37) (fa 37) 0 t0 b0 (fa 32 t0) ∧ PlM c27 (fa 32) (fa 32) t0 (12 + b0) ∧ c27 = ldM (fi 12) t0 b0 (fa 32 t0) (fa 7 t0) (fi 28) (fa 3 0) (fi 29)) from ⟨(by omega), rc28, (hRa 32), (hRa 34), (hRa 35), (hRa 36), (hRa 37), (hRa 38), (by omega), (hR 29), (hR 30), (by first | exact ⟨⟨by omega, hPM⟩, mv_no (by omega), pl_no (by omega), by unfold ldM svM; omega⟩ | exact ⟨⟨by omega, hP9⟩, mv_ok rfl (by omega) hA9 (by omega), pl_ok rfl efa 32 rfl, by unfold ldM svM; omega⟩)⟩)⟩, by rw [ht]; exact hP, hD⟩, hS.F ht⟩) hS.2.2 dX10_load_96
            · refine lv_aload_n hx hb dX10_load_75 rfl (lv_at hl 1 rfl) ?_
              refine lv_iconst (v := Int32.ofInt 3) hx hb dX10_load_76 (by decide +kernel) ?_
              refine cr_i (va_runV (As := [.int (Int32.ofInt (3))]) (rest := []) ⟨hx, hb, hml, hown, hts⟩ (mX10_refuse l G k ar (uF fi 2 (0)) fa fl 3 H.size (iF hR (by omega)) hRa (by omega)) (cwV 1 hts (gz [.methodLink RX10 412 yX10_refuse, .instanceMethod yX10_refuse, .selects RX10 yX10_refuse yX10_refuse, .initialized RX10] (.code yX10_refuse cX10_refuse 2 (some .int)) [(27, 20), (27, 21), (27, 22), (0, 5), (27, 23)] rfl) rfl rfl rfl (by decide +kernel) ⟨Nat.le_of_ble_eq_true rfl, Nat.le_of_ble_eq_true rfl⟩) (cr_preV (EZ_ok k) hZ hS hX hP hD hA (ci := 7) (q0 := 0) rfl rfl) rfl rfl hl.1 rfl (lv_room (Nat.le_of_ble_eq_true rfl)) dX10_load_77 ⟨Nat.le_of_ble_eq_true rfl, Nat.le_of_ble_eq_true rfl⟩) hD hS hA (fun r u H locs hp hP hD hS => ?_)
              obtain ⟨c29, c30⟩ := u
              obtain ⟨hP, hD⟩ : va_P G vwCl (wM k ar (uF fi 2 (0)) (uF fa 11 (c30)) fl) H ∧ va_D A (wM k ar (uF fi 2 (0)) (uF fa 11 (c30)) fl) := ⟨hP, hD⟩
              obtain ⟨h9, rc29, rc30, hp30⟩ : r = Int32.ofInt c29 ∧ (inR c29) ∧ (∀ t, inR (c30 t)) ∧ (c29 = 3) := hp
              subst h9
              exact W.iret (v := Int32.ofInt (c29)) hx hb hr (fun t ht hW => ⟨⟨Int32.ofInt (c29), (c29, c30, fa 32, fa 34, fa 35, fa 36, fa 37, fa 38, 0, fi 29, fi 30), rfl, ⟨rfl, (show (inR c29) ∧ (∀ t, inR (c30 t)) ∧ (∀ t, inR ((fa 32) t)) ∧ (∀ t, inR ((fa 34) t)) ∧ (∀ t, inR ((fa 35) t)) ∧ (∀ t, inR ((fa 36) t)) ∧ (∀ t, inR ((fa 37) t)) ∧ (∀ t, inR ((fa 38) t)) ∧ (inR 0) ∧ (inR (fi 29)) ∧ (inR (fi 30)) ∧ (((0 ≤ (fi 29) ∧ (fi 29) ≤ 60) ∧ (∀ i, 0 ≤ i → i < (fi 29) → ¬ (fa 34) i = 2 → 0 ≤ (fa 35) i ∧ (fa 35) i < 7)) ∧ MvM c29 (fi 29) (fi 29) (fa 34) (fa 34) (fa 35) (fa 35) (fa 36) (fa 36) (fa 37) (fa 37) 0 t0 b0 (fa 32 t0) ∧ PlM c29 (fa 32) (fa 32) t0 (12 + b0) ∧ c29 = ldM (fi 12) t0 b0 (fa 32 t0) (fa 7 t0) (fi 28) (fa 3 0) (fi 29)) from ⟨(by omega), rc30, (hRa 32), (hRa 34), (hRa 35), (hRa 36), (hRa 37), (hRa 38), (by omega), (hR 29), (hR 30), (by first | exact ⟨⟨by omega, hPM⟩, mv_no (by omega), pl_no (by omega), by unfold ldM svM; omega⟩ | exact ⟨⟨by omega, hP9⟩, mv_ok rfl (by omega) hA9 (by omega), pl_ok rfl efa 32 rfl, by unfold ldM svM; omega⟩)⟩)⟩, by rw [ht]; exact hP, hD⟩, hS.F ht⟩) hS.2.2 dX10_load_80
          · refine lv_aload_n hx hb dX10_load_56 rfl (lv_at hl 1 rfl) ?_
            refine lv_iconst (v := Int32.ofInt 2) hx hb dX10_load_57 (by decide +kernel) ?_
            refine cr_i (va_runV (As := [.int (Int32.ofInt (2))]) (rest := []) ⟨hx, hb, hml, hown, hts⟩ (mX10_refuse l G k ar (uF fi 2 (0)) fa fl 2 H.size (iF hR (by omega)) hRa (by omega)) (cwV 1 hts (gz [.methodLink RX10 412 yX10_refuse, .instanceMethod yX10_refuse, .selects RX10 yX10_refuse yX10_refuse, .initialized RX10] (.code yX10_refuse cX10_refuse 2 (some .int)) [(27, 20), (27, 21), (27, 22), (0, 5), (27, 23)] rfl) rfl rfl rfl (by decide +kernel) ⟨Nat.le_of_ble_eq_true rfl, Nat.le_of_ble_eq_true rfl⟩) (cr_preV (EZ_ok k) hZ hS hX hP hD hA (ci := 7) (q0 := 0) rfl rfl) rfl rfl hl.1 rfl (lv_room (Nat.le_of_ble_eq_true rfl)) dX10_load_58 ⟨Nat.le_of_ble_eq_true rfl, Nat.le_of_ble_eq_true rfl⟩) hD hS hA (fun r u H locs hp hP hD hS => ?_)
            obtain ⟨c31, c32⟩ := u
            obtain ⟨hP, hD⟩ : va_P G vwCl (wM k ar (uF fi 2 (0)) (uF fa 11 (c32)) fl) H ∧ va_D A (wM k ar (uF fi 2 (0)) (uF fa 11 (c32)) fl) := ⟨hP, hD⟩
            obtain ⟨h9, rc31, rc32, hp32⟩ : r = Int32.ofInt c31 ∧ (inR c31) ∧ (∀ t, inR (c32 t)) ∧ (c31 = 2) := hp
            subst h9
            exact W.iret (v := Int32.ofInt (c31)) hx hb hr (fun t ht hW => ⟨⟨Int32.ofInt (c31), (c31, c32, fa 32, fa 34, fa 35, fa 36, fa 37, fa 38, 0, fi 29, fi 30), rfl, ⟨rfl, (show (inR c31) ∧ (∀ t, inR (c32 t)) ∧ (∀ t, inR ((fa 32) t)) ∧ (∀ t, inR ((fa 34) t)) ∧ (∀ t, inR ((fa 35) t)) ∧ (∀ t, inR ((fa 36) t)) ∧ (∀ t, inR ((fa 37) t)) ∧ (∀ t, inR ((fa 38) t)) ∧ (inR 0) ∧ (inR (fi 29)) ∧ (inR (fi 30)) ∧ (((0 ≤ (fi 29) ∧ (fi 29) ≤ 60) ∧ (∀ i, 0 ≤ i → i < (fi 29) → ¬ (fa 34) i = 2 → 0 ≤ (fa 35) i ∧ (fa 35) i < 7)) ∧ MvM c31 (fi 29) (fi 29) (fa 34) (fa 34) (fa 35) (fa 35) (fa 36) (fa 36) (fa 37) (fa 37) 0 t0 b0 (fa 32 t0) ∧ PlM c31 (fa 32) (fa 32) t0 (12 + b0) ∧ c31 = ldM (fi 12) t0 b0 (fa 32 t0) (fa 7 t0) (fi 28) (fa 3 0) (fi 29)) from ⟨(by omega), rc32, (hRa 32), (hRa 34), (hRa 35), (hRa 36), (hRa 37), (hRa 38), (by omega), (hR 29), (hR 30), (by first | exact ⟨⟨by omega, hPM⟩, mv_no (by omega), pl_no (by omega), by unfold ldM svM; omega⟩ | exact ⟨⟨by omega, hP9⟩, mv_ok rfl (by omega) hA9 (by omega), pl_ok rfl efa 32 rfl, by unfold ldM svM; omega⟩)⟩)⟩, by rw [ht]; exact hP, hD⟩, hS.F ht⟩) hS.2.2 dX10_load_61
    · refine lv_aload_n hx hb dX10_load_22 rfl (lv_at hl 0 rfl) ?_
      refine lv_iconst (v := Int32.ofInt 1) hx hb dX10_load_23 (by decide +kernel) ?_
      refine cr_i (va_runV (As := [.int (Int32.ofInt (1))]) (rest := []) ⟨hx, hb, hml, hown, hts⟩ (mX10_refuse l G k ar (uF fi 2 (0)) fa fl 1 H.size (iF hR (by omega)) hRa (by omega)) (cwV 1 hts (gz [.methodLink RX10 412 yX10_refuse, .instanceMethod yX10_refuse, .selects RX10 yX10_refuse yX10_refuse, .initialized RX10] (.code yX10_refuse cX10_refuse 2 (some .int)) [(27, 20), (27, 21), (27, 22), (0, 5), (27, 23)] rfl) rfl rfl rfl (by decide +kernel) ⟨Nat.le_of_ble_eq_true rfl, Nat.le_of_ble_eq_true rfl⟩) (cr_preV (EZ_ok k) hZ hS hX hP hD hA (ci := 7) (q0 := 0) rfl rfl) rfl rfl hl.1 rfl (lv_room (Nat.le_of_ble_eq_true rfl)) dX10_load_24 ⟨Nat.le_of_ble_eq_true rfl, Nat.le_of_ble_eq_true rfl⟩) hD hS hA (fun r u H locs hp hP hD hS => ?_)
      obtain ⟨c33, c34⟩ := u
      obtain ⟨hP, hD⟩ : va_P G vwCl (wM k ar (uF fi 2 (0)) (uF fa 11 (c34)) fl) H ∧ va_D A (wM k ar (uF fi 2 (0)) (uF fa 11 (c34)) fl) := ⟨hP, hD⟩
      obtain ⟨h9, rc33, rc34, hp34⟩ : r = Int32.ofInt c33 ∧ (inR c33) ∧ (∀ t, inR (c34 t)) ∧ (c33 = 1) := hp
      subst h9
      exact W.iret (v := Int32.ofInt (c33)) hx hb hr (fun t ht hW => ⟨⟨Int32.ofInt (c33), (c33, c34, fa 32, fa 34, fa 35, fa 36, fa 37, fa 38, 0, fi 29, fi 30), rfl, ⟨rfl, (show (inR c33) ∧ (∀ t, inR (c34 t)) ∧ (∀ t, inR ((fa 32) t)) ∧ (∀ t, inR ((fa 34) t)) ∧ (∀ t, inR ((fa 35) t)) ∧ (∀ t, inR ((fa 36) t)) ∧ (∀ t, inR ((fa 37) t)) ∧ (∀ t, inR ((fa 38) t)) ∧ (inR 0) ∧ (inR (fi 29)) ∧ (inR (fi 30)) ∧ (((0 ≤ (fi 29) ∧ (fi 29) ≤ 60) ∧ (∀ i, 0 ≤ i → i < (fi 29) → ¬ (fa 34) i = 2 → 0 ≤ (fa 35) i ∧ (fa 35) i < 7)) ∧ MvM c33 (fi 29) (fi 29) (fa 34) (fa 34) (fa 35) (fa 35) (fa 36) (fa 36) (fa 37) (fa 37) 0 t0 b0 (fa 32 t0) ∧ PlM c33 (fa 32) (fa 32) t0 (12 + b0) ∧ c33 = ldM (fi 12) t0 b0 (fa 32 t0) (fa 7 t0) (fi 28) (fa 3 0) (fi 29)) from ⟨(by omega), rc34, (hRa 32), (hRa 34), (hRa 35), (hRa 36), (hRa 37), (hRa 38), (by omega), (hR 29), (hR 30), (by first | exact ⟨⟨by omega, hPM⟩, mv_no (by omega), pl_no (by omega), by unfold ldM svM; omega⟩ | exact ⟨⟨by omega, hP9⟩, mv_ok rfl (by omega) hA9 (by omega), pl_ok rfl efa 32 rfl, by unfold ldM svM; omega⟩)⟩)⟩, by rw [ht]; exact hP, hD⟩, hS.F ht⟩) hS.2.2 dX10_load_27

set_option maxHeartbeats 4000000 in
set_option maxRecDepth 100000 in
theorem mX10_unloadedAt (l : Launch) (G : va_G) (k : Nat → ClassId) (ar : Nat → Nat) (fi : Nat → Int) (fa : Nat → Int → Int) (fl : Nat → Int64) (t0 : Int) (d0 : Int) (sz : Nat) (hR : ∀ j, inR (fi j)) (hRa : ∀ j t, inR (fa j t)) (hr_t0 : inR t0) (hr_d0 : inR d0) (h0 : 0 ≤ t0 ∧ t0 < 14) : CNi l G k (EZ k) yX10_unloadedAt wzX10_unloadedAt ({ frames := 0, cells := 0, slots := 0, locals := 0 }) [.ref (ar 71), .int (Int32.ofInt (t0)), .int (Int32.ofInt (d0))] sz (wM k ar fi fa fl) (fun (r0 : Int32) (u : Int) => r0 = Int32.ofInt (u) ∧ (inR u) ∧ (u = unA (fa 4 t0) (fa 7 t0) d0)) (fun (u : Int) => (wM k ar fi fa fl)) := by
  refine Met.ofW (cc := cX10_unloadedAt) (maxL := 3) (ret := (some .int)) (by decide) rfl ?_
  intro p e s m args below meth c s₁ B hml hv
  obtain ⟨rfl, hsz, hP, hX, hD0, hZ0⟩ := hv
  have hx := B.exec
  have hb := B.bytes
  have hr := B.returns
  have hts := atoms_spec (ws := wzX10_unloadedAt) B.pre
  have hown : s.vm.findClass RX10 = some m.cls := findClass_of_methodNamed B.named
  subst hsz
  have hD := hD0.self (sz := s.heap.size)
  have hZ := hZ0
  generalize hAe : va_A (wM k ar fi fa fl) s.heap.size = A at hD hZ ⊢
  have hA : ∀ q : Nat, s.heap.size ≤ q → A q := fun q h => by rw [← hAe]; exact Or.inr h
  have hS : va_S A s.heap s.heap [] := va_S.rf
  have hl := lv_entry ([.ref (ar 71), .int (Int32.ofInt (t0)), .int (Int32.ofInt (d0))]) (n := 3) (Nat.le_of_ble_eq_true rfl)
  rw [lg_entry_eq]
  generalize (lg_sl ([.ref (ar 71), .int (Int32.ofInt (t0)), .int (Int32.ofInt (d0))]) ++ List.replicate (3 - (lg_sl ([.ref (ar 71), .int (Int32.ofInt (t0)), .int (Int32.ofInt (d0))])).length) Slot.unset).toArray = ls at hl ⊢
  have hl : lv_has ls 3 [(0, .ref (ar 71)), (1, .int (Int32.ofInt (t0))), (2, .int (Int32.ofInt (d0)))] := hl
  obtain ⟨H, eH⟩ : ∃ H, H = s.heap := ⟨_, rfl⟩
  rw [← eH] at hP
  have hS : va_S A s.heap H [] := by rw [eH]; exact hS
  have gW : s.heap = H := eH.symm
  refine iv_heap gW ?_
  have h0w := hts (.fieldLink RX10 57 "RopeTownModel" "kind" "[I") (wz_at 6 7 rfl)
  have h1w : ∀ w ∈ wsX100, w ∈ wzX10_unloadedAt := fun w h => List.mem_cons_of_mem _ (inlX10 w h)
  have h2w := hts (.fieldLink RX10 65 "RopeTownModel" "aim" "[I") (wz_at 6 10 rfl)
  refine lv_aload_n hx hb dX10_unloadedAt_0 rfl (lv_at hl 0 rfl) ?_
  refine va_get (D := G) (ci := 7) (v := .ref (ar 4)) (C := RX10) (T := TX10) (N := 71) (ref := RX10) hx hb hts h1w hown hX.1 hP 0 rfl rfl 4 (by decide) h0w (fun _ h9 => h9) rfl dX10_unloadedAt_1 ?_
  refine lv_iload_n hx hb dX10_unloadedAt_4 rfl (lv_at hl 1 rfl) ?_
  refine iv_iald hx hb hX.1 hP 2 0 rfl rfl (by omega) (by omega) (by decide) dX10_unloadedAt_5 ?_
  refine iv_top (fun z1 ez1 => ?_)
  have rz1 : inR z1 := ez1 ▸ (hRa 4) _
  have ez1 : z1 = (fa 4) t0 := ez1
  refine lv_iconst (v := Int32.ofInt 3) hx hb dX10_unloadedAt_6 (by decide +kernel) ?_
  refine iv_icmp_ne (tgt := 25) hx hb (by omega) (by omega) dX10_unloadedAt_7 (by decide) (fun q2 => ?_) (fun q2 => ?_)
  · refine lv_iload_n hx hb dX10_unloadedAt_25 rfl (lv_at hl 2 rfl) ?_
    exact W.iret (v := Int32.ofInt (d0)) hx hb hr (fun t ht hW => ⟨⟨Int32.ofInt (d0), (d0), rfl, ⟨rfl, (show (inR d0) ∧ (d0 = unA (fa 4 t0) (fa 7 t0) d0) from ⟨(by omega), (by unfold unA; omega)⟩)⟩, by rw [ht]; exact hP, hD⟩, hS.F ht⟩) hS.2.2 dX10_unloadedAt_26
  · refine lv_aload_n hx hb dX10_unloadedAt_10 rfl (lv_at hl 0 rfl) ?_
    refine va_get (D := G) (ci := 7) (v := .ref (ar 7)) (C := RX10) (T := TX10) (N := 71) (ref := RX10) hx hb hts h1w hown hX.1 hP 0 rfl rfl 7 (by decide) h2w (fun _ h9 => h9) rfl dX10_unloadedAt_11 ?_
    refine lv_iload_n hx hb dX10_unloadedAt_14 rfl (lv_at hl 1 rfl) ?_
    refine iv_iald hx hb hX.1 hP 5 0 rfl rfl (by omega) (by omega) (by decide) dX10_unloadedAt_15 ?_
    refine iv_top (fun z3 ez3 => ?_)
    have rz3 : inR z3 := ez3 ▸ (hRa 7) _
    have ez3 : z3 = (fa 7) t0 := ez3
    refine lv_iload_n hx hb dX10_unloadedAt_16 rfl (lv_at hl 2 rfl) ?_
    refine iv_icmp_ne (tgt := 25) hx hb (by omega) (by omega) dX10_unloadedAt_17 (by decide) (fun q4 => ?_) (fun q4 => ?_)
    · refine lv_iload_n hx hb dX10_unloadedAt_25 rfl (lv_at hl 2 rfl) ?_
      exact W.iret (v := Int32.ofInt (d0)) hx hb hr (fun t ht hW => ⟨⟨Int32.ofInt (d0), (d0), rfl, ⟨rfl, (show (inR d0) ∧ (d0 = unA (fa 4 t0) (fa 7 t0) d0) from ⟨(by omega), (by unfold unA; omega)⟩)⟩, by rw [ht]; exact hP, hD⟩, hS.F ht⟩) hS.2.2 dX10_unloadedAt_26
    · refine lv_bipush (v := Int32.ofInt 14) hx hb dX10_unloadedAt_20 (by decide +kernel) ?_
      refine lv_goto (tgt := 26) hx hb dX10_unloadedAt_22 (by decide) ?_
      exact W.iret (v := Int32.ofInt (14)) hx hb hr (fun t ht hW => ⟨⟨Int32.ofInt (14), (14), rfl, ⟨rfl, (show (inR 14) ∧ (14 = unA (fa 4 t0) (fa 7 t0) d0) from ⟨(by omega), (by unfold unA; omega)⟩)⟩, by rw [ht]; exact hP, hD⟩, hS.F ht⟩) hS.2.2 dX10_unloadedAt_26

