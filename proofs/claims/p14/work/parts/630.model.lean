set_option maxHeartbeats 4000000 in
set_option maxRecDepth 100000 in
theorem mX10_day (l : Launch) (G : va_G) (k : Nat → ClassId) (ar : Nat → Nat) (fi : Nat → Int) (fa : Nat → Int → Int) (fl : Nat → Int64) (v0 : Int) (sz : Nat) (hR : ∀ j, inR (fi j)) (hRa : ∀ j t, inR (fa j t)) (hr_v0 : inR v0) (hth : 0 ≤ fi 12 ∧ fi 12 ≤ 7) (hdy : 0 ≤ fi 31 ∧ fi 31 ≤ 6) : CNi l G k (EZ k) yX10_day wzX10_day ({ frames := 1, cells := 0, slots := 0, locals := 22 }) [.ref (ar 71), .int (Int32.ofInt (v0))] sz (wM k ar fi fa fl) (fun (r0 : Int32) (u : Int × (Int → Int) × (Int → Int) × Int × Int) => r0 = Int32.ofInt (u.1) ∧ (inR u.1) ∧ (∀ t, inR (u.2.1 t)) ∧ (∀ t, inR (u.2.2.1 t)) ∧ (inR u.2.2.2.1) ∧ (inR u.2.2.2.2) ∧ ((0 ≤ u.2.2.2.2 ∧ u.2.2.2.2 ≤ 6) ∧ DyQ (DfM (fi 31) v0 (fi 12) (fa 7)) u.1 (fi 31) u.2.2.2.2 v0 (fa 33) u.2.2.1)) (fun (u : Int × (Int → Int) × (Int → Int) × Int × Int) => (wM k ar (uF (uF fi 2 (u.2.2.2.1)) 31 (u.2.2.2.2)) (uF (uF fa 11 (u.2.1)) 33 (u.2.2.1)) fl)) := by
  refine Met.ofW (cc := cX10_day) (maxL := 4) (ret := (some .int)) (by decide) rfl ?_
  intro p e s m args below meth c s₁ B hml hv
  obtain ⟨rfl, hsz, hP, hX, hD0, hZ0⟩ := hv
  have hx := B.exec
  have hb := B.bytes
  have hr := B.returns
  have hts := atoms_spec (ws := wzX10_day) B.pre
  have hown : s.vm.findClass RX10 = some m.cls := findClass_of_methodNamed B.named
  subst hsz
  have hD := hD0.self (sz := s.heap.size)
  have hZ := hZ0
  generalize hAe : va_A (wM k ar fi fa fl) s.heap.size = A at hD hZ ⊢
  have hA : ∀ q : Nat, s.heap.size ≤ q → A q := fun q h => by rw [← hAe]; exact Or.inr h
  have hS : va_S A s.heap s.heap [] := va_S.rf
  have hl := lv_entry ([.ref (ar 71), .int (Int32.ofInt (v0))]) (n := 4) (Nat.le_of_ble_eq_true rfl)
  rw [lg_entry_eq]
  generalize (lg_sl ([.ref (ar 71), .int (Int32.ofInt (v0))]) ++ List.replicate (4 - (lg_sl ([.ref (ar 71), .int (Int32.ofInt (v0))])).length) Slot.unset).toArray = ls at hl ⊢
  have hl : lv_has ls 4 [(0, .ref (ar 71)), (1, .int (Int32.ofInt (v0)))] := hl
  obtain ⟨H, eH⟩ : ∃ H, H = s.heap := ⟨_, rfl⟩
  rw [← eH] at hP
  have hS : va_S A s.heap H [] := by rw [eH]; exact hS
  have gW : s.heap = H := eH.symm
  refine iv_heap gW ?_
  have h0w := hts (.fieldLink RX10 171 "RopeTownModel" "code" "I") (wz_at 8 12 rfl)
  have h1w : ∀ w ∈ wsX100, w ∈ wzX10_day := fun w h => List.mem_cons_of_mem _ (inlX10 w h)
  have h2w := hts (.fieldLink RX10 174 "RopeTownModel" "things" "I") (wz_at 21 11 rfl)
  have h3w := hts (.fieldLink RX10 90 "RopeTownModel" "day" "[I") (wz_at 6 18 rfl)
  have h4w := hts (.fieldLink RX10 336 "RopeTownModel" "days" "I") (wz_at 21 16 rfl)
  have h5w := hts (.fieldLink RX10 77 "RopeTownModel" "status" "[I") (wz_at 6 14 rfl)
  have h6w := hts (.fieldLink RX10 65 "RopeTownModel" "aim" "[I") (wz_at 6 10 rfl)
  refine lv_aload_n hx hb dX10_day_0 rfl (lv_at hl 0 rfl) ?_
  refine lv_iconst (v := Int32.ofInt 0) hx hb dX10_day_1 (by decide +kernel) ?_
  refine iv_put (ci := 7) (v := .int (Int32.ofInt (0))) (ty := .int) (C := RX10) (T := TX10) (N := 71) (ref := RX10) hx hb hts h1w tyX10 tyX10_ok nmX10 hown hX.1 hP hD hS 0 rfl rfl 2 (by decide) h0w (fun _ h9 => h9) rfl (by decide +kernel) rfl rfl (Nat.le_of_ble_eq_true rfl) (wM_F2 _ _ _ _ _) dX10_day_2 (fun H locs hP hD hS => ?_)
  refine iv_join (G := G) (A := A) (H0 := s.heap) (α := Int) (nL := 4) 35 (fun b9 => [.int (Int32.ofInt (b9))]) (fun b9 => (wM k ar (uF fi 2 (0)) fa fl)) (fun b9 => [(0, .ref (ar 71)), (1, .int (Int32.ofInt (v0)))]) (fun b9 => inR b9 ∧ ((b9 = 0 ∧ ¬ (fi 31 < 6 ∧ 0 ≤ v0 ∧ v0 ≤ bWr (bShl 1 (fi 12) - 1))) ∨ (b9 = 1 ∧ fi 31 < 6 ∧ 0 ≤ v0 ∧ v0 ≤ bWr (bShl 1 (fi 12) - 1)))) ?_ (fun J35 => ?_)
  · intro s0_1 hi9 H locs ls hP hD hS hl
    obtain ⟨r_s0_1, hinv⟩ : inR s0_1 ∧ ((s0_1 = 0 ∧ ¬ (fi 31 < 6 ∧ 0 ≤ v0 ∧ v0 ≤ bWr (bShl 1 (fi 12) - 1))) ∨ (s0_1 = 1 ∧ fi 31 < 6 ∧ 0 ≤ v0 ∧ v0 ≤ bWr (bShl 1 (fi 12) - 1))) := hi9
    obtain ⟨hP, hD⟩ : va_P G vwCl (wM k ar (uF fi 2 (0)) fa fl) H ∧ va_D A (wM k ar (uF fi 2 (0)) fa fl) := ⟨hP, hD⟩
    have hl : lv_has ls 4 [(0, .ref (ar 71)), (1, .int (Int32.ofInt (v0)))] := hl
    refine lv_istore_n (lv' := [(2, .int (Int32.ofInt (s0_1))), (0, .ref (ar 71)), (1, .int (Int32.ofInt (v0)))]) hx hb dX10_day_35 rfl hl (by decide) rfl (fun ls hl => ?_)
    refine lv_iconst (v := Int32.ofInt 0) hx hb dX10_day_36 (by decide +kernel) ?_
    refine lv_istore_n (lv' := [(3, .int (Int32.ofInt (0))), (2, .int (Int32.ofInt (s0_1))), (0, .ref (ar 71)), (1, .int (Int32.ofInt (v0)))]) hx hb dX10_day_37 rfl hl (by decide) rfl (fun ls hl => ?_)
    refine iv_loop (α := Int × Int) (nL := 4) (fun b9 => (wM k ar (uF fi 2 (0)) fa fl)) (fun b9 => [(3, .int (Int32.ofInt (b9.1))), (2, .int (Int32.ofInt (b9.2))), (0, .ref (ar 71)), (1, .int (Int32.ofInt (v0)))]) (fun b9 => (fi 12 - b9.1).toNat) (fun b9 => inR b9.1 ∧ inR b9.2 ∧ ((0 ≤ b9.1 ∧ (b9.2 = 0 ∨ (b9.2 = 1 ∧ fi 31 < 6))) ∧ DmI (fi 31) v0 (fi 12) (fa 7) b9.2 b9.1)) ?_ (0, s0_1) (show inR 0 ∧ inR s0_1 ∧ ((0 ≤ 0 ∧ (s0_1 = 0 ∨ (s0_1 = 1 ∧ fi 31 < 6))) ∧ DmI (fi 31) v0 (fi 12) (fa 7) s0_1 0) from ⟨(by omega), (by omega), (by exact ⟨by omega, dm_0 rfl (by omega)⟩)⟩) hP hD hS hl
    rintro ⟨x3_2, x2_3⟩ ih hi9 H locs ls hP hD hS hl
    obtain ⟨r_x3_2, r_x2_3, hinv⟩ : inR x3_2 ∧ inR x2_3 ∧ ((0 ≤ x3_2 ∧ (x2_3 = 0 ∨ (x2_3 = 1 ∧ fi 31 < 6))) ∧ DmI (fi 31) v0 (fi 12) (fa 7) x2_3 x3_2) := hi9
    obtain ⟨hJ1, hJ⟩ := hinv
    obtain ⟨hP, hD⟩ : va_P G vwCl (wM k ar (uF fi 2 (0)) fa fl) H ∧ va_D A (wM k ar (uF fi 2 (0)) fa fl) := ⟨hP, hD⟩
    have hl : lv_has ls 4 [(3, .int (Int32.ofInt (x3_2))), (2, .int (Int32.ofInt (x2_3))), (0, .ref (ar 71)), (1, .int (Int32.ofInt (v0)))] := hl
    refine lv_iload_n hx hb dX10_day_38 rfl (lv_at hl 0 rfl) ?_
    refine lv_aload_n hx hb dX10_day_39 rfl (lv_at hl 2 rfl) ?_
    refine va_get (D := G) (ci := 7) (v := .int (Int32.ofInt (fi 12))) (C := RX10) (T := TX10) (N := 71) (ref := RX10) hx hb hts h1w hown hX.1 hP 0 rfl rfl 12 (by decide) h2w (fun _ h9 => h9) rfl dX10_day_40 ?_
    have rf12 := hR 12
    refine iv_icmp_ge (tgt := 80) hx hb (by omega) (by omega) dX10_day_43 (by decide) (fun q4 => ?_) (fun q4 => ?_)
    · refine lv_iload_n hx hb dX10_day_80 rfl (lv_at hl 1 rfl) ?_
      refine iv_if_ne (tgt := 96) hx hb (by omega) dX10_day_81 (by decide) (fun q5 => ?_) (fun q5 => ?_)
      · refine lv_aload_n hx hb dX10_day_96 rfl (lv_at hl 2 rfl) ?_
        refine va_get (D := G) (ci := 7) (v := .ref (ar 33)) (C := RX10) (T := TX10) (N := 71) (ref := RX10) hx hb hts h1w hown hX.1 hP 0 rfl rfl 33 (by decide) h3w (fun _ h9 => h9) rfl dX10_day_97 ?_
        refine lv_aload_n hx hb dX10_day_100 rfl (lv_at hl 2 rfl) ?_
        refine va_get (D := G) (ci := 7) (v := .int (Int32.ofInt (fi 31))) (C := RX10) (T := TX10) (N := 71) (ref := RX10) hx hb hts h1w hown hX.1 hP 0 rfl rfl 31 (by decide) h4w (fun _ h9 => h9) rfl dX10_day_101 ?_
        have rf31 := hR 31
        refine lv_iload_n hx hb dX10_day_104 rfl (lv_at hl 3 rfl) ?_
        refine iv_iast hx hb hX.1 hP hD hS 12 0 rfl rfl (wM_A33 _ _ _ _ _) (by omega) (by omega) (by decide) dX10_day_105 (fun H locs hP hD hS => ?_)
        obtain ⟨g6, eg6, rg6⟩ : ∃ z, z = uA (fa 33) (fi 31) (v0) ∧ ∀ t, inR (z t) := ⟨_, rfl, iU (hRa 33) (by omega)⟩
        rw [← eg6] at hP hD
        refine lv_aload_n hx hb dX10_day_106 rfl (lv_at hl 2 rfl) ?_
        refine lv_dup hx hb dX10_day_107 rfl ?_
        refine va_get (D := G) (ci := 7) (v := .int (Int32.ofInt (fi 31))) (C := RX10) (T := TX10) (N := 71) (ref := RX10) hx hb hts h1w hown hX.1 hP 0 rfl rfl 31 (by decide) h4w (fun _ h9 => h9) rfl dX10_day_108 ?_
        have rf31 := hR 31
        refine lv_iconst (v := Int32.ofInt 1) hx hb dX10_day_111 (by decide +kernel) ?_
        refine iv_add (x := fi 31) (y := 1) hx hb dX10_day_112 ?_
        refine iv_put (ci := 7) (v := .int (Int32.ofInt ((fi 31 + 1)))) (ty := .int) (C := RX10) (T := TX10) (N := 71) (ref := RX10) hx hb hts h1w tyX10 tyX10_ok nmX10 hown hX.1 hP hD hS 0 rfl rfl 31 (by decide) h4w (fun _ h9 => h9) rfl (by decide +kernel) rfl rfl (Nat.le_of_ble_eq_true rfl) (wM_F31 _ _ _ _ _) dX10_day_113 (fun H locs hP hD hS => ?_)
        refine lv_aload_n hx hb dX10_day_116 rfl (lv_at hl 2 rfl) ?_
        refine va_get (D := G) (ci := 7) (v := .int (Int32.ofInt ((fi 31 + 1)))) (C := RX10) (T := TX10) (N := 71) (ref := RX10) hx hb hts h1w hown hX.1 hP 0 rfl rfl 31 (by decide) h4w (fun _ h9 => h9) rfl dX10_day_117 ?_
        exact W.iret (v := Int32.ofInt ((fi 31 + 1))) hx hb hr (fun t ht hW => ⟨⟨Int32.ofInt ((fi 31 + 1)), ((fi 31 + 1), fa 11, g6, 0, (fi 31 + 1)), rfl, ⟨rfl, (show (inR (fi 31 + 1)) ∧ (∀ t, inR ((fa 11) t)) ∧ (∀ t, inR (g6 t)) ∧ (inR 0) ∧ (inR (fi 31 + 1)) ∧ ((0 ≤ (fi 31 + 1) ∧ (fi 31 + 1) ≤ 6) ∧ DyQ (DfM (fi 31) v0 (fi 12) (fa 7)) (fi 31 + 1) (fi 31) (fi 31 + 1) v0 (fa 33) g6) from ⟨(by omega), (hRa 11), rg6, (by omega), (by omega), (by first | exact ⟨by omega, dq_n (dm_b0 hJ (by omega)) (by omega)⟩ | exact ⟨by omega, dq_y (dm_b1 hJ (by omega) (by omega)) (by omega) eg6 rfl⟩)⟩)⟩, by rw [ht]; exact hP, hD⟩, hS.F ht⟩) hS.2.2 dX10_day_120
      · refine lv_aload_n hx hb dX10_day_84 rfl (lv_at hl 2 rfl) ?_
        refine va_get (D := G) (ci := 7) (v := .ref (ar 11)) (C := RX10) (T := TX10) (N := 71) (ref := RX10) hx hb hts h1w hown hX.1 hP 0 rfl rfl 11 (by decide) h5w (fun _ h9 => h9) rfl dX10_day_85 ?_
        refine lv_iconst (v := Int32.ofInt 2) hx hb dX10_day_88 (by decide +kernel) ?_
        refine lv_dup2_11 hx hb dX10_day_89 rfl rfl ?_
        refine iv_iald hx hb hX.1 hP 9 0 rfl rfl (by omega) (by omega) (by decide) dX10_day_90 ?_
        refine iv_top (fun z7 ez7 => ?_)
        have rz7 : inR z7 := ez7 ▸ (hRa 11) _
        have ez7 : z7 = (fa 11) 2 := ez7
        refine lv_iconst (v := Int32.ofInt 1) hx hb dX10_day_91 (by decide +kernel) ?_
        refine iv_add (x := z7) (y := 1) hx hb dX10_day_92 ?_
        refine iv_wr ?_
        refine iv_top (fun z8 ez8 => ?_)
        have rz8 : inR z8 := ez8 ▸ bWr_r _
        refine iv_iast hx hb hX.1 hP hD hS 9 0 rfl rfl (wM_A11 _ _ _ _ _) (by omega) (by omega) (by decide) dX10_day_93 (fun H locs hP hD hS => ?_)
        obtain ⟨g9, eg9, rg9⟩ : ∃ z, z = uA (fa 11) (2) (z8) ∧ ∀ t, inR (z t) := ⟨_, rfl, iU (hRa 11) (by omega)⟩
        rw [← eg9] at hP hD
        refine lv_iconst (v := Int32.ofInt (-1)) hx hb dX10_day_94 (by decide +kernel) ?_
        exact W.iret (v := Int32.ofInt ((-1))) hx hb hr (fun t ht hW => ⟨⟨Int32.ofInt ((-1)), ((-1), g9, fa 33, 0, fi 31), rfl, ⟨rfl, (show (inR (-1)) ∧ (∀ t, inR (g9 t)) ∧ (∀ t, inR ((fa 33) t)) ∧ (inR 0) ∧ (inR (fi 31)) ∧ ((0 ≤ (fi 31) ∧ (fi 31) ≤ 6) ∧ DyQ (DfM (fi 31) v0 (fi 12) (fa 7)) (-1) (fi 31) (fi 31) v0 (fa 33) (fa 33)) from ⟨(by omega), rg9, (hRa 33), (by omega), (hR 31), (by first | exact ⟨by omega, dq_n (dm_b0 hJ (by omega)) (by omega)⟩ | exact ⟨by omega, dq_y (dm_b1 hJ (by omega) (by omega)) (by omega) efa 33 rfl⟩)⟩)⟩, by rw [ht]; exact hP, hD⟩, hS.F ht⟩) hS.2.2 dX10_day_95
    · refine lv_iload_n hx hb dX10_day_46 rfl (lv_at hl 1 rfl) ?_
      refine iv_if_eq (tgt := 80) hx hb (by omega) dX10_day_47 (by decide) (fun q10 => ?_) (fun q10 => ?_)
      · refine lv_iload_n hx hb dX10_day_80 rfl (lv_at hl 1 rfl) ?_
        refine iv_if_ne (tgt := 96) hx hb (by omega) dX10_day_81 (by decide) (fun q11 => ?_) (fun q11 => ?_)
        · refine lv_aload_n hx hb dX10_day_96 rfl (lv_at hl 2 rfl) ?_
          refine va_get (D := G) (ci := 7) (v := .ref (ar 33)) (C := RX10) (T := TX10) (N := 71) (ref := RX10) hx hb hts h1w hown hX.1 hP 0 rfl rfl 33 (by decide) h3w (fun _ h9 => h9) rfl dX10_day_97 ?_
          refine lv_aload_n hx hb dX10_day_100 rfl (lv_at hl 2 rfl) ?_
          refine va_get (D := G) (ci := 7) (v := .int (Int32.ofInt (fi 31))) (C := RX10) (T := TX10) (N := 71) (ref := RX10) hx hb hts h1w hown hX.1 hP 0 rfl rfl 31 (by decide) h4w (fun _ h9 => h9) rfl dX10_day_101 ?_
          have rf31 := hR 31
          refine lv_iload_n hx hb dX10_day_104 rfl (lv_at hl 3 rfl) ?_
          refine iv_iast hx hb hX.1 hP hD hS 12 0 rfl rfl (wM_A33 _ _ _ _ _) (by omega) (by omega) (by decide) dX10_day_105 (fun H locs hP hD hS => ?_)
          obtain ⟨g12, eg12, rg12⟩ : ∃ z, z = uA (fa 33) (fi 31) (v0) ∧ ∀ t, inR (z t) := ⟨_, rfl, iU (hRa 33) (by omega)⟩
          rw [← eg12] at hP hD
          refine lv_aload_n hx hb dX10_day_106 rfl (lv_at hl 2 rfl) ?_
          refine lv_dup hx hb dX10_day_107 rfl ?_
          refine va_get (D := G) (ci := 7) (v := .int (Int32.ofInt (fi 31))) (C := RX10) (T := TX10) (N := 71) (ref := RX10) hx hb hts h1w hown hX.1 hP 0 rfl rfl 31 (by decide) h4w (fun _ h9 => h9) rfl dX10_day_108 ?_
          have rf31 := hR 31
          refine lv_iconst (v := Int32.ofInt 1) hx hb dX10_day_111 (by decide +kernel) ?_
          refine iv_add (x := fi 31) (y := 1) hx hb dX10_day_112 ?_
          refine iv_put (ci := 7) (v := .int (Int32.ofInt ((fi 31 + 1)))) (ty := .int) (C := RX10) (T := TX10) (N := 71) (ref := RX10) hx hb hts h1w tyX10 tyX10_ok nmX10 hown hX.1 hP hD hS 0 rfl rfl 31 (by decide) h4w (fun _ h9 => h9) rfl (by decide +kernel) rfl rfl (Nat.le_of_ble_eq_true rfl) (wM_F31 _ _ _ _ _) dX10_day_113 (fun H locs hP hD hS => ?_)
          refine lv_aload_n hx hb dX10_day_116 rfl (lv_at hl 2 rfl) ?_
          refine va_get (D := G) (ci := 7) (v := .int (Int32.ofInt ((fi 31 + 1)))) (C := RX10) (T := TX10) (N := 71) (ref := RX10) hx hb hts h1w hown hX.1 hP 0 rfl rfl 31 (by decide) h4w (fun _ h9 => h9) rfl dX10_day_117 ?_
          exact W.iret (v := Int32.ofInt ((fi 31 + 1))) hx hb hr (fun t ht hW => ⟨⟨Int32.ofInt ((fi 31 + 1)), ((fi 31 + 1), fa 11, g12, 0, (fi 31 + 1)), rfl, ⟨rfl, (show (inR (fi 31 + 1)) ∧ (∀ t, inR ((fa 11) t)) ∧ (∀ t, inR (g12 t)) ∧ (inR 0) ∧ (inR (fi 31 + 1)) ∧ ((0 ≤ (fi 31 + 1) ∧ (fi 31 + 1) ≤ 6) ∧ DyQ (DfM (fi 31) v0 (fi 12) (fa 7)) (fi 31 + 1) (fi 31) (fi 31 + 1) v0 (fa 33) g12) from ⟨(by omega), (hRa 11), rg12, (by omega), (by omega), (by first | exact ⟨by omega, dq_n (dm_b0 hJ (by omega)) (by omega)⟩ | exact ⟨by omega, dq_y (dm_b1 hJ (by omega) (by omega)) (by omega) eg12 rfl⟩)⟩)⟩, by rw [ht]; exact hP, hD⟩, hS.F ht⟩) hS.2.2 dX10_day_120
        · refine lv_aload_n hx hb dX10_day_84 rfl (lv_at hl 2 rfl) ?_
          refine va_get (D := G) (ci := 7) (v := .ref (ar 11)) (C := RX10) (T := TX10) (N := 71) (ref := RX10) hx hb hts h1w hown hX.1 hP 0 rfl rfl 11 (by decide) h5w (fun _ h9 => h9) rfl dX10_day_85 ?_
          refine lv_iconst (v := Int32.ofInt 2) hx hb dX10_day_88 (by decide +kernel) ?_
          refine lv_dup2_11 hx hb dX10_day_89 rfl rfl ?_
          refine iv_iald hx hb hX.1 hP 9 0 rfl rfl (by omega) (by omega) (by decide) dX10_day_90 ?_
          refine iv_top (fun z13 ez13 => ?_)
          have rz13 : inR z13 := ez13 ▸ (hRa 11) _
          have ez13 : z13 = (fa 11) 2 := ez13
          refine lv_iconst (v := Int32.ofInt 1) hx hb dX10_day_91 (by decide +kernel) ?_
          refine iv_add (x := z13) (y := 1) hx hb dX10_day_92 ?_
          refine iv_wr ?_
          refine iv_top (fun z14 ez14 => ?_)
          have rz14 : inR z14 := ez14 ▸ bWr_r _
          refine iv_iast hx hb hX.1 hP hD hS 9 0 rfl rfl (wM_A11 _ _ _ _ _) (by omega) (by omega) (by decide) dX10_day_93 (fun H locs hP hD hS => ?_)
          obtain ⟨g15, eg15, rg15⟩ : ∃ z, z = uA (fa 11) (2) (z14) ∧ ∀ t, inR (z t) := ⟨_, rfl, iU (hRa 11) (by omega)⟩
          rw [← eg15] at hP hD
          refine lv_iconst (v := Int32.ofInt (-1)) hx hb dX10_day_94 (by decide +kernel) ?_
          exact W.iret (v := Int32.ofInt ((-1))) hx hb hr (fun t ht hW => ⟨⟨Int32.ofInt ((-1)), ((-1), g15, fa 33, 0, fi 31), rfl, ⟨rfl, (show (inR (-1)) ∧ (∀ t, inR (g15 t)) ∧ (∀ t, inR ((fa 33) t)) ∧ (inR 0) ∧ (inR (fi 31)) ∧ ((0 ≤ (fi 31) ∧ (fi 31) ≤ 6) ∧ DyQ (DfM (fi 31) v0 (fi 12) (fa 7)) (-1) (fi 31) (fi 31) v0 (fa 33) (fa 33)) from ⟨(by omega), rg15, (hRa 33), (by omega), (hR 31), (by first | exact ⟨by omega, dq_n (dm_b0 hJ (by omega)) (by omega)⟩ | exact ⟨by omega, dq_y (dm_b1 hJ (by omega) (by omega)) (by omega) efa 33 rfl⟩)⟩)⟩, by rw [ht]; exact hP, hD⟩, hS.F ht⟩) hS.2.2 dX10_day_95
      · refine iv_join (G := G) (A := A) (H0 := s.heap) (α := Int) (nL := 4) 73 (fun b9 => [.int (Int32.ofInt (b9))]) (fun b9 => (wM k ar (uF fi 2 (0)) fa fl)) (fun b9 => [(3, .int (Int32.ofInt (x3_2))), (2, .int (Int32.ofInt (x2_3))), (0, .ref (ar 71)), (1, .int (Int32.ofInt (v0)))]) (fun b9 => inR b9 ∧ ((b9 = 1 ∧ (bAnd (bShr v0 x3_2) 1 = 0 ∨ ¬ fa 7 x3_2 = -1)) ∨ (b9 = 0 ∧ ¬ bAnd (bShr v0 x3_2) 1 = 0 ∧ fa 7 x3_2 = -1))) ?_ (fun J73 => ?_)
        · intro s0_16 hi9 H locs ls hP hD hS hl
          obtain ⟨r_s0_16, hinv⟩ : inR s0_16 ∧ ((s0_16 = 1 ∧ (bAnd (bShr v0 x3_2) 1 = 0 ∨ ¬ fa 7 x3_2 = -1)) ∨ (s0_16 = 0 ∧ ¬ bAnd (bShr v0 x3_2) 1 = 0 ∧ fa 7 x3_2 = -1)) := hi9
          have hj9 := hinv
          obtain ⟨hP, hD⟩ : va_P G vwCl (wM k ar (uF fi 2 (0)) fa fl) H ∧ va_D A (wM k ar (uF fi 2 (0)) fa fl) := ⟨hP, hD⟩
          have hl : lv_has ls 4 [(3, .int (Int32.ofInt (x3_2))), (2, .int (Int32.ofInt (x2_3))), (0, .ref (ar 71)), (1, .int (Int32.ofInt (v0)))] := hl
          refine lv_istore_n (lv' := [(2, .int (Int32.ofInt (s0_16))), (3, .int (Int32.ofInt (x3_2))), (0, .ref (ar 71)), (1, .int (Int32.ofInt (v0)))]) hx hb dX10_day_73 rfl hl (by decide) rfl (fun ls hl => ?_)
          refine lv_iinc (v := Int32.ofInt (x3_2 + 1)) (lv' := [(3, .int (Int32.ofInt ((x3_2 + 1)))), (2, .int (Int32.ofInt (s0_16))), (0, .ref (ar 71)), (1, .int (Int32.ofInt (v0)))]) hx hb dX10_day_74 hl (k := 1) rfl (Int32.ofInt_add _ _).symm (by decide) rfl (fun ls hl => ?_)
          refine lv_goto (tgt := 38) hx hb dX10_day_77 (by decide) ?_
          have hl : lv_has ls 4 [(3, .int (Int32.ofInt ((x3_2 + 1)))), (2, .int (Int32.ofInt (s0_16))), (0, .ref (ar 71)), (1, .int (Int32.ofInt (v0)))] := lv_sub hl [0, 1, 2, 3] rfl
          exact ih ((x3_2 + 1), s0_16) (show (fi 12 - (x3_2 + 1)).toNat < (fi 12 - x3_2).toNat from by omega) (show inR (x3_2 + 1) ∧ inR s0_16 ∧ ((0 ≤ (x3_2 + 1) ∧ (s0_16 = 0 ∨ (s0_16 = 1 ∧ fi 31 < 6))) ∧ DmI (fi 31) v0 (fi 12) (fa 7) s0_16 (x3_2 + 1)) from ⟨(by omega), (by omega), (by exact ⟨by omega, dm_s hJ (by omega) hj9 (by omega) (by omega) rfl⟩)⟩) _ _ _ hP hD hS hl
        · refine lv_iload_n hx hb dX10_day_50 rfl (lv_at hl 3 rfl) ?_
          refine lv_iload_n hx hb dX10_day_51 rfl (lv_at hl 0 rfl) ?_
          refine iv_shr hx hb dX10_day_52 ?_
          refine iv_top (fun z17 ez17 => ?_)
          have rz17 : inR z17 := ez17 ▸ bShr_r _ _
          have hb1 := ez17
          refine lv_iconst (v := Int32.ofInt 1) hx hb dX10_day_53 (by decide +kernel) ?_
          refine iv_and hx hb dX10_day_54 ?_
          refine iv_top (fun z18 ez18 => ?_)
          have rz18 : inR z18 := ez18 ▸ bAnd_r _ _
          have hb2 := ez18
          refine iv_if_eq (tgt := 68) hx hb (by omega) dX10_day_55 (by decide) (fun q19 => ?_) (fun q19 => ?_)
          · refine lv_iconst (v := Int32.ofInt 1) hx hb dX10_day_68 (by decide +kernel) ?_
            refine lv_goto (tgt := 73) hx hb dX10_day_69 (by decide) ?_
            have hl : lv_has ls 4 [(3, .int (Int32.ofInt (x3_2))), (2, .int (Int32.ofInt (x2_3))), (0, .ref (ar 71)), (1, .int (Int32.ofInt (v0)))] := lv_sub hl [0, 1, 2, 3] rfl
            exact J73 (1) (show inR 1 ∧ ((1 = 1 ∧ (bAnd (bShr v0 x3_2) 1 = 0 ∨ ¬ fa 7 x3_2 = -1)) ∨ (1 = 0 ∧ ¬ bAnd (bShr v0 x3_2) 1 = 0 ∧ fa 7 x3_2 = -1)) from ⟨(by omega), (by first | (rw [← hb1, ← hb2]; omega) | (rw [← hb1]; omega))⟩) _ _ _ hP hD hS hl
          · refine lv_aload_n hx hb dX10_day_58 rfl (lv_at hl 2 rfl) ?_
            refine va_get (D := G) (ci := 7) (v := .ref (ar 7)) (C := RX10) (T := TX10) (N := 71) (ref := RX10) hx hb hts h1w hown hX.1 hP 0 rfl rfl 7 (by decide) h6w (fun _ h9 => h9) rfl dX10_day_59 ?_
            refine lv_iload_n hx hb dX10_day_62 rfl (lv_at hl 0 rfl) ?_
            refine iv_iald hx hb hX.1 hP 5 0 rfl rfl (by omega) (by omega) (by decide) dX10_day_63 ?_
            refine iv_top (fun z20 ez20 => ?_)
            have rz20 : inR z20 := ez20 ▸ (hRa 7) _
            have ez20 : z20 = (fa 7) x3_2 := ez20
            have hb3 := ez20
            refine lv_iconst (v := Int32.ofInt (-1)) hx hb dX10_day_64 (by decide +kernel) ?_
            refine iv_icmp_eq (tgt := 72) hx hb (by omega) (by omega) dX10_day_65 (by decide) (fun q21 => ?_) (fun q21 => ?_)
            · refine lv_iconst (v := Int32.ofInt 0) hx hb dX10_day_72 (by decide +kernel) ?_
              have hl : lv_has ls 4 [(3, .int (Int32.ofInt (x3_2))), (2, .int (Int32.ofInt (x2_3))), (0, .ref (ar 71)), (1, .int (Int32.ofInt (v0)))] := lv_sub hl [0, 1, 2, 3] rfl
              exact J73 (0) (show inR 0 ∧ ((0 = 1 ∧ (bAnd (bShr v0 x3_2) 1 = 0 ∨ ¬ fa 7 x3_2 = -1)) ∨ (0 = 0 ∧ ¬ bAnd (bShr v0 x3_2) 1 = 0 ∧ fa 7 x3_2 = -1)) from ⟨(by omega), (by first | (rw [← hb1, ← hb2]; omega) | (rw [← hb1]; omega))⟩) _ _ _ hP hD hS hl
            · refine lv_iconst (v := Int32.ofInt 1) hx hb dX10_day_68 (by decide +kernel) ?_
              refine lv_goto (tgt := 73) hx hb dX10_day_69 (by decide) ?_
              have hl : lv_has ls 4 [(3, .int (Int32.ofInt (x3_2))), (2, .int (Int32.ofInt (x2_3))), (0, .ref (ar 71)), (1, .int (Int32.ofInt (v0)))] := lv_sub hl [0, 1, 2, 3] rfl
              exact J73 (1) (show inR 1 ∧ ((1 = 1 ∧ (bAnd (bShr v0 x3_2) 1 = 0 ∨ ¬ fa 7 x3_2 = -1)) ∨ (1 = 0 ∧ ¬ bAnd (bShr v0 x3_2) 1 = 0 ∧ fa 7 x3_2 = -1)) from ⟨(by omega), (by first | (rw [← hb1, ← hb2]; omega) | (rw [← hb1]; omega))⟩) _ _ _ hP hD hS hl
  · refine lv_aload_n hx hb dX10_day_5 rfl (lv_at hl 0 rfl) ?_
    refine va_get (D := G) (ci := 7) (v := .int (Int32.ofInt (fi 31))) (C := RX10) (T := TX10) (N := 71) (ref := RX10) hx hb hts h1w hown hX.1 hP 0 rfl rfl 31 (by decide) h4w (fun _ h9 => h9) rfl dX10_day_6 ?_
    have rf31 := hR 31
    refine lv_bipush (v := Int32.ofInt 6) hx hb dX10_day_9 (by decide +kernel) ?_
    refine iv_icmp_ge (tgt := 34) hx hb (by omega) (by omega) dX10_day_11 (by decide) (fun q22 => ?_) (fun q22 => ?_)
    · refine lv_iconst (v := Int32.ofInt 0) hx hb dX10_day_34 (by decide +kernel) ?_
      have hl : lv_has ls 4 [(0, .ref (ar 71)), (1, .int (Int32.ofInt (v0)))] := lv_sub hl [0, 1] rfl
      exact J35 (0) (show inR 0 ∧ ((0 = 0 ∧ ¬ (fi 31 < 6 ∧ 0 ≤ v0 ∧ v0 ≤ bWr (bShl 1 (fi 12) - 1))) ∨ (0 = 1 ∧ fi 31 < 6 ∧ 0 ≤ v0 ∧ v0 ≤ bWr (bShl 1 (fi 12) - 1))) from ⟨(by omega), (by first | (rw [← hs22, ← hs24]; omega) | omega)⟩) _ _ _ hP hD hS hl
    · refine lv_iload_n hx hb dX10_day_14 rfl (lv_at hl 1 rfl) ?_
      refine lv_iconst (v := Int32.ofInt 0) hx hb dX10_day_15 (by decide +kernel) ?_
      refine lv_iconst (v := Int32.ofInt 1) hx hb dX10_day_16 (by decide +kernel) ?_
      refine lv_aload_n hx hb dX10_day_17 rfl (lv_at hl 0 rfl) ?_
      refine va_get (D := G) (ci := 7) (v := .int (Int32.ofInt (fi 12))) (C := RX10) (T := TX10) (N := 71) (ref := RX10) hx hb hts h1w hown hX.1 hP 0 rfl rfl 12 (by decide) h2w (fun _ h9 => h9) rfl dX10_day_18 ?_
      have rf12 := hR 12
      refine iv_shl hx hb dX10_day_21 ?_
      refine iv_top (fun z23 ez23 => ?_)
      have rz23 : inR z23 := ez23 ▸ bShl_r _ _
      have hs22 := ez23
      refine lv_iconst (v := Int32.ofInt 1) hx hb dX10_day_22 (by decide +kernel) ?_
      refine iv_sub (x := z23) (y := 1) hx hb dX10_day_23 ?_
      refine iv_wr ?_
      refine iv_top (fun z24 ez24 => ?_)
      have rz24 : inR z24 := ez24 ▸ bWr_r _
      have hs24 := ez24
      refine c0_i (va_runS (As := [.int (Int32.ofInt (v0)), .int (Int32.ofInt (0)), .int (Int32.ofInt (z24))]) (rest := []) ⟨hx, hb, hml, hown, hts⟩ (mX10_isIn l G k v0 0 z24 H.size (by omega) (by omega) (by omega)) (cwS 3 hts (gz [.methodLink RX10 177 yX10_isIn, .static yX10_isIn, .initialized RX10] (.code yX10_isIn cX10_isIn 3 (some .boolean)) [(18, 16), (18, 17), (0, 5), (18, 18)] rfl) rfl rfl rfl (by decide +kernel) ⟨Nat.le_of_ble_eq_true rfl, Nat.le_of_ble_eq_true rfl⟩) (cr_pre0 (EZ_ok k) hZ hS hX hP hD hA) rfl rfl hl.1 rfl (lv_room (Nat.le_of_ble_eq_true rfl)) dX10_day_24 ⟨Nat.le_of_ble_eq_true rfl, Nat.le_of_ble_eq_true rfl⟩) hP hD hS hA (fun r u H locs hp hP hD hS => ?_)
      obtain ⟨c25, rfl⟩ : ∃ z, z = u := ⟨_, rfl⟩
      obtain ⟨h9, rc25, hp25⟩ : r = Int32.ofInt c25 ∧ (inR c25) ∧ ((c25 = 1 ∧ 0 ≤ v0 ∧ v0 ≤ z24) ∨ (c25 = 0 ∧ (v0 < 0 ∨ z24 < v0))) := hp
      subst h9
      refine iv_if_eq (tgt := 34) hx hb (by omega) dX10_day_27 (by decide) (fun q26 => ?_) (fun q26 => ?_)
      · refine lv_iconst (v := Int32.ofInt 0) hx hb dX10_day_34 (by decide +kernel) ?_
        have hl : lv_has ls 4 [(0, .ref (ar 71)), (1, .int (Int32.ofInt (v0)))] := lv_sub hl [0, 1] rfl
        exact J35 (0) (show inR 0 ∧ ((0 = 0 ∧ ¬ (fi 31 < 6 ∧ 0 ≤ v0 ∧ v0 ≤ bWr (bShl 1 (fi 12) - 1))) ∨ (0 = 1 ∧ fi 31 < 6 ∧ 0 ≤ v0 ∧ v0 ≤ bWr (bShl 1 (fi 12) - 1))) from ⟨(by omega), (by first | (rw [← hs22, ← hs24]; omega) | omega)⟩) _ _ _ hP hD hS hl
      · refine lv_iconst (v := Int32.ofInt 1) hx hb dX10_day_30 (by decide +kernel) ?_
        refine lv_goto (tgt := 35) hx hb dX10_day_31 (by decide) ?_
        have hl : lv_has ls 4 [(0, .ref (ar 71)), (1, .int (Int32.ofInt (v0)))] := lv_sub hl [0, 1] rfl
        exact J35 (1) (show inR 1 ∧ ((1 = 0 ∧ ¬ (fi 31 < 6 ∧ 0 ≤ v0 ∧ v0 ≤ bWr (bShl 1 (fi 12) - 1))) ∨ (1 = 1 ∧ fi 31 < 6 ∧ 0 ≤ v0 ∧ v0 ≤ bWr (bShl 1 (fi 12) - 1))) from ⟨(by omega), (by first | (rw [← hs22, ← hs24]; omega) | omega)⟩) _ _ _ hP hD hS hl

set_option maxHeartbeats 4000000 in
set_option maxRecDepth 100000 in
theorem mX10_stonesOf (l : Launch) (G : va_G) (k : Nat → ClassId) (ar : Nat → Nat) (fi : Nat → Int) (fa : Nat → Int → Int) (fl : Nat → Int64) (sz : Nat) (hR : ∀ j, inR (fi j)) (hRa : ∀ j t, inR (fa j t)) (hth : 0 ≤ fi 12 ∧ fi 12 ≤ 7) : CNi l G k (EZ k) yX10_stonesOf wzX10_stonesOf ({ frames := 0, cells := 0, slots := 0, locals := 0 }) [.ref (ar 71)] sz (wM k ar fi fa fl) (fun (r0 : Int32) (u : Int) => r0 = Int32.ofInt (u) ∧ (inR u) ∧ (0 ≤ u ∧ u ≤ 7)) (fun (u : Int) => (wM k ar fi fa fl)) := by
  refine Met.ofW (cc := cX10_stonesOf) (maxL := 3) (ret := (some .int)) (by decide) rfl ?_
  intro p e s m args below meth c s₁ B hml hv
  obtain ⟨rfl, hsz, hP, hX, hD0, hZ0⟩ := hv
  have hx := B.exec
  have hb := B.bytes
  have hr := B.returns
  have hts := atoms_spec (ws := wzX10_stonesOf) B.pre
  have hown : s.vm.findClass RX10 = some m.cls := findClass_of_methodNamed B.named
  subst hsz
  have hD := hD0.self (sz := s.heap.size)
  have hZ := hZ0
  generalize hAe : va_A (wM k ar fi fa fl) s.heap.size = A at hD hZ ⊢
  have hA : ∀ q : Nat, s.heap.size ≤ q → A q := fun q h => by rw [← hAe]; exact Or.inr h
  have hS : va_S A s.heap s.heap [] := va_S.rf
  have hl := lv_entry ([.ref (ar 71)]) (n := 3) (Nat.le_of_ble_eq_true rfl)
  rw [lg_entry_eq]
  generalize (lg_sl ([.ref (ar 71)]) ++ List.replicate (3 - (lg_sl ([.ref (ar 71)])).length) Slot.unset).toArray = ls at hl ⊢
  have hl : lv_has ls 3 [(0, .ref (ar 71))] := hl
  obtain ⟨H, eH⟩ : ∃ H, H = s.heap := ⟨_, rfl⟩
  rw [← eH] at hP
  have hS : va_S A s.heap H [] := by rw [eH]; exact hS
  have gW : s.heap = H := eH.symm
  refine iv_heap gW ?_
  have h0w := hts (.fieldLink RX10 174 "RopeTownModel" "things" "I") (wz_at 21 11 rfl)
  have h1w : ∀ w ∈ wsX100, w ∈ wzX10_stonesOf := fun w h => List.mem_cons_of_mem _ (inlX10 w h)
  have h2w := hts (.fieldLink RX10 57 "RopeTownModel" "kind" "[I") (wz_at 6 7 rfl)
  refine lv_iconst (v := Int32.ofInt 0) hx hb dX10_stonesOf_0 (by decide +kernel) ?_
  refine lv_istore_n (lv' := [(1, .int (Int32.ofInt (0))), (0, .ref (ar 71))]) hx hb dX10_stonesOf_1 rfl hl (by decide) rfl (fun ls hl => ?_)
  refine lv_iconst (v := Int32.ofInt 0) hx hb dX10_stonesOf_2 (by decide +kernel) ?_
  refine lv_istore_n (lv' := [(2, .int (Int32.ofInt (0))), (1, .int (Int32.ofInt (0))), (0, .ref (ar 71))]) hx hb dX10_stonesOf_3 rfl hl (by decide) rfl (fun ls hl => ?_)
  refine iv_loop (α := Int × Int) (nL := 3) (fun b9 => (wM k ar fi fa fl)) (fun b9 => [(2, .int (Int32.ofInt (b9.1))), (1, .int (Int32.ofInt (b9.2))), (0, .ref (ar 71))]) (fun b9 => (fi 12 - b9.1).toNat) (fun b9 => inR b9.1 ∧ inR b9.2 ∧ (0 ≤ b9.1 ∧ 0 ≤ b9.2 ∧ b9.2 ≤ b9.1 ∧ b9.1 ≤ fi 12)) ?_ (0, 0) (show inR 0 ∧ inR 0 ∧ (0 ≤ 0 ∧ 0 ≤ 0 ∧ 0 ≤ 0 ∧ 0 ≤ fi 12) from ⟨(by omega), (by omega), (by omega)⟩) hP hD hS hl
  rintro ⟨x2_1, x1_2⟩ ih hi9 H locs ls hP hD hS hl
  obtain ⟨r_x2_1, r_x1_2, hinv⟩ : inR x2_1 ∧ inR x1_2 ∧ (0 ≤ x2_1 ∧ 0 ≤ x1_2 ∧ x1_2 ≤ x2_1 ∧ x2_1 ≤ fi 12) := hi9
  obtain ⟨hP, hD⟩ : va_P G vwCl (wM k ar fi fa fl) H ∧ va_D A (wM k ar fi fa fl) := ⟨hP, hD⟩
  have hl : lv_has ls 3 [(2, .int (Int32.ofInt (x2_1))), (1, .int (Int32.ofInt (x1_2))), (0, .ref (ar 71))] := hl
  refine lv_iload_n hx hb dX10_stonesOf_4 rfl (lv_at hl 0 rfl) ?_
  refine lv_aload_n hx hb dX10_stonesOf_5 rfl (lv_at hl 2 rfl) ?_
  refine va_get (D := G) (ci := 7) (v := .int (Int32.ofInt (fi 12))) (C := RX10) (T := TX10) (N := 71) (ref := RX10) hx hb hts h1w hown hX.1 hP 0 rfl rfl 12 (by decide) h0w (fun _ h9 => h9) rfl dX10_stonesOf_6 ?_
  have rf12 := hR 12
  refine iv_icmp_ge (tgt := 36) hx hb (by omega) (by omega) dX10_stonesOf_9 (by decide) (fun q3 => ?_) (fun q3 => ?_)
  · refine lv_iload_n hx hb dX10_stonesOf_36 rfl (lv_at hl 1 rfl) ?_
    exact W.iret (v := Int32.ofInt (x1_2)) hx hb hr (fun t ht hW => ⟨⟨Int32.ofInt (x1_2), (x1_2), rfl, ⟨rfl, (show (inR x1_2) ∧ (0 ≤ x1_2 ∧ x1_2 ≤ 7) from ⟨(by omega), (by omega)⟩)⟩, by rw [ht]; exact hP, hD⟩, hS.F ht⟩) hS.2.2 dX10_stonesOf_37
  · refine lv_iload_n hx hb dX10_stonesOf_12 rfl (lv_at hl 1 rfl) ?_
    refine lv_aload_n hx hb dX10_stonesOf_13 rfl (lv_at hl 2 rfl) ?_
    refine va_get (D := G) (ci := 7) (v := .ref (ar 4)) (C := RX10) (T := TX10) (N := 71) (ref := RX10) hx hb hts h1w hown hX.1 hP 0 rfl rfl 4 (by decide) h2w (fun _ h9 => h9) rfl dX10_stonesOf_14 ?_
    refine lv_iload_n hx hb dX10_stonesOf_17 rfl (lv_at hl 0 rfl) ?_
    refine iv_iald hx hb hX.1 hP 2 0 rfl rfl (by omega) (by omega) (by decide) dX10_stonesOf_18 ?_
    refine iv_top (fun z4 ez4 => ?_)
    have rz4 : inR z4 := ez4 ▸ (hRa 4) _
    have ez4 : z4 = (fa 4) x2_1 := ez4
    refine lv_iconst (v := Int32.ofInt 2) hx hb dX10_stonesOf_19 (by decide +kernel) ?_
    refine iv_icmp_ne (tgt := 27) hx hb (by omega) (by omega) dX10_stonesOf_20 (by decide) (fun q5 => ?_) (fun q5 => ?_)
    · refine lv_iconst (v := Int32.ofInt 0) hx hb dX10_stonesOf_27 (by decide +kernel) ?_
      refine iv_add (x := x1_2) (y := 0) hx hb dX10_stonesOf_28 ?_
      refine lv_istore_n (lv' := [(1, .int (Int32.ofInt ((x1_2 + 0)))), (2, .int (Int32.ofInt (x2_1))), (0, .ref (ar 71))]) hx hb dX10_stonesOf_29 rfl hl (by decide) rfl (fun ls hl => ?_)
      refine lv_iinc (v := Int32.ofInt (x2_1 + 1)) (lv' := [(2, .int (Int32.ofInt ((x2_1 + 1)))), (1, .int (Int32.ofInt ((x1_2 + 0)))), (0, .ref (ar 71))]) hx hb dX10_stonesOf_30 hl (k := 1) rfl (Int32.ofInt_add _ _).symm (by decide) rfl (fun ls hl => ?_)
      refine lv_goto (tgt := 4) hx hb dX10_stonesOf_33 (by decide) ?_
      have hl : lv_has ls 3 [(2, .int (Int32.ofInt ((x2_1 + 1)))), (1, .int (Int32.ofInt ((x1_2 + 0)))), (0, .ref (ar 71))] := lv_sub hl [0, 1, 2] rfl
      exact ih ((x2_1 + 1), (x1_2 + 0)) (show (fi 12 - (x2_1 + 1)).toNat < (fi 12 - x2_1).toNat from by omega) (show inR (x2_1 + 1) ∧ inR (x1_2 + 0) ∧ (0 ≤ (x2_1 + 1) ∧ 0 ≤ (x1_2 + 0) ∧ (x1_2 + 0) ≤ (x2_1 + 1) ∧ (x2_1 + 1) ≤ fi 12) from ⟨(by omega), (by omega), (by omega)⟩) _ _ _ hP hD hS hl
    · refine lv_iconst (v := Int32.ofInt 1) hx hb dX10_stonesOf_23 (by decide +kernel) ?_
      refine lv_goto (tgt := 28) hx hb dX10_stonesOf_24 (by decide) ?_
      refine iv_add (x := x1_2) (y := 1) hx hb dX10_stonesOf_28 ?_
      refine lv_istore_n (lv' := [(1, .int (Int32.ofInt ((x1_2 + 1)))), (2, .int (Int32.ofInt (x2_1))), (0, .ref (ar 71))]) hx hb dX10_stonesOf_29 rfl hl (by decide) rfl (fun ls hl => ?_)
      refine lv_iinc (v := Int32.ofInt (x2_1 + 1)) (lv' := [(2, .int (Int32.ofInt ((x2_1 + 1)))), (1, .int (Int32.ofInt ((x1_2 + 1)))), (0, .ref (ar 71))]) hx hb dX10_stonesOf_30 hl (k := 1) rfl (Int32.ofInt_add _ _).symm (by decide) rfl (fun ls hl => ?_)
      refine lv_goto (tgt := 4) hx hb dX10_stonesOf_33 (by decide) ?_
      have hl : lv_has ls 3 [(2, .int (Int32.ofInt ((x2_1 + 1)))), (1, .int (Int32.ofInt ((x1_2 + 1)))), (0, .ref (ar 71))] := lv_sub hl [0, 1, 2] rfl
      exact ih ((x2_1 + 1), (x1_2 + 1)) (show (fi 12 - (x2_1 + 1)).toNat < (fi 12 - x2_1).toNat from by omega) (show inR (x2_1 + 1) ∧ inR (x1_2 + 1) ∧ (0 ≤ (x2_1 + 1) ∧ 0 ≤ (x1_2 + 1) ∧ (x1_2 + 1) ≤ (x2_1 + 1) ∧ (x2_1 + 1) ≤ fi 12) from ⟨(by omega), (by omega), (by omega)⟩) _ _ _ hP hD hS hl

