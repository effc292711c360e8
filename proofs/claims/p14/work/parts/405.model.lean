set_option maxHeartbeats 4000000 in
set_option maxRecDepth 100000 in
theorem mX10_wrong (l : Launch) (G : va_G) (k : Nat → ClassId) (ar : Nat → Nat) (fi : Nat → Int) (fa : Nat → Int → Int) (fl : Nat → Int64) (k0 : Int) (sz : Nat) (hR : ∀ j, inR (fi j)) (hRa : ∀ j t, inR (fa j t)) (hr_k0 : inR k0) (hk0 : ¬ k0 = 0) : CNv l G k (EZ k) yX10_wrong wzX10_wrong ({ frames := 0, cells := 0, slots := 0, locals := 0 }) [.ref (ar 71), .int (Int32.ofInt (k0))] sz (wM k ar fi fa fl) (fun (u : Int × Int) => (inR u.1) ∧ (inR u.2) ∧ (((¬ fi 24 = 0 → u.1 = fi 24) ∧ (fi 24 = 0 → u.1 = k0)) ∧ val u.1 u.2 (fi 22) = bd (val (fi 24) (fi 25) (fi 22)) (fun s => (k0, s)))) (fun (u : Int × Int) => (wM k ar (uF (uF fi 24 (u.1)) 25 (u.2)) fa fl)) := by
  refine Met.ofW (cc := cX10_wrong) (maxL := 2) (ret := none) (by decide) rfl ?_
  intro p e s m args below meth c s₁ B hml hv
  obtain ⟨rfl, hsz, hP, hX, hD0, hZ0⟩ := hv
  have hx := B.exec
  have hb := B.bytes
  have hr := B.returns
  have hts := atoms_spec (ws := wzX10_wrong) B.pre
  have hown : s.vm.findClass RX10 = some m.cls := findClass_of_methodNamed B.named
  subst hsz
  have hD := hD0.self (sz := s.heap.size)
  have hZ := hZ0
  generalize hAe : va_A (wM k ar fi fa fl) s.heap.size = A at hD hZ ⊢
  have hA : ∀ q : Nat, s.heap.size ≤ q → A q := fun q h => by rw [← hAe]; exact Or.inr h
  have hS : va_S A s.heap s.heap [] := va_S.rf
  have hl := lv_entry ([.ref (ar 71), .int (Int32.ofInt (k0))]) (n := 2) (Nat.le_of_ble_eq_true rfl)
  rw [lg_entry_eq]
  generalize (lg_sl ([.ref (ar 71), .int (Int32.ofInt (k0))]) ++ List.replicate (2 - (lg_sl ([.ref (ar 71), .int (Int32.ofInt (k0))])).length) Slot.unset).toArray = ls at hl ⊢
  have hl : lv_has ls 2 [(0, .ref (ar 71)), (1, .int (Int32.ofInt (k0)))] := hl
  obtain ⟨H, eH⟩ : ∃ H, H = s.heap := ⟨_, rfl⟩
  rw [← eH] at hP
  have hS : va_S A s.heap H [] := by rw [eH]; exact hS
  have gW : s.heap = H := eH.symm
  refine iv_heap gW ?_
  have h0w := hts (.fieldLink RX10 223 "RopeTownModel" "bad" "I") (wz_at 16 11 rfl)
  have h1w : ∀ w ∈ wsX100, w ∈ wzX10_wrong := fun w h => List.mem_cons_of_mem _ (inlX10 w h)
  have h2w := hts (.fieldLink RX10 194 "RopeTownModel" "begins" "I") (wz_at 17 1 rfl)
  have h3w := hts (.fieldLink RX10 226 "RopeTownModel" "badPlace" "I") (wz_at 16 16 rfl)
  refine lv_aload_n hx hb dX10_wrong_0 rfl (lv_at hl 0 rfl) ?_
  refine va_get (D := G) (ci := 7) (v := .int (Int32.ofInt (fi 24))) (C := RX10) (T := TX10) (N := 71) (ref := RX10) hx hb hts h1w hown hX.1 hP 0 rfl rfl 24 (by decide) h0w (fun _ h9 => h9) rfl dX10_wrong_1 ?_
  have rf24 := hR 24
  refine iv_if_eq (tgt := 8) hx hb (by omega) dX10_wrong_4 (by decide) (fun q1 => ?_) (fun q1 => ?_)
  · refine lv_aload_n hx hb dX10_wrong_8 rfl (lv_at hl 0 rfl) ?_
    refine lv_iload_n hx hb dX10_wrong_9 rfl (lv_at hl 1 rfl) ?_
    refine iv_put (ci := 7) (v := .int (Int32.ofInt (k0))) (ty := .int) (C := RX10) (T := TX10) (N := 71) (ref := RX10) hx hb hts h1w tyX10 tyX10_ok nmX10 hown hX.1 hP hD hS 0 rfl rfl 24 (by decide) h0w (fun _ h9 => h9) rfl (by decide +kernel) rfl rfl (Nat.le_of_ble_eq_true rfl) (wM_F24 _ _ _ _ _) dX10_wrong_10 (fun H locs hP hD hS => ?_)
    refine lv_aload_n hx hb dX10_wrong_13 rfl (lv_at hl 0 rfl) ?_
    refine lv_aload_n hx hb dX10_wrong_14 rfl (lv_at hl 0 rfl) ?_
    refine va_get (D := G) (ci := 7) (v := .int (Int32.ofInt (fi 22))) (C := RX10) (T := TX10) (N := 71) (ref := RX10) hx hb hts h1w hown hX.1 hP 0 rfl rfl 22 (by decide) h2w (fun _ h9 => h9) rfl dX10_wrong_15 ?_
    have rf22 := hR 22
    refine iv_put (ci := 7) (v := .int (Int32.ofInt (fi 22))) (ty := .int) (C := RX10) (T := TX10) (N := 71) (ref := RX10) hx hb hts h1w tyX10 tyX10_ok nmX10 hown hX.1 hP hD hS 0 rfl rfl 25 (by decide) h3w (fun _ h9 => h9) rfl (by decide +kernel) rfl rfl (Nat.le_of_ble_eq_true rfl) (wM_F25 _ _ _ _ _) dX10_wrong_18 (fun H locs hP hD hS => ?_)
    exact W.vret hx hb hr (fun t ht hW => ⟨⟨(k0, fi 22), rfl, (show (inR k0) ∧ (inR (fi 22)) ∧ (((¬ fi 24 = 0 → k0 = fi 24) ∧ (fi 24 = 0 → k0 = k0)) ∧ val k0 (fi 22) (fi 22) = bd (val (fi 24) (fi 25) (fi 22)) (fun s => (k0, s))) from ⟨(by omega), (hR 22), (by exact ⟨by omega, fv_wrong (by omega) (by omega) hk0⟩)⟩), by rw [ht]; exact hP, hD⟩, hS.F ht⟩) hS.2.2 dX10_wrong_21
  · exact W.vret hx hb hr (fun t ht hW => ⟨⟨(fi 24, fi 25), rfl, (show (inR (fi 24)) ∧ (inR (fi 25)) ∧ (((¬ fi 24 = 0 → (fi 24) = fi 24) ∧ (fi 24 = 0 → (fi 24) = k0)) ∧ val (fi 24) (fi 25) (fi 22) = bd (val (fi 24) (fi 25) (fi 22)) (fun s => (k0, s))) from ⟨(hR 24), (hR 25), (by exact ⟨by omega, fv_wrong (by omega) (by omega) hk0⟩)⟩), by rw [ht]; exact hP, hD⟩, hS.F ht⟩) hS.2.2 dX10_wrong_7

set_option maxHeartbeats 4000000 in
set_option maxRecDepth 100000 in
theorem mX10_isMarked (l : Launch) (G : va_G) (k : Nat → ClassId) (ar : Nat → Nat) (fi : Nat → Int) (fa : Nat → Int → Int) (fl : Nat → Int64) (c0 : Int) (sz : Nat) (hR : ∀ j, inR (fi j)) (hRa : ∀ j t, inR (fa j t)) (hr_c0 : inR c0) (ht : fi 20 = 3 → 0 ≤ fi 22 ∧ fi 22 < 600) (hty : TS (fa 16) (fi 19) (fi 24) (fi 22) (fi 23) (fi 20) (fi 21)) : CNi l G k (EZ k) yX10_isMarked wzX10_isMarked ({ frames := 0, cells := 0, slots := 0, locals := 0 }) [.ref (ar 71), .int (Int32.ofInt (c0))] sz (wM k ar fi fa fl) (fun (r0 : Int32) (u : Int) => r0 = Int32.ofInt (u) ∧ (inR u) ∧ (((u = 0 ∨ u = 1) ∧ (u = 1 → fi 24 = 0 ∧ fi 20 = 3)) ∧ Isr u (fi 24) (isM (fa 16) (fi 19) c0 (fi 22)))) (fun (u : Int) => (wM k ar fi fa fl)) := by
  refine Met.ofW (cc := cX10_isMarked) (maxL := 2) (ret := (some .boolean)) (by decide) rfl ?_
  intro p e s m args below meth c s₁ B hml hv
  obtain ⟨rfl, hsz, hP, hX, hD0, hZ0⟩ := hv
  have hx := B.exec
  have hb := B.bytes
  have hr := B.returns
  have hts := atoms_spec (ws := wzX10_isMarked) B.pre
  have hown : s.vm.findClass RX10 = some m.cls := findClass_of_methodNamed B.named
  subst hsz
  have hD := hD0.self (sz := s.heap.size)
  have hZ := hZ0
  generalize hAe : va_A (wM k ar fi fa fl) s.heap.size = A at hD hZ ⊢
  have hA : ∀ q : Nat, s.heap.size ≤ q → A q := fun q h => by rw [← hAe]; exact Or.inr h
  have hS : va_S A s.heap s.heap [] := va_S.rf
  have hl := lv_entry ([.ref (ar 71), .int (Int32.ofInt (c0))]) (n := 2) (Nat.le_of_ble_eq_true rfl)
  rw [lg_entry_eq]
  generalize (lg_sl ([.ref (ar 71), .int (Int32.ofInt (c0))]) ++ List.replicate (2 - (lg_sl ([.ref (ar 71), .int (Int32.ofInt (c0))])).length) Slot.unset).toArray = ls at hl ⊢
  have hl : lv_has ls 2 [(0, .ref (ar 71)), (1, .int (Int32.ofInt (c0)))] := hl
  obtain ⟨H, eH⟩ : ∃ H, H = s.heap := ⟨_, rfl⟩
  rw [← eH] at hP
  have hS : va_S A s.heap H [] := by rw [eH]; exact hS
  have gW : s.heap = H := eH.symm
  refine iv_heap gW ?_
  have h0w := hts (.fieldLink RX10 223 "RopeTownModel" "bad" "I") (wz_at 16 11 rfl)
  have h1w : ∀ w ∈ wsX100, w ∈ wzX10_isMarked := fun w h => List.mem_cons_of_mem _ (inlX10 w h)
  have h2w := hts (.fieldLink RX10 197 "RopeTownModel" "token" "I") (wz_at 16 15 rfl)
  have h3w := hts (.fieldLink RX10 80 "RopeTownModel" "tape" "[I") (wz_at 6 15 rfl)
  have h4w := hts (.fieldLink RX10 194 "RopeTownModel" "begins" "I") (wz_at 17 1 rfl)
  refine lv_aload_n hx hb dX10_isMarked_0 rfl (lv_at hl 0 rfl) ?_
  refine va_get (D := G) (ci := 7) (v := .int (Int32.ofInt (fi 24))) (C := RX10) (T := TX10) (N := 71) (ref := RX10) hx hb hts h1w hown hX.1 hP 0 rfl rfl 24 (by decide) h0w (fun _ h9 => h9) rfl dX10_isMarked_1 ?_
  have rf24 := hR 24
  refine iv_if_ne (tgt := 32) hx hb (by omega) dX10_isMarked_4 (by decide) (fun q1 => ?_) (fun q1 => ?_)
  · refine lv_iconst (v := Int32.ofInt 0) hx hb dX10_isMarked_32 (by decide +kernel) ?_
    exact W.zret (v := Int32.ofInt (0)) hx hb hr (nz_bool (by omega)) (fun t ht hW => ⟨⟨Int32.ofInt (0), (0), rfl, ⟨rfl, (show (inR 0) ∧ (((0 = 0 ∨ 0 = 1) ∧ (0 = 1 → fi 24 = 0 ∧ fi 20 = 3)) ∧ Isr 0 (fi 24) (isM (fa 16) (fi 19) c0 (fi 22))) from ⟨(by omega), (by exact ⟨by omega, isr_mark hty (by omega)⟩)⟩)⟩, by rw [ht]; exact hP, hD⟩, hS.F ht⟩) hS.2.2 dX10_isMarked_33
  · refine lv_aload_n hx hb dX10_isMarked_7 rfl (lv_at hl 0 rfl) ?_
    refine va_get (D := G) (ci := 7) (v := .int (Int32.ofInt (fi 20))) (C := RX10) (T := TX10) (N := 71) (ref := RX10) hx hb hts h1w hown hX.1 hP 0 rfl rfl 20 (by decide) h2w (fun _ h9 => h9) rfl dX10_isMarked_8 ?_
    have rf20 := hR 20
    refine lv_iconst (v := Int32.ofInt 3) hx hb dX10_isMarked_11 (by decide +kernel) ?_
    refine iv_icmp_ne (tgt := 32) hx hb (by omega) (by omega) dX10_isMarked_12 (by decide) (fun q2 => ?_) (fun q2 => ?_)
    · refine lv_iconst (v := Int32.ofInt 0) hx hb dX10_isMarked_32 (by decide +kernel) ?_
      exact W.zret (v := Int32.ofInt (0)) hx hb hr (nz_bool (by omega)) (fun t ht hW => ⟨⟨Int32.ofInt (0), (0), rfl, ⟨rfl, (show (inR 0) ∧ (((0 = 0 ∨ 0 = 1) ∧ (0 = 1 → fi 24 = 0 ∧ fi 20 = 3)) ∧ Isr 0 (fi 24) (isM (fa 16) (fi 19) c0 (fi 22))) from ⟨(by omega), (by exact ⟨by omega, isr_mark hty (by omega)⟩)⟩)⟩, by rw [ht]; exact hP, hD⟩, hS.F ht⟩) hS.2.2 dX10_isMarked_33
    · refine lv_aload_n hx hb dX10_isMarked_15 rfl (lv_at hl 0 rfl) ?_
      refine va_get (D := G) (ci := 7) (v := .ref (ar 16)) (C := RX10) (T := TX10) (N := 71) (ref := RX10) hx hb hts h1w hown hX.1 hP 0 rfl rfl 16 (by decide) h3w (fun _ h9 => h9) rfl dX10_isMarked_16 ?_
      refine lv_aload_n hx hb dX10_isMarked_19 rfl (lv_at hl 0 rfl) ?_
      refine va_get (D := G) (ci := 7) (v := .int (Int32.ofInt (fi 22))) (C := RX10) (T := TX10) (N := 71) (ref := RX10) hx hb hts h1w hown hX.1 hP 0 rfl rfl 22 (by decide) h4w (fun _ h9 => h9) rfl dX10_isMarked_20 ?_
      have rf22 := hR 22
      refine iv_iald hx hb hX.1 hP 10 0 rfl rfl (by omega) (by omega) (by decide) dX10_isMarked_23 ?_
      refine iv_top (fun z3 ez3 => ?_)
      have rz3 : inR z3 := ez3 ▸ (hRa 16) _
      have ez3 : z3 = (fa 16) (fi 22) := ez3
      refine lv_iload_n hx hb dX10_isMarked_24 rfl (lv_at hl 1 rfl) ?_
      refine iv_icmp_ne (tgt := 32) hx hb (by omega) (by omega) dX10_isMarked_25 (by decide) (fun q4 => ?_) (fun q4 => ?_)
      · refine lv_iconst (v := Int32.ofInt 0) hx hb dX10_isMarked_32 (by decide +kernel) ?_
        exact W.zret (v := Int32.ofInt (0)) hx hb hr (nz_bool (by omega)) (fun t ht hW => ⟨⟨Int32.ofInt (0), (0), rfl, ⟨rfl, (show (inR 0) ∧ (((0 = 0 ∨ 0 = 1) ∧ (0 = 1 → fi 24 = 0 ∧ fi 20 = 3)) ∧ Isr 0 (fi 24) (isM (fa 16) (fi 19) c0 (fi 22))) from ⟨(by omega), (by exact ⟨by omega, isr_mark hty (by omega)⟩)⟩)⟩, by rw [ht]; exact hP, hD⟩, hS.F ht⟩) hS.2.2 dX10_isMarked_33
      · refine lv_iconst (v := Int32.ofInt 1) hx hb dX10_isMarked_28 (by decide +kernel) ?_
        refine lv_goto (tgt := 33) hx hb dX10_isMarked_29 (by decide) ?_
        exact W.zret (v := Int32.ofInt (1)) hx hb hr (nz_bool (by omega)) (fun t ht hW => ⟨⟨Int32.ofInt (1), (1), rfl, ⟨rfl, (show (inR 1) ∧ (((1 = 0 ∨ 1 = 1) ∧ (1 = 1 → fi 24 = 0 ∧ fi 20 = 3)) ∧ Isr 1 (fi 24) (isM (fa 16) (fi 19) c0 (fi 22))) from ⟨(by omega), (by exact ⟨by omega, isr_mark hty (by omega)⟩)⟩)⟩, by rw [ht]; exact hP, hD⟩, hS.F ht⟩) hS.2.2 dX10_isMarked_33

