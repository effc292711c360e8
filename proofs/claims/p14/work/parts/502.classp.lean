set_option maxHeartbeats 4000000 in
set_option maxRecDepth 100000 in
theorem mX5_endRule (l : Launch) (G : va_G) (k : Nat → ClassId) (ar : Nat → Nat) (fi : Nat → Int) (fa : Nat → Int → Int) (sz : Nat) (hR : ∀ j, inR (fi j)) (hRa : ∀ j t, inR (fa j t)) (hB8 : bnd (fa 8) 7 0 4) (hB20 : bnd (fa 20) 600 (-1000) 10000) (hB21 : bnd (fa 21) 4 0 601) (hln : 0 ≤ fi 23 ∧ fi 23 ≤ 600) (hsz : 0 ≤ fi 24 ∧ fi 24 ≤ 4) : CNv l G k (EZ k) yX5_endRule wzX5_endRule ({ frames := 0, cells := 0, slots := 0, locals := 0 }) [.ref (ar 98)] sz (wP k ar fi fa) (fun (u : (Int → Int) × Int) => (∀ t, inR (u.1 t)) ∧ (bnd u.1 4 0 601) ∧ (inR u.2) ∧ ((0 ≤ u.2 ∧ u.2 ≤ 4 ∧ (fi 24 < 4 → u.2 = fi 24 + 1)) ∧ (fi 24 < 4 → u.1 = uA (fa 21) (fi 24) (fi 23)))) (fun (u : (Int → Int) × Int) => (wP k ar (uF fi 24 (u.2)) (uF fa 21 (u.1)))) := by
  refine Met.ofW (cc := cX5_endRule) (maxL := 1) (ret := none) (by decide) rfl ?_
  intro p e s m args below meth c s₁ B hml hv
  obtain ⟨rfl, hsz, hP, hX, hD0, hZ0⟩ := hv
  have hx := B.exec
  have hb := B.bytes
  have hr := B.returns
  have hts := atoms_spec (ws := wzX5_endRule) B.pre
  have hown : s.vm.findClass RX5 = some m.cls := findClass_of_methodNamed B.named
  subst hsz
  have hD := hD0.self (sz := s.heap.size)
  have hZ := hZ0
  generalize hAe : va_A (wP k ar fi fa) s.heap.size = A at hD hZ ⊢
  have hA : ∀ q : Nat, s.heap.size ≤ q → A q := fun q h => by rw [← hAe]; exact Or.inr h
  have hS : va_S A s.heap s.heap [] := va_S.rf
  have hl := lv_entry ([.ref (ar 98)]) (n := 1) (Nat.le_of_ble_eq_true rfl)
  rw [lg_entry_eq]
  generalize (lg_sl ([.ref (ar 98)]) ++ List.replicate (1 - (lg_sl ([.ref (ar 98)])).length) Slot.unset).toArray = ls at hl ⊢
  have hl : lv_has ls 1 [(0, .ref (ar 98))] := hl
  obtain ⟨H, eH⟩ : ∃ H, H = s.heap := ⟨_, rfl⟩
  rw [← eH] at hP
  have hS : va_S A s.heap H [] := by rw [eH]; exact hS
  have gW : s.heap = H := eH.symm
  refine iv_heap gW ?_
  have h0w := hts (.fieldLink RX5 28 "RopeTown$Rules" "size" "I") (wz_at 2 13 rfl)
  have h1w : ∀ w ∈ wsX50, w ∈ wzX5_endRule := fun w h => List.mem_cons_of_mem _ (inlX5 w h)
  have h2w := hts (.fieldLink RX5 15 "RopeTown$Rules" "ends" "[I") (wz_at 2 6 rfl)
  have h3w := hts (.fieldLink RX5 24 "RopeTown$Rules" "length" "I") (wz_at 2 12 rfl)
  refine lv_aload_n hx hb dX5_endRule_0 rfl (lv_at hl 0 rfl) ?_
  refine va_get (D := G) (ci := 4) (v := .int (Int32.ofInt (fi 24))) (C := RX5) (T := TX5) (N := 5) (ref := RX5) hx hb hts h1w hown hX.1 hP 1 rfl rfl 4 (by decide) h0w (fun _ h9 => h9) rfl dX5_endRule_1 ?_
  have rf24 := hR 24
  refine lv_aload_n hx hb dX5_endRule_4 rfl (lv_at hl 0 rfl) ?_
  refine va_get (D := G) (ci := 4) (v := .ref (ar 21)) (C := RX5) (T := TX5) (N := 5) (ref := RX5) hx hb hts h1w hown hX.1 hP 1 rfl rfl 1 (by decide) h2w (fun _ h9 => h9) rfl dX5_endRule_5 ?_
  refine va_alen (v := Int32.ofInt 4) hx hb hX.1 hP 8 0 rfl rfl (show Int32.ofNat 4 = Int32.ofInt 4 from by decide) dX5_endRule_8 ?_
  refine iv_icmp_ge (tgt := 35) hx hb (by omega) (by omega) dX5_endRule_9 (by decide) (fun q1 => ?_) (fun q1 => ?_)
  · exact W.vret hx hb hr (fun t ht hW => ⟨⟨(fa 21, fi 24), rfl, (show (∀ t, inR ((fa 21) t)) ∧ (bnd (fa 21) 4 0 601) ∧ (inR (fi 24)) ∧ ((0 ≤ (fi 24) ∧ (fi 24) ≤ 4 ∧ (fi 24 < 4 → (fi 24) = fi 24 + 1)) ∧ (fi 24 < 4 → (fa 21) = uA (fa 21) (fi 24) (fi 23))) from ⟨(hRa 21), hB21, (hR 24), (by first | exact ⟨by omega, fun z => absurd z (by omega)⟩ | exact ⟨by omega, fun _ => efa 21⟩)⟩), by rw [ht]; exact hP, hD⟩, hS.F ht⟩) hS.2.2 dX5_endRule_35
  · refine lv_aload_n hx hb dX5_endRule_12 rfl (lv_at hl 0 rfl) ?_
    refine va_get (D := G) (ci := 4) (v := .ref (ar 21)) (C := RX5) (T := TX5) (N := 5) (ref := RX5) hx hb hts h1w hown hX.1 hP 1 rfl rfl 1 (by decide) h2w (fun _ h9 => h9) rfl dX5_endRule_13 ?_
    refine lv_aload_n hx hb dX5_endRule_16 rfl (lv_at hl 0 rfl) ?_
    refine va_get (D := G) (ci := 4) (v := .int (Int32.ofInt (fi 24))) (C := RX5) (T := TX5) (N := 5) (ref := RX5) hx hb hts h1w hown hX.1 hP 1 rfl rfl 4 (by decide) h0w (fun _ h9 => h9) rfl dX5_endRule_17 ?_
    have rf24 := hR 24
    refine lv_aload_n hx hb dX5_endRule_20 rfl (lv_at hl 0 rfl) ?_
    refine va_get (D := G) (ci := 4) (v := .int (Int32.ofInt (fi 23))) (C := RX5) (T := TX5) (N := 5) (ref := RX5) hx hb hts h1w hown hX.1 hP 1 rfl rfl 3 (by decide) h3w (fun _ h9 => h9) rfl dX5_endRule_21 ?_
    have rf23 := hR 23
    refine iv_iast hx hb hX.1 hP hD hS 8 0 rfl rfl (fun g' => show _ = (wP k ar fi (uF fa 21 (g'))) from rfl) (by omega) (by omega) (by decide) dX5_endRule_24 (fun H locs hP hD hS => ?_)
    obtain ⟨g2, eg2, rg2⟩ : ∃ z, z = uA (fa 21) (fi 24) (fi 23) ∧ ∀ t, inR (z t) := ⟨_, rfl, iU (hRa 21) (by omega)⟩
    rw [← eg2] at hP hD
    have bg2 : bnd g2 4 0 601 := bnd_up hB21 (by omega) (by omega) eg2
    refine lv_aload_n hx hb dX5_endRule_25 rfl (lv_at hl 0 rfl) ?_
    refine lv_dup hx hb dX5_endRule_26 rfl ?_
    refine va_get (D := G) (ci := 4) (v := .int (Int32.ofInt (fi 24))) (C := RX5) (T := TX5) (N := 5) (ref := RX5) hx hb hts h1w hown hX.1 hP 1 rfl rfl 4 (by decide) h0w (fun _ h9 => h9) rfl dX5_endRule_27 ?_
    have rf24 := hR 24
    refine lv_iconst (v := Int32.ofInt 1) hx hb dX5_endRule_30 (by decide +kernel) ?_
    refine iv_add (x := fi 24) (y := 1) hx hb dX5_endRule_31 ?_
    refine iv_put (ci := 4) (v := .int (Int32.ofInt ((fi 24 + 1)))) (ty := .int) (C := RX5) (T := TX5) (N := 5) (ref := RX5) hx hb hts h1w tyX5 tyX5_ok nmX5 hown hX.1 hP hD hS 1 rfl rfl 4 (by decide) h0w (fun _ h9 => h9) rfl (by decide +kernel) rfl rfl (Nat.le_of_ble_eq_true rfl) (show _ = (wP k ar (uF fi 24 ((fi 24 + 1))) (uF fa 21 (g2))) from rfl) dX5_endRule_32 (fun H locs hP hD hS => ?_)
    exact W.vret hx hb hr (fun t ht hW => ⟨⟨(g2, (fi 24 + 1)), rfl, (show (∀ t, inR (g2 t)) ∧ (bnd g2 4 0 601) ∧ (inR (fi 24 + 1)) ∧ ((0 ≤ (fi 24 + 1) ∧ (fi 24 + 1) ≤ 4 ∧ (fi 24 < 4 → (fi 24 + 1) = fi 24 + 1)) ∧ (fi 24 < 4 → g2 = uA (fa 21) (fi 24) (fi 23))) from ⟨rg2, bg2, (by omega), (by first | exact ⟨by omega, fun z => absurd z (by omega)⟩ | exact ⟨by omega, fun _ => eg2⟩)⟩), by rw [ht]; exact hP, hD⟩, hS.F ht⟩) hS.2.2 dX5_endRule_35

