set_option maxHeartbeats 4000000 in
set_option maxRecDepth 100000 in
theorem mX4_takeSign (l : Launch) (G : va_G) (k : Nat → ClassId) (arR : Nat → Nat) (plR : Nat) (fiR : Nat → Int) (faR : Nat → Int → Int) (arY : Nat → Nat) (fiY : Nat → Int) (faY : Nat → Int → Int) (sz : Nat) (hRR : ∀ j, inR (fiR j)) (hRaR : ∀ j t, inR (faR j t)) (hRY : ∀ j, inR (fiY j)) (hRaY : ∀ j t, inR (faY j t)) (hB0Y : bnd (faY 0) 600 (-128) 128) (hst : 0 ≤ fiR 22 ∧ fiR 22 < fiR 21 ∧ fiR 21 ≤ 600) (hsg : fiR 27 = 0) : CNv l G k (EZ k) yX4_takeSign wzX4_takeSign ({ frames := 0, cells := 0, slots := 0, locals := 0 }) [.ref (arR 98)] sz ((wR k arR (plR) (arY 0) fiR faR) ++ (wY k arY fiY faY)) (fun (u : Int × Int) => (inR u.1) ∧ (inR u.2) ∧ (SGp (uT (faY 0)) (fiR 22) u.1 u.2)) (fun (u : Int × Int) => ((wR k arR (plR) (arY 0) (uF (uF fiR 24 (u.1)) 27 (u.2)) faR) ++ (wY k arY fiY faY))) := by
  refine Met.ofW (cc := cX4_takeSign) (maxL := 1) (ret := none) (by decide) rfl ?_
  intro p e s m args below meth c s₁ B hml hv
  obtain ⟨rfl, hsz, hP, hX, hD0, hZ0⟩ := hv
  have hx := B.exec
  have hb := B.bytes
  have hr := B.returns
  have hts := atoms_spec (ws := wzX4_takeSign) B.pre
  have hown : s.vm.findClass RX4 = some m.cls := findClass_of_methodNamed B.named
  subst hsz
  have hD := hD0.self (sz := s.heap.size)
  have hZ := hZ0
  generalize hAe : va_A ((wR k arR (plR) (arY 0) fiR faR) ++ (wY k arY fiY faY)) s.heap.size = A at hD hZ ⊢
  have hA : ∀ q : Nat, s.heap.size ≤ q → A q := fun q h => by rw [← hAe]; exact Or.inr h
  have hS : va_S A s.heap s.heap [] := va_S.rf
  have hl := lv_entry ([.ref (arR 98)]) (n := 1) (Nat.le_of_ble_eq_true rfl)
  rw [lg_entry_eq]
  generalize (lg_sl ([.ref (arR 98)]) ++ List.replicate (1 - (lg_sl ([.ref (arR 98)])).length) Slot.unset).toArray = ls at hl ⊢
  have hl : lv_has ls 1 [(0, .ref (arR 98))] := hl
  obtain ⟨H, eH⟩ : ∃ H, H = s.heap := ⟨_, rfl⟩
  rw [← eH] at hP
  have hS : va_S A s.heap H [] := by rw [eH]; exact hS
  have gW : s.heap = H := eH.symm
  refine iv_heap gW ?_
  have h0w := hts (.fieldLink RX4 9 "RopeTown$Reader" "text" "[B") (wz_at 3 16 rfl)
  have h1w : ∀ w ∈ wsX40, w ∈ wzX4_takeSign := fun w h => List.mem_cons_of_mem _ (inlX4 w h)
  have h2w := hts (.fieldLink RX4 19 "RopeTown$Reader" "start" "I") (wz_at 3 18 rfl)
  have h3w := hts (.fieldLink RX4 25 "RopeTown$Reader" "kind" "I") (wz_at 3 20 rfl)
  have h4w := hts (.fieldLink RX4 40 "RopeTown$Reader" "sign" "I") (wz_at 4 0 rfl)
  refine lv_aload_n hx hb dX4_takeSign_0 rfl (lv_at hl 0 rfl) ?_
  refine va_get (D := G) (ci := 3) (v := .ref (arY 0)) (C := RX4) (T := TX4) (N := 8) (ref := RX4) hx hb hts h1w hown hX.1 hP 1 rfl rfl 0 (by decide) h0w (fun _ h9 => h9) rfl dX4_takeSign_1 ?_
  refine lv_aload_n hx hb dX4_takeSign_4 rfl (lv_at hl 0 rfl) ?_
  refine va_get (D := G) (ci := 3) (v := .int (Int32.ofInt (fiR 22))) (C := RX4) (T := TX4) (N := 8) (ref := RX4) hx hb hts h1w hown hX.1 hP 1 rfl rfl 2 (by decide) h2w (fun _ h9 => h9) rfl dX4_takeSign_5 ?_
  have rf22R := hRR 22
  refine iv_bald hx hb hX.1 hP 2 1 rfl rfl (by omega) (by omega) (by decide) dX4_takeSign_8 ?_
  refine iv_top (fun z1 ez1 => ?_)
  have rz1 : inR z1 := ez1 ▸ (hRaY 0) _
  have ez1 : z1 = (faY 0) (fiR 22) := ez1
  have bz1 : (-128) ≤ z1 ∧ z1 < 128 := by rw [ez1]; exact bnd_at hB0Y (by omega) (by omega)
  obtain q2 | q2 | q2 | q2 | q2 | q2 | q2 | q2 | q2 | q2 | q2 | q2 | q2 | q2 | q2 | q2 | q2 | q2 | q2 | q2 | q2 | q2 | q2 : (z1 < 40 ∨ 61 < z1) ∨ z1 = 40 ∨ z1 = 41 ∨ z1 = 42 ∨ z1 = 43 ∨ z1 = 44 ∨ z1 = 45 ∨ z1 = 46 ∨ z1 = 47 ∨ z1 = 48 ∨ z1 = 49 ∨ z1 = 50 ∨ z1 = 51 ∨ z1 = 52 ∨ z1 = 53 ∨ z1 = 54 ∨ z1 = 55 ∨ z1 = 56 ∨ z1 = 57 ∨ z1 = 58 ∨ z1 = 59 ∨ z1 = 60 ∨ z1 = 61 := by omega
  · refine lv_tableOut (tgt := 133) hx hb dX4_takeSign_9 (by rw [iz_toInt (by omega)]; exact q2) (by decide) ?_
    refine lv_aload_n hx hb dX4_takeSign_133 rfl (lv_at hl 0 rfl) ?_
    refine lv_iconst (v := Int32.ofInt 4) hx hb dX4_takeSign_134 (by decide +kernel) ?_
    refine iv_put (ci := 3) (v := .int (Int32.ofInt (4))) (ty := .int) (C := RX4) (T := TX4) (N := 8) (ref := RX4) hx hb hts h1w tyX4 tyX4_ok nmX4 hown hX.1 hP hD hS 1 rfl rfl 4 (by decide) h3w (fun _ h9 => h9) rfl (by decide +kernel) rfl rfl (Nat.le_of_ble_eq_true rfl) (show _ = ((wR k arR (plR) (arY 0) (uF fiR 24 (4)) faR) ++ (wY k arY fiY faY)) from rfl) dX4_takeSign_135 (fun H locs hP hD hS => ?_)
    exact W.vret hx hb hr (fun t ht hW => ⟨⟨(4, fiR 27), rfl, (show (inR 4) ∧ (inR (fiR 27)) ∧ (SGp (uT (faY 0)) (fiR 22) 4 (fiR 27)) from ⟨(by omega), (hRR 27), (by have hU := uT_e (faY 0) (fiR 22); first | exact Or.inl ⟨by unfold isMk; omega, by omega, by omega⟩ | exact Or.inr ⟨by unfold isMk; omega, by omega, by omega⟩)⟩), by rw [ht]; exact hP, hD⟩, hS.F ht⟩) hS.2.2 dX4_takeSign_138
  · refine lv_tableIn (tgt := 112) hx hb dX4_takeSign_9 (by rw [iz_toInt (by omega)]; omega) (by rw [iz_toInt (by omega)]; omega) (off := 103) (by rw [iz_toInt (by omega), q2]; decide +kernel) (by decide) ?_
    refine lv_aload_n hx hb dX4_takeSign_112 rfl (lv_at hl 0 rfl) ?_
    refine lv_iconst (v := Int32.ofInt 3) hx hb dX4_takeSign_113 (by decide +kernel) ?_
    refine iv_put (ci := 3) (v := .int (Int32.ofInt (3))) (ty := .int) (C := RX4) (T := TX4) (N := 8) (ref := RX4) hx hb hts h1w tyX4 tyX4_ok nmX4 hown hX.1 hP hD hS 1 rfl rfl 4 (by decide) h3w (fun _ h9 => h9) rfl (by decide +kernel) rfl rfl (Nat.le_of_ble_eq_true rfl) (show _ = ((wR k arR (plR) (arY 0) (uF fiR 24 (3)) faR) ++ (wY k arY fiY faY)) from rfl) dX4_takeSign_114 (fun H locs hP hD hS => ?_)
    refine lv_aload_n hx hb dX4_takeSign_117 rfl (lv_at hl 0 rfl) ?_
    refine lv_aload_n hx hb dX4_takeSign_118 rfl (lv_at hl 0 rfl) ?_
    refine va_get (D := G) (ci := 3) (v := .ref (arY 0)) (C := RX4) (T := TX4) (N := 8) (ref := RX4) hx hb hts h1w hown hX.1 hP 1 rfl rfl 0 (by decide) h0w (fun _ h9 => h9) rfl dX4_takeSign_119 ?_
    refine lv_aload_n hx hb dX4_takeSign_122 rfl (lv_at hl 0 rfl) ?_
    refine va_get (D := G) (ci := 3) (v := .int (Int32.ofInt (fiR 22))) (C := RX4) (T := TX4) (N := 8) (ref := RX4) hx hb hts h1w hown hX.1 hP 1 rfl rfl 2 (by decide) h2w (fun _ h9 => h9) rfl dX4_takeSign_123 ?_
    have rf22R := hRR 22
    refine iv_bald hx hb hX.1 hP 2 1 rfl rfl (by omega) (by omega) (by decide) dX4_takeSign_126 ?_
    refine iv_top (fun z3 ez3 => ?_)
    have rz3 : inR z3 := ez3 ▸ (hRaY 0) _
    have ez3 : z3 = (faY 0) (fiR 22) := ez3
    have bz3 : (-128) ≤ z3 ∧ z3 < 128 := by rw [ez3]; exact bnd_at hB0Y (by omega) (by omega)
    refine iv_put (ci := 3) (v := .int (Int32.ofInt (z3))) (ty := .int) (C := RX4) (T := TX4) (N := 8) (ref := RX4) hx hb hts h1w tyX4 tyX4_ok nmX4 hown hX.1 hP hD hS 1 rfl rfl 7 (by decide) h4w (fun _ h9 => h9) rfl (by decide +kernel) rfl rfl (Nat.le_of_ble_eq_true rfl) (show _ = ((wR k arR (plR) (arY 0) (uF (uF fiR 24 (3)) 27 (z3)) faR) ++ (wY k arY fiY faY)) from rfl) dX4_takeSign_127 (fun H locs hP hD hS => ?_)
    refine lv_goto (tgt := 138) hx hb dX4_takeSign_130 (by decide) ?_
    exact W.vret hx hb hr (fun t ht hW => ⟨⟨(3, z3), rfl, (show (inR 3) ∧ (inR z3) ∧ (SGp (uT (faY 0)) (fiR 22) 3 z3) from ⟨(by omega), (by omega), (by have hU := uT_e (faY 0) (fiR 22); first | exact Or.inl ⟨by unfold isMk; omega, by omega, by omega⟩ | exact Or.inr ⟨by unfold isMk; omega, by omega, by omega⟩)⟩), by rw [ht]; exact hP, hD⟩, hS.F ht⟩) hS.2.2 dX4_takeSign_138
  · refine lv_tableIn (tgt := 112) hx hb dX4_takeSign_9 (by rw [iz_toInt (by omega)]; omega) (by rw [iz_toInt (by omega)]; omega) (off := 103) (by rw [iz_toInt (by omega), q2]; decide +kernel) (by decide) ?_
    refine lv_aload_n hx hb dX4_takeSign_112 rfl (lv_at hl 0 rfl) ?_
    refine lv_iconst (v := Int32.ofInt 3) hx hb dX4_takeSign_113 (by decide +kernel) ?_
    refine iv_put (ci := 3) (v := .int (Int32.ofInt (3))) (ty := .int) (C := RX4) (T := TX4) (N := 8) (ref := RX4) hx hb hts h1w tyX4 tyX4_ok nmX4 hown hX.1 hP hD hS 1 rfl rfl 4 (by decide) h3w (fun _ h9 => h9) rfl (by decide +kernel) rfl rfl (Nat.le_of_ble_eq_true rfl) (show _ = ((wR k arR (plR) (arY 0) (uF fiR 24 (3)) faR) ++ (wY k arY fiY faY)) from rfl) dX4_takeSign_114 (fun H locs hP hD hS => ?_)
    refine lv_aload_n hx hb dX4_takeSign_117 rfl (lv_at hl 0 rfl) ?_
    refine lv_aload_n hx hb dX4_takeSign_118 rfl (lv_at hl 0 rfl) ?_
    refine va_get (D := G) (ci := 3) (v := .ref (arY 0)) (C := RX4) (T := TX4) (N := 8) (ref := RX4) hx hb hts h1w hown hX.1 hP 1 rfl rfl 0 (by decide) h0w (fun _ h9 => h9) rfl dX4_takeSign_119 ?_
    refine lv_aload_n hx hb dX4_takeSign_122 rfl (lv_at hl 0 rfl) ?_
    refine va_get (D := G) (ci := 3) (v := .int (Int32.ofInt (fiR 22))) (C := RX4) (T := TX4) (N := 8) (ref := RX4) hx hb hts h1w hown hX.1 hP 1 rfl rfl 2 (by decide) h2w (fun _ h9 => h9) rfl dX4_takeSign_123 ?_
    have rf22R := hRR 22
    refine iv_bald hx hb hX.1 hP 2 1 rfl rfl (by omega) (by omega) (by decide) dX4_takeSign_126 ?_
    refine iv_top (fun z4 ez4 => ?_)
    have rz4 : inR z4 := ez4 ▸ (hRaY 0) _
    have ez4 : z4 = (faY 0) (fiR 22) := ez4
    have bz4 : (-128) ≤ z4 ∧ z4 < 128 := by rw [ez4]; exact bnd_at hB0Y (by omega) (by omega)
    refine iv_put (ci := 3) (v := .int (Int32.ofInt (z4))) (ty := .int) (C := RX4) (T := TX4) (N := 8) (ref := RX4) hx hb hts h1w tyX4 tyX4_ok nmX4 hown hX.1 hP hD hS 1 rfl rfl 7 (by decide) h4w (fun _ h9 => h9) rfl (by decide +kernel) rfl rfl (Nat.le_of_ble_eq_true rfl) (show _ = ((wR k arR (plR) (arY 0) (uF (uF fiR 24 (3)) 27 (z4)) faR) ++ (wY k arY fiY faY)) from rfl) dX4_takeSign_127 (fun H locs hP hD hS => ?_)
    refine lv_goto (tgt := 138) hx hb dX4_takeSign_130 (by decide) ?_
    exact W.vret hx hb hr (fun t ht hW => ⟨⟨(3, z4), rfl, (show (inR 3) ∧ (inR z4) ∧ (SGp (uT (faY 0)) (fiR 22) 3 z4) from ⟨(by omega), (by omega), (by have hU := uT_e (faY 0) (fiR 22); first | exact Or.inl ⟨by unfold isMk; omega, by omega, by omega⟩ | exact Or.inr ⟨by unfold isMk; omega, by omega, by omega⟩)⟩), by rw [ht]; exact hP, hD⟩, hS.F ht⟩) hS.2.2 dX4_takeSign_138
  · refine lv_tableIn (tgt := 112) hx hb dX4_takeSign_9 (by rw [iz_toInt (by omega)]; omega) (by rw [iz_toInt (by omega)]; omega) (off := 103) (by rw [iz_toInt (by omega), q2]; decide +kernel) (by decide) ?_
    refine lv_aload_n hx hb dX4_takeSign_112 rfl (lv_at hl 0 rfl) ?_
    refine lv_iconst (v := Int32.ofInt 3) hx hb dX4_takeSign_113 (by decide +kernel) ?_
    refine iv_put (ci := 3) (v := .int (Int32.ofInt (3))) (ty := .int) (C := RX4) (T := TX4) (N := 8) (ref := RX4) hx hb hts h1w tyX4 tyX4_ok nmX4 hown hX.1 hP hD hS 1 rfl rfl 4 (by decide) h3w (fun _ h9 => h9) rfl (by decide +kernel) rfl rfl (Nat.le_of_ble_eq_true rfl) (show _ = ((wR k arR (plR) (arY 0) (uF fiR 24 (3)) faR) ++ (wY k arY fiY faY)) from rfl) dX4_takeSign_114 (fun H locs hP hD hS => ?_)
    refine lv_aload_n hx hb dX4_takeSign_117 rfl (lv_at hl 0 rfl) ?_
    refine lv_aload_n hx hb dX4_takeSign_118 rfl (lv_at hl 0 rfl) ?_
    refine va_get (D := G) (ci := 3) (v := .ref (arY 0)) (C := RX4) (T := TX4) (N := 8) (ref := RX4) hx hb hts h1w hown hX.1 hP 1 rfl rfl 0 (by decide) h0w (fun _ h9 => h9) rfl dX4_takeSign_119 ?_
    refine lv_aload_n hx hb dX4_takeSign_122 rfl (lv_at hl 0 rfl) ?_
    refine va_get (D := G) (ci := 3) (v := .int (Int32.ofInt (fiR 22))) (C := RX4) (T := TX4) (N := 8) (ref := RX4) hx hb hts h1w hown hX.1 hP 1 rfl rfl 2 (by decide) h2w (fun _ h9 => h9) rfl dX4_takeSign_123 ?_
    have rf22R := hRR 22
    refine iv_bald hx hb hX.1 hP 2 1 rfl rfl (by omega) (by omega) (by decide) dX4_takeSign_126 ?_
    refine iv_top (fun z5 ez5 => ?_)
    have rz5 : inR z5 := ez5 ▸ (hRaY 0) _
    have ez5 : z5 = (faY 0) (fiR 22) := ez5
    have bz5 : (-128) ≤ z5 ∧ z5 < 128 := by rw [ez5]; exact bnd_at hB0Y (by omega) (by omega)
    refine iv_put (ci := 3) (v := .int (Int32.ofInt (z5))) (ty := .int) (C := RX4) (T := TX4) (N := 8) (ref := RX4) hx hb hts h1w tyX4 tyX4_ok nmX4 hown hX.1 hP hD hS 1 rfl rfl 7 (by decide) h4w (fun _ h9 => h9) rfl (by decide +kernel) rfl rfl (Nat.le_of_ble_eq_true rfl) (show _ = ((wR k arR (plR) (arY 0) (uF (uF fiR 24 (3)) 27 (z5)) faR) ++ (wY k arY fiY faY)) from rfl) dX4_takeSign_127 (fun H locs hP hD hS => ?_)
    refine lv_goto (tgt := 138) hx hb dX4_takeSign_130 (by decide) ?_
    exact W.vret hx hb hr (fun t ht hW => ⟨⟨(3, z5), rfl, (show (inR 3) ∧ (inR z5) ∧ (SGp (uT (faY 0)) (fiR 22) 3 z5) from ⟨(by omega), (by omega), (by have hU := uT_e (faY 0) (fiR 22); first | exact Or.inl ⟨by unfold isMk; omega, by omega, by omega⟩ | exact Or.inr ⟨by unfold isMk; omega, by omega, by omega⟩)⟩), by rw [ht]; exact hP, hD⟩, hS.F ht⟩) hS.2.2 dX4_takeSign_138
  · refine lv_tableIn (tgt := 112) hx hb dX4_takeSign_9 (by rw [iz_toInt (by omega)]; omega) (by rw [iz_toInt (by omega)]; omega) (off := 103) (by rw [iz_toInt (by omega), q2]; decide +kernel) (by decide) ?_
    refine lv_aload_n hx hb dX4_takeSign_112 rfl (lv_at hl 0 rfl) ?_
    refine lv_iconst (v := Int32.ofInt 3) hx hb dX4_takeSign_113 (by decide +kernel) ?_
    refine iv_put (ci := 3) (v := .int (Int32.ofInt (3))) (ty := .int) (C := RX4) (T := TX4) (N := 8) (ref := RX4) hx hb hts h1w tyX4 tyX4_ok nmX4 hown hX.1 hP hD hS 1 rfl rfl 4 (by decide) h3w (fun _ h9 => h9) rfl (by decide +kernel) rfl rfl (Nat.le_of_ble_eq_true rfl) (show _ = ((wR k arR (plR) (arY 0) (uF fiR 24 (3)) faR) ++ (wY k arY fiY faY)) from rfl) dX4_takeSign_114 (fun H locs hP hD hS => ?_)
    refine lv_aload_n hx hb dX4_takeSign_117 rfl (lv_at hl 0 rfl) ?_
    refine lv_aload_n hx hb dX4_takeSign_118 rfl (lv_at hl 0 rfl) ?_
    refine va_get (D := G) (ci := 3) (v := .ref (arY 0)) (C := RX4) (T := TX4) (N := 8) (ref := RX4) hx hb hts h1w hown hX.1 hP 1 rfl rfl 0 (by decide) h0w (fun _ h9 => h9) rfl dX4_takeSign_119 ?_
    refine lv_aload_n hx hb dX4_takeSign_122 rfl (lv_at hl 0 rfl) ?_
    refine va_get (D := G) (ci := 3) (v := .int (Int32.ofInt (fiR 22))) (C := RX4) (T := TX4) (N := 8) (ref := RX4) hx hb hts h1w hown hX.1 hP 1 rfl rfl 2 (by decide) h2w (fun _ h9 => h9) rfl dX4_takeSign_123 ?_
    have rf22R := hRR 22
    refine iv_bald hx hb hX.1 hP 2 1 rfl rfl (by omega) (by omega) (by decide) dX4_takeSign_126 ?_
    refine iv_top (fun z6 ez6 => ?_)
    have rz6 : inR z6 := ez6 ▸ (hRaY 0) _
    have ez6 : z6 = (faY 0) (fiR 22) := ez6
    have bz6 : (-128) ≤ z6 ∧ z6 < 128 := by rw [ez6]; exact bnd_at hB0Y (by omega) (by omega)
    refine iv_put (ci := 3) (v := .int (Int32.ofInt (z6))) (ty := .int) (C := RX4) (T := TX4) (N := 8) (ref := RX4) hx hb hts h1w tyX4 tyX4_ok nmX4 hown hX.1 hP hD hS 1 rfl rfl 7 (by decide) h4w (fun _ h9 => h9) rfl (by decide +kernel) rfl rfl (Nat.le_of_ble_eq_true rfl) (show _ = ((wR k arR (plR) (arY 0) (uF (uF fiR 24 (3)) 27 (z6)) faR) ++ (wY k arY fiY faY)) from rfl) dX4_takeSign_127 (fun H locs hP hD hS => ?_)
    refine lv_goto (tgt := 138) hx hb dX4_takeSign_130 (by decide) ?_
    exact W.vret hx hb hr (fun t ht hW => ⟨⟨(3, z6), rfl, (show (inR 3) ∧ (inR z6) ∧ (SGp (uT (faY 0)) (fiR 22) 3 z6) from ⟨(by omega), (by omega), (by have hU := uT_e (faY 0) (fiR 22); first | exact Or.inl ⟨by unfold isMk; omega, by omega, by omega⟩ | exact Or.inr ⟨by unfold isMk; omega, by omega, by omega⟩)⟩), by rw [ht]; exact hP, hD⟩, hS.F ht⟩) hS.2.2 dX4_takeSign_138
  · refine lv_tableIn (tgt := 133) hx hb dX4_takeSign_9 (by rw [iz_toInt (by omega)]; omega) (by rw [iz_toInt (by omega)]; omega) (off := 124) (by rw [iz_toInt (by omega), q2]; decide +kernel) (by decide) ?_
    refine lv_aload_n hx hb dX4_takeSign_133 rfl (lv_at hl 0 rfl) ?_
    refine lv_iconst (v := Int32.ofInt 4) hx hb dX4_takeSign_134 (by decide +kernel) ?_
    refine iv_put (ci := 3) (v := .int (Int32.ofInt (4))) (ty := .int) (C := RX4) (T := TX4) (N := 8) (ref := RX4) hx hb hts h1w tyX4 tyX4_ok nmX4 hown hX.1 hP hD hS 1 rfl rfl 4 (by decide) h3w (fun _ h9 => h9) rfl (by decide +kernel) rfl rfl (Nat.le_of_ble_eq_true rfl) (show _ = ((wR k arR (plR) (arY 0) (uF fiR 24 (4)) faR) ++ (wY k arY fiY faY)) from rfl) dX4_takeSign_135 (fun H locs hP hD hS => ?_)
    exact W.vret hx hb hr (fun t ht hW => ⟨⟨(4, fiR 27), rfl, (show (inR 4) ∧ (inR (fiR 27)) ∧ (SGp (uT (faY 0)) (fiR 22) 4 (fiR 27)) from ⟨(by omega), (hRR 27), (by have hU := uT_e (faY 0) (fiR 22); first | exact Or.inl ⟨by unfold isMk; omega, by omega, by omega⟩ | exact Or.inr ⟨by unfold isMk; omega, by omega, by omega⟩)⟩), by rw [ht]; exact hP, hD⟩, hS.F ht⟩) hS.2.2 dX4_takeSign_138
  · refine lv_tableIn (tgt := 112) hx hb dX4_takeSign_9 (by rw [iz_toInt (by omega)]; omega) (by rw [iz_toInt (by omega)]; omega) (off := 103) (by rw [iz_toInt (by omega), q2]; decide +kernel) (by decide) ?_
    refine lv_aload_n hx hb dX4_takeSign_112 rfl (lv_at hl 0 rfl) ?_
    refine lv_iconst (v := Int32.ofInt 3) hx hb dX4_takeSign_113 (by decide +kernel) ?_
    refine iv_put (ci := 3) (v := .int (Int32.ofInt (3))) (ty := .int) (C := RX4) (T := TX4) (N := 8) (ref := RX4) hx hb hts h1w tyX4 tyX4_ok nmX4 hown hX.1 hP hD hS 1 rfl rfl 4 (by decide) h3w (fun _ h9 => h9) rfl (by decide +kernel) rfl rfl (Nat.le_of_ble_eq_true rfl) (show _ = ((wR k arR (plR) (arY 0) (uF fiR 24 (3)) faR) ++ (wY k arY fiY faY)) from rfl) dX4_takeSign_114 (fun H locs hP hD hS => ?_)
    refine lv_aload_n hx hb dX4_takeSign_117 rfl (lv_at hl 0 rfl) ?_
    refine lv_aload_n hx hb dX4_takeSign_118 rfl (lv_at hl 0 rfl) ?_
    refine va_get (D := G) (ci := 3) (v := .ref (arY 0)) (C := RX4) (T := TX4) (N := 8) (ref := RX4) hx hb hts h1w hown hX.1 hP 1 rfl rfl 0 (by decide) h0w (fun _ h9 => h9) rfl dX4_takeSign_119 ?_
    refine lv_aload_n hx hb dX4_takeSign_122 rfl (lv_at hl 0 rfl) ?_
    refine va_get (D := G) (ci := 3) (v := .int (Int32.ofInt (fiR 22))) (C := RX4) (T := TX4) (N := 8) (ref := RX4) hx hb hts h1w hown hX.1 hP 1 rfl rfl 2 (by decide) h2w (fun _ h9 => h9) rfl dX4_takeSign_123 ?_
    have rf22R := hRR 22
    refine iv_bald hx hb hX.1 hP 2 1 rfl rfl (by omega) (by omega) (by decide) dX4_takeSign_126 ?_
    refine iv_top (fun z7 ez7 => ?_)
    have rz7 : inR z7 := ez7 ▸ (hRaY 0) _
    have ez7 : z7 = (faY 0) (fiR 22) := ez7
    have bz7 : (-128) ≤ z7 ∧ z7 < 128 := by rw [ez7]; exact bnd_at hB0Y (by omega) (by omega)
    refine iv_put (ci := 3) (v := .int (Int32.ofInt (z7))) (ty := .int) (C := RX4) (T := TX4) (N := 8) (ref := RX4) hx hb hts h1w tyX4 tyX4_ok nmX4 hown hX.1 hP hD hS 1 rfl rfl 7 (by decide) h4w (fun _ h9 => h9) rfl (by decide +kernel) rfl rfl (Nat.le_of_ble_eq_true rfl) (show _ = ((wR k arR (plR) (arY 0) (uF (uF fiR 24 (3)) 27 (z7)) faR) ++ (wY k arY fiY faY)) from rfl) dX4_takeSign_127 (fun H locs hP hD hS => ?_)
    refine lv_goto (tgt := 138) hx hb dX4_takeSign_130 (by decide) ?_
    exact W.vret hx hb hr (fun t ht hW => ⟨⟨(3, z7), rfl, (show (inR 3) ∧ (inR z7) ∧ (SGp (uT (faY 0)) (fiR 22) 3 z7) from ⟨(by omega), (by omega), (by have hU := uT_e (faY 0) (fiR 22); first | exact Or.inl ⟨by unfold isMk; omega, by omega, by omega⟩ | exact Or.inr ⟨by unfold isMk; omega, by omega, by omega⟩)⟩), by rw [ht]; exact hP, hD⟩, hS.F ht⟩) hS.2.2 dX4_takeSign_138
  · refine lv_tableIn (tgt := 133) hx hb dX4_takeSign_9 (by rw [iz_toInt (by omega)]; omega) (by rw [iz_toInt (by omega)]; omega) (off := 124) (by rw [iz_toInt (by omega), q2]; decide +kernel) (by decide) ?_
    refine lv_aload_n hx hb dX4_takeSign_133 rfl (lv_at hl 0 rfl) ?_
    refine lv_iconst (v := Int32.ofInt 4) hx hb dX4_takeSign_134 (by decide +kernel) ?_
    refine iv_put (ci := 3) (v := .int (Int32.ofInt (4))) (ty := .int) (C := RX4) (T := TX4) (N := 8) (ref := RX4) hx hb hts h1w tyX4 tyX4_ok nmX4 hown hX.1 hP hD hS 1 rfl rfl 4 (by decide) h3w (fun _ h9 => h9) rfl (by decide +kernel) rfl rfl (Nat.le_of_ble_eq_true rfl) (show _ = ((wR k arR (plR) (arY 0) (uF fiR 24 (4)) faR) ++ (wY k arY fiY faY)) from rfl) dX4_takeSign_135 (fun H locs hP hD hS => ?_)
    exact W.vret hx hb hr (fun t ht hW => ⟨⟨(4, fiR 27), rfl, (show (inR 4) ∧ (inR (fiR 27)) ∧ (SGp (uT (faY 0)) (fiR 22) 4 (fiR 27)) from ⟨(by omega), (hRR 27), (by have hU := uT_e (faY 0) (fiR 22); first | exact Or.inl ⟨by unfold isMk; omega, by omega, by omega⟩ | exact Or.inr ⟨by unfold isMk; omega, by omega, by omega⟩)⟩), by rw [ht]; exact hP, hD⟩, hS.F ht⟩) hS.2.2 dX4_takeSign_138
  · refine lv_tableIn (tgt := 112) hx hb dX4_takeSign_9 (by rw [iz_toInt (by omega)]; omega) (by rw [iz_toInt (by omega)]; omega) (off := 103) (by rw [iz_toInt (by omega), q2]; decide +kernel) (by decide) ?_
    refine lv_aload_n hx hb dX4_takeSign_112 rfl (lv_at hl 0 rfl) ?_
    refine lv_iconst (v := Int32.ofInt 3) hx hb dX4_takeSign_113 (by decide +kernel) ?_
    refine iv_put (ci := 3) (v := .int (Int32.ofInt (3))) (ty := .int) (C := RX4) (T := TX4) (N := 8) (ref := RX4) hx hb hts h1w tyX4 tyX4_ok nmX4 hown hX.1 hP hD hS 1 rfl rfl 4 (by decide) h3w (fun _ h9 => h9) rfl (by decide +kernel) rfl rfl (Nat.le_of_ble_eq_true rfl) (show _ = ((wR k arR (plR) (arY 0) (uF fiR 24 (3)) faR) ++ (wY k arY fiY faY)) from rfl) dX4_takeSign_114 (fun H locs hP hD hS => ?_)
    refine lv_aload_n hx hb dX4_takeSign_117 rfl (lv_at hl 0 rfl) ?_
    refine lv_aload_n hx hb dX4_takeSign_118 rfl (lv_at hl 0 rfl) ?_
    refine va_get (D := G) (ci := 3) (v := .ref (arY 0)) (C := RX4) (T := TX4) (N := 8) (ref := RX4) hx hb hts h1w hown hX.1 hP 1 rfl rfl 0 (by decide) h0w (fun _ h9 => h9) rfl dX4_takeSign_119 ?_
    refine lv_aload_n hx hb dX4_takeSign_122 rfl (lv_at hl 0 rfl) ?_
    refine va_get (D := G) (ci := 3) (v := .int (Int32.ofInt (fiR 22))) (C := RX4) (T := TX4) (N := 8) (ref := RX4) hx hb hts h1w hown hX.1 hP 1 rfl rfl 2 (by decide) h2w (fun _ h9 => h9) rfl dX4_takeSign_123 ?_
    have rf22R := hRR 22
    refine iv_bald hx hb hX.1 hP 2 1 rfl rfl (by omega) (by omega) (by decide) dX4_takeSign_126 ?_
    refine iv_top (fun z8 ez8 => ?_)
    have rz8 : inR z8 := ez8 ▸ (hRaY 0) _
    have ez8 : z8 = (faY 0) (fiR 22) := ez8
    have bz8 : (-128) ≤ z8 ∧ z8 < 128 := by rw [ez8]; exact bnd_at hB0Y (by omega) (by omega)
    refine iv_put (ci := 3) (v := .int (Int32.ofInt (z8))) (ty := .int) (C := RX4) (T := TX4) (N := 8) (ref := RX4) hx hb hts h1w tyX4 tyX4_ok nmX4 hown hX.1 hP hD hS 1 rfl rfl 7 (by decide) h4w (fun _ h9 => h9) rfl (by decide +kernel) rfl rfl (Nat.le_of_ble_eq_true rfl) (show _ = ((wR k arR (plR) (arY 0) (uF (uF fiR 24 (3)) 27 (z8)) faR) ++ (wY k arY fiY faY)) from rfl) dX4_takeSign_127 (fun H locs hP hD hS => ?_)
    refine lv_goto (tgt := 138) hx hb dX4_takeSign_130 (by decide) ?_
    exact W.vret hx hb hr (fun t ht hW => ⟨⟨(3, z8), rfl, (show (inR 3) ∧ (inR z8) ∧ (SGp (uT (faY 0)) (fiR 22) 3 z8) from ⟨(by omega), (by omega), (by have hU := uT_e (faY 0) (fiR 22); first | exact Or.inl ⟨by unfold isMk; omega, by omega, by omega⟩ | exact Or.inr ⟨by unfold isMk; omega, by omega, by omega⟩)⟩), by rw [ht]; exact hP, hD⟩, hS.F ht⟩) hS.2.2 dX4_takeSign_138
  · refine lv_tableIn (tgt := 133) hx hb dX4_takeSign_9 (by rw [iz_toInt (by omega)]; omega) (by rw [iz_toInt (by omega)]; omega) (off := 124) (by rw [iz_toInt (by omega), q2]; decide +kernel) (by decide) ?_
    refine lv_aload_n hx hb dX4_takeSign_133 rfl (lv_at hl 0 rfl) ?_
    refine lv_iconst (v := Int32.ofInt 4) hx hb dX4_takeSign_134 (by decide +kernel) ?_
    refine iv_put (ci := 3) (v := .int (Int32.ofInt (4))) (ty := .int) (C := RX4) (T := TX4) (N := 8) (ref := RX4) hx hb hts h1w tyX4 tyX4_ok nmX4 hown hX.1 hP hD hS 1 rfl rfl 4 (by decide) h3w (fun _ h9 => h9) rfl (by decide +kernel) rfl rfl (Nat.le_of_ble_eq_true rfl) (show _ = ((wR k arR (plR) (arY 0) (uF fiR 24 (4)) faR) ++ (wY k arY fiY faY)) from rfl) dX4_takeSign_135 (fun H locs hP hD hS => ?_)
    exact W.vret hx hb hr (fun t ht hW => ⟨⟨(4, fiR 27), rfl, (show (inR 4) ∧ (inR (fiR 27)) ∧ (SGp (uT (faY 0)) (fiR 22) 4 (fiR 27)) from ⟨(by omega), (hRR 27), (by have hU := uT_e (faY 0) (fiR 22); first | exact Or.inl ⟨by unfold isMk; omega, by omega, by omega⟩ | exact Or.inr ⟨by unfold isMk; omega, by omega, by omega⟩)⟩), by rw [ht]; exact hP, hD⟩, hS.F ht⟩) hS.2.2 dX4_takeSign_138
  · refine lv_tableIn (tgt := 133) hx hb dX4_takeSign_9 (by rw [iz_toInt (by omega)]; omega) (by rw [iz_toInt (by omega)]; omega) (off := 124) (by rw [iz_toInt (by omega), q2]; decide +kernel) (by decide) ?_
    refine lv_aload_n hx hb dX4_takeSign_133 rfl (lv_at hl 0 rfl) ?_
    refine lv_iconst (v := Int32.ofInt 4) hx hb dX4_takeSign_134 (by decide +kernel) ?_
    refine iv_put (ci := 3) (v := .int (Int32.ofInt (4))) (ty := .int) (C := RX4) (T := TX4) (N := 8) (ref := RX4) hx hb hts h1w tyX4 tyX4_ok nmX4 hown hX.1 hP hD hS 1 rfl rfl 4 (by decide) h3w (fun _ h9 => h9) rfl (by decide +kernel) rfl rfl (Nat.le_of_ble_eq_true rfl) (show _ = ((wR k arR (plR) (arY 0) (uF fiR 24 (4)) faR) ++ (wY k arY fiY faY)) from rfl) dX4_takeSign_135 (fun H locs hP hD hS => ?_)
    exact W.vret hx hb hr (fun t ht hW => ⟨⟨(4, fiR 27), rfl, (show (inR 4) ∧ (inR (fiR 27)) ∧ (SGp (uT (faY 0)) (fiR 22) 4 (fiR 27)) from ⟨(by omega), (hRR 27), (by have hU := uT_e (faY 0) (fiR 22); first | exact Or.inl ⟨by unfold isMk; omega, by omega, by omega⟩ | exact Or.inr ⟨by unfold isMk; omega, by omega, by omega⟩)⟩), by rw [ht]; exact hP, hD⟩, hS.F ht⟩) hS.2.2 dX4_takeSign_138
  · refine lv_tableIn (tgt := 133) hx hb dX4_takeSign_9 (by rw [iz_toInt (by omega)]; omega) (by rw [iz_toInt (by omega)]; omega) (off := 124) (by rw [iz_toInt (by omega), q2]; decide +kernel) (by decide) ?_
    refine lv_aload_n hx hb dX4_takeSign_133 rfl (lv_at hl 0 rfl) ?_
    refine lv_iconst (v := Int32.ofInt 4) hx hb dX4_takeSign_134 (by decide +kernel) ?_
    refine iv_put (ci := 3) (v := .int (Int32.ofInt (4))) (ty := .int) (C := RX4) (T := TX4) (N := 8) (ref := RX4) hx hb hts h1w tyX4 tyX4_ok nmX4 hown hX.1 hP hD hS 1 rfl rfl 4 (by decide) h3w (fun _ h9 => h9) rfl (by decide +kernel) rfl rfl (Nat.le_of_ble_eq_true rfl) (show _ = ((wR k arR (plR) (arY 0) (uF fiR 24 (4)) faR) ++ (wY k arY fiY faY)) from rfl) dX4_takeSign_135 (fun H locs hP hD hS => ?_)
    exact W.vret hx hb hr (fun t ht hW => ⟨⟨(4, fiR 27), rfl, (show (inR 4) ∧ (inR (fiR 27)) ∧ (SGp (uT (faY 0)) (fiR 22) 4 (fiR 27)) from ⟨(by omega), (hRR 27), (by have hU := uT_e (faY 0) (fiR 22); first | exact Or.inl ⟨by unfold isMk; omega, by omega, by omega⟩ | exact Or.inr ⟨by unfold isMk; omega, by omega, by omega⟩)⟩), by rw [ht]; exact hP, hD⟩, hS.F ht⟩) hS.2.2 dX4_takeSign_138
  · refine lv_tableIn (tgt := 133) hx hb dX4_takeSign_9 (by rw [iz_toInt (by omega)]; omega) (by rw [iz_toInt (by omega)]; omega) (off := 124) (by rw [iz_toInt (by omega), q2]; decide +kernel) (by decide) ?_
    refine lv_aload_n hx hb dX4_takeSign_133 rfl (lv_at hl 0 rfl) ?_
    refine lv_iconst (v := Int32.ofInt 4) hx hb dX4_takeSign_134 (by decide +kernel) ?_
    refine iv_put (ci := 3) (v := .int (Int32.ofInt (4))) (ty := .int) (C := RX4) (T := TX4) (N := 8) (ref := RX4) hx hb hts h1w tyX4 tyX4_ok nmX4 hown hX.1 hP hD hS 1 rfl rfl 4 (by decide) h3w (fun _ h9 => h9) rfl (by decide +kernel) rfl rfl (Nat.le_of_ble_eq_true rfl) (show _ = ((wR k arR (plR) (arY 0) (uF fiR 24 (4)) faR) ++ (wY k arY fiY faY)) from rfl) dX4_takeSign_135 (fun H locs hP hD hS => ?_)
    exact W.vret hx hb hr (fun t ht hW => ⟨⟨(4, fiR 27), rfl, (show (inR 4) ∧ (inR (fiR 27)) ∧ (SGp (uT (faY 0)) (fiR 22) 4 (fiR 27)) from ⟨(by omega), (hRR 27), (by have hU := uT_e (faY 0) (fiR 22); first | exact Or.inl ⟨by unfold isMk; omega, by omega, by omega⟩ | exact Or.inr ⟨by unfold isMk; omega, by omega, by omega⟩)⟩), by rw [ht]; exact hP, hD⟩, hS.F ht⟩) hS.2.2 dX4_takeSign_138
  · refine lv_tableIn (tgt := 133) hx hb dX4_takeSign_9 (by rw [iz_toInt (by omega)]; omega) (by rw [iz_toInt (by omega)]; omega) (off := 124) (by rw [iz_toInt (by omega), q2]; decide +kernel) (by decide) ?_
    refine lv_aload_n hx hb dX4_takeSign_133 rfl (lv_at hl 0 rfl) ?_
    refine lv_iconst (v := Int32.ofInt 4) hx hb dX4_takeSign_134 (by decide +kernel) ?_
    refine iv_put (ci := 3) (v := .int (Int32.ofInt (4))) (ty := .int) (C := RX4) (T := TX4) (N := 8) (ref := RX4) hx hb hts h1w tyX4 tyX4_ok nmX4 hown hX.1 hP hD hS 1 rfl rfl 4 (by decide) h3w (fun _ h9 => h9) rfl (by decide +kernel) rfl rfl (Nat.le_of_ble_eq_true rfl) (show _ = ((wR k arR (plR) (arY 0) (uF fiR 24 (4)) faR) ++ (wY k arY fiY faY)) from rfl) dX4_takeSign_135 (fun H locs hP hD hS => ?_)
    exact W.vret hx hb hr (fun t ht hW => ⟨⟨(4, fiR 27), rfl, (show (inR 4) ∧ (inR (fiR 27)) ∧ (SGp (uT (faY 0)) (fiR 22) 4 (fiR 27)) from ⟨(by omega), (hRR 27), (by have hU := uT_e (faY 0) (fiR 22); first | exact Or.inl ⟨by unfold isMk; omega, by omega, by omega⟩ | exact Or.inr ⟨by unfold isMk; omega, by omega, by omega⟩)⟩), by rw [ht]; exact hP, hD⟩, hS.F ht⟩) hS.2.2 dX4_takeSign_138
  · refine lv_tableIn (tgt := 133) hx hb dX4_takeSign_9 (by rw [iz_toInt (by omega)]; omega) (by rw [iz_toInt (by omega)]; omega) (off := 124) (by rw [iz_toInt (by omega), q2]; decide +kernel) (by decide) ?_
    refine lv_aload_n hx hb dX4_takeSign_133 rfl (lv_at hl 0 rfl) ?_
    refine lv_iconst (v := Int32.ofInt 4) hx hb dX4_takeSign_134 (by decide +kernel) ?_
    refine iv_put (ci := 3) (v := .int (Int32.ofInt (4))) (ty := .int) (C := RX4) (T := TX4) (N := 8) (ref := RX4) hx hb hts h1w tyX4 tyX4_ok nmX4 hown hX.1 hP hD hS 1 rfl rfl 4 (by decide) h3w (fun _ h9 => h9) rfl (by decide +kernel) rfl rfl (Nat.le_of_ble_eq_true rfl) (show _ = ((wR k arR (plR) (arY 0) (uF fiR 24 (4)) faR) ++ (wY k arY fiY faY)) from rfl) dX4_takeSign_135 (fun H locs hP hD hS => ?_)
    exact W.vret hx hb hr (fun t ht hW => ⟨⟨(4, fiR 27), rfl, (show (inR 4) ∧ (inR (fiR 27)) ∧ (SGp (uT (faY 0)) (fiR 22) 4 (fiR 27)) from ⟨(by omega), (hRR 27), (by have hU := uT_e (faY 0) (fiR 22); first | exact Or.inl ⟨by unfold isMk; omega, by omega, by omega⟩ | exact Or.inr ⟨by unfold isMk; omega, by omega, by omega⟩)⟩), by rw [ht]; exact hP, hD⟩, hS.F ht⟩) hS.2.2 dX4_takeSign_138
  · refine lv_tableIn (tgt := 133) hx hb dX4_takeSign_9 (by rw [iz_toInt (by omega)]; omega) (by rw [iz_toInt (by omega)]; omega) (off := 124) (by rw [iz_toInt (by omega), q2]; decide +kernel) (by decide) ?_
    refine lv_aload_n hx hb dX4_takeSign_133 rfl (lv_at hl 0 rfl) ?_
    refine lv_iconst (v := Int32.ofInt 4) hx hb dX4_takeSign_134 (by decide +kernel) ?_
    refine iv_put (ci := 3) (v := .int (Int32.ofInt (4))) (ty := .int) (C := RX4) (T := TX4) (N := 8) (ref := RX4) hx hb hts h1w tyX4 tyX4_ok nmX4 hown hX.1 hP hD hS 1 rfl rfl 4 (by decide) h3w (fun _ h9 => h9) rfl (by decide +kernel) rfl rfl (Nat.le_of_ble_eq_true rfl) (show _ = ((wR k arR (plR) (arY 0) (uF fiR 24 (4)) faR) ++ (wY k arY fiY faY)) from rfl) dX4_takeSign_135 (fun H locs hP hD hS => ?_)
    exact W.vret hx hb hr (fun t ht hW => ⟨⟨(4, fiR 27), rfl, (show (inR 4) ∧ (inR (fiR 27)) ∧ (SGp (uT (faY 0)) (fiR 22) 4 (fiR 27)) from ⟨(by omega), (hRR 27), (by have hU := uT_e (faY 0) (fiR 22); first | exact Or.inl ⟨by unfold isMk; omega, by omega, by omega⟩ | exact Or.inr ⟨by unfold isMk; omega, by omega, by omega⟩)⟩), by rw [ht]; exact hP, hD⟩, hS.F ht⟩) hS.2.2 dX4_takeSign_138
  · refine lv_tableIn (tgt := 133) hx hb dX4_takeSign_9 (by rw [iz_toInt (by omega)]; omega) (by rw [iz_toInt (by omega)]; omega) (off := 124) (by rw [iz_toInt (by omega), q2]; decide +kernel) (by decide) ?_
    refine lv_aload_n hx hb dX4_takeSign_133 rfl (lv_at hl 0 rfl) ?_
    refine lv_iconst (v := Int32.ofInt 4) hx hb dX4_takeSign_134 (by decide +kernel) ?_
    refine iv_put (ci := 3) (v := .int (Int32.ofInt (4))) (ty := .int) (C := RX4) (T := TX4) (N := 8) (ref := RX4) hx hb hts h1w tyX4 tyX4_ok nmX4 hown hX.1 hP hD hS 1 rfl rfl 4 (by decide) h3w (fun _ h9 => h9) rfl (by decide +kernel) rfl rfl (Nat.le_of_ble_eq_true rfl) (show _ = ((wR k arR (plR) (arY 0) (uF fiR 24 (4)) faR) ++ (wY k arY fiY faY)) from rfl) dX4_takeSign_135 (fun H locs hP hD hS => ?_)
    exact W.vret hx hb hr (fun t ht hW => ⟨⟨(4, fiR 27), rfl, (show (inR 4) ∧ (inR (fiR 27)) ∧ (SGp (uT (faY 0)) (fiR 22) 4 (fiR 27)) from ⟨(by omega), (hRR 27), (by have hU := uT_e (faY 0) (fiR 22); first | exact Or.inl ⟨by unfold isMk; omega, by omega, by omega⟩ | exact Or.inr ⟨by unfold isMk; omega, by omega, by omega⟩)⟩), by rw [ht]; exact hP, hD⟩, hS.F ht⟩) hS.2.2 dX4_takeSign_138
  · refine lv_tableIn (tgt := 133) hx hb dX4_takeSign_9 (by rw [iz_toInt (by omega)]; omega) (by rw [iz_toInt (by omega)]; omega) (off := 124) (by rw [iz_toInt (by omega), q2]; decide +kernel) (by decide) ?_
    refine lv_aload_n hx hb dX4_takeSign_133 rfl (lv_at hl 0 rfl) ?_
    refine lv_iconst (v := Int32.ofInt 4) hx hb dX4_takeSign_134 (by decide +kernel) ?_
    refine iv_put (ci := 3) (v := .int (Int32.ofInt (4))) (ty := .int) (C := RX4) (T := TX4) (N := 8) (ref := RX4) hx hb hts h1w tyX4 tyX4_ok nmX4 hown hX.1 hP hD hS 1 rfl rfl 4 (by decide) h3w (fun _ h9 => h9) rfl (by decide +kernel) rfl rfl (Nat.le_of_ble_eq_true rfl) (show _ = ((wR k arR (plR) (arY 0) (uF fiR 24 (4)) faR) ++ (wY k arY fiY faY)) from rfl) dX4_takeSign_135 (fun H locs hP hD hS => ?_)
    exact W.vret hx hb hr (fun t ht hW => ⟨⟨(4, fiR 27), rfl, (show (inR 4) ∧ (inR (fiR 27)) ∧ (SGp (uT (faY 0)) (fiR 22) 4 (fiR 27)) from ⟨(by omega), (hRR 27), (by have hU := uT_e (faY 0) (fiR 22); first | exact Or.inl ⟨by unfold isMk; omega, by omega, by omega⟩ | exact Or.inr ⟨by unfold isMk; omega, by omega, by omega⟩)⟩), by rw [ht]; exact hP, hD⟩, hS.F ht⟩) hS.2.2 dX4_takeSign_138
  · refine lv_tableIn (tgt := 133) hx hb dX4_takeSign_9 (by rw [iz_toInt (by omega)]; omega) (by rw [iz_toInt (by omega)]; omega) (off := 124) (by rw [iz_toInt (by omega), q2]; decide +kernel) (by decide) ?_
    refine lv_aload_n hx hb dX4_takeSign_133 rfl (lv_at hl 0 rfl) ?_
    refine lv_iconst (v := Int32.ofInt 4) hx hb dX4_takeSign_134 (by decide +kernel) ?_
    refine iv_put (ci := 3) (v := .int (Int32.ofInt (4))) (ty := .int) (C := RX4) (T := TX4) (N := 8) (ref := RX4) hx hb hts h1w tyX4 tyX4_ok nmX4 hown hX.1 hP hD hS 1 rfl rfl 4 (by decide) h3w (fun _ h9 => h9) rfl (by decide +kernel) rfl rfl (Nat.le_of_ble_eq_true rfl) (show _ = ((wR k arR (plR) (arY 0) (uF fiR 24 (4)) faR) ++ (wY k arY fiY faY)) from rfl) dX4_takeSign_135 (fun H locs hP hD hS => ?_)
    exact W.vret hx hb hr (fun t ht hW => ⟨⟨(4, fiR 27), rfl, (show (inR 4) ∧ (inR (fiR 27)) ∧ (SGp (uT (faY 0)) (fiR 22) 4 (fiR 27)) from ⟨(by omega), (hRR 27), (by have hU := uT_e (faY 0) (fiR 22); first | exact Or.inl ⟨by unfold isMk; omega, by omega, by omega⟩ | exact Or.inr ⟨by unfold isMk; omega, by omega, by omega⟩)⟩), by rw [ht]; exact hP, hD⟩, hS.F ht⟩) hS.2.2 dX4_takeSign_138
  · refine lv_tableIn (tgt := 133) hx hb dX4_takeSign_9 (by rw [iz_toInt (by omega)]; omega) (by rw [iz_toInt (by omega)]; omega) (off := 124) (by rw [iz_toInt (by omega), q2]; decide +kernel) (by decide) ?_
    refine lv_aload_n hx hb dX4_takeSign_133 rfl (lv_at hl 0 rfl) ?_
    refine lv_iconst (v := Int32.ofInt 4) hx hb dX4_takeSign_134 (by decide +kernel) ?_
    refine iv_put (ci := 3) (v := .int (Int32.ofInt (4))) (ty := .int) (C := RX4) (T := TX4) (N := 8) (ref := RX4) hx hb hts h1w tyX4 tyX4_ok nmX4 hown hX.1 hP hD hS 1 rfl rfl 4 (by decide) h3w (fun _ h9 => h9) rfl (by decide +kernel) rfl rfl (Nat.le_of_ble_eq_true rfl) (show _ = ((wR k arR (plR) (arY 0) (uF fiR 24 (4)) faR) ++ (wY k arY fiY faY)) from rfl) dX4_takeSign_135 (fun H locs hP hD hS => ?_)
    exact W.vret hx hb hr (fun t ht hW => ⟨⟨(4, fiR 27), rfl, (show (inR 4) ∧ (inR (fiR 27)) ∧ (SGp (uT (faY 0)) (fiR 22) 4 (fiR 27)) from ⟨(by omega), (hRR 27), (by have hU := uT_e (faY 0) (fiR 22); first | exact Or.inl ⟨by unfold isMk; omega, by omega, by omega⟩ | exact Or.inr ⟨by unfold isMk; omega, by omega, by omega⟩)⟩), by rw [ht]; exact hP, hD⟩, hS.F ht⟩) hS.2.2 dX4_takeSign_138
  · refine lv_tableIn (tgt := 112) hx hb dX4_takeSign_9 (by rw [iz_toInt (by omega)]; omega) (by rw [iz_toInt (by omega)]; omega) (off := 103) (by rw [iz_toInt (by omega), q2]; decide +kernel) (by decide) ?_
    refine lv_aload_n hx hb dX4_takeSign_112 rfl (lv_at hl 0 rfl) ?_
    refine lv_iconst (v := Int32.ofInt 3) hx hb dX4_takeSign_113 (by decide +kernel) ?_
    refine iv_put (ci := 3) (v := .int (Int32.ofInt (3))) (ty := .int) (C := RX4) (T := TX4) (N := 8) (ref := RX4) hx hb hts h1w tyX4 tyX4_ok nmX4 hown hX.1 hP hD hS 1 rfl rfl 4 (by decide) h3w (fun _ h9 => h9) rfl (by decide +kernel) rfl rfl (Nat.le_of_ble_eq_true rfl) (show _ = ((wR k arR (plR) (arY 0) (uF fiR 24 (3)) faR) ++ (wY k arY fiY faY)) from rfl) dX4_takeSign_114 (fun H locs hP hD hS => ?_)
    refine lv_aload_n hx hb dX4_takeSign_117 rfl (lv_at hl 0 rfl) ?_
    refine lv_aload_n hx hb dX4_takeSign_118 rfl (lv_at hl 0 rfl) ?_
    refine va_get (D := G) (ci := 3) (v := .ref (arY 0)) (C := RX4) (T := TX4) (N := 8) (ref := RX4) hx hb hts h1w hown hX.1 hP 1 rfl rfl 0 (by decide) h0w (fun _ h9 => h9) rfl dX4_takeSign_119 ?_
    refine lv_aload_n hx hb dX4_takeSign_122 rfl (lv_at hl 0 rfl) ?_
    refine va_get (D := G) (ci := 3) (v := .int (Int32.ofInt (fiR 22))) (C := RX4) (T := TX4) (N := 8) (ref := RX4) hx hb hts h1w hown hX.1 hP 1 rfl rfl 2 (by decide) h2w (fun _ h9 => h9) rfl dX4_takeSign_123 ?_
    have rf22R := hRR 22
    refine iv_bald hx hb hX.1 hP 2 1 rfl rfl (by omega) (by omega) (by decide) dX4_takeSign_126 ?_
    refine iv_top (fun z9 ez9 => ?_)
    have rz9 : inR z9 := ez9 ▸ (hRaY 0) _
    have ez9 : z9 = (faY 0) (fiR 22) := ez9
    have bz9 : (-128) ≤ z9 ∧ z9 < 128 := by rw [ez9]; exact bnd_at hB0Y (by omega) (by omega)
    refine iv_put (ci := 3) (v := .int (Int32.ofInt (z9))) (ty := .int) (C := RX4) (T := TX4) (N := 8) (ref := RX4) hx hb hts h1w tyX4 tyX4_ok nmX4 hown hX.1 hP hD hS 1 rfl rfl 7 (by decide) h4w (fun _ h9 => h9) rfl (by decide +kernel) rfl rfl (Nat.le_of_ble_eq_true rfl) (show _ = ((wR k arR (plR) (arY 0) (uF (uF fiR 24 (3)) 27 (z9)) faR) ++ (wY k arY fiY faY)) from rfl) dX4_takeSign_127 (fun H locs hP hD hS => ?_)
    refine lv_goto (tgt := 138) hx hb dX4_takeSign_130 (by decide) ?_
    exact W.vret hx hb hr (fun t ht hW => ⟨⟨(3, z9), rfl, (show (inR 3) ∧ (inR z9) ∧ (SGp (uT (faY 0)) (fiR 22) 3 z9) from ⟨(by omega), (by omega), (by have hU := uT_e (faY 0) (fiR 22); first | exact Or.inl ⟨by unfold isMk; omega, by omega, by omega⟩ | exact Or.inr ⟨by unfold isMk; omega, by omega, by omega⟩)⟩), by rw [ht]; exact hP, hD⟩, hS.F ht⟩) hS.2.2 dX4_takeSign_138
  · refine lv_tableIn (tgt := 112) hx hb dX4_takeSign_9 (by rw [iz_toInt (by omega)]; omega) (by rw [iz_toInt (by omega)]; omega) (off := 103) (by rw [iz_toInt (by omega), q2]; decide +kernel) (by decide) ?_
    refine lv_aload_n hx hb dX4_takeSign_112 rfl (lv_at hl 0 rfl) ?_
    refine lv_iconst (v := Int32.ofInt 3) hx hb dX4_takeSign_113 (by decide +kernel) ?_
    refine iv_put (ci := 3) (v := .int (Int32.ofInt (3))) (ty := .int) (C := RX4) (T := TX4) (N := 8) (ref := RX4) hx hb hts h1w tyX4 tyX4_ok nmX4 hown hX.1 hP hD hS 1 rfl rfl 4 (by decide) h3w (fun _ h9 => h9) rfl (by decide +kernel) rfl rfl (Nat.le_of_ble_eq_true rfl) (show _ = ((wR k arR (plR) (arY 0) (uF fiR 24 (3)) faR) ++ (wY k arY fiY faY)) from rfl) dX4_takeSign_114 (fun H locs hP hD hS => ?_)
    refine lv_aload_n hx hb dX4_takeSign_117 rfl (lv_at hl 0 rfl) ?_
    refine lv_aload_n hx hb dX4_takeSign_118 rfl (lv_at hl 0 rfl) ?_
    refine va_get (D := G) (ci := 3) (v := .ref (arY 0)) (C := RX4) (T := TX4) (N := 8) (ref := RX4) hx hb hts h1w hown hX.1 hP 1 rfl rfl 0 (by decide) h0w (fun _ h9 => h9) rfl dX4_takeSign_119 ?_
    refine lv_aload_n hx hb dX4_takeSign_122 rfl (lv_at hl 0 rfl) ?_
    refine va_get (D := G) (ci := 3) (v := .int (Int32.ofInt (fiR 22))) (C := RX4) (T := TX4) (N := 8) (ref := RX4) hx hb hts h1w hown hX.1 hP 1 rfl rfl 2 (by decide) h2w (fun _ h9 => h9) rfl dX4_takeSign_123 ?_
    have rf22R := hRR 22
    refine iv_bald hx hb hX.1 hP 2 1 rfl rfl (by omega) (by omega) (by decide) dX4_takeSign_126 ?_
    refine iv_top (fun z10 ez10 => ?_)
    have rz10 : inR z10 := ez10 ▸ (hRaY 0) _
    have ez10 : z10 = (faY 0) (fiR 22) := ez10
    have bz10 : (-128) ≤ z10 ∧ z10 < 128 := by rw [ez10]; exact bnd_at hB0Y (by omega) (by omega)
    refine iv_put (ci := 3) (v := .int (Int32.ofInt (z10))) (ty := .int) (C := RX4) (T := TX4) (N := 8) (ref := RX4) hx hb hts h1w tyX4 tyX4_ok nmX4 hown hX.1 hP hD hS 1 rfl rfl 7 (by decide) h4w (fun _ h9 => h9) rfl (by decide +kernel) rfl rfl (Nat.le_of_ble_eq_true rfl) (show _ = ((wR k arR (plR) (arY 0) (uF (uF fiR 24 (3)) 27 (z10)) faR) ++ (wY k arY fiY faY)) from rfl) dX4_takeSign_127 (fun H locs hP hD hS => ?_)
    refine lv_goto (tgt := 138) hx hb dX4_takeSign_130 (by decide) ?_
    exact W.vret hx hb hr (fun t ht hW => ⟨⟨(3, z10), rfl, (show (inR 3) ∧ (inR z10) ∧ (SGp (uT (faY 0)) (fiR 22) 3 z10) from ⟨(by omega), (by omega), (by have hU := uT_e (faY 0) (fiR 22); first | exact Or.inl ⟨by unfold isMk; omega, by omega, by omega⟩ | exact Or.inr ⟨by unfold isMk; omega, by omega, by omega⟩)⟩), by rw [ht]; exact hP, hD⟩, hS.F ht⟩) hS.2.2 dX4_takeSign_138
  · refine lv_tableIn (tgt := 112) hx hb dX4_takeSign_9 (by rw [iz_toInt (by omega)]; omega) (by rw [iz_toInt (by omega)]; omega) (off := 103) (by rw [iz_toInt (by omega), q2]; decide +kernel) (by decide) ?_
    refine lv_aload_n hx hb dX4_takeSign_112 rfl (lv_at hl 0 rfl) ?_
    refine lv_iconst (v := Int32.ofInt 3) hx hb dX4_takeSign_113 (by decide +kernel) ?_
    refine iv_put (ci := 3) (v := .int (Int32.ofInt (3))) (ty := .int) (C := RX4) (T := TX4) (N := 8) (ref := RX4) hx hb hts h1w tyX4 tyX4_ok nmX4 hown hX.1 hP hD hS 1 rfl rfl 4 (by decide) h3w (fun _ h9 => h9) rfl (by decide +kernel) rfl rfl (Nat.le_of_ble_eq_true rfl) (show _ = ((wR k arR (plR) (arY 0) (uF fiR 24 (3)) faR) ++ (wY k arY fiY faY)) from rfl) dX4_takeSign_114 (fun H locs hP hD hS => ?_)
    refine lv_aload_n hx hb dX4_takeSign_117 rfl (lv_at hl 0 rfl) ?_
    refine lv_aload_n hx hb dX4_takeSign_118 rfl (lv_at hl 0 rfl) ?_
    refine va_get (D := G) (ci := 3) (v := .ref (arY 0)) (C := RX4) (T := TX4) (N := 8) (ref := RX4) hx hb hts h1w hown hX.1 hP 1 rfl rfl 0 (by decide) h0w (fun _ h9 => h9) rfl dX4_takeSign_119 ?_
    refine lv_aload_n hx hb dX4_takeSign_122 rfl (lv_at hl 0 rfl) ?_
    refine va_get (D := G) (ci := 3) (v := .int (Int32.ofInt (fiR 22))) (C := RX4) (T := TX4) (N := 8) (ref := RX4) hx hb hts h1w hown hX.1 hP 1 rfl rfl 2 (by decide) h2w (fun _ h9 => h9) rfl dX4_takeSign_123 ?_
    have rf22R := hRR 22
    refine iv_bald hx hb hX.1 hP 2 1 rfl rfl (by omega) (by omega) (by decide) dX4_takeSign_126 ?_
    refine iv_top (fun z11 ez11 => ?_)
    have rz11 : inR z11 := ez11 ▸ (hRaY 0) _
    have ez11 : z11 = (faY 0) (fiR 22) := ez11
    have bz11 : (-128) ≤ z11 ∧ z11 < 128 := by rw [ez11]; exact bnd_at hB0Y (by omega) (by omega)
    refine iv_put (ci := 3) (v := .int (Int32.ofInt (z11))) (ty := .int) (C := RX4) (T := TX4) (N := 8) (ref := RX4) hx hb hts h1w tyX4 tyX4_ok nmX4 hown hX.1 hP hD hS 1 rfl rfl 7 (by decide) h4w (fun _ h9 => h9) rfl (by decide +kernel) rfl rfl (Nat.le_of_ble_eq_true rfl) (show _ = ((wR k arR (plR) (arY 0) (uF (uF fiR 24 (3)) 27 (z11)) faR) ++ (wY k arY fiY faY)) from rfl) dX4_takeSign_127 (fun H locs hP hD hS => ?_)
    refine lv_goto (tgt := 138) hx hb dX4_takeSign_130 (by decide) ?_
    exact W.vret hx hb hr (fun t ht hW => ⟨⟨(3, z11), rfl, (show (inR 3) ∧ (inR z11) ∧ (SGp (uT (faY 0)) (fiR 22) 3 z11) from ⟨(by omega), (by omega), (by have hU := uT_e (faY 0) (fiR 22); first | exact Or.inl ⟨by unfold isMk; omega, by omega, by omega⟩ | exact Or.inr ⟨by unfold isMk; omega, by omega, by omega⟩)⟩), by rw [ht]; exact hP, hD⟩, hS.F ht⟩) hS.2.2 dX4_takeSign_138

