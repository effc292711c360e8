set_option maxHeartbeats 4000000 in
set_option maxRecDepth 100000 in
theorem mX10_thing (l : Launch) (G : va_G) (k : Nat → ClassId) (ar : Nat → Nat) (fi : Nat → Int) (fa : Nat → Int → Int) (fl : Nat → Int64) (t0 : Int) (w0 : Int) (sz : Nat) (hR : ∀ j, inR (fi j)) (hRa : ∀ j t, inR (fa j t)) (hr_t0 : inR t0) (hr_w0 : inR w0) (hth : 0 ≤ fi 12 ∧ fi 12 ≤ 7) : CNi l G k (EZ k) yX10_thing wzX10_thing ({ frames := 2, cells := 0, slots := 0, locals := 43 }) [.ref (ar 71), .int (Int32.ofInt (t0)), .int (Int32.ofInt (w0))] sz (wM k ar fi fa fl) (fun (r0 : Int32) (u : Int × Int) => r0 = Int32.ofInt (u.1) ∧ (inR u.1) ∧ (inR u.2) ∧ (Thr u.2 u.1 (¬ (0 ≤ t0 ∧ t0 < fi 12 ∧ 0 ≤ w0 ∧ w0 ≤ 5)) (thM w0 (fa 4 t0) (fa 5 t0) (fa 7 t0) (fa 32 t0) (fi 28) (fa 3 0)))) (fun (u : Int × Int) => (wM k ar (uF fi 2 (u.2)) fa fl)) := by
  refine Met.ofW (cc := cX10_thing) (maxL := 5) (ret := (some .int)) (by decide) rfl ?_
  intro p e s m args below meth c s₁ B hml hv
  obtain ⟨rfl, hsz, hP, hX, hD0, hZ0⟩ := hv
  have hx := B.exec
  have hb := B.bytes
  have hr := B.returns
  have hts := atoms_spec (ws := wzX10_thing) B.pre
  have hown : s.vm.findClass RX10 = some m.cls := findClass_of_methodNamed B.named
  subst hsz
  have hD := hD0.self (sz := s.heap.size)
  have hZ := hZ0
  generalize hAe : va_A (wM k ar fi fa fl) s.heap.size = A at hD hZ ⊢
  have hA : ∀ q : Nat, s.heap.size ≤ q → A q := fun q h => by rw [← hAe]; exact Or.inr h
  have hS : va_S A s.heap s.heap [] := va_S.rf
  have hl := lv_entry ([.ref (ar 71), .int (Int32.ofInt (t0)), .int (Int32.ofInt (w0))]) (n := 5) (Nat.le_of_ble_eq_true rfl)
  rw [lg_entry_eq]
  generalize (lg_sl ([.ref (ar 71), .int (Int32.ofInt (t0)), .int (Int32.ofInt (w0))]) ++ List.replicate (5 - (lg_sl ([.ref (ar 71), .int (Int32.ofInt (t0)), .int (Int32.ofInt (w0))])).length) Slot.unset).toArray = ls at hl ⊢
  have hl : lv_has ls 5 [(0, .ref (ar 71)), (1, .int (Int32.ofInt (t0))), (2, .int (Int32.ofInt (w0)))] := hl
  obtain ⟨H, eH⟩ : ∃ H, H = s.heap := ⟨_, rfl⟩
  rw [← eH] at hP
  have hS : va_S A s.heap H [] := by rw [eH]; exact hS
  have gW : s.heap = H := eH.symm
  refine iv_heap gW ?_
  have h0w := hts (.fieldLink RX10 171 "RopeTownModel" "code" "I") (wz_at 8 12 rfl)
  have h1w : ∀ w ∈ wsX100, w ∈ wzX10_thing := fun w h => List.mem_cons_of_mem _ (inlX10 w h)
  have h2w := hts (.fieldLink RX10 87 "RopeTownModel" "place" "[I") (wz_at 6 17 rfl)
  have h3w := hts (.fieldLink RX10 57 "RopeTownModel" "kind" "[I") (wz_at 6 7 rfl)
  have h4w := hts (.fieldLink RX10 60 "RopeTownModel" "weight" "[I") (wz_at 6 8 rfl)
  have h5w := hts (.fieldLink RX10 65 "RopeTownModel" "aim" "[I") (wz_at 6 10 rfl)
  have h6w := hts (.fieldLink RX10 327 "RopeTownModel" "bucket0" "I") (wz_at 21 13 rfl)
  refine lv_aload_n hx hb dX10_thing_0 rfl (lv_at hl 0 rfl) ?_
  refine lv_iconst (v := Int32.ofInt 0) hx hb dX10_thing_1 (by decide +kernel) ?_
  refine iv_put (ci := 7) (v := .int (Int32.ofInt (0))) (ty := .int) (C := RX10) (T := TX10) (N := 71) (ref := RX10) hx hb hts h1w tyX10 tyX10_ok nmX10 hown hX.1 hP hD hS 0 rfl rfl 2 (by decide) h0w (fun _ h9 => h9) rfl (by decide +kernel) rfl rfl (Nat.le_of_ble_eq_true rfl) (wM_F2 _ _ _ _ _) dX10_thing_2 (fun H locs hP hD hS => ?_)
  refine lv_aload_n hx hb dX10_thing_5 rfl (lv_at hl 0 rfl) ?_
  refine lv_iload_n hx hb dX10_thing_6 rfl (lv_at hl 1 rfl) ?_
  refine cr_i (va_runV (As := [.int (Int32.ofInt (t0))]) (rest := []) ⟨hx, hb, hml, hown, hts⟩ (mX10_isThing l G k ar (uF fi 2 (0)) fa fl t0 H.size (iF hR (by omega)) hRa (by omega) (show 0 ≤ (fi 12) ∧ (fi 12) ≤ 7 from by omega)) (cwV 1 hts (gz [.methodLink RX10 349 yX10_isThing, .instanceMethod yX10_isThing, .selects RX10 yX10_isThing yX10_isThing, .initialized RX10] (.code yX10_isThing cX10_isThing 2 (some .boolean)) [(24, 3), (24, 4), (24, 5), (0, 5), (24, 6)] rfl) rfl rfl rfl (by decide +kernel) ⟨Nat.le_of_ble_eq_true rfl, Nat.le_of_ble_eq_true rfl⟩) (cr_preV (EZ_ok k) hZ hS hX hP hD hA (ci := 7) (q0 := 0) rfl rfl) rfl rfl hl.1 rfl (lv_room (Nat.le_of_ble_eq_true rfl)) dX10_thing_7 ⟨Nat.le_of_ble_eq_true rfl, Nat.le_of_ble_eq_true rfl⟩) hD hS hA (fun r u H locs hp hP hD hS => ?_)
  obtain ⟨c1, rfl⟩ : ∃ z, z = u := ⟨_, rfl⟩
  obtain ⟨h9, rc1, hp1⟩ : r = Int32.ofInt c1 ∧ (inR c1) ∧ ((c1 = 1 ∧ 0 ≤ t0 ∧ t0 < (fi 12)) ∨ (c1 = 0 ∧ (t0 < 0 ∨ (fi 12) ≤ t0))) := hp
  subst h9
  refine iv_if_ne (tgt := 19) hx hb (by omega) dX10_thing_10 (by decide) (fun q2 => ?_) (fun q2 => ?_)
  · refine lv_aload_n hx hb dX10_thing_19 rfl (lv_at hl 0 rfl) ?_
    refine va_get (D := G) (ci := 7) (v := .ref (ar 32)) (C := RX10) (T := TX10) (N := 71) (ref := RX10) hx hb hts h1w hown hX.1 hP 0 rfl rfl 32 (by decide) h2w (fun _ h9 => h9) rfl dX10_thing_20 ?_
    refine lv_iload_n hx hb dX10_thing_23 rfl (lv_at hl 1 rfl) ?_
    refine iv_iald hx hb hX.1 hP 11 0 rfl rfl (by omega) (by omega) (by decide) dX10_thing_24 ?_
    refine iv_top (fun z3 ez3 => ?_)
    have rz3 : inR z3 := ez3 ▸ (hRa 32) _
    have ez3 : z3 = (fa 32) t0 := ez3
    refine lv_istore_n (lv' := [(3, .int (Int32.ofInt (z3))), (0, .ref (ar 71)), (1, .int (Int32.ofInt (t0))), (2, .int (Int32.ofInt (w0)))]) hx hb dX10_thing_25 rfl hl (by decide) rfl (fun ls hl => ?_)
    refine iv_join (G := G) (A := A) (H0 := s.heap) (α := Int) (nL := 5) 43 (fun b9 => [.int (Int32.ofInt (b9))]) (fun b9 => (wM k ar (uF fi 2 (0)) fa fl)) (fun b9 => [(3, .int (Int32.ofInt (z3))), (0, .ref (ar 71)), (1, .int (Int32.ofInt (t0))), (2, .int (Int32.ofInt (w0)))]) (fun b9 => inR b9 ∧ ((b9 = 1 ∧ (z3 = 12 ∨ z3 = 13)) ∨ (b9 = 0 ∧ ¬ (z3 = 12 ∨ z3 = 13)))) ?_ (fun J43 => ?_)
    · intro s0_4 hi9 H locs ls hP hD hS hl
      obtain ⟨r_s0_4, hinv⟩ : inR s0_4 ∧ ((s0_4 = 1 ∧ (z3 = 12 ∨ z3 = 13)) ∨ (s0_4 = 0 ∧ ¬ (z3 = 12 ∨ z3 = 13))) := hi9
      obtain ⟨hP, hD⟩ : va_P G vwCl (wM k ar (uF fi 2 (0)) fa fl) H ∧ va_D A (wM k ar (uF fi 2 (0)) fa fl) := ⟨hP, hD⟩
      have hl : lv_has ls 5 [(3, .int (Int32.ofInt (z3))), (0, .ref (ar 71)), (1, .int (Int32.ofInt (t0))), (2, .int (Int32.ofInt (w0)))] := hl
      refine lv_istore (lv' := [(4, .int (Int32.ofInt (s0_4))), (3, .int (Int32.ofInt (z3))), (0, .ref (ar 71)), (1, .int (Int32.ofInt (t0))), (2, .int (Int32.ofInt (w0)))]) hx hb dX10_thing_43 hl (by decide) rfl (fun ls hl => ?_)
      have hp3 := ez3
      refine lv_iload_n hx hb dX10_thing_45 rfl (lv_at hl 4 rfl) ?_
      obtain q5 | q5 | q5 | q5 | q5 | q5 | q5 : (w0 < 0 ∨ 5 < w0) ∨ w0 = 0 ∨ w0 = 1 ∨ w0 = 2 ∨ w0 = 3 ∨ w0 = 4 ∨ w0 = 5 := by omega
      · refine lv_tableOut (tgt := 166) hx hb dX10_thing_46 (by rw [iz_toInt (by omega)]; exact q5) (by decide) ?_
        refine lv_aload_n hx hb dX10_thing_166 rfl (lv_at hl 2 rfl) ?_
        refine lv_iconst (v := Int32.ofInt 1) hx hb dX10_thing_167 (by decide +kernel) ?_
        refine cr_i (va_runV (As := [.int (Int32.ofInt (1))]) (rest := []) ⟨hx, hb, hml, hown, hts⟩ (mX10_fail l G k ar (uF fi 2 (0)) fa fl 1 H.size (iF hR (by omega)) hRa (by omega)) (cwV 1 hts (gz [.methodLink RX10 315 yX10_fail, .instanceMethod yX10_fail, .selects RX10 yX10_fail yX10_fail, .initialized RX10] (.code yX10_fail cX10_fail 2 (some .int)) [(16, 17), (16, 18), (16, 19), (0, 5), (16, 20)] rfl) rfl rfl rfl (by decide +kernel) ⟨Nat.le_of_ble_eq_true rfl, Nat.le_of_ble_eq_true rfl⟩) (cr_preV (EZ_ok k) hZ hS hX hP hD hA (ci := 7) (q0 := 0) rfl rfl) rfl rfl hl.1 rfl (lv_room (Nat.le_of_ble_eq_true rfl)) dX10_thing_168 ⟨Nat.le_of_ble_eq_true rfl, Nat.le_of_ble_eq_true rfl⟩) hD hS hA (fun r u H locs hp hP hD hS => ?_)
        obtain ⟨c6, c7⟩ := u
        obtain ⟨hP, hD⟩ : va_P G vwCl (wM k ar (uF fi 2 (c7)) fa fl) H ∧ va_D A (wM k ar (uF fi 2 (c7)) fa fl) := ⟨hP, hD⟩
        obtain ⟨h9, rc6, rc7, hp7⟩ : r = Int32.ofInt c6 ∧ (inR c6) ∧ (inR c7) ∧ (c6 = 0 ∧ c7 = 1) := hp
        subst h9
        exact W.iret (v := Int32.ofInt (c6)) hx hb hr (fun t ht hW => ⟨⟨Int32.ofInt (c6), (c6, c7), rfl, ⟨rfl, (show (inR c6) ∧ (inR c7) ∧ (Thr c7 c6 (¬ (0 ≤ t0 ∧ t0 < fi 12 ∧ 0 ≤ w0 ∧ w0 ≤ 5)) (thM w0 (fa 4 t0) (fa 5 t0) (fa 7 t0) (fa 32 t0) (fi 28) (fa 3 0))) from ⟨(by omega), (by omega), (by first | exact thr_x (by omega) (by omega) | exact thr_k (by omega) (by omega) (by rw [← hp3]; unfold thM svM; omega))⟩)⟩, by rw [ht]; exact hP, hD⟩, hS.F ht⟩) hS.2.2 dX10_thing_171
      · refine lv_tableIn (tgt := 84) hx hb dX10_thing_46 (by rw [iz_toInt (by omega)]; omega) (by rw [iz_toInt (by omega)]; omega) (off := 38) (by rw [iz_toInt (by omega), q5]; decide +kernel) (by decide) ?_
        refine lv_aload_n hx hb dX10_thing_84 rfl (lv_at hl 2 rfl) ?_
        refine va_get (D := G) (ci := 7) (v := .ref (ar 4)) (C := RX10) (T := TX10) (N := 71) (ref := RX10) hx hb hts h1w hown hX.1 hP 0 rfl rfl 4 (by decide) h3w (fun _ h9 => h9) rfl dX10_thing_85 ?_
        refine lv_iload_n hx hb dX10_thing_88 rfl (lv_at hl 3 rfl) ?_
        refine iv_iald hx hb hX.1 hP 2 0 rfl rfl (by omega) (by omega) (by decide) dX10_thing_89 ?_
        refine iv_top (fun z8 ez8 => ?_)
        have rz8 : inR z8 := ez8 ▸ (hRa 4) _
        have ez8 : z8 = (fa 4) t0 := ez8
        exact W.iret (v := Int32.ofInt (z8)) hx hb hr (fun t ht hW => ⟨⟨Int32.ofInt (z8), (z8, 0), rfl, ⟨rfl, (show (inR z8) ∧ (inR 0) ∧ (Thr 0 z8 (¬ (0 ≤ t0 ∧ t0 < fi 12 ∧ 0 ≤ w0 ∧ w0 ≤ 5)) (thM w0 (fa 4 t0) (fa 5 t0) (fa 7 t0) (fa 32 t0) (fi 28) (fa 3 0))) from ⟨(by omega), (by omega), (by first | exact thr_x (by omega) (by omega) | exact thr_k (by omega) (by omega) (by rw [← hp3]; unfold thM svM; omega))⟩)⟩, by rw [ht]; exact hP, hD⟩, hS.F ht⟩) hS.2.2 dX10_thing_90
      · refine lv_tableIn (tgt := 91) hx hb dX10_thing_46 (by rw [iz_toInt (by omega)]; omega) (by rw [iz_toInt (by omega)]; omega) (off := 45) (by rw [iz_toInt (by omega), q5]; decide +kernel) (by decide) ?_
        refine lv_aload_n hx hb dX10_thing_91 rfl (lv_at hl 2 rfl) ?_
        refine va_get (D := G) (ci := 7) (v := .ref (ar 5)) (C := RX10) (T := TX10) (N := 71) (ref := RX10) hx hb hts h1w hown hX.1 hP 0 rfl rfl 5 (by decide) h4w (fun _ h9 => h9) rfl dX10_thing_92 ?_
        refine lv_iload_n hx hb dX10_thing_95 rfl (lv_at hl 3 rfl) ?_
        refine iv_iald hx hb hX.1 hP 3 0 rfl rfl (by omega) (by omega) (by decide) dX10_thing_96 ?_
        refine iv_top (fun z9 ez9 => ?_)
        have rz9 : inR z9 := ez9 ▸ (hRa 5) _
        have ez9 : z9 = (fa 5) t0 := ez9
        exact W.iret (v := Int32.ofInt (z9)) hx hb hr (fun t ht hW => ⟨⟨Int32.ofInt (z9), (z9, 0), rfl, ⟨rfl, (show (inR z9) ∧ (inR 0) ∧ (Thr 0 z9 (¬ (0 ≤ t0 ∧ t0 < fi 12 ∧ 0 ≤ w0 ∧ w0 ≤ 5)) (thM w0 (fa 4 t0) (fa 5 t0) (fa 7 t0) (fa 32 t0) (fi 28) (fa 3 0))) from ⟨(by omega), (by omega), (by first | exact thr_x (by omega) (by omega) | exact thr_k (by omega) (by omega) (by rw [← hp3]; unfold thM svM; omega))⟩)⟩, by rw [ht]; exact hP, hD⟩, hS.F ht⟩) hS.2.2 dX10_thing_97
      · refine lv_tableIn (tgt := 98) hx hb dX10_thing_46 (by rw [iz_toInt (by omega)]; omega) (by rw [iz_toInt (by omega)]; omega) (off := 52) (by rw [iz_toInt (by omega), q5]; decide +kernel) (by decide) ?_
        refine lv_aload_n hx hb dX10_thing_98 rfl (lv_at hl 2 rfl) ?_
        refine va_get (D := G) (ci := 7) (v := .ref (ar 7)) (C := RX10) (T := TX10) (N := 71) (ref := RX10) hx hb hts h1w hown hX.1 hP 0 rfl rfl 7 (by decide) h5w (fun _ h9 => h9) rfl dX10_thing_99 ?_
        refine lv_iload_n hx hb dX10_thing_102 rfl (lv_at hl 3 rfl) ?_
        refine iv_iald hx hb hX.1 hP 5 0 rfl rfl (by omega) (by omega) (by decide) dX10_thing_103 ?_
        refine iv_top (fun z10 ez10 => ?_)
        have rz10 : inR z10 := ez10 ▸ (hRa 7) _
        have ez10 : z10 = (fa 7) t0 := ez10
        exact W.iret (v := Int32.ofInt (z10)) hx hb hr (fun t ht hW => ⟨⟨Int32.ofInt (z10), (z10, 0), rfl, ⟨rfl, (show (inR z10) ∧ (inR 0) ∧ (Thr 0 z10 (¬ (0 ≤ t0 ∧ t0 < fi 12 ∧ 0 ≤ w0 ∧ w0 ≤ 5)) (thM w0 (fa 4 t0) (fa 5 t0) (fa 7 t0) (fa 32 t0) (fi 28) (fa 3 0))) from ⟨(by omega), (by omega), (by first | exact thr_x (by omega) (by omega) | exact thr_k (by omega) (by omega) (by rw [← hp3]; unfold thM svM; omega))⟩)⟩, by rw [ht]; exact hP, hD⟩, hS.F ht⟩) hS.2.2 dX10_thing_104
      · refine lv_tableIn (tgt := 105) hx hb dX10_thing_46 (by rw [iz_toInt (by omega)]; omega) (by rw [iz_toInt (by omega)]; omega) (off := 59) (by rw [iz_toInt (by omega), q5]; decide +kernel) (by decide) ?_
        refine lv_iload hx hb dX10_thing_105 (lv_at hl 0 rfl) ?_
        refine iv_if_eq (tgt := 125) hx hb (by omega) dX10_thing_107 (by decide) (fun q11 => ?_) (fun q11 => ?_)
        · refine lv_iload_n hx hb dX10_thing_125 rfl (lv_at hl 1 rfl) ?_
          refine lv_bipush (v := Int32.ofInt 14) hx hb dX10_thing_126 (by decide +kernel) ?_
          refine iv_icmp_ne (tgt := 135) hx hb (by omega) (by omega) dX10_thing_128 (by decide) (fun q12 => ?_) (fun q12 => ?_)
          · refine lv_iload_n hx hb dX10_thing_135 rfl (lv_at hl 1 rfl) ?_
            exact W.iret (v := Int32.ofInt (z3)) hx hb hr (fun t ht hW => ⟨⟨Int32.ofInt (z3), (z3, 0), rfl, ⟨rfl, (show (inR z3) ∧ (inR 0) ∧ (Thr 0 z3 (¬ (0 ≤ t0 ∧ t0 < fi 12 ∧ 0 ≤ w0 ∧ w0 ≤ 5)) (thM w0 (fa 4 t0) (fa 5 t0) (fa 7 t0) (fa 32 t0) (fi 28) (fa 3 0))) from ⟨(by omega), (by omega), (by first | exact thr_x (by omega) (by omega) | exact thr_k (by omega) (by omega) (by rw [← hp3]; unfold thM svM; omega))⟩)⟩, by rw [ht]; exact hP, hD⟩, hS.F ht⟩) hS.2.2 dX10_thing_136
          · refine lv_iconst (v := Int32.ofInt (-1)) hx hb dX10_thing_131 (by decide +kernel) ?_
            refine lv_goto (tgt := 136) hx hb dX10_thing_132 (by decide) ?_
            exact W.iret (v := Int32.ofInt ((-1))) hx hb hr (fun t ht hW => ⟨⟨Int32.ofInt ((-1)), ((-1), 0), rfl, ⟨rfl, (show (inR (-1)) ∧ (inR 0) ∧ (Thr 0 (-1) (¬ (0 ≤ t0 ∧ t0 < fi 12 ∧ 0 ≤ w0 ∧ w0 ≤ 5)) (thM w0 (fa 4 t0) (fa 5 t0) (fa 7 t0) (fa 32 t0) (fi 28) (fa 3 0))) from ⟨(by omega), (by omega), (by first | exact thr_x (by omega) (by omega) | exact thr_k (by omega) (by omega) (by rw [← hp3]; unfold thM svM; omega))⟩)⟩, by rw [ht]; exact hP, hD⟩, hS.F ht⟩) hS.2.2 dX10_thing_136
        · refine lv_aload_n hx hb dX10_thing_110 rfl (lv_at hl 2 rfl) ?_
          refine lv_iload_n hx hb dX10_thing_111 rfl (lv_at hl 1 rfl) ?_
          refine lv_bipush (v := Int32.ofInt 12) hx hb dX10_thing_112 (by decide +kernel) ?_
          refine iv_sub (x := z3) (y := 12) hx hb dX10_thing_114 ?_
          refine lv_aload_n hx hb dX10_thing_115 rfl (lv_at hl 2 rfl) ?_
          refine va_get (D := G) (ci := 7) (v := .int (Int32.ofInt (fi 28))) (C := RX10) (T := TX10) (N := 71) (ref := RX10) hx hb hts h1w hown hX.1 hP 0 rfl rfl 28 (by decide) h6w (fun _ h9 => h9) rfl dX10_thing_116 ?_
          have rf28 := hR 28
          refine cr_i (va_runV (As := [.int (Int32.ofInt ((z3 - 12))), .int (Int32.ofInt (fi 28))]) (rest := []) ⟨hx, hb, hml, hown, hts⟩ (mX10_depthOf l G k ar (uF fi 2 (0)) fa fl (z3 - 12) (fi 28) H.size (iF hR (by omega)) hRa (by omega) (hR 28)) (cwV 2 hts (gz [.methodLink RX10 352 yX10_depthOf, .instanceMethod yX10_depthOf, .selects RX10 yX10_depthOf yX10_depthOf, .initialized RX10] (.code yX10_depthOf cX10_depthOf 3 (some .int)) [(24, 7), (24, 8), (24, 9), (0, 5), (24, 10)] rfl) rfl rfl rfl (by decide +kernel) ⟨Nat.le_of_ble_eq_true rfl, Nat.le_of_ble_eq_true rfl⟩) (cr_preV (EZ_ok k) hZ hS hX hP hD hA (ci := 7) (q0 := 0) rfl rfl) rfl rfl hl.1 rfl (lv_room (Nat.le_of_ble_eq_true rfl)) dX10_thing_119 ⟨Nat.le_of_ble_eq_true rfl, Nat.le_of_ble_eq_true rfl⟩) hD hS hA (fun r u H locs hp hP hD hS => ?_)
          obtain ⟨c13, rfl⟩ : ∃ z, z = u := ⟨_, rfl⟩
          obtain ⟨h9, rc13, hp13⟩ : r = Int32.ofInt c13 ∧ (inR c13) ∧ (c13 = buD (z3 - 12) (fi 28) ((fa 3) 0)) := hp
          subst h9
          have hBu119 := hp13
          refine lv_goto (tgt := 136) hx hb dX10_thing_122 (by decide) ?_
          exact W.iret (v := Int32.ofInt (c13)) hx hb hr (fun t ht hW => ⟨⟨Int32.ofInt (c13), (c13, 0), rfl, ⟨rfl, (show (inR c13) ∧ (inR 0) ∧ (Thr 0 c13 (¬ (0 ≤ t0 ∧ t0 < fi 12 ∧ 0 ≤ w0 ∧ w0 ≤ 5)) (thM w0 (fa 4 t0) (fa 5 t0) (fa 7 t0) (fa 32 t0) (fi 28) (fa 3 0))) from ⟨(by omega), (by omega), (by first | exact thr_x (by omega) (by omega) | exact thr_k (by omega) (by omega) (by rw [← hp3]; unfold thM svM; omega))⟩)⟩, by rw [ht]; exact hP, hD⟩, hS.F ht⟩) hS.2.2 dX10_thing_136
      · refine lv_tableIn (tgt := 137) hx hb dX10_thing_46 (by rw [iz_toInt (by omega)]; omega) (by rw [iz_toInt (by omega)]; omega) (off := 91) (by rw [iz_toInt (by omega), q5]; decide +kernel) (by decide) ?_
        refine lv_iload hx hb dX10_thing_137 (lv_at hl 0 rfl) ?_
        refine iv_if_eq (tgt := 149) hx hb (by omega) dX10_thing_139 (by decide) (fun q14 => ?_) (fun q14 => ?_)
        · refine lv_iconst (v := Int32.ofInt (-1)) hx hb dX10_thing_149 (by decide +kernel) ?_
          exact W.iret (v := Int32.ofInt ((-1))) hx hb hr (fun t ht hW => ⟨⟨Int32.ofInt ((-1)), ((-1), 0), rfl, ⟨rfl, (show (inR (-1)) ∧ (inR 0) ∧ (Thr 0 (-1) (¬ (0 ≤ t0 ∧ t0 < fi 12 ∧ 0 ≤ w0 ∧ w0 ≤ 5)) (thM w0 (fa 4 t0) (fa 5 t0) (fa 7 t0) (fa 32 t0) (fi 28) (fa 3 0))) from ⟨(by omega), (by omega), (by first | exact thr_x (by omega) (by omega) | exact thr_k (by omega) (by omega) (by rw [← hp3]; unfold thM svM; omega))⟩)⟩, by rw [ht]; exact hP, hD⟩, hS.F ht⟩) hS.2.2 dX10_thing_150
        · refine lv_iload_n hx hb dX10_thing_142 rfl (lv_at hl 1 rfl) ?_
          refine lv_bipush (v := Int32.ofInt 12) hx hb dX10_thing_143 (by decide +kernel) ?_
          refine iv_sub (x := z3) (y := 12) hx hb dX10_thing_145 ?_
          refine lv_goto (tgt := 150) hx hb dX10_thing_146 (by decide) ?_
          exact W.iret (v := Int32.ofInt ((z3 - 12))) hx hb hr (fun t ht hW => ⟨⟨Int32.ofInt ((z3 - 12)), ((z3 - 12), 0), rfl, ⟨rfl, (show (inR (z3 - 12)) ∧ (inR 0) ∧ (Thr 0 (z3 - 12) (¬ (0 ≤ t0 ∧ t0 < fi 12 ∧ 0 ≤ w0 ∧ w0 ≤ 5)) (thM w0 (fa 4 t0) (fa 5 t0) (fa 7 t0) (fa 32 t0) (fi 28) (fa 3 0))) from ⟨(by omega), (by omega), (by first | exact thr_x (by omega) (by omega) | exact thr_k (by omega) (by omega) (by rw [← hp3]; unfold thM svM; omega))⟩)⟩, by rw [ht]; exact hP, hD⟩, hS.F ht⟩) hS.2.2 dX10_thing_150
      · refine lv_tableIn (tgt := 151) hx hb dX10_thing_46 (by rw [iz_toInt (by omega)]; omega) (by rw [iz_toInt (by omega)]; omega) (off := 105) (by rw [iz_toInt (by omega), q5]; decide +kernel) (by decide) ?_
        refine lv_aload_n hx hb dX10_thing_151 rfl (lv_at hl 2 rfl) ?_
        refine lv_iload_n hx hb dX10_thing_152 rfl (lv_at hl 3 rfl) ?_
        refine lv_iload_n hx hb dX10_thing_153 rfl (lv_at hl 1 rfl) ?_
        refine cr_i (va_runV (As := [.int (Int32.ofInt (t0)), .int (Int32.ofInt (z3))]) (rest := []) ⟨hx, hb, hml, hown, hts⟩ (mX10_isServed l G k ar (uF fi 2 (0)) fa fl t0 z3 H.size (iF hR (by omega)) hRa (by omega) (by omega) (show 0 ≤ t0 ∧ t0 < 14 from by omega)) (cwV 2 hts (gz [.methodLink RX10 355 yX10_isServed, .instanceMethod yX10_isServed, .selects RX10 yX10_isServed yX10_isServed, .initialized RX10] (.code yX10_isServed cX10_isServed 3 (some .boolean)) [(24, 15), (24, 16), (24, 17), (0, 5), (24, 18)] rfl) rfl rfl rfl (by decide +kernel) ⟨Nat.le_of_ble_eq_true rfl, Nat.le_of_ble_eq_true rfl⟩) (cr_preV (EZ_ok k) hZ hS hX hP hD hA (ci := 7) (q0 := 0) rfl rfl) rfl rfl hl.1 rfl (lv_room (Nat.le_of_ble_eq_true rfl)) dX10_thing_154 ⟨Nat.le_of_ble_eq_true rfl, Nat.le_of_ble_eq_true rfl⟩) hD hS hA (fun r u H locs hp hP hD hS => ?_)
        obtain ⟨c15, rfl⟩ : ∃ z, z = u := ⟨_, rfl⟩
        obtain ⟨h9, rc15, hp15⟩ : r = Int32.ofInt c15 ∧ (inR c15) ∧ ((c15 = 1 ∧ svM z3 ((fa 7) t0)) ∨ (c15 = 0 ∧ ¬ svM z3 ((fa 7) t0))) := hp
        subst h9
        unfold svM at hp15
        refine iv_if_eq (tgt := 164) hx hb (by omega) dX10_thing_157 (by decide) (fun q16 => ?_) (fun q16 => ?_)
        · refine lv_iconst (v := Int32.ofInt 0) hx hb dX10_thing_164 (by decide +kernel) ?_
          exact W.iret (v := Int32.ofInt (0)) hx hb hr (fun t ht hW => ⟨⟨Int32.ofInt (0), (0, 0), rfl, ⟨rfl, (show (inR 0) ∧ (inR 0) ∧ (Thr 0 0 (¬ (0 ≤ t0 ∧ t0 < fi 12 ∧ 0 ≤ w0 ∧ w0 ≤ 5)) (thM w0 (fa 4 t0) (fa 5 t0) (fa 7 t0) (fa 32 t0) (fi 28) (fa 3 0))) from ⟨(by omega), (by omega), (by first | exact thr_x (by omega) (by omega) | exact thr_k (by omega) (by omega) (by rw [← hp3]; unfold thM svM; omega))⟩)⟩, by rw [ht]; exact hP, hD⟩, hS.F ht⟩) hS.2.2 dX10_thing_165
        · refine lv_iconst (v := Int32.ofInt 1) hx hb dX10_thing_160 (by decide +kernel) ?_
          refine lv_goto (tgt := 165) hx hb dX10_thing_161 (by decide) ?_
          exact W.iret (v := Int32.ofInt (1)) hx hb hr (fun t ht hW => ⟨⟨Int32.ofInt (1), (1, 0), rfl, ⟨rfl, (show (inR 1) ∧ (inR 0) ∧ (Thr 0 1 (¬ (0 ≤ t0 ∧ t0 < fi 12 ∧ 0 ≤ w0 ∧ w0 ≤ 5)) (thM w0 (fa 4 t0) (fa 5 t0) (fa 7 t0) (fa 32 t0) (fi 28) (fa 3 0))) from ⟨(by omega), (by omega), (by first | exact thr_x (by omega) (by omega) | exact thr_k (by omega) (by omega) (by rw [← hp3]; unfold thM svM; omega))⟩)⟩, by rw [ht]; exact hP, hD⟩, hS.F ht⟩) hS.2.2 dX10_thing_165
    · refine lv_iload_n hx hb dX10_thing_26 rfl (lv_at hl 0 rfl) ?_
      refine lv_bipush (v := Int32.ofInt 12) hx hb dX10_thing_27 (by decide +kernel) ?_
      refine iv_icmp_eq (tgt := 38) hx hb (by omega) (by omega) dX10_thing_29 (by decide) (fun q17 => ?_) (fun q17 => ?_)
      · refine lv_iconst (v := Int32.ofInt 1) hx hb dX10_thing_38 (by decide +kernel) ?_
        refine lv_goto (tgt := 43) hx hb dX10_thing_39 (by decide) ?_
        have hl : lv_has ls 5 [(3, .int (Int32.ofInt (z3))), (0, .ref (ar 71)), (1, .int (Int32.ofInt (t0))), (2, .int (Int32.ofInt (w0)))] := lv_sub hl [0, 1, 2, 3] rfl
        exact J43 (1) (show inR 1 ∧ ((1 = 1 ∧ (z3 = 12 ∨ z3 = 13)) ∨ (1 = 0 ∧ ¬ (z3 = 12 ∨ z3 = 13))) from ⟨(by omega), (by omega)⟩) _ _ _ hP hD hS hl
      · refine lv_iload_n hx hb dX10_thing_32 rfl (lv_at hl 0 rfl) ?_
        refine lv_bipush (v := Int32.ofInt 13) hx hb dX10_thing_33 (by decide +kernel) ?_
        refine iv_icmp_ne (tgt := 42) hx hb (by omega) (by omega) dX10_thing_35 (by decide) (fun q18 => ?_) (fun q18 => ?_)
        · refine lv_iconst (v := Int32.ofInt 0) hx hb dX10_thing_42 (by decide +kernel) ?_
          have hl : lv_has ls 5 [(3, .int (Int32.ofInt (z3))), (0, .ref (ar 71)), (1, .int (Int32.ofInt (t0))), (2, .int (Int32.ofInt (w0)))] := lv_sub hl [0, 1, 2, 3] rfl
          exact J43 (0) (show inR 0 ∧ ((0 = 1 ∧ (z3 = 12 ∨ z3 = 13)) ∨ (0 = 0 ∧ ¬ (z3 = 12 ∨ z3 = 13))) from ⟨(by omega), (by omega)⟩) _ _ _ hP hD hS hl
        · refine lv_iconst (v := Int32.ofInt 1) hx hb dX10_thing_38 (by decide +kernel) ?_
          refine lv_goto (tgt := 43) hx hb dX10_thing_39 (by decide) ?_
          have hl : lv_has ls 5 [(3, .int (Int32.ofInt (z3))), (0, .ref (ar 71)), (1, .int (Int32.ofInt (t0))), (2, .int (Int32.ofInt (w0)))] := lv_sub hl [0, 1, 2, 3] rfl
          exact J43 (1) (show inR 1 ∧ ((1 = 1 ∧ (z3 = 12 ∨ z3 = 13)) ∨ (1 = 0 ∧ ¬ (z3 = 12 ∨ z3 = 13))) from ⟨(by omega), (by omega)⟩) _ _ _ hP hD hS hl
  · refine lv_aload_n hx hb dX10_thing_13 rfl (lv_at hl 0 rfl) ?_
    refine lv_iconst (v := Int32.ofInt 1) hx hb dX10_thing_14 (by decide +kernel) ?_
    refine cr_i (va_runV (As := [.int (Int32.ofInt (1))]) (rest := []) ⟨hx, hb, hml, hown, hts⟩ (mX10_fail l G k ar (uF fi 2 (0)) fa fl 1 H.size (iF hR (by omega)) hRa (by omega)) (cwV 1 hts (gz [.methodLink RX10 315 yX10_fail, .instanceMethod yX10_fail, .selects RX10 yX10_fail yX10_fail, .initialized RX10] (.code yX10_fail cX10_fail 2 (some .int)) [(16, 17), (16, 18), (16, 19), (0, 5), (16, 20)] rfl) rfl rfl rfl (by decide +kernel) ⟨Nat.le_of_ble_eq_true rfl, Nat.le_of_ble_eq_true rfl⟩) (cr_preV (EZ_ok k) hZ hS hX hP hD hA (ci := 7) (q0 := 0) rfl rfl) rfl rfl hl.1 rfl (lv_room (Nat.le_of_ble_eq_true rfl)) dX10_thing_15 ⟨Nat.le_of_ble_eq_true rfl, Nat.le_of_ble_eq_true rfl⟩) hD hS hA (fun r u H locs hp hP hD hS => ?_)
    obtain ⟨c19, c20⟩ := u
    obtain ⟨hP, hD⟩ : va_P G vwCl (wM k ar (uF fi 2 (c20)) fa fl) H ∧ va_D A (wM k ar (uF fi 2 (c20)) fa fl) := ⟨hP, hD⟩
    obtain ⟨h9, rc19, rc20, hp20⟩ : r = Int32.ofInt c19 ∧ (inR c19) ∧ (inR c20) ∧ (c19 = 0 ∧ c20 = 1) := hp
    subst h9
    exact W.iret (v := Int32.ofInt (c19)) hx hb hr (fun t ht hW => ⟨⟨Int32.ofInt (c19), (c19, c20), rfl, ⟨rfl, (show (inR c19) ∧ (inR c20) ∧ (Thr c20 c19 (¬ (0 ≤ t0 ∧ t0 < fi 12 ∧ 0 ≤ w0 ∧ w0 ≤ 5)) (thM w0 (fa 4 t0) (fa 5 t0) (fa 7 t0) (fa 32 t0) (fi 28) (fa 3 0))) from ⟨(by omega), (by omega), (by first | exact thr_x (by omega) (by omega) | exact thr_k (by omega) (by omega) (by rw [← hp3]; unfold thM svM; omega))⟩)⟩, by rw [ht]; exact hP, hD⟩, hS.F ht⟩) hS.2.2 dX10_thing_18

set_option maxHeartbeats 4000000 in
set_option maxRecDepth 100000 in
theorem mX10_loadOf_32 (l : Launch) (G : va_G) (k : Nat → ClassId) (ar : Nat → Nat) (fi : Nat → Int) (fa : Nat → Int → Int) (fl : Nat → Int64) (b0 : Int) (sz : Nat) (hR : ∀ j, inR (fi j)) (hRa : ∀ j t, inR (fa j t)) (hr_b0 : inR b0) (hth : 0 ≤ fi 12 ∧ fi 12 ≤ 7) (hb : b0 = 0 ∨ b0 = 1) : CNi l G k (EZ k) yX10_loadOf wzX10_loadOf ({ frames := 1, cells := 0, slots := 0, locals := 21 }) [.ref (ar 71), .ref (ar 32), .int (Int32.ofInt (b0))] sz (wM k ar fi fa fl) (fun (r0 : Int32) (u : Int) => r0 = Int32.ofInt (u) ∧ (inR u) ∧ (u = (gs (lc (fa 32) (fa 5) b0) (fi 12)))) (fun (u : Int) => (wM k ar fi fa fl)) := by
  refine Met.ofW (cc := cX10_loadOf) (maxL := 5) (ret := (some .int)) (by decide) rfl ?_
  intro p e s m args below meth c s₁ B hml hv
  obtain ⟨rfl, hsz, hP, hX, hD0, hZ0⟩ := hv
  have hx := B.exec
  have hb := B.bytes
  have hr := B.returns
  have hts := atoms_spec (ws := wzX10_loadOf) B.pre
  have hown : s.vm.findClass RX10 = some m.cls := findClass_of_methodNamed B.named
  subst hsz
  have hD := hD0.self (sz := s.heap.size)
  have hZ := hZ0
  generalize hAe : va_A (wM k ar fi fa fl) s.heap.size = A at hD hZ ⊢
  have hA : ∀ q : Nat, s.heap.size ≤ q → A q := fun q h => by rw [← hAe]; exact Or.inr h
  have hS : va_S A s.heap s.heap [] := va_S.rf
  have hl := lv_entry ([.ref (ar 71), .ref (ar 32), .int (Int32.ofInt (b0))]) (n := 5) (Nat.le_of_ble_eq_true rfl)
  rw [lg_entry_eq]
  generalize (lg_sl ([.ref (ar 71), .ref (ar 32), .int (Int32.ofInt (b0))]) ++ List.replicate (5 - (lg_sl ([.ref (ar 71), .ref (ar 32), .int (Int32.ofInt (b0))])).length) Slot.unset).toArray = ls at hl ⊢
  have hl : lv_has ls 5 [(0, .ref (ar 71)), (1, .ref (ar 32)), (2, .int (Int32.ofInt (b0)))] := hl
  obtain ⟨H, eH⟩ : ∃ H, H = s.heap := ⟨_, rfl⟩
  rw [← eH] at hP
  have hS : va_S A s.heap H [] := by rw [eH]; exact hS
  have gW : s.heap = H := eH.symm
  refine iv_heap gW ?_
  have h0w := hts (.fieldLink RX10 174 "RopeTownModel" "things" "I") (wz_at 21 11 rfl)
  have h1w : ∀ w ∈ wsX100, w ∈ wzX10_loadOf := fun w h => List.mem_cons_of_mem _ (inlX10 w h)
  have h2w := hts (.fieldLink RX10 60 "RopeTownModel" "weight" "[I") (wz_at 6 8 rfl)
  refine lv_iconst (v := Int32.ofInt 0) hx hb dX10_loadOf_0 (by decide +kernel) ?_
  refine lv_istore_n (lv' := [(3, .int (Int32.ofInt (0))), (0, .ref (ar 71)), (1, .ref (ar 32)), (2, .int (Int32.ofInt (b0)))]) hx hb dX10_loadOf_1 rfl hl (by decide) rfl (fun ls hl => ?_)
  refine lv_iconst (v := Int32.ofInt 0) hx hb dX10_loadOf_2 (by decide +kernel) ?_
  refine lv_istore (lv' := [(4, .int (Int32.ofInt (0))), (3, .int (Int32.ofInt (0))), (0, .ref (ar 71)), (1, .ref (ar 32)), (2, .int (Int32.ofInt (b0)))]) hx hb dX10_loadOf_3 hl (by decide) rfl (fun ls hl => ?_)
  refine iv_loop (α := Int × Int) (nL := 5) (fun b9 => (wM k ar fi fa fl)) (fun b9 => [(4, .int (Int32.ofInt (b9.1))), (3, .int (Int32.ofInt (b9.2))), (0, .ref (ar 71)), (1, .ref (ar 32)), (2, .int (Int32.ofInt (b0)))]) (fun b9 => (fi 12 - b9.1).toNat) (fun b9 => inR b9.1 ∧ inR b9.2 ∧ ((0 ≤ b9.1 ∧ b9.1 ≤ fi 12) ∧ b9.2 = gs (lc (fa 32) (fa 5) b0) b9.1)) ?_ (0, 0) (show inR 0 ∧ inR 0 ∧ ((0 ≤ 0 ∧ 0 ≤ fi 12) ∧ 0 = gs (lc (fa 32) (fa 5) b0) 0) from ⟨(by omega), (by omega), (by exact ⟨by omega, gs_0 rfl (by omega)⟩)⟩) hP hD hS hl
  rintro ⟨x4_1, x3_2⟩ ih hi9 H locs ls hP hD hS hl
  obtain ⟨r_x4_1, r_x3_2, hinv⟩ : inR x4_1 ∧ inR x3_2 ∧ ((0 ≤ x4_1 ∧ x4_1 ≤ fi 12) ∧ x3_2 = gs (lc (fa 32) (fa 5) b0) x4_1) := hi9
  obtain ⟨hJ1, hJ2⟩ := hinv
  obtain ⟨hP, hD⟩ : va_P G vwCl (wM k ar fi fa fl) H ∧ va_D A (wM k ar fi fa fl) := ⟨hP, hD⟩
  have hl : lv_has ls 5 [(4, .int (Int32.ofInt (x4_1))), (3, .int (Int32.ofInt (x3_2))), (0, .ref (ar 71)), (1, .ref (ar 32)), (2, .int (Int32.ofInt (b0)))] := hl
  refine lv_iload hx hb dX10_loadOf_5 (lv_at hl 0 rfl) ?_
  refine lv_aload_n hx hb dX10_loadOf_7 rfl (lv_at hl 2 rfl) ?_
  refine va_get (D := G) (ci := 7) (v := .int (Int32.ofInt (fi 12))) (C := RX10) (T := TX10) (N := 71) (ref := RX10) hx hb hts h1w hown hX.1 hP 0 rfl rfl 12 (by decide) h0w (fun _ h9 => h9) rfl dX10_loadOf_8 ?_
  have rf12 := hR 12
  refine iv_icmp_ge (tgt := 45) hx hb (by omega) (by omega) dX10_loadOf_11 (by decide) (fun q3 => ?_) (fun q3 => ?_)
  · refine lv_iload_n hx hb dX10_loadOf_45 rfl (lv_at hl 1 rfl) ?_
    exact W.iret (v := Int32.ofInt (x3_2)) hx hb hr (fun t ht hW => ⟨⟨Int32.ofInt (x3_2), (x3_2), rfl, ⟨rfl, (show (inR x3_2) ∧ (x3_2 = (gs (lc (fa 32) (fa 5) b0) (fi 12))) from ⟨(by omega), (by rw [show fi 12 = x4_1 by omega]; exact hJ2)⟩)⟩, by rw [ht]; exact hP, hD⟩, hS.F ht⟩) hS.2.2 dX10_loadOf_46
  · refine lv_iload_n hx hb dX10_loadOf_14 rfl (lv_at hl 1 rfl) ?_
    refine lv_aload_n hx hb dX10_loadOf_15 rfl (lv_at hl 3 rfl) ?_
    refine lv_iload hx hb dX10_loadOf_16 (lv_at hl 0 rfl) ?_
    refine iv_iald hx hb hX.1 hP 11 0 rfl rfl (by omega) (by omega) (by decide) dX10_loadOf_18 ?_
    refine iv_top (fun z4 ez4 => ?_)
    have rz4 : inR z4 := ez4 ▸ (hRa 32) _
    have ez4 : z4 = (fa 32) x4_1 := ez4
    refine lv_iload_n hx hb dX10_loadOf_19 rfl (lv_at hl 4 rfl) ?_
    refine c0_i (va_runS (As := [.int (Int32.ofInt (z4)), .int (Int32.ofInt (b0))]) (rest := [.int (Int32.ofInt (x3_2))]) ⟨hx, hb, hml, hown, hts⟩ (mX10_isInBucket l G k z4 b0 H.size (by omega) (by omega) (show b0 = 0 ∨ b0 = 1 from by omega)) (cwS 2 hts (gz [.methodLink RX10 359 yX10_isInBucket, .static yX10_isInBucket, .initialized RX10] (.code yX10_isInBucket cX10_isInBucket 2 (some .boolean)) [(25, 21), (25, 22), (0, 5), (25, 23)] rfl) rfl rfl rfl (by decide +kernel) ⟨Nat.le_of_ble_eq_true rfl, Nat.le_of_ble_eq_true rfl⟩) (cr_pre0 (EZ_ok k) hZ hS hX hP hD hA) rfl rfl hl.1 rfl (lv_room (Nat.le_of_ble_eq_true rfl)) dX10_loadOf_20 ⟨Nat.le_of_ble_eq_true rfl, Nat.le_of_ble_eq_true rfl⟩) hP hD hS hA (fun r u H locs hp hP hD hS => ?_)
    obtain ⟨c5, rfl⟩ : ∃ z, z = u := ⟨_, rfl⟩
    obtain ⟨h9, rc5, hp5⟩ : r = Int32.ofInt c5 ∧ (inR c5) ∧ ((c5 = 1 ∧ z4 = 12 + b0) ∨ (c5 = 0 ∧ ¬ z4 = 12 + b0)) := hp
    subst h9
    refine iv_if_eq (tgt := 36) hx hb (by omega) dX10_loadOf_23 (by decide) (fun q6 => ?_) (fun q6 => ?_)
    · refine lv_iconst (v := Int32.ofInt 0) hx hb dX10_loadOf_36 (by decide +kernel) ?_
      refine iv_add (x := x3_2) (y := 0) hx hb dX10_loadOf_37 ?_
      refine iv_wr ?_
      refine iv_top (fun z7 ez7 => ?_)
      have rz7 : inR z7 := ez7 ▸ bWr_r _
      have hS9 := ez7
      refine lv_istore_n (lv' := [(3, .int (Int32.ofInt (z7))), (4, .int (Int32.ofInt (x4_1))), (0, .ref (ar 71)), (1, .ref (ar 32)), (2, .int (Int32.ofInt (b0)))]) hx hb dX10_loadOf_38 rfl hl (by decide) rfl (fun ls hl => ?_)
      refine lv_iinc (v := Int32.ofInt (x4_1 + 1)) (lv' := [(4, .int (Int32.ofInt ((x4_1 + 1)))), (3, .int (Int32.ofInt (z7))), (0, .ref (ar 71)), (1, .ref (ar 32)), (2, .int (Int32.ofInt (b0)))]) hx hb dX10_loadOf_39 hl (k := 1) rfl (Int32.ofInt_add _ _).symm (by decide) rfl (fun ls hl => ?_)
      refine lv_goto (tgt := 5) hx hb dX10_loadOf_42 (by decide) ?_
      have hl : lv_has ls 5 [(4, .int (Int32.ofInt ((x4_1 + 1)))), (3, .int (Int32.ofInt (z7))), (0, .ref (ar 71)), (1, .ref (ar 32)), (2, .int (Int32.ofInt (b0)))] := lv_sub hl [0, 1, 2, 3, 4] rfl
      exact ih ((x4_1 + 1), z7) (show (fi 12 - (x4_1 + 1)).toNat < (fi 12 - x4_1).toNat from by omega) (show inR (x4_1 + 1) ∧ inR z7 ∧ ((0 ≤ (x4_1 + 1) ∧ (x4_1 + 1) ≤ fi 12) ∧ z7 = gs (lc (fa 32) (fa 5) b0) (x4_1 + 1)) from ⟨(by omega), (by omega), (by first | exact ⟨by omega, gs_s hJ2 (by omega) (lc_y (p := fa 32) (W := fa 5) (b := b0) (by omega) (by omega)) hS9 rfl⟩ | exact ⟨by omega, gs_s hJ2 (by omega) (lc_n (p := fa 32) (W := fa 5) (b := b0) (by omega) rfl) hS9 rfl⟩)⟩) _ _ _ hP hD hS hl
    · refine lv_aload_n hx hb dX10_loadOf_26 rfl (lv_at hl 2 rfl) ?_
      refine va_get (D := G) (ci := 7) (v := .ref (ar 5)) (C := RX10) (T := TX10) (N := 71) (ref := RX10) hx hb hts h1w hown hX.1 hP 0 rfl rfl 5 (by decide) h2w (fun _ h9 => h9) rfl dX10_loadOf_27 ?_
      refine lv_iload hx hb dX10_loadOf_30 (lv_at hl 0 rfl) ?_
      refine iv_iald hx hb hX.1 hP 3 0 rfl rfl (by omega) (by omega) (by decide) dX10_loadOf_32 ?_
      refine iv_top (fun z8 ez8 => ?_)
      have rz8 : inR z8 := ez8 ▸ (hRa 5) _
      have ez8 : z8 = (fa 5) x4_1 := ez8
      refine lv_goto (tgt := 37) hx hb dX10_loadOf_33 (by decide) ?_
      refine iv_add (x := x3_2) (y := z8) hx hb dX10_loadOf_37 ?_
      refine iv_wr ?_
      refine iv_top (fun z9 ez9 => ?_)
      have rz9 : inR z9 := ez9 ▸ bWr_r _
      have hS9 := ez9
      refine lv_istore_n (lv' := [(3, .int (Int32.ofInt (z9))), (4, .int (Int32.ofInt (x4_1))), (0, .ref (ar 71)), (1, .ref (ar 32)), (2, .int (Int32.ofInt (b0)))]) hx hb dX10_loadOf_38 rfl hl (by decide) rfl (fun ls hl => ?_)
      refine lv_iinc (v := Int32.ofInt (x4_1 + 1)) (lv' := [(4, .int (Int32.ofInt ((x4_1 + 1)))), (3, .int (Int32.ofInt (z9))), (0, .ref (ar 71)), (1, .ref (ar 32)), (2, .int (Int32.ofInt (b0)))]) hx hb dX10_loadOf_39 hl (k := 1) rfl (Int32.ofInt_add _ _).symm (by decide) rfl (fun ls hl => ?_)
      refine lv_goto (tgt := 5) hx hb dX10_loadOf_42 (by decide) ?_
      have hl : lv_has ls 5 [(4, .int (Int32.ofInt ((x4_1 + 1)))), (3, .int (Int32.ofInt (z9))), (0, .ref (ar 71)), (1, .ref (ar 32)), (2, .int (Int32.ofInt (b0)))] := lv_sub hl [0, 1, 2, 3, 4] rfl
      exact ih ((x4_1 + 1), z9) (show (fi 12 - (x4_1 + 1)).toNat < (fi 12 - x4_1).toNat from by omega) (show inR (x4_1 + 1) ∧ inR z9 ∧ ((0 ≤ (x4_1 + 1) ∧ (x4_1 + 1) ≤ fi 12) ∧ z9 = gs (lc (fa 32) (fa 5) b0) (x4_1 + 1)) from ⟨(by omega), (by omega), (by first | exact ⟨by omega, gs_s hJ2 (by omega) (lc_y (p := fa 32) (W := fa 5) (b := b0) (by omega) (by omega)) hS9 rfl⟩ | exact ⟨by omega, gs_s hJ2 (by omega) (lc_n (p := fa 32) (W := fa 5) (b := b0) (by omega) rfl) hS9 rfl⟩)⟩) _ _ _ hP hD hS hl

set_option maxHeartbeats 4000000 in
set_option maxRecDepth 100000 in
theorem mX10_sideOf_32 (l : Launch) (G : va_G) (k : Nat → ClassId) (ar : Nat → Nat) (fi : Nat → Int) (fa : Nat → Int → Int) (fl : Nat → Int64) (b0 : Int) (a0 : Int) (sz : Nat) (hR : ∀ j, inR (fi j)) (hRa : ∀ j t, inR (fa j t)) (hr_b0 : inR b0) (hr_a0 : inR a0) (hth : 0 ≤ fi 12 ∧ fi 12 ≤ 7) (hb : b0 = 0 ∨ b0 = 1) : CNi l G k (EZ k) yX10_sideOf wzX10_sideOf ({ frames := 2, cells := 0, slots := 0, locals := 45 }) [.ref (ar 71), .ref (ar 32), .int (Int32.ofInt (b0)), .int (Int32.ofInt (a0))] sz (wM k ar fi fa fl) (fun (r0 : Int32) (u : Int) => r0 = Int32.ofInt (u) ∧ (inR u) ∧ (u = sdV (gs (lc (fa 32) (fa 5) b0) (fi 12)) (fa 3 3) (buD b0 a0 (fa 3 0)))) (fun (u : Int) => (wM k ar fi fa fl)) := by
  refine Met.ofW (cc := cX10_sideOf) (maxL := 4) (ret := (some .int)) (by decide) rfl ?_
  intro p e s m args below meth c s₁ B hml hv
  obtain ⟨rfl, hsz, hP, hX, hD0, hZ0⟩ := hv
  have hx := B.exec
  have hb := B.bytes
  have hr := B.returns
  have hts := atoms_spec (ws := wzX10_sideOf) B.pre
  have hown : s.vm.findClass RX10 = some m.cls := findClass_of_methodNamed B.named
  subst hsz
  have hD := hD0.self (sz := s.heap.size)
  have hZ := hZ0
  generalize hAe : va_A (wM k ar fi fa fl) s.heap.size = A at hD hZ ⊢
  have hA : ∀ q : Nat, s.heap.size ≤ q → A q := fun q h => by rw [← hAe]; exact Or.inr h
  have hS : va_S A s.heap s.heap [] := va_S.rf
  have hl := lv_entry ([.ref (ar 71), .ref (ar 32), .int (Int32.ofInt (b0)), .int (Int32.ofInt (a0))]) (n := 4) (Nat.le_of_ble_eq_true rfl)
  rw [lg_entry_eq]
  generalize (lg_sl ([.ref (ar 71), .ref (ar 32), .int (Int32.ofInt (b0)), .int (Int32.ofInt (a0))]) ++ List.replicate (4 - (lg_sl ([.ref (ar 71), .ref (ar 32), .int (Int32.ofInt (b0)), .int (Int32.ofInt (a0))])).length) Slot.unset).toArray = ls at hl ⊢
  have hl : lv_has ls 4 [(0, .ref (ar 71)), (1, .ref (ar 32)), (2, .int (Int32.ofInt (b0))), (3, .int (Int32.ofInt (a0)))] := hl
  obtain ⟨H, eH⟩ : ∃ H, H = s.heap := ⟨_, rfl⟩
  rw [← eH] at hP
  have hS : va_S A s.heap H [] := by rw [eH]; exact hS
  have gW : s.heap = H := eH.symm
  refine iv_heap gW ?_
  have h0w := hts (.fieldLink RX10 54 "RopeTownModel" "rule" "[I") (wz_at 6 6 rfl)
  have h1w : ∀ w ∈ wsX100, w ∈ wzX10_sideOf := fun w h => List.mem_cons_of_mem _ (inlX10 w h)
  refine lv_aload_n hx hb dX10_sideOf_0 rfl (lv_at hl 0 rfl) ?_
  refine lv_aload_n hx hb dX10_sideOf_1 rfl (lv_at hl 1 rfl) ?_
  refine lv_iload_n hx hb dX10_sideOf_2 rfl (lv_at hl 2 rfl) ?_
  refine cr_i (va_runV (As := [.ref (ar 32), .int (Int32.ofInt (b0))]) (rest := []) ⟨hx, hb, hml, hown, hts⟩ (mX10_loadOf_32 l G k ar fi fa fl b0 H.size hR hRa (by omega) (show 0 ≤ (fi 12) ∧ (fi 12) ≤ 7 from by omega) (show b0 = 0 ∨ b0 = 1 from by omega)) (cwV 2 hts (gz [.methodLink RX10 362 yX10_loadOf, .instanceMethod yX10_loadOf, .selects RX10 yX10_loadOf yX10_loadOf, .initialized RX10] (.code yX10_loadOf cX10_loadOf 5 (some .int)) [(26, 0), (26, 1), (26, 2), (0, 5), (26, 3)] rfl) rfl rfl rfl (by decide +kernel) ⟨Nat.le_of_ble_eq_true rfl, Nat.le_of_ble_eq_true rfl⟩) (cr_preV (EZ_ok k) hZ hS hX hP hD hA (ci := 7) (q0 := 0) rfl rfl) rfl rfl hl.1 rfl (lv_room (Nat.le_of_ble_eq_true rfl)) dX10_sideOf_3 ⟨Nat.le_of_ble_eq_true rfl, Nat.le_of_ble_eq_true rfl⟩) hD hS hA (fun r u H locs hp hP hD hS => ?_)
  obtain ⟨c1, rfl⟩ : ∃ z, z = u := ⟨_, rfl⟩
  obtain ⟨h9, rc1, hp1⟩ : r = Int32.ofInt c1 ∧ (inR c1) ∧ (c1 = (gs (lc ((fa 32)) ((fa 5)) b0) ((fi 12)))) := hp
  subst h9
  have hLd3 := hp1
  refine lv_aload_n hx hb dX10_sideOf_6 rfl (lv_at hl 0 rfl) ?_
  refine va_get (D := G) (ci := 7) (v := .ref (ar 3)) (C := RX10) (T := TX10) (N := 71) (ref := RX10) hx hb hts h1w hown hX.1 hP 0 rfl rfl 3 (by decide) h0w (fun _ h9 => h9) rfl dX10_sideOf_7 ?_
  refine lv_iconst (v := Int32.ofInt 3) hx hb dX10_sideOf_10 (by decide +kernel) ?_
  refine iv_iald hx hb hX.1 hP 1 0 rfl rfl (by omega) (by omega) (by decide) dX10_sideOf_11 ?_
  refine iv_top (fun z2 ez2 => ?_)
  have rz2 : inR z2 := ez2 ▸ (hRa 3) _
  have ez2 : z2 = (fa 3) 3 := ez2
  have hz3 := ez2
  refine lv_aload_n hx hb dX10_sideOf_12 rfl (lv_at hl 0 rfl) ?_
  refine lv_iload_n hx hb dX10_sideOf_13 rfl (lv_at hl 2 rfl) ?_
  refine lv_iload_n hx hb dX10_sideOf_14 rfl (lv_at hl 3 rfl) ?_
  refine cr_i (va_runV (As := [.int (Int32.ofInt (b0)), .int (Int32.ofInt (a0))]) (rest := [.int (Int32.ofInt (z2)), .int (Int32.ofInt (c1))]) ⟨hx, hb, hml, hown, hts⟩ (mX10_depthOf l G k ar fi fa fl b0 a0 H.size hR hRa (by omega) (by omega)) (cwV 2 hts (gz [.methodLink RX10 352 yX10_depthOf, .instanceMethod yX10_depthOf, .selects RX10 yX10_depthOf yX10_depthOf, .initialized RX10] (.code yX10_depthOf cX10_depthOf 3 (some .int)) [(24, 7), (24, 8), (24, 9), (0, 5), (24, 10)] rfl) rfl rfl rfl (by decide +kernel) ⟨Nat.le_of_ble_eq_true rfl, Nat.le_of_ble_eq_true rfl⟩) (cr_preV (EZ_ok k) hZ hS hX hP hD hA (ci := 7) (q0 := 0) rfl rfl) rfl rfl hl.1 rfl (lv_room (Nat.le_of_ble_eq_true rfl)) dX10_sideOf_15 ⟨Nat.le_of_ble_eq_true rfl, Nat.le_of_ble_eq_true rfl⟩) hD hS hA (fun r u H locs hp hP hD hS => ?_)
  obtain ⟨c3, rfl⟩ : ∃ z, z = u := ⟨_, rfl⟩
  obtain ⟨h9, rc3, hp3⟩ : r = Int32.ofInt c3 ∧ (inR c3) ∧ (c3 = buD b0 a0 ((fa 3) 0)) := hp
  subst h9
  have hBu15 := hp3
  refine iv_mul (x := z2) (y := c3) hx hb dX10_sideOf_18 ?_
  refine iv_wr ?_
  refine iv_top (fun z4 ez4 => ?_)
  have rz4 : inR z4 := ez4 ▸ bWr_r _
  have hs1 := ez4
  refine iv_add (x := c1) (y := z4) hx hb dX10_sideOf_19 ?_
  refine iv_wr ?_
  refine iv_top (fun z5 ez5 => ?_)
  have rz5 : inR z5 := ez5 ▸ bWr_r _
  have hs2 := ez5
  exact W.iret (v := Int32.ofInt (z5)) hx hb hr (fun t ht hW => ⟨⟨Int32.ofInt (z5), (z5), rfl, ⟨rfl, (show (inR z5) ∧ (z5 = sdV (gs (lc (fa 32) (fa 5) b0) (fi 12)) (fa 3 3) (buD b0 a0 (fa 3 0))) from ⟨(by omega), (by unfold sdV; rw [hs2, hs1, hLd3, hBu15, hz3])⟩)⟩, by rw [ht]; exact hP, hD⟩, hS.F ht⟩) hS.2.2 dX10_sideOf_20

set_option maxHeartbeats 4000000 in
set_option maxRecDepth 100000 in
theorem mX10_manyOf_32 (l : Launch) (G : va_G) (k : Nat → ClassId) (ar : Nat → Nat) (fi : Nat → Int) (fa : Nat → Int → Int) (fl : Nat → Int64) (b0 : Int) (w0 : Int) (sz : Nat) (hR : ∀ j, inR (fi j)) (hRa : ∀ j t, inR (fa j t)) (hr_b0 : inR b0) (hr_w0 : inR w0) (hth : 0 ≤ fi 12 ∧ fi 12 ≤ 7) (hb : b0 = 0 ∨ b0 = 1) : CNi l G k (EZ k) yX10_manyOf wzX10_manyOf ({ frames := 1, cells := 0, slots := 0, locals := 21 }) [.ref (ar 71), .ref (ar 32), .int (Int32.ofInt (b0)), .int (Int32.ofInt (w0))] sz (wM k ar fi fa fl) (fun (r0 : Int32) (u : Int) => r0 = Int32.ofInt (u) ∧ (inR u) ∧ (u = gs (mc (fa 32) (fa 4) b0 w0) (fi 12))) (fun (u : Int) => (wM k ar fi fa fl)) := by
  refine Met.ofW (cc := cX10_manyOf) (maxL := 6) (ret := (some .int)) (by decide) rfl ?_
  intro p e s m args below meth c s₁ B hml hv
  obtain ⟨rfl, hsz, hP, hX, hD0, hZ0⟩ := hv
  have hx := B.exec
  have hb := B.bytes
  have hr := B.returns
  have hts := atoms_spec (ws := wzX10_manyOf) B.pre
  have hown : s.vm.findClass RX10 = some m.cls := findClass_of_methodNamed B.named
  subst hsz
  have hD := hD0.self (sz := s.heap.size)
  have hZ := hZ0
  generalize hAe : va_A (wM k ar fi fa fl) s.heap.size = A at hD hZ ⊢
  have hA : ∀ q : Nat, s.heap.size ≤ q → A q := fun q h => by rw [← hAe]; exact Or.inr h
  have hS : va_S A s.heap s.heap [] := va_S.rf
  have hl := lv_entry ([.ref (ar 71), .ref (ar 32), .int (Int32.ofInt (b0)), .int (Int32.ofInt (w0))]) (n := 6) (Nat.le_of_ble_eq_true rfl)
  rw [lg_entry_eq]
  generalize (lg_sl ([.ref (ar 71), .ref (ar 32), .int (Int32.ofInt (b0)), .int (Int32.ofInt (w0))]) ++ List.replicate (6 - (lg_sl ([.ref (ar 71), .ref (ar 32), .int (Int32.ofInt (b0)), .int (Int32.ofInt (w0))])).length) Slot.unset).toArray = ls at hl ⊢
  have hl : lv_has ls 6 [(0, .ref (ar 71)), (1, .ref (ar 32)), (2, .int (Int32.ofInt (b0))), (3, .int (Int32.ofInt (w0)))] := hl
  obtain ⟨H, eH⟩ : ∃ H, H = s.heap := ⟨_, rfl⟩
  rw [← eH] at hP
  have hS : va_S A s.heap H [] := by rw [eH]; exact hS
  have gW : s.heap = H := eH.symm
  refine iv_heap gW ?_
  have h0w := hts (.fieldLink RX10 174 "RopeTownModel" "things" "I") (wz_at 21 11 rfl)
  have h1w : ∀ w ∈ wsX100, w ∈ wzX10_manyOf := fun w h => List.mem_cons_of_mem _ (inlX10 w h)
  have h2w := hts (.fieldLink RX10 57 "RopeTownModel" "kind" "[I") (wz_at 6 7 rfl)
  refine lv_iconst (v := Int32.ofInt 0) hx hb dX10_manyOf_0 (by decide +kernel) ?_
  refine lv_istore (lv' := [(4, .int (Int32.ofInt (0))), (0, .ref (ar 71)), (1, .ref (ar 32)), (2, .int (Int32.ofInt (b0))), (3, .int (Int32.ofInt (w0)))]) hx hb dX10_manyOf_1 hl (by decide) rfl (fun ls hl => ?_)
  refine lv_iconst (v := Int32.ofInt 0) hx hb dX10_manyOf_3 (by decide +kernel) ?_
  refine lv_istore (lv' := [(5, .int (Int32.ofInt (0))), (4, .int (Int32.ofInt (0))), (0, .ref (ar 71)), (1, .ref (ar 32)), (2, .int (Int32.ofInt (b0))), (3, .int (Int32.ofInt (w0)))]) hx hb dX10_manyOf_4 hl (by decide) rfl (fun ls hl => ?_)
  refine iv_loop (α := Int × Int) (nL := 6) (fun b9 => (wM k ar fi fa fl)) (fun b9 => [(5, .int (Int32.ofInt (b9.1))), (4, .int (Int32.ofInt (b9.2))), (0, .ref (ar 71)), (1, .ref (ar 32)), (2, .int (Int32.ofInt (b0))), (3, .int (Int32.ofInt (w0)))]) (fun b9 => (fi 12 - b9.1).toNat) (fun b9 => inR b9.1 ∧ inR b9.2 ∧ ((0 ≤ b9.1 ∧ b9.1 ≤ fi 12) ∧ b9.2 = gs (mc (fa 32) (fa 4) b0 w0) b9.1)) ?_ (0, 0) (show inR 0 ∧ inR 0 ∧ ((0 ≤ 0 ∧ 0 ≤ fi 12) ∧ 0 = gs (mc (fa 32) (fa 4) b0 w0) 0) from ⟨(by omega), (by omega), (by exact ⟨by omega, gs_0 rfl (by omega)⟩)⟩) hP hD hS hl
  rintro ⟨x5_1, x4_2⟩ ih hi9 H locs ls hP hD hS hl
  obtain ⟨r_x5_1, r_x4_2, hinv⟩ : inR x5_1 ∧ inR x4_2 ∧ ((0 ≤ x5_1 ∧ x5_1 ≤ fi 12) ∧ x4_2 = gs (mc (fa 32) (fa 4) b0 w0) x5_1) := hi9
  obtain ⟨hJ1, hJ2⟩ := hinv
  obtain ⟨hP, hD⟩ : va_P G vwCl (wM k ar fi fa fl) H ∧ va_D A (wM k ar fi fa fl) := ⟨hP, hD⟩
  have hl : lv_has ls 6 [(5, .int (Int32.ofInt (x5_1))), (4, .int (Int32.ofInt (x4_2))), (0, .ref (ar 71)), (1, .ref (ar 32)), (2, .int (Int32.ofInt (b0))), (3, .int (Int32.ofInt (w0)))] := hl
  refine lv_iload hx hb dX10_manyOf_6 (lv_at hl 0 rfl) ?_
  refine lv_aload_n hx hb dX10_manyOf_8 rfl (lv_at hl 2 rfl) ?_
  refine va_get (D := G) (ci := 7) (v := .int (Int32.ofInt (fi 12))) (C := RX10) (T := TX10) (N := 71) (ref := RX10) hx hb hts h1w hown hX.1 hP 0 rfl rfl 12 (by decide) h0w (fun _ h9 => h9) rfl dX10_manyOf_9 ?_
  have rf12 := hR 12
  refine iv_icmp_ge (tgt := 53) hx hb (by omega) (by omega) dX10_manyOf_12 (by decide) (fun q3 => ?_) (fun q3 => ?_)
  · refine lv_iload hx hb dX10_manyOf_53 (lv_at hl 1 rfl) ?_
    exact W.iret (v := Int32.ofInt (x4_2)) hx hb hr (fun t ht hW => ⟨⟨Int32.ofInt (x4_2), (x4_2), rfl, ⟨rfl, (show (inR x4_2) ∧ (x4_2 = gs (mc (fa 32) (fa 4) b0 w0) (fi 12)) from ⟨(by omega), (by rw [show fi 12 = x5_1 by omega]; exact hJ2)⟩)⟩, by rw [ht]; exact hP, hD⟩, hS.F ht⟩) hS.2.2 dX10_manyOf_55
  · refine lv_iload hx hb dX10_manyOf_15 (lv_at hl 1 rfl) ?_
    refine lv_aload_n hx hb dX10_manyOf_17 rfl (lv_at hl 3 rfl) ?_
    refine lv_iload hx hb dX10_manyOf_18 (lv_at hl 0 rfl) ?_
    refine iv_iald hx hb hX.1 hP 11 0 rfl rfl (by omega) (by omega) (by decide) dX10_manyOf_20 ?_
    refine iv_top (fun z4 ez4 => ?_)
    have rz4 : inR z4 := ez4 ▸ (hRa 32) _
    have ez4 : z4 = (fa 32) x5_1 := ez4
    refine lv_iload_n hx hb dX10_manyOf_21 rfl (lv_at hl 4 rfl) ?_
    refine c0_i (va_runS (As := [.int (Int32.ofInt (z4)), .int (Int32.ofInt (b0))]) (rest := [.int (Int32.ofInt (x4_2))]) ⟨hx, hb, hml, hown, hts⟩ (mX10_isInBucket l G k z4 b0 H.size (by omega) (by omega) (show b0 = 0 ∨ b0 = 1 from by omega)) (cwS 2 hts (gz [.methodLink RX10 359 yX10_isInBucket, .static yX10_isInBucket, .initialized RX10] (.code yX10_isInBucket cX10_isInBucket 2 (some .boolean)) [(25, 21), (25, 22), (0, 5), (25, 23)] rfl) rfl rfl rfl (by decide +kernel) ⟨Nat.le_of_ble_eq_true rfl, Nat.le_of_ble_eq_true rfl⟩) (cr_pre0 (EZ_ok k) hZ hS hX hP hD hA) rfl rfl hl.1 rfl (lv_room (Nat.le_of_ble_eq_true rfl)) dX10_manyOf_22 ⟨Nat.le_of_ble_eq_true rfl, Nat.le_of_ble_eq_true rfl⟩) hP hD hS hA (fun r u H locs hp hP hD hS => ?_)
    obtain ⟨c5, rfl⟩ : ∃ z, z = u := ⟨_, rfl⟩
    obtain ⟨h9, rc5, hp5⟩ : r = Int32.ofInt c5 ∧ (inR c5) ∧ ((c5 = 1 ∧ z4 = 12 + b0) ∨ (c5 = 0 ∧ ¬ z4 = 12 + b0)) := hp
    subst h9
    refine iv_if_eq (tgt := 43) hx hb (by omega) dX10_manyOf_25 (by decide) (fun q6 => ?_) (fun q6 => ?_)
    · refine lv_iconst (v := Int32.ofInt 0) hx hb dX10_manyOf_43 (by decide +kernel) ?_
      refine iv_add (x := x4_2) (y := 0) hx hb dX10_manyOf_44 ?_
      refine iv_wr ?_
      refine iv_top (fun z7 ez7 => ?_)
      have rz7 : inR z7 := ez7 ▸ bWr_r _
      have hS9 := ez7
      refine lv_istore (lv' := [(4, .int (Int32.ofInt (z7))), (5, .int (Int32.ofInt (x5_1))), (0, .ref (ar 71)), (1, .ref (ar 32)), (2, .int (Int32.ofInt (b0))), (3, .int (Int32.ofInt (w0)))]) hx hb dX10_manyOf_45 hl (by decide) rfl (fun ls hl => ?_)
      refine lv_iinc (v := Int32.ofInt (x5_1 + 1)) (lv' := [(5, .int (Int32.ofInt ((x5_1 + 1)))), (4, .int (Int32.ofInt (z7))), (0, .ref (ar 71)), (1, .ref (ar 32)), (2, .int (Int32.ofInt (b0))), (3, .int (Int32.ofInt (w0)))]) hx hb dX10_manyOf_47 hl (k := 1) rfl (Int32.ofInt_add _ _).symm (by decide) rfl (fun ls hl => ?_)
      refine lv_goto (tgt := 6) hx hb dX10_manyOf_50 (by decide) ?_
      have hl : lv_has ls 6 [(5, .int (Int32.ofInt ((x5_1 + 1)))), (4, .int (Int32.ofInt (z7))), (0, .ref (ar 71)), (1, .ref (ar 32)), (2, .int (Int32.ofInt (b0))), (3, .int (Int32.ofInt (w0)))] := lv_sub hl [0, 1, 2, 3, 4, 5] rfl
      exact ih ((x5_1 + 1), z7) (show (fi 12 - (x5_1 + 1)).toNat < (fi 12 - x5_1).toNat from by omega) (show inR (x5_1 + 1) ∧ inR z7 ∧ ((0 ≤ (x5_1 + 1) ∧ (x5_1 + 1) ≤ fi 12) ∧ z7 = gs (mc (fa 32) (fa 4) b0 w0) (x5_1 + 1)) from ⟨(by omega), (by omega), (by first | exact ⟨by omega, gs_s hJ2 (by omega) (mc_y (p := fa 32) (K := fa 4) (b := b0) (w := w0) (by omega) (by omega) rfl) hS9 rfl⟩ | exact ⟨by omega, gs_s hJ2 (by omega) (mc_n (p := fa 32) (K := fa 4) (b := b0) (w := w0) (by omega) rfl) hS9 rfl⟩)⟩) _ _ _ hP hD hS hl
    · refine lv_aload_n hx hb dX10_manyOf_28 rfl (lv_at hl 2 rfl) ?_
      refine va_get (D := G) (ci := 7) (v := .ref (ar 4)) (C := RX10) (T := TX10) (N := 71) (ref := RX10) hx hb hts h1w hown hX.1 hP 0 rfl rfl 4 (by decide) h2w (fun _ h9 => h9) rfl dX10_manyOf_29 ?_
      refine lv_iload hx hb dX10_manyOf_32 (lv_at hl 0 rfl) ?_
      refine iv_iald hx hb hX.1 hP 2 0 rfl rfl (by omega) (by omega) (by decide) dX10_manyOf_34 ?_
      refine iv_top (fun z8 ez8 => ?_)
      have rz8 : inR z8 := ez8 ▸ (hRa 4) _
      have ez8 : z8 = (fa 4) x5_1 := ez8
      refine lv_iload_n hx hb dX10_manyOf_35 rfl (lv_at hl 5 rfl) ?_
      refine iv_icmp_ne (tgt := 43) hx hb (by omega) (by omega) dX10_manyOf_36 (by decide) (fun q9 => ?_) (fun q9 => ?_)
      · refine lv_iconst (v := Int32.ofInt 0) hx hb dX10_manyOf_43 (by decide +kernel) ?_
        refine iv_add (x := x4_2) (y := 0) hx hb dX10_manyOf_44 ?_
        refine iv_wr ?_
        refine iv_top (fun z10 ez10 => ?_)
        have rz10 : inR z10 := ez10 ▸ bWr_r _
        have hS9 := ez10
        refine lv_istore (lv' := [(4, .int (Int32.ofInt (z10))), (5, .int (Int32.ofInt (x5_1))), (0, .ref (ar 71)), (1, .ref (ar 32)), (2, .int (Int32.ofInt (b0))), (3, .int (Int32.ofInt (w0)))]) hx hb dX10_manyOf_45 hl (by decide) rfl (fun ls hl => ?_)
        refine lv_iinc (v := Int32.ofInt (x5_1 + 1)) (lv' := [(5, .int (Int32.ofInt ((x5_1 + 1)))), (4, .int (Int32.ofInt (z10))), (0, .ref (ar 71)), (1, .ref (ar 32)), (2, .int (Int32.ofInt (b0))), (3, .int (Int32.ofInt (w0)))]) hx hb dX10_manyOf_47 hl (k := 1) rfl (Int32.ofInt_add _ _).symm (by decide) rfl (fun ls hl => ?_)
        refine lv_goto (tgt := 6) hx hb dX10_manyOf_50 (by decide) ?_
        have hl : lv_has ls 6 [(5, .int (Int32.ofInt ((x5_1 + 1)))), (4, .int (Int32.ofInt (z10))), (0, .ref (ar 71)), (1, .ref (ar 32)), (2, .int (Int32.ofInt (b0))), (3, .int (Int32.ofInt (w0)))] := lv_sub hl [0, 1, 2, 3, 4, 5] rfl
        exact ih ((x5_1 + 1), z10) (show (fi 12 - (x5_1 + 1)).toNat < (fi 12 - x5_1).toNat from by omega) (show inR (x5_1 + 1) ∧ inR z10 ∧ ((0 ≤ (x5_1 + 1) ∧ (x5_1 + 1) ≤ fi 12) ∧ z10 = gs (mc (fa 32) (fa 4) b0 w0) (x5_1 + 1)) from ⟨(by omega), (by omega), (by first | exact ⟨by omega, gs_s hJ2 (by omega) (mc_y (p := fa 32) (K := fa 4) (b := b0) (w := w0) (by omega) (by omega) rfl) hS9 rfl⟩ | exact ⟨by omega, gs_s hJ2 (by omega) (mc_n (p := fa 32) (K := fa 4) (b := b0) (w := w0) (by omega) rfl) hS9 rfl⟩)⟩) _ _ _ hP hD hS hl
      · refine lv_iconst (v := Int32.ofInt 1) hx hb dX10_manyOf_39 (by decide +kernel) ?_
        refine lv_goto (tgt := 44) hx hb dX10_manyOf_40 (by decide) ?_
        refine iv_add (x := x4_2) (y := 1) hx hb dX10_manyOf_44 ?_
        refine iv_wr ?_
        refine iv_top (fun z11 ez11 => ?_)
        have rz11 : inR z11 := ez11 ▸ bWr_r _
        have hS9 := ez11
        refine lv_istore (lv' := [(4, .int (Int32.ofInt (z11))), (5, .int (Int32.ofInt (x5_1))), (0, .ref (ar 71)), (1, .ref (ar 32)), (2, .int (Int32.ofInt (b0))), (3, .int (Int32.ofInt (w0)))]) hx hb dX10_manyOf_45 hl (by decide) rfl (fun ls hl => ?_)
        refine lv_iinc (v := Int32.ofInt (x5_1 + 1)) (lv' := [(5, .int (Int32.ofInt ((x5_1 + 1)))), (4, .int (Int32.ofInt (z11))), (0, .ref (ar 71)), (1, .ref (ar 32)), (2, .int (Int32.ofInt (b0))), (3, .int (Int32.ofInt (w0)))]) hx hb dX10_manyOf_47 hl (k := 1) rfl (Int32.ofInt_add _ _).symm (by decide) rfl (fun ls hl => ?_)
        refine lv_goto (tgt := 6) hx hb dX10_manyOf_50 (by decide) ?_
        have hl : lv_has ls 6 [(5, .int (Int32.ofInt ((x5_1 + 1)))), (4, .int (Int32.ofInt (z11))), (0, .ref (ar 71)), (1, .ref (ar 32)), (2, .int (Int32.ofInt (b0))), (3, .int (Int32.ofInt (w0)))] := lv_sub hl [0, 1, 2, 3, 4, 5] rfl
        exact ih ((x5_1 + 1), z11) (show (fi 12 - (x5_1 + 1)).toNat < (fi 12 - x5_1).toNat from by omega) (show inR (x5_1 + 1) ∧ inR z11 ∧ ((0 ≤ (x5_1 + 1) ∧ (x5_1 + 1) ≤ fi 12) ∧ z11 = gs (mc (fa 32) (fa 4) b0 w0) (x5_1 + 1)) from ⟨(by omega), (by omega), (by first | exact ⟨by omega, gs_s hJ2 (by omega) (mc_y (p := fa 32) (K := fa 4) (b := b0) (w := w0) (by omega) (by omega) rfl) hS9 rfl⟩ | exact ⟨by omega, gs_s hJ2 (by omega) (mc_n (p := fa 32) (K := fa 4) (b := b0) (w := w0) (by omega) rfl) hS9 rfl⟩)⟩) _ _ _ hP hD hS hl

