set_option maxHeartbeats 4000000 in
set_option maxRecDepth 100000 in
theorem mX10_holds (l : Launch) (G : va_G) (k : Nat → ClassId) (ar : Nat → Nat) (fi : Nat → Int) (fa : Nat → Int → Int) (fl : Nat → Int64) (r0 : Int) (sz : Nat) (hR : ∀ j, inR (fi j)) (hRa : ∀ j t, inR (fa j t)) (hr_r0 : inR r0) (hr0 : 0 ≤ r0 ∧ r0 < 8) (hRW : RWf (fa 10) (fa 8 r0) (fa 9 r0)) : CNi l G k (EZ k) yX10_holds wzX10_holds ({ frames := 1, cells := 0, slots := 0, locals := 22 }) [.ref (ar 71), .int (Int32.ofInt (r0))] sz (wM k ar fi fa fl) (fun (r0 : Int32) (u : Int × (Int → Int)) => r0 = Int32.ofInt (u.1) ∧ (inR u.1) ∧ (∀ t, inR (u.2 t)) ∧ ((u.1 = 0 ∨ u.1 = 1))) (fun (u : Int × (Int → Int)) => (wM k ar fi (uF fa 40 (u.2)) fl)) := by
  refine Met.ofW (cc := cX10_holds) (maxL := 5) (ret := (some .boolean)) (by decide) rfl ?_
  intro p e s m args below meth c s₁ B hml hv
  obtain ⟨rfl, hsz, hP, hX, hD0, hZ0⟩ := hv
  have hx := B.exec
  have hb := B.bytes
  have hr := B.returns
  have hts := atoms_spec (ws := wzX10_holds) B.pre
  have hown : s.vm.findClass RX10 = some m.cls := findClass_of_methodNamed B.named
  subst hsz
  have hD := hD0.self (sz := s.heap.size)
  have hZ := hZ0
  generalize hAe : va_A (wM k ar fi fa fl) s.heap.size = A at hD hZ ⊢
  have hA : ∀ q : Nat, s.heap.size ≤ q → A q := fun q h => by rw [← hAe]; exact Or.inr h
  have hS : va_S A s.heap s.heap [] := va_S.rf
  have hl := lv_entry ([.ref (ar 71), .int (Int32.ofInt (r0))]) (n := 5) (Nat.le_of_ble_eq_true rfl)
  rw [lg_entry_eq]
  generalize (lg_sl ([.ref (ar 71), .int (Int32.ofInt (r0))]) ++ List.replicate (5 - (lg_sl ([.ref (ar 71), .int (Int32.ofInt (r0))])).length) Slot.unset).toArray = ls at hl ⊢
  have hl : lv_has ls 5 [(0, .ref (ar 71)), (1, .int (Int32.ofInt (r0)))] := hl
  obtain ⟨H, eH⟩ : ∃ H, H = s.heap := ⟨_, rfl⟩
  rw [← eH] at hP
  have hS : va_S A s.heap H [] := by rw [eH]; exact hS
  have gW : s.heap = H := eH.symm
  refine iv_heap gW ?_
  have h0w := hts (.fieldLink RX10 68 "RopeTownModel" "begin" "[I") (wz_at 6 11 rfl)
  have h1w : ∀ w ∈ wsX100, w ∈ wzX10_holds := fun w h => List.mem_cons_of_mem _ (inlX10 w h)
  have h2w := hts (.fieldLink RX10 71 "RopeTownModel" "finish" "[I") (wz_at 6 12 rfl)
  have h3w := hts (.fieldLink RX10 111 "RopeTownModel" "stack" "[I") (wz_at 7 1 rfl)
  have h4w := hts (.fieldLink RX10 74 "RopeTownModel" "signs" "[I") (wz_at 6 13 rfl)
  have h5w := hts (.fieldLink RX10 108 "RopeTownModel" "asked" "[I") (wz_at 7 0 rfl)
  obtain ⟨b0, b1, b2, h, b3, b4, hok⟩ := hRW
  refine lv_iconst (v := Int32.ofInt 0) hx hb dX10_holds_0 (by decide +kernel) ?_
  refine lv_istore_n (lv' := [(2, .int (Int32.ofInt (0))), (0, .ref (ar 71)), (1, .int (Int32.ofInt (r0)))]) hx hb dX10_holds_1 rfl hl (by decide) rfl (fun ls hl => ?_)
  refine lv_aload_n hx hb dX10_holds_2 rfl (lv_at hl 1 rfl) ?_
  refine va_get (D := G) (ci := 7) (v := .ref (ar 8)) (C := RX10) (T := TX10) (N := 71) (ref := RX10) hx hb hts h1w hown hX.1 hP 0 rfl rfl 8 (by decide) h0w (fun _ h9 => h9) rfl dX10_holds_3 ?_
  refine lv_iload_n hx hb dX10_holds_6 rfl (lv_at hl 2 rfl) ?_
  refine iv_iald hx hb hX.1 hP 6 0 rfl rfl (by omega) (by omega) (by decide) dX10_holds_7 ?_
  refine iv_top (fun z1 ez1 => ?_)
  have rz1 : inR z1 := ez1 ▸ (hRa 8) _
  have ez1 : z1 = (fa 8) r0 := ez1
  have hz9 : h z1 = 0 := by rw [ez1]; exact b3
  refine lv_istore_n (lv' := [(3, .int (Int32.ofInt (z1))), (2, .int (Int32.ofInt (0))), (0, .ref (ar 71)), (1, .int (Int32.ofInt (r0)))]) hx hb dX10_holds_8 rfl hl (by decide) rfl (fun ls hl => ?_)
  refine iv_loop (α := Int × Int × (Int → Int)) (nL := 5) (fun b9 => (wM k ar fi (uF fa 40 (b9.2.2)) fl)) (fun b9 => [(3, .int (Int32.ofInt (b9.1))), (2, .int (Int32.ofInt (b9.2.1))), (0, .ref (ar 71)), (1, .int (Int32.ofInt (r0)))]) (fun b9 => (fa 9 r0 - b9.1).toNat) (fun b9 => inR b9.1 ∧ inR b9.2.1 ∧ (∀ t, inR (b9.2.2 t)) ∧ (fa 8 r0 ≤ b9.1 ∧ b9.1 ≤ fa 9 r0 ∧ b9.2.1 = h b9.1 ∧ 0 ≤ b9.2.1 ∧ b9.2.1 ≤ 60)) ?_ (z1, 0, fa 40) (show inR z1 ∧ inR 0 ∧ (∀ t, inR ((fa 40) t)) ∧ (fa 8 r0 ≤ z1 ∧ z1 ≤ fa 9 r0 ∧ 0 = h z1 ∧ 0 ≤ 0 ∧ 0 ≤ 60) from ⟨(by omega), (by omega), (hRa 40), (by omega)⟩) hP hD hS hl
  rintro ⟨x3_2, x2_3, g40_4⟩ ih hi9 H locs ls hP hD hS hl
  obtain ⟨r_x3_2, r_x2_3, r_g40_4, hinv⟩ : inR x3_2 ∧ inR x2_3 ∧ (∀ t, inR (g40_4 t)) ∧ (fa 8 r0 ≤ x3_2 ∧ x3_2 ≤ fa 9 r0 ∧ x2_3 = h x3_2 ∧ 0 ≤ x2_3 ∧ x2_3 ≤ 60) := hi9
  obtain ⟨hP, hD⟩ : va_P G vwCl (wM k ar fi (uF fa 40 (g40_4)) fl) H ∧ va_D A (wM k ar fi (uF fa 40 (g40_4)) fl) := ⟨hP, hD⟩
  have hl : lv_has ls 5 [(3, .int (Int32.ofInt (x3_2))), (2, .int (Int32.ofInt (x2_3))), (0, .ref (ar 71)), (1, .int (Int32.ofInt (r0)))] := hl
  refine lv_iload_n hx hb dX10_holds_9 rfl (lv_at hl 0 rfl) ?_
  refine lv_aload_n hx hb dX10_holds_10 rfl (lv_at hl 2 rfl) ?_
  refine va_get (D := G) (ci := 7) (v := .ref (ar 9)) (C := RX10) (T := TX10) (N := 71) (ref := RX10) hx hb hts h1w hown hX.1 hP 0 rfl rfl 9 (by decide) h2w (fun _ h9 => h9) rfl dX10_holds_11 ?_
  refine lv_iload_n hx hb dX10_holds_14 rfl (lv_at hl 3 rfl) ?_
  refine iv_iald hx hb hX.1 hP 7 0 rfl rfl (by omega) (by omega) (by decide) dX10_holds_15 ?_
  refine iv_top (fun z5 ez5 => ?_)
  have rz5 : inR z5 := ez5 ▸ (hRa 9) _
  have ez5 : z5 = (fa 9) r0 := ez5
  refine iv_icmp_ge (tgt := 135) hx hb (by omega) (by omega) dX10_holds_16 (by decide) (fun q6 => ?_) (fun q6 => ?_)
  · refine lv_aload_n hx hb dX10_holds_135 rfl (lv_at hl 2 rfl) ?_
    refine va_get (D := G) (ci := 7) (v := .ref (ar 40)) (C := RX10) (T := TX10) (N := 71) (ref := RX10) hx hb hts h1w hown hX.1 hP 0 rfl rfl 40 (by decide) h3w (fun _ h9 => h9) rfl dX10_holds_136 ?_
    refine lv_iconst (v := Int32.ofInt 0) hx hb dX10_holds_139 (by decide +kernel) ?_
    refine iv_iald hx hb hX.1 hP 19 0 rfl rfl (by omega) (by omega) (by decide) dX10_holds_140 ?_
    refine iv_top (fun z7 ez7 => ?_)
    have rz7 : inR z7 := ez7 ▸ r_g40_4 _
    refine iv_if_eq (tgt := 148) hx hb (by omega) dX10_holds_141 (by decide) (fun q8 => ?_) (fun q8 => ?_)
    · refine lv_iconst (v := Int32.ofInt 0) hx hb dX10_holds_148 (by decide +kernel) ?_
      exact W.zret (v := Int32.ofInt (0)) hx hb hr (nz_bool (by omega)) (fun t ht hW => ⟨⟨Int32.ofInt (0), (0, g40_4), rfl, ⟨rfl, (show (inR 0) ∧ (∀ t, inR (g40_4 t)) ∧ ((0 = 0 ∨ 0 = 1)) from ⟨(by omega), r_g40_4, (by omega)⟩)⟩, by rw [ht]; exact hP, hD⟩, hS.F ht⟩) hS.2.2 dX10_holds_149
    · refine lv_iconst (v := Int32.ofInt 1) hx hb dX10_holds_144 (by decide +kernel) ?_
      refine lv_goto (tgt := 149) hx hb dX10_holds_145 (by decide) ?_
      exact W.zret (v := Int32.ofInt (1)) hx hb hr (nz_bool (by omega)) (fun t ht hW => ⟨⟨Int32.ofInt (1), (1, g40_4), rfl, ⟨rfl, (show (inR 1) ∧ (∀ t, inR (g40_4 t)) ∧ ((1 = 0 ∨ 1 = 1)) from ⟨(by omega), r_g40_4, (by omega)⟩)⟩, by rw [ht]; exact hP, hD⟩, hS.F ht⟩) hS.2.2 dX10_holds_149
  · refine lv_aload_n hx hb dX10_holds_19 rfl (lv_at hl 2 rfl) ?_
    refine va_get (D := G) (ci := 7) (v := .ref (ar 10)) (C := RX10) (T := TX10) (N := 71) (ref := RX10) hx hb hts h1w hown hX.1 hP 0 rfl rfl 10 (by decide) h4w (fun _ h9 => h9) rfl dX10_holds_20 ?_
    refine lv_iload_n hx hb dX10_holds_23 rfl (lv_at hl 0 rfl) ?_
    refine iv_iald hx hb hX.1 hP 8 0 rfl rfl (by omega) (by omega) (by decide) dX10_holds_24 ?_
    refine iv_top (fun z9 ez9 => ?_)
    have rz9 : inR z9 := ez9 ▸ (hRa 10) _
    have ez9 : z9 = (fa 10) x3_2 := ez9
    refine lv_istore (lv' := [(4, .int (Int32.ofInt (z9))), (3, .int (Int32.ofInt (x3_2))), (2, .int (Int32.ofInt (x2_3))), (0, .ref (ar 71)), (1, .int (Int32.ofInt (r0)))]) hx hb dX10_holds_25 hl (by decide) rfl (fun ls hl => ?_)
    have ho := hok x3_2 (by omega) (by omega)
    refine lv_iload hx hb dX10_holds_27 (lv_at hl 0 rfl) ?_
    refine lv_bipush (v := Int32.ofInt (-20)) hx hb dX10_holds_29 (by decide +kernel) ?_
    refine iv_icmp_le (tgt := 65) hx hb (by omega) (by omega) dX10_holds_31 (by decide) (fun q10 => ?_) (fun q10 => ?_)
    · refine lv_iload hx hb dX10_holds_65 (lv_at hl 0 rfl) ?_
      refine lv_bipush (v := Int32.ofInt (-28)) hx hb dX10_holds_67 (by decide +kernel) ?_
      refine iv_icmp_ne (tgt := 99) hx hb (by omega) (by omega) dX10_holds_69 (by decide) (fun q11 => ?_) (fun q11 => ?_)
      · refine lv_iinc (v := Int32.ofInt (x2_3 + (-1))) (lv' := [(2, .int (Int32.ofInt ((x2_3 + (-1))))), (4, .int (Int32.ofInt (z9))), (3, .int (Int32.ofInt (x3_2))), (0, .ref (ar 71)), (1, .int (Int32.ofInt (r0)))]) hx hb dX10_holds_99 hl (k := 2) rfl (Int32.ofInt_add _ _).symm (by decide) rfl (fun ls hl => ?_)
        refine lv_aload_n hx hb dX10_holds_102 rfl (lv_at hl 3 rfl) ?_
        refine va_get (D := G) (ci := 7) (v := .ref (ar 40)) (C := RX10) (T := TX10) (N := 71) (ref := RX10) hx hb hts h1w hown hX.1 hP 0 rfl rfl 40 (by decide) h3w (fun _ h9 => h9) rfl dX10_holds_103 ?_
        refine lv_iload_n hx hb dX10_holds_106 rfl (lv_at hl 0 rfl) ?_
        refine lv_iconst (v := Int32.ofInt 1) hx hb dX10_holds_107 (by decide +kernel) ?_
        refine iv_sub (x := (x2_3 + (-1))) (y := 1) hx hb dX10_holds_108 ?_
        refine lv_iload hx hb dX10_holds_109 (lv_at hl 1 rfl) ?_
        refine lv_aload_n hx hb dX10_holds_111 rfl (lv_at hl 3 rfl) ?_
        refine va_get (D := G) (ci := 7) (v := .ref (ar 40)) (C := RX10) (T := TX10) (N := 71) (ref := RX10) hx hb hts h1w hown hX.1 hP 0 rfl rfl 40 (by decide) h3w (fun _ h9 => h9) rfl dX10_holds_112 ?_
        refine lv_iload_n hx hb dX10_holds_115 rfl (lv_at hl 0 rfl) ?_
        refine lv_iconst (v := Int32.ofInt 1) hx hb dX10_holds_116 (by decide +kernel) ?_
        refine iv_sub (x := (x2_3 + (-1))) (y := 1) hx hb dX10_holds_117 ?_
        refine iv_iald hx hb hX.1 hP 19 0 rfl rfl (by omega) (by omega) (by decide) dX10_holds_118 ?_
        refine iv_top (fun z12 ez12 => ?_)
        have rz12 : inR z12 := ez12 ▸ r_g40_4 _
        refine lv_aload_n hx hb dX10_holds_119 rfl (lv_at hl 3 rfl) ?_
        refine va_get (D := G) (ci := 7) (v := .ref (ar 40)) (C := RX10) (T := TX10) (N := 71) (ref := RX10) hx hb hts h1w hown hX.1 hP 0 rfl rfl 40 (by decide) h3w (fun _ h9 => h9) rfl dX10_holds_120 ?_
        refine lv_iload_n hx hb dX10_holds_123 rfl (lv_at hl 0 rfl) ?_
        refine iv_iald hx hb hX.1 hP 19 0 rfl rfl (by omega) (by omega) (by decide) dX10_holds_124 ?_
        refine iv_top (fun z13 ez13 => ?_)
        have rz13 : inR z13 := ez13 ▸ r_g40_4 _
        refine c0_i (va_runS (As := [.int (Int32.ofInt (z9)), .int (Int32.ofInt (z12)), .int (Int32.ofInt (z13))]) (rest := [.int (Int32.ofInt (((x2_3 + (-1)) - 1))), .ref (ar 40)]) ⟨hx, hb, hml, hown, hts⟩ (mX10_reckon l G k z9 z12 z13 H.size (by omega) (by omega) (by omega)) (cwS 3 hts (gz [.methodLink RX10 366 yX10_reckon, .static yX10_reckon, .initialized RX10] (.code yX10_reckon cX10_reckon 3 (some .int)) [(26, 20), (26, 21), (0, 5), (26, 22)] rfl) rfl rfl rfl (by decide +kernel) ⟨Nat.le_of_ble_eq_true rfl, Nat.le_of_ble_eq_true rfl⟩) (cr_pre0 (EZ_ok k) hZ hS hX hP hD hA) rfl rfl hl.1 rfl (lv_room (Nat.le_of_ble_eq_true rfl)) dX10_holds_125 ⟨Nat.le_of_ble_eq_true rfl, Nat.le_of_ble_eq_true rfl⟩) hP hD hS hA (fun r u H locs hp hP hD hS => ?_)
        obtain ⟨c14, rfl⟩ : ∃ z, z = u := ⟨_, rfl⟩
        obtain ⟨h9, rc14, hp14⟩ : r = Int32.ofInt c14 ∧ (inR c14) ∧ (True) := hp
        subst h9
        refine iv_iast hx hb hX.1 hP hD hS 19 0 rfl rfl (wM_A40 _ _ _ _ _) (by omega) (by omega) (by decide) dX10_holds_128 (fun H locs hP hD hS => ?_)
        obtain ⟨hP, hD⟩ : va_P G vwCl (wM k ar fi (uF fa 40 (uA (g40_4) (((x2_3 + (-1)) - 1)) (c14))) fl) H ∧ va_D A (wM k ar fi (uF fa 40 (uA (g40_4) (((x2_3 + (-1)) - 1)) (c14))) fl) := ⟨hP, hD⟩
        obtain ⟨g15, eg15, rg15⟩ : ∃ z, z = uA (g40_4) (((x2_3 + (-1)) - 1)) (c14) ∧ ∀ t, inR (z t) := ⟨_, rfl, iU r_g40_4 (by omega)⟩
        rw [← eg15] at hP hD
        refine lv_iinc (v := Int32.ofInt (x3_2 + 1)) (lv' := [(3, .int (Int32.ofInt ((x3_2 + 1)))), (2, .int (Int32.ofInt ((x2_3 + (-1))))), (4, .int (Int32.ofInt (z9))), (0, .ref (ar 71)), (1, .int (Int32.ofInt (r0)))]) hx hb dX10_holds_129 hl (k := 2) rfl (Int32.ofInt_add _ _).symm (by decide) rfl (fun ls hl => ?_)
        refine lv_goto (tgt := 9) hx hb dX10_holds_132 (by decide) ?_
        have hl : lv_has ls 5 [(3, .int (Int32.ofInt ((x3_2 + 1)))), (2, .int (Int32.ofInt ((x2_3 + (-1))))), (0, .ref (ar 71)), (1, .int (Int32.ofInt (r0)))] := lv_sub hl [0, 1, 3, 4] rfl
        exact ih ((x3_2 + 1), (x2_3 + (-1)), g15) (show (fa 9 r0 - (x3_2 + 1)).toNat < (fa 9 r0 - x3_2).toNat from by omega) (show inR (x3_2 + 1) ∧ inR (x2_3 + (-1)) ∧ (∀ t, inR (g15 t)) ∧ (fa 8 r0 ≤ (x3_2 + 1) ∧ (x3_2 + 1) ≤ fa 9 r0 ∧ (x2_3 + (-1)) = h (x3_2 + 1) ∧ 0 ≤ (x2_3 + (-1)) ∧ (x2_3 + (-1)) ≤ 60) from ⟨(by omega), (by omega), rg15, (by omega)⟩) _ _ _ hP hD hS hl
      · refine lv_aload_n hx hb dX10_holds_72 rfl (lv_at hl 3 rfl) ?_
        refine va_get (D := G) (ci := 7) (v := .ref (ar 40)) (C := RX10) (T := TX10) (N := 71) (ref := RX10) hx hb hts h1w hown hX.1 hP 0 rfl rfl 40 (by decide) h3w (fun _ h9 => h9) rfl dX10_holds_73 ?_
        refine lv_iload_n hx hb dX10_holds_76 rfl (lv_at hl 2 rfl) ?_
        refine lv_iconst (v := Int32.ofInt 1) hx hb dX10_holds_77 (by decide +kernel) ?_
        refine iv_sub (x := x2_3) (y := 1) hx hb dX10_holds_78 ?_
        refine lv_aload_n hx hb dX10_holds_79 rfl (lv_at hl 3 rfl) ?_
        refine va_get (D := G) (ci := 7) (v := .ref (ar 40)) (C := RX10) (T := TX10) (N := 71) (ref := RX10) hx hb hts h1w hown hX.1 hP 0 rfl rfl 40 (by decide) h3w (fun _ h9 => h9) rfl dX10_holds_80 ?_
        refine lv_iload_n hx hb dX10_holds_83 rfl (lv_at hl 2 rfl) ?_
        refine lv_iconst (v := Int32.ofInt 1) hx hb dX10_holds_84 (by decide +kernel) ?_
        refine iv_sub (x := x2_3) (y := 1) hx hb dX10_holds_85 ?_
        refine iv_iald hx hb hX.1 hP 19 0 rfl rfl (by omega) (by omega) (by decide) dX10_holds_86 ?_
        refine iv_top (fun z16 ez16 => ?_)
        have rz16 : inR z16 := ez16 ▸ r_g40_4 _
        refine iv_if_eq (tgt := 94) hx hb (by omega) dX10_holds_87 (by decide) (fun q17 => ?_) (fun q17 => ?_)
        · refine lv_iconst (v := Int32.ofInt 1) hx hb dX10_holds_94 (by decide +kernel) ?_
          refine iv_iast hx hb hX.1 hP hD hS 19 0 rfl rfl (wM_A40 _ _ _ _ _) (by omega) (by omega) (by decide) dX10_holds_95 (fun H locs hP hD hS => ?_)
          obtain ⟨hP, hD⟩ : va_P G vwCl (wM k ar fi (uF fa 40 (uA (g40_4) ((x2_3 - 1)) (1))) fl) H ∧ va_D A (wM k ar fi (uF fa 40 (uA (g40_4) ((x2_3 - 1)) (1))) fl) := ⟨hP, hD⟩
          obtain ⟨g18, eg18, rg18⟩ : ∃ z, z = uA (g40_4) ((x2_3 - 1)) (1) ∧ ∀ t, inR (z t) := ⟨_, rfl, iU r_g40_4 (by omega)⟩
          rw [← eg18] at hP hD
          refine lv_goto (tgt := 129) hx hb dX10_holds_96 (by decide) ?_
          refine lv_iinc (v := Int32.ofInt (x3_2 + 1)) (lv' := [(3, .int (Int32.ofInt ((x3_2 + 1)))), (4, .int (Int32.ofInt (z9))), (2, .int (Int32.ofInt (x2_3))), (0, .ref (ar 71)), (1, .int (Int32.ofInt (r0)))]) hx hb dX10_holds_129 hl (k := 1) rfl (Int32.ofInt_add _ _).symm (by decide) rfl (fun ls hl => ?_)
          refine lv_goto (tgt := 9) hx hb dX10_holds_132 (by decide) ?_
          have hl : lv_has ls 5 [(3, .int (Int32.ofInt ((x3_2 + 1)))), (2, .int (Int32.ofInt (x2_3))), (0, .ref (ar 71)), (1, .int (Int32.ofInt (r0)))] := lv_sub hl [0, 2, 3, 4] rfl
          exact ih ((x3_2 + 1), x2_3, g18) (show (fa 9 r0 - (x3_2 + 1)).toNat < (fa 9 r0 - x3_2).toNat from by omega) (show inR (x3_2 + 1) ∧ inR x2_3 ∧ (∀ t, inR (g18 t)) ∧ (fa 8 r0 ≤ (x3_2 + 1) ∧ (x3_2 + 1) ≤ fa 9 r0 ∧ x2_3 = h (x3_2 + 1) ∧ 0 ≤ x2_3 ∧ x2_3 ≤ 60) from ⟨(by omega), (by omega), rg18, (by omega)⟩) _ _ _ hP hD hS hl
        · refine lv_iconst (v := Int32.ofInt 0) hx hb dX10_holds_90 (by decide +kernel) ?_
          refine lv_goto (tgt := 95) hx hb dX10_holds_91 (by decide) ?_
          refine iv_iast hx hb hX.1 hP hD hS 19 0 rfl rfl (wM_A40 _ _ _ _ _) (by omega) (by omega) (by decide) dX10_holds_95 (fun H locs hP hD hS => ?_)
          obtain ⟨hP, hD⟩ : va_P G vwCl (wM k ar fi (uF fa 40 (uA (g40_4) ((x2_3 - 1)) (0))) fl) H ∧ va_D A (wM k ar fi (uF fa 40 (uA (g40_4) ((x2_3 - 1)) (0))) fl) := ⟨hP, hD⟩
          obtain ⟨g19, eg19, rg19⟩ : ∃ z, z = uA (g40_4) ((x2_3 - 1)) (0) ∧ ∀ t, inR (z t) := ⟨_, rfl, iU r_g40_4 (by omega)⟩
          rw [← eg19] at hP hD
          refine lv_goto (tgt := 129) hx hb dX10_holds_96 (by decide) ?_
          refine lv_iinc (v := Int32.ofInt (x3_2 + 1)) (lv' := [(3, .int (Int32.ofInt ((x3_2 + 1)))), (4, .int (Int32.ofInt (z9))), (2, .int (Int32.ofInt (x2_3))), (0, .ref (ar 71)), (1, .int (Int32.ofInt (r0)))]) hx hb dX10_holds_129 hl (k := 1) rfl (Int32.ofInt_add _ _).symm (by decide) rfl (fun ls hl => ?_)
          refine lv_goto (tgt := 9) hx hb dX10_holds_132 (by decide) ?_
          have hl : lv_has ls 5 [(3, .int (Int32.ofInt ((x3_2 + 1)))), (2, .int (Int32.ofInt (x2_3))), (0, .ref (ar 71)), (1, .int (Int32.ofInt (r0)))] := lv_sub hl [0, 2, 3, 4] rfl
          exact ih ((x3_2 + 1), x2_3, g19) (show (fa 9 r0 - (x3_2 + 1)).toNat < (fa 9 r0 - x3_2).toNat from by omega) (show inR (x3_2 + 1) ∧ inR x2_3 ∧ (∀ t, inR (g19 t)) ∧ (fa 8 r0 ≤ (x3_2 + 1) ∧ (x3_2 + 1) ≤ fa 9 r0 ∧ x2_3 = h (x3_2 + 1) ∧ 0 ≤ x2_3 ∧ x2_3 ≤ 60) from ⟨(by omega), (by omega), rg19, (by omega)⟩) _ _ _ hP hD hS hl
    · refine lv_aload_n hx hb dX10_holds_34 rfl (lv_at hl 3 rfl) ?_
      refine va_get (D := G) (ci := 7) (v := .ref (ar 40)) (C := RX10) (T := TX10) (N := 71) (ref := RX10) hx hb hts h1w hown hX.1 hP 0 rfl rfl 40 (by decide) h3w (fun _ h9 => h9) rfl dX10_holds_35 ?_
      refine lv_iload_n hx hb dX10_holds_38 rfl (lv_at hl 2 rfl) ?_
      refine lv_iload hx hb dX10_holds_39 (lv_at hl 0 rfl) ?_
      refine iv_if_lt (tgt := 49) hx hb (by omega) dX10_holds_41 (by decide) (fun q20 => ?_) (fun q20 => ?_)
      · refine lv_aload_n hx hb dX10_holds_49 rfl (lv_at hl 3 rfl) ?_
        refine va_get (D := G) (ci := 7) (v := .ref (ar 39)) (C := RX10) (T := TX10) (N := 71) (ref := RX10) hx hb hts h1w hown hX.1 hP 0 rfl rfl 39 (by decide) h5w (fun _ h9 => h9) rfl dX10_holds_50 ?_
        refine lv_iconst (v := Int32.ofInt (-1)) hx hb dX10_holds_53 (by decide +kernel) ?_
        refine lv_iload hx hb dX10_holds_54 (lv_at hl 0 rfl) ?_
        refine iv_sub (x := (-1)) (y := z9) hx hb dX10_holds_56 ?_
        refine iv_iald hx hb hX.1 hP 18 0 rfl rfl (by omega) (by omega) (by decide) dX10_holds_57 ?_
        refine iv_top (fun z21 ez21 => ?_)
        have rz21 : inR z21 := ez21 ▸ (hRa 39) _
        have ez21 : z21 = (fa 39) ((-1) - z9) := ez21
        refine iv_iast hx hb hX.1 hP hD hS 19 0 rfl rfl (wM_A40 _ _ _ _ _) (by omega) (by omega) (by decide) dX10_holds_58 (fun H locs hP hD hS => ?_)
        obtain ⟨hP, hD⟩ : va_P G vwCl (wM k ar fi (uF fa 40 (uA (g40_4) (x2_3) (z21))) fl) H ∧ va_D A (wM k ar fi (uF fa 40 (uA (g40_4) (x2_3) (z21))) fl) := ⟨hP, hD⟩
        obtain ⟨g22, eg22, rg22⟩ : ∃ z, z = uA (g40_4) (x2_3) (z21) ∧ ∀ t, inR (z t) := ⟨_, rfl, iU r_g40_4 (by omega)⟩
        rw [← eg22] at hP hD
        refine lv_iinc (v := Int32.ofInt (x2_3 + 1)) (lv' := [(2, .int (Int32.ofInt ((x2_3 + 1)))), (4, .int (Int32.ofInt (z9))), (3, .int (Int32.ofInt (x3_2))), (0, .ref (ar 71)), (1, .int (Int32.ofInt (r0)))]) hx hb dX10_holds_59 hl (k := 2) rfl (Int32.ofInt_add _ _).symm (by decide) rfl (fun ls hl => ?_)
        refine lv_goto (tgt := 129) hx hb dX10_holds_62 (by decide) ?_
        refine lv_iinc (v := Int32.ofInt (x3_2 + 1)) (lv' := [(3, .int (Int32.ofInt ((x3_2 + 1)))), (2, .int (Int32.ofInt ((x2_3 + 1)))), (4, .int (Int32.ofInt (z9))), (0, .ref (ar 71)), (1, .int (Int32.ofInt (r0)))]) hx hb dX10_holds_129 hl (k := 2) rfl (Int32.ofInt_add _ _).symm (by decide) rfl (fun ls hl => ?_)
        refine lv_goto (tgt := 9) hx hb dX10_holds_132 (by decide) ?_
        have hl : lv_has ls 5 [(3, .int (Int32.ofInt ((x3_2 + 1)))), (2, .int (Int32.ofInt ((x2_3 + 1)))), (0, .ref (ar 71)), (1, .int (Int32.ofInt (r0)))] := lv_sub hl [0, 1, 3, 4] rfl
        exact ih ((x3_2 + 1), (x2_3 + 1), g22) (show (fa 9 r0 - (x3_2 + 1)).toNat < (fa 9 r0 - x3_2).toNat from by omega) (show inR (x3_2 + 1) ∧ inR (x2_3 + 1) ∧ (∀ t, inR (g22 t)) ∧ (fa 8 r0 ≤ (x3_2 + 1) ∧ (x3_2 + 1) ≤ fa 9 r0 ∧ (x2_3 + 1) = h (x3_2 + 1) ∧ 0 ≤ (x2_3 + 1) ∧ (x2_3 + 1) ≤ 60) from ⟨(by omega), (by omega), rg22, (by omega)⟩) _ _ _ hP hD hS hl
      · refine lv_iload hx hb dX10_holds_44 (lv_at hl 0 rfl) ?_
        refine lv_goto (tgt := 58) hx hb dX10_holds_46 (by decide) ?_
        refine iv_iast hx hb hX.1 hP hD hS 19 0 rfl rfl (wM_A40 _ _ _ _ _) (by omega) (by omega) (by decide) dX10_holds_58 (fun H locs hP hD hS => ?_)
        obtain ⟨hP, hD⟩ : va_P G vwCl (wM k ar fi (uF fa 40 (uA (g40_4) (x2_3) (z9))) fl) H ∧ va_D A (wM k ar fi (uF fa 40 (uA (g40_4) (x2_3) (z9))) fl) := ⟨hP, hD⟩
        obtain ⟨g23, eg23, rg23⟩ : ∃ z, z = uA (g40_4) (x2_3) (z9) ∧ ∀ t, inR (z t) := ⟨_, rfl, iU r_g40_4 (by omega)⟩
        rw [← eg23] at hP hD
        refine lv_iinc (v := Int32.ofInt (x2_3 + 1)) (lv' := [(2, .int (Int32.ofInt ((x2_3 + 1)))), (4, .int (Int32.ofInt (z9))), (3, .int (Int32.ofInt (x3_2))), (0, .ref (ar 71)), (1, .int (Int32.ofInt (r0)))]) hx hb dX10_holds_59 hl (k := 2) rfl (Int32.ofInt_add _ _).symm (by decide) rfl (fun ls hl => ?_)
        refine lv_goto (tgt := 129) hx hb dX10_holds_62 (by decide) ?_
        refine lv_iinc (v := Int32.ofInt (x3_2 + 1)) (lv' := [(3, .int (Int32.ofInt ((x3_2 + 1)))), (2, .int (Int32.ofInt ((x2_3 + 1)))), (4, .int (Int32.ofInt (z9))), (0, .ref (ar 71)), (1, .int (Int32.ofInt (r0)))]) hx hb dX10_holds_129 hl (k := 2) rfl (Int32.ofInt_add _ _).symm (by decide) rfl (fun ls hl => ?_)
        refine lv_goto (tgt := 9) hx hb dX10_holds_132 (by decide) ?_
        have hl : lv_has ls 5 [(3, .int (Int32.ofInt ((x3_2 + 1)))), (2, .int (Int32.ofInt ((x2_3 + 1)))), (0, .ref (ar 71)), (1, .int (Int32.ofInt (r0)))] := lv_sub hl [0, 1, 3, 4] rfl
        exact ih ((x3_2 + 1), (x2_3 + 1), g23) (show (fa 9 r0 - (x3_2 + 1)).toNat < (fa 9 r0 - x3_2).toNat from by omega) (show inR (x3_2 + 1) ∧ inR (x2_3 + 1) ∧ (∀ t, inR (g23 t)) ∧ (fa 8 r0 ≤ (x3_2 + 1) ∧ (x3_2 + 1) ≤ fa 9 r0 ∧ (x2_3 + 1) = h (x3_2 + 1) ∧ 0 ≤ (x2_3 + 1) ∧ (x2_3 + 1) ≤ 60) from ⟨(by omega), (by omega), rg23, (by omega)⟩) _ _ _ hP hD hS hl

set_option maxHeartbeats 4000000 in
set_option maxRecDepth 100000 in
theorem mX10_brokenBy_32 (l : Launch) (G : va_G) (k : Nat → ClassId) (ar : Nat → Nat) (fi : Nat → Int) (fa : Nat → Int → Int) (fl : Nat → Int64) (b0 : Int) (a0 : Int) (sz : Nat) (hR : ∀ j, inR (fi j)) (hRa : ∀ j t, inR (fa j t)) (hr_b0 : inR b0) (hr_a0 : inR a0) (hth : 0 ≤ fi 12 ∧ fi 12 ≤ 7) (hru : 0 ≤ fi 13 ∧ fi 13 ≤ 4) (hRW : ∀ q9, 0 ≤ q9 → q9 < fi 13 → RWf (fa 10) (fa 8 q9) (fa 9 q9)) : CNi l G k (EZ k) yX10_brokenBy wzX10_brokenBy ({ frames := 2, cells := 0, slots := 0, locals := 46 }) [.ref (ar 71), .ref (ar 32), .int (Int32.ofInt (b0)), .int (Int32.ofInt (a0))] sz (wM k ar fi fa fl) (fun (r0 : Int32) (u : Int × (Int → Int) × (Int → Int)) => r0 = Int32.ofInt (u.1) ∧ (inR u.1) ∧ (∀ t, inR (u.2.1 t)) ∧ (∀ t, inR (u.2.2 t)) ∧ (True)) (fun (u : Int × (Int → Int) × (Int → Int)) => (wM k ar fi (uF (uF fa 39 (u.2.1)) 40 (u.2.2)) fl)) := by
  refine Met.ofW (cc := cX10_brokenBy) (maxL := 5) (ret := (some .int)) (by decide) rfl ?_
  intro p e s m args below meth c s₁ B hml hv
  obtain ⟨rfl, hsz, hP, hX, hD0, hZ0⟩ := hv
  have hx := B.exec
  have hb := B.bytes
  have hr := B.returns
  have hts := atoms_spec (ws := wzX10_brokenBy) B.pre
  have hown : s.vm.findClass RX10 = some m.cls := findClass_of_methodNamed B.named
  subst hsz
  have hD := hD0.self (sz := s.heap.size)
  have hZ := hZ0
  generalize hAe : va_A (wM k ar fi fa fl) s.heap.size = A at hD hZ ⊢
  have hA : ∀ q : Nat, s.heap.size ≤ q → A q := fun q h => by rw [← hAe]; exact Or.inr h
  have hS : va_S A s.heap s.heap [] := va_S.rf
  have hl := lv_entry ([.ref (ar 71), .ref (ar 32), .int (Int32.ofInt (b0)), .int (Int32.ofInt (a0))]) (n := 5) (Nat.le_of_ble_eq_true rfl)
  rw [lg_entry_eq]
  generalize (lg_sl ([.ref (ar 71), .ref (ar 32), .int (Int32.ofInt (b0)), .int (Int32.ofInt (a0))]) ++ List.replicate (5 - (lg_sl ([.ref (ar 71), .ref (ar 32), .int (Int32.ofInt (b0)), .int (Int32.ofInt (a0))])).length) Slot.unset).toArray = ls at hl ⊢
  have hl : lv_has ls 5 [(0, .ref (ar 71)), (1, .ref (ar 32)), (2, .int (Int32.ofInt (b0))), (3, .int (Int32.ofInt (a0)))] := hl
  obtain ⟨H, eH⟩ : ∃ H, H = s.heap := ⟨_, rfl⟩
  rw [← eH] at hP
  have hS : va_S A s.heap H [] := by rw [eH]; exact hS
  have gW : s.heap = H := eH.symm
  refine iv_heap gW ?_
  have h0w := hts (.fieldLink RX10 108 "RopeTownModel" "asked" "[I") (wz_at 7 0 rfl)
  have h1w : ∀ w ∈ wsX100, w ∈ wzX10_brokenBy := fun w h => List.mem_cons_of_mem _ (inlX10 w h)
  have h2w := hts (.fieldLink RX10 324 "RopeTownModel" "rules" "I") (wz_at 21 12 rfl)
  refine lv_aload_n hx hb dX10_brokenBy_0 rfl (lv_at hl 0 rfl) ?_
  refine va_get (D := G) (ci := 7) (v := .ref (ar 39)) (C := RX10) (T := TX10) (N := 71) (ref := RX10) hx hb hts h1w hown hX.1 hP 0 rfl rfl 39 (by decide) h0w (fun _ h9 => h9) rfl dX10_brokenBy_1 ?_
  refine lv_iconst (v := Int32.ofInt 0) hx hb dX10_brokenBy_4 (by decide +kernel) ?_
  refine lv_aload_n hx hb dX10_brokenBy_5 rfl (lv_at hl 0 rfl) ?_
  refine lv_aload_n hx hb dX10_brokenBy_6 rfl (lv_at hl 1 rfl) ?_
  refine lv_iload_n hx hb dX10_brokenBy_7 rfl (lv_at hl 2 rfl) ?_
  refine lv_iconst (v := Int32.ofInt 0) hx hb dX10_brokenBy_8 (by decide +kernel) ?_
  refine cr_i (va_runV (As := [.ref (ar 32), .int (Int32.ofInt (b0)), .int (Int32.ofInt (0))]) (rest := [.int (Int32.ofInt (0)), .ref (ar 39)]) ⟨hx, hb, hml, hown, hts⟩ (mX10_manyOf_32 l G k ar fi fa fl b0 0 H.size hR hRa (by omega) (by omega) (show 0 ≤ (fi 12) ∧ (fi 12) ≤ 7 from by omega)) (cwV 3 hts (gz [.methodLink RX10 370 yX10_manyOf, .instanceMethod yX10_manyOf, .selects RX10 yX10_manyOf yX10_manyOf, .initialized RX10] (.code yX10_manyOf cX10_manyOf 6 (some .int)) [(26, 12), (26, 13), (26, 14), (0, 5), (26, 15)] rfl) rfl rfl rfl (by decide +kernel) ⟨Nat.le_of_ble_eq_true rfl, Nat.le_of_ble_eq_true rfl⟩) (cr_preV (EZ_ok k) hZ hS hX hP hD hA (ci := 7) (q0 := 0) rfl rfl) rfl rfl hl.1 rfl (lv_room (Nat.le_of_ble_eq_true rfl)) dX10_brokenBy_9 ⟨Nat.le_of_ble_eq_true rfl, Nat.le_of_ble_eq_true rfl⟩) hD hS hA (fun r u H locs hp hP hD hS => ?_)
  obtain ⟨c1, rfl⟩ : ∃ z, z = u := ⟨_, rfl⟩
  obtain ⟨h9, rc1, hp1⟩ : r = Int32.ofInt c1 ∧ (inR c1) ∧ (True) := hp
  subst h9
  refine iv_iast hx hb hX.1 hP hD hS 18 0 rfl rfl (wM_A39 _ _ _ _ _) (by omega) (by omega) (by decide) dX10_brokenBy_12 (fun H locs hP hD hS => ?_)
  obtain ⟨g2, eg2, rg2⟩ : ∃ z, z = uA (fa 39) (0) (c1) ∧ ∀ t, inR (z t) := ⟨_, rfl, iU (hRa 39) (by omega)⟩
  rw [← eg2] at hP hD
  refine lv_aload_n hx hb dX10_brokenBy_13 rfl (lv_at hl 0 rfl) ?_
  refine va_get (D := G) (ci := 7) (v := .ref (ar 39)) (C := RX10) (T := TX10) (N := 71) (ref := RX10) hx hb hts h1w hown hX.1 hP 0 rfl rfl 39 (by decide) h0w (fun _ h9 => h9) rfl dX10_brokenBy_14 ?_
  refine lv_iconst (v := Int32.ofInt 1) hx hb dX10_brokenBy_17 (by decide +kernel) ?_
  refine lv_aload_n hx hb dX10_brokenBy_18 rfl (lv_at hl 0 rfl) ?_
  refine lv_aload_n hx hb dX10_brokenBy_19 rfl (lv_at hl 1 rfl) ?_
  refine lv_iload_n hx hb dX10_brokenBy_20 rfl (lv_at hl 2 rfl) ?_
  refine lv_iconst (v := Int32.ofInt 1) hx hb dX10_brokenBy_21 (by decide +kernel) ?_
  refine cr_i (va_runV (As := [.ref (ar 32), .int (Int32.ofInt (b0)), .int (Int32.ofInt (1))]) (rest := [.int (Int32.ofInt (1)), .ref (ar 39)]) ⟨hx, hb, hml, hown, hts⟩ (mX10_manyOf_32 l G k ar fi (uF fa 39 (g2)) fl b0 1 H.size hR (iG hRa rg2) (by omega) (by omega) (show 0 ≤ (fi 12) ∧ (fi 12) ≤ 7 from by omega)) (cwV 3 hts (gz [.methodLink RX10 370 yX10_manyOf, .instanceMethod yX10_manyOf, .selects RX10 yX10_manyOf yX10_manyOf, .initialized RX10] (.code yX10_manyOf cX10_manyOf 6 (some .int)) [(26, 12), (26, 13), (26, 14), (0, 5), (26, 15)] rfl) rfl rfl rfl (by decide +kernel) ⟨Nat.le_of_ble_eq_true rfl, Nat.le_of_ble_eq_true rfl⟩) (cr_preV (EZ_ok k) hZ hS hX hP hD hA (ci := 7) (q0 := 0) rfl rfl) rfl rfl hl.1 rfl (lv_room (Nat.le_of_ble_eq_true rfl)) dX10_brokenBy_22 ⟨Nat.le_of_ble_eq_true rfl, Nat.le_of_ble_eq_true rfl⟩) hD hS hA (fun r u H locs hp hP hD hS => ?_)
  obtain ⟨c3, rfl⟩ : ∃ z, z = u := ⟨_, rfl⟩
  obtain ⟨h9, rc3, hp3⟩ : r = Int32.ofInt c3 ∧ (inR c3) ∧ (True) := hp
  subst h9
  refine iv_iast hx hb hX.1 hP hD hS 18 0 rfl rfl (wM_A39 _ _ _ _ _) (by omega) (by omega) (by decide) dX10_brokenBy_25 (fun H locs hP hD hS => ?_)
  obtain ⟨hP, hD⟩ : va_P G vwCl (wM k ar fi (uF fa 39 (uA (g2) (1) (c3))) fl) H ∧ va_D A (wM k ar fi (uF fa 39 (uA (g2) (1) (c3))) fl) := ⟨hP, hD⟩
  obtain ⟨g4, eg4, rg4⟩ : ∃ z, z = uA (g2) (1) (c3) ∧ ∀ t, inR (z t) := ⟨_, rfl, iU rg2 (by omega)⟩
  rw [← eg4] at hP hD
  refine lv_aload_n hx hb dX10_brokenBy_26 rfl (lv_at hl 0 rfl) ?_
  refine va_get (D := G) (ci := 7) (v := .ref (ar 39)) (C := RX10) (T := TX10) (N := 71) (ref := RX10) hx hb hts h1w hown hX.1 hP 0 rfl rfl 39 (by decide) h0w (fun _ h9 => h9) rfl dX10_brokenBy_27 ?_
  refine lv_iconst (v := Int32.ofInt 2) hx hb dX10_brokenBy_30 (by decide +kernel) ?_
  refine lv_aload_n hx hb dX10_brokenBy_31 rfl (lv_at hl 0 rfl) ?_
  refine lv_aload_n hx hb dX10_brokenBy_32 rfl (lv_at hl 1 rfl) ?_
  refine lv_iload_n hx hb dX10_brokenBy_33 rfl (lv_at hl 2 rfl) ?_
  refine lv_iconst (v := Int32.ofInt 2) hx hb dX10_brokenBy_34 (by decide +kernel) ?_
  refine cr_i (va_runV (As := [.ref (ar 32), .int (Int32.ofInt (b0)), .int (Int32.ofInt (2))]) (rest := [.int (Int32.ofInt (2)), .ref (ar 39)]) ⟨hx, hb, hml, hown, hts⟩ (mX10_manyOf_32 l G k ar fi (uF fa 39 (g4)) fl b0 2 H.size hR (iG hRa rg4) (by omega) (by omega) (show 0 ≤ (fi 12) ∧ (fi 12) ≤ 7 from by omega)) (cwV 3 hts (gz [.methodLink RX10 370 yX10_manyOf, .instanceMethod yX10_manyOf, .selects RX10 yX10_manyOf yX10_manyOf, .initialized RX10] (.code yX10_manyOf cX10_manyOf 6 (some .int)) [(26, 12), (26, 13), (26, 14), (0, 5), (26, 15)] rfl) rfl rfl rfl (by decide +kernel) ⟨Nat.le_of_ble_eq_true rfl, Nat.le_of_ble_eq_true rfl⟩) (cr_preV (EZ_ok k) hZ hS hX hP hD hA (ci := 7) (q0 := 0) rfl rfl) rfl rfl hl.1 rfl (lv_room (Nat.le_of_ble_eq_true rfl)) dX10_brokenBy_35 ⟨Nat.le_of_ble_eq_true rfl, Nat.le_of_ble_eq_true rfl⟩) hD hS hA (fun r u H locs hp hP hD hS => ?_)
  obtain ⟨c5, rfl⟩ : ∃ z, z = u := ⟨_, rfl⟩
  obtain ⟨h9, rc5, hp5⟩ : r = Int32.ofInt c5 ∧ (inR c5) ∧ (True) := hp
  subst h9
  refine iv_iast hx hb hX.1 hP hD hS 18 0 rfl rfl (wM_A39 _ _ _ _ _) (by omega) (by omega) (by decide) dX10_brokenBy_38 (fun H locs hP hD hS => ?_)
  obtain ⟨hP, hD⟩ : va_P G vwCl (wM k ar fi (uF fa 39 (uA (g4) (2) (c5))) fl) H ∧ va_D A (wM k ar fi (uF fa 39 (uA (g4) (2) (c5))) fl) := ⟨hP, hD⟩
  obtain ⟨g6, eg6, rg6⟩ : ∃ z, z = uA (g4) (2) (c5) ∧ ∀ t, inR (z t) := ⟨_, rfl, iU rg4 (by omega)⟩
  rw [← eg6] at hP hD
  refine lv_aload_n hx hb dX10_brokenBy_39 rfl (lv_at hl 0 rfl) ?_
  refine va_get (D := G) (ci := 7) (v := .ref (ar 39)) (C := RX10) (T := TX10) (N := 71) (ref := RX10) hx hb hts h1w hown hX.1 hP 0 rfl rfl 39 (by decide) h0w (fun _ h9 => h9) rfl dX10_brokenBy_40 ?_
  refine lv_iconst (v := Int32.ofInt 3) hx hb dX10_brokenBy_43 (by decide +kernel) ?_
  refine lv_aload_n hx hb dX10_brokenBy_44 rfl (lv_at hl 0 rfl) ?_
  refine lv_aload_n hx hb dX10_brokenBy_45 rfl (lv_at hl 1 rfl) ?_
  refine lv_iload_n hx hb dX10_brokenBy_46 rfl (lv_at hl 2 rfl) ?_
  refine lv_iconst (v := Int32.ofInt 3) hx hb dX10_brokenBy_47 (by decide +kernel) ?_
  refine cr_i (va_runV (As := [.ref (ar 32), .int (Int32.ofInt (b0)), .int (Int32.ofInt (3))]) (rest := [.int (Int32.ofInt (3)), .ref (ar 39)]) ⟨hx, hb, hml, hown, hts⟩ (mX10_manyOf_32 l G k ar fi (uF fa 39 (g6)) fl b0 3 H.size hR (iG hRa rg6) (by omega) (by omega) (show 0 ≤ (fi 12) ∧ (fi 12) ≤ 7 from by omega)) (cwV 3 hts (gz [.methodLink RX10 370 yX10_manyOf, .instanceMethod yX10_manyOf, .selects RX10 yX10_manyOf yX10_manyOf, .initialized RX10] (.code yX10_manyOf cX10_manyOf 6 (some .int)) [(26, 12), (26, 13), (26, 14), (0, 5), (26, 15)] rfl) rfl rfl rfl (by decide +kernel) ⟨Nat.le_of_ble_eq_true rfl, Nat.le_of_ble_eq_true rfl⟩) (cr_preV (EZ_ok k) hZ hS hX hP hD hA (ci := 7) (q0 := 0) rfl rfl) rfl rfl hl.1 rfl (lv_room (Nat.le_of_ble_eq_true rfl)) dX10_brokenBy_48 ⟨Nat.le_of_ble_eq_true rfl, Nat.le_of_ble_eq_true rfl⟩) hD hS hA (fun r u H locs hp hP hD hS => ?_)
  obtain ⟨c7, rfl⟩ : ∃ z, z = u := ⟨_, rfl⟩
  obtain ⟨h9, rc7, hp7⟩ : r = Int32.ofInt c7 ∧ (inR c7) ∧ (True) := hp
  subst h9
  refine iv_iast hx hb hX.1 hP hD hS 18 0 rfl rfl (wM_A39 _ _ _ _ _) (by omega) (by omega) (by decide) dX10_brokenBy_51 (fun H locs hP hD hS => ?_)
  obtain ⟨hP, hD⟩ : va_P G vwCl (wM k ar fi (uF fa 39 (uA (g6) (3) (c7))) fl) H ∧ va_D A (wM k ar fi (uF fa 39 (uA (g6) (3) (c7))) fl) := ⟨hP, hD⟩
  obtain ⟨g8, eg8, rg8⟩ : ∃ z, z = uA (g6) (3) (c7) ∧ ∀ t, inR (z t) := ⟨_, rfl, iU rg6 (by omega)⟩
  rw [← eg8] at hP hD
  refine lv_aload_n hx hb dX10_brokenBy_52 rfl (lv_at hl 0 rfl) ?_
  refine va_get (D := G) (ci := 7) (v := .ref (ar 39)) (C := RX10) (T := TX10) (N := 71) (ref := RX10) hx hb hts h1w hown hX.1 hP 0 rfl rfl 39 (by decide) h0w (fun _ h9 => h9) rfl dX10_brokenBy_53 ?_
  refine lv_iconst (v := Int32.ofInt 4) hx hb dX10_brokenBy_56 (by decide +kernel) ?_
  refine lv_aload_n hx hb dX10_brokenBy_57 rfl (lv_at hl 0 rfl) ?_
  refine lv_aload_n hx hb dX10_brokenBy_58 rfl (lv_at hl 1 rfl) ?_
  refine lv_iload_n hx hb dX10_brokenBy_59 rfl (lv_at hl 2 rfl) ?_
  refine cr_i (va_runV (As := [.ref (ar 32), .int (Int32.ofInt (b0))]) (rest := [.int (Int32.ofInt (4)), .ref (ar 39)]) ⟨hx, hb, hml, hown, hts⟩ (mX10_loadOf_32 l G k ar fi (uF fa 39 (g8)) fl b0 H.size hR (iG hRa rg8) (by omega) (show 0 ≤ (fi 12) ∧ (fi 12) ≤ 7 from by omega)) (cwV 2 hts (gz [.methodLink RX10 362 yX10_loadOf, .instanceMethod yX10_loadOf, .selects RX10 yX10_loadOf yX10_loadOf, .initialized RX10] (.code yX10_loadOf cX10_loadOf 5 (some .int)) [(26, 0), (26, 1), (26, 2), (0, 5), (26, 3)] rfl) rfl rfl rfl (by decide +kernel) ⟨Nat.le_of_ble_eq_true rfl, Nat.le_of_ble_eq_true rfl⟩) (cr_preV (EZ_ok k) hZ hS hX hP hD hA (ci := 7) (q0 := 0) rfl rfl) rfl rfl hl.1 rfl (lv_room (Nat.le_of_ble_eq_true rfl)) dX10_brokenBy_60 ⟨Nat.le_of_ble_eq_true rfl, Nat.le_of_ble_eq_true rfl⟩) hD hS hA (fun r u H locs hp hP hD hS => ?_)
  obtain ⟨c9, rfl⟩ : ∃ z, z = u := ⟨_, rfl⟩
  obtain ⟨h9, rc9, hp9⟩ : r = Int32.ofInt c9 ∧ (inR c9) ∧ (True) := hp
  subst h9
  refine iv_iast hx hb hX.1 hP hD hS 18 0 rfl rfl (wM_A39 _ _ _ _ _) (by omega) (by omega) (by decide) dX10_brokenBy_63 (fun H locs hP hD hS => ?_)
  obtain ⟨hP, hD⟩ : va_P G vwCl (wM k ar fi (uF fa 39 (uA (g8) (4) (c9))) fl) H ∧ va_D A (wM k ar fi (uF fa 39 (uA (g8) (4) (c9))) fl) := ⟨hP, hD⟩
  obtain ⟨g10, eg10, rg10⟩ : ∃ z, z = uA (g8) (4) (c9) ∧ ∀ t, inR (z t) := ⟨_, rfl, iU rg8 (by omega)⟩
  rw [← eg10] at hP hD
  refine lv_aload_n hx hb dX10_brokenBy_64 rfl (lv_at hl 0 rfl) ?_
  refine va_get (D := G) (ci := 7) (v := .ref (ar 39)) (C := RX10) (T := TX10) (N := 71) (ref := RX10) hx hb hts h1w hown hX.1 hP 0 rfl rfl 39 (by decide) h0w (fun _ h9 => h9) rfl dX10_brokenBy_65 ?_
  refine lv_iconst (v := Int32.ofInt 5) hx hb dX10_brokenBy_68 (by decide +kernel) ?_
  refine lv_aload_n hx hb dX10_brokenBy_69 rfl (lv_at hl 0 rfl) ?_
  refine lv_iload_n hx hb dX10_brokenBy_70 rfl (lv_at hl 2 rfl) ?_
  refine lv_iload_n hx hb dX10_brokenBy_71 rfl (lv_at hl 3 rfl) ?_
  refine cr_i (va_runV (As := [.int (Int32.ofInt (b0)), .int (Int32.ofInt (a0))]) (rest := [.int (Int32.ofInt (5)), .ref (ar 39)]) ⟨hx, hb, hml, hown, hts⟩ (mX10_depthOf l G k ar fi (uF fa 39 (g10)) fl b0 a0 H.size hR (iG hRa rg10) (by omega) (by omega)) (cwV 2 hts (gz [.methodLink RX10 352 yX10_depthOf, .instanceMethod yX10_depthOf, .selects RX10 yX10_depthOf yX10_depthOf, .initialized RX10] (.code yX10_depthOf cX10_depthOf 3 (some .int)) [(24, 7), (24, 8), (24, 9), (0, 5), (24, 10)] rfl) rfl rfl rfl (by decide +kernel) ⟨Nat.le_of_ble_eq_true rfl, Nat.le_of_ble_eq_true rfl⟩) (cr_preV (EZ_ok k) hZ hS hX hP hD hA (ci := 7) (q0 := 0) rfl rfl) rfl rfl hl.1 rfl (lv_room (Nat.le_of_ble_eq_true rfl)) dX10_brokenBy_72 ⟨Nat.le_of_ble_eq_true rfl, Nat.le_of_ble_eq_true rfl⟩) hD hS hA (fun r u H locs hp hP hD hS => ?_)
  obtain ⟨c11, rfl⟩ : ∃ z, z = u := ⟨_, rfl⟩
  obtain ⟨h9, rc11, hp11⟩ : r = Int32.ofInt c11 ∧ (inR c11) ∧ (True) := hp
  subst h9
  refine iv_iast hx hb hX.1 hP hD hS 18 0 rfl rfl (wM_A39 _ _ _ _ _) (by omega) (by omega) (by decide) dX10_brokenBy_75 (fun H locs hP hD hS => ?_)
  obtain ⟨hP, hD⟩ : va_P G vwCl (wM k ar fi (uF fa 39 (uA (g10) (5) (c11))) fl) H ∧ va_D A (wM k ar fi (uF fa 39 (uA (g10) (5) (c11))) fl) := ⟨hP, hD⟩
  obtain ⟨g12, eg12, rg12⟩ : ∃ z, z = uA (g10) (5) (c11) ∧ ∀ t, inR (z t) := ⟨_, rfl, iU rg10 (by omega)⟩
  rw [← eg12] at hP hD
  refine lv_aload_n hx hb dX10_brokenBy_76 rfl (lv_at hl 0 rfl) ?_
  refine va_get (D := G) (ci := 7) (v := .ref (ar 39)) (C := RX10) (T := TX10) (N := 71) (ref := RX10) hx hb hts h1w hown hX.1 hP 0 rfl rfl 39 (by decide) h0w (fun _ h9 => h9) rfl dX10_brokenBy_77 ?_
  refine lv_bipush (v := Int32.ofInt 6) hx hb dX10_brokenBy_80 (by decide +kernel) ?_
  refine lv_aload_n hx hb dX10_brokenBy_82 rfl (lv_at hl 0 rfl) ?_
  refine lv_aload_n hx hb dX10_brokenBy_83 rfl (lv_at hl 1 rfl) ?_
  refine lv_iconst (v := Int32.ofInt 1) hx hb dX10_brokenBy_84 (by decide +kernel) ?_
  refine lv_iload_n hx hb dX10_brokenBy_85 rfl (lv_at hl 2 rfl) ?_
  refine iv_sub (x := 1) (y := b0) hx hb dX10_brokenBy_86 ?_
  refine iv_wr ?_
  refine iv_top (fun z13 ez13 => ?_)
  have rz13 : inR z13 := ez13 ▸ bWr_r _
  refine cr_i (va_runV (As := [.ref (ar 32), .int (Int32.ofInt (z13))]) (rest := [.int (Int32.ofInt (6)), .ref (ar 39)]) ⟨hx, hb, hml, hown, hts⟩ (mX10_loadOf_32 l G k ar fi (uF fa 39 (g12)) fl z13 H.size hR (iG hRa rg12) (by omega) (show 0 ≤ (fi 12) ∧ (fi 12) ≤ 7 from by omega)) (cwV 2 hts (gz [.methodLink RX10 362 yX10_loadOf, .instanceMethod yX10_loadOf, .selects RX10 yX10_loadOf yX10_loadOf, .initialized RX10] (.code yX10_loadOf cX10_loadOf 5 (some .int)) [(26, 0), (26, 1), (26, 2), (0, 5), (26, 3)] rfl) rfl rfl rfl (by decide +kernel) ⟨Nat.le_of_ble_eq_true rfl, Nat.le_of_ble_eq_true rfl⟩) (cr_preV (EZ_ok k) hZ hS hX hP hD hA (ci := 7) (q0 := 0) rfl rfl) rfl rfl hl.1 rfl (lv_room (Nat.le_of_ble_eq_true rfl)) dX10_brokenBy_87 ⟨Nat.le_of_ble_eq_true rfl, Nat.le_of_ble_eq_true rfl⟩) hD hS hA (fun r u H locs hp hP hD hS => ?_)
  obtain ⟨c14, rfl⟩ : ∃ z, z = u := ⟨_, rfl⟩
  obtain ⟨h9, rc14, hp14⟩ : r = Int32.ofInt c14 ∧ (inR c14) ∧ (True) := hp
  subst h9
  refine iv_iast hx hb hX.1 hP hD hS 18 0 rfl rfl (wM_A39 _ _ _ _ _) (by omega) (by omega) (by decide) dX10_brokenBy_90 (fun H locs hP hD hS => ?_)
  obtain ⟨hP, hD⟩ : va_P G vwCl (wM k ar fi (uF fa 39 (uA (g12) (6) (c14))) fl) H ∧ va_D A (wM k ar fi (uF fa 39 (uA (g12) (6) (c14))) fl) := ⟨hP, hD⟩
  obtain ⟨g15, eg15, rg15⟩ : ∃ z, z = uA (g12) (6) (c14) ∧ ∀ t, inR (z t) := ⟨_, rfl, iU rg12 (by omega)⟩
  rw [← eg15] at hP hD
  refine lv_iconst (v := Int32.ofInt 0) hx hb dX10_brokenBy_91 (by decide +kernel) ?_
  refine lv_istore (lv' := [(4, .int (Int32.ofInt (0))), (0, .ref (ar 71)), (1, .ref (ar 32)), (2, .int (Int32.ofInt (b0))), (3, .int (Int32.ofInt (a0)))]) hx hb dX10_brokenBy_92 hl (by decide) rfl (fun ls hl => ?_)
  refine iv_loop (α := Int × (Int → Int)) (nL := 5) (fun b9 => (wM k ar fi (uF (uF fa 39 (g15)) 40 (b9.2)) fl)) (fun b9 => [(4, .int (Int32.ofInt (b9.1))), (0, .ref (ar 71)), (1, .ref (ar 32)), (2, .int (Int32.ofInt (b0))), (3, .int (Int32.ofInt (a0)))]) (fun b9 => (fi 13 - b9.1).toNat) (fun b9 => inR b9.1 ∧ (∀ t, inR (b9.2 t)) ∧ (0 ≤ b9.1)) ?_ (0, fa 40) (show inR 0 ∧ (∀ t, inR ((fa 40) t)) ∧ (0 ≤ 0) from ⟨(by omega), (hRa 40), (by omega)⟩) hP hD hS hl
  rintro ⟨x4_16, g40_17⟩ ih hi9 H locs ls hP hD hS hl
  obtain ⟨r_x4_16, r_g40_17, hinv⟩ : inR x4_16 ∧ (∀ t, inR (g40_17 t)) ∧ (0 ≤ x4_16) := hi9
  obtain ⟨hP, hD⟩ : va_P G vwCl (wM k ar fi (uF (uF fa 39 (g15)) 40 (g40_17)) fl) H ∧ va_D A (wM k ar fi (uF (uF fa 39 (g15)) 40 (g40_17)) fl) := ⟨hP, hD⟩
  have hl : lv_has ls 5 [(4, .int (Int32.ofInt (x4_16))), (0, .ref (ar 71)), (1, .ref (ar 32)), (2, .int (Int32.ofInt (b0))), (3, .int (Int32.ofInt (a0)))] := hl
  refine lv_iload hx hb dX10_brokenBy_94 (lv_at hl 0 rfl) ?_
  refine lv_aload_n hx hb dX10_brokenBy_96 rfl (lv_at hl 1 rfl) ?_
  refine va_get (D := G) (ci := 7) (v := .int (Int32.ofInt (fi 13))) (C := RX10) (T := TX10) (N := 71) (ref := RX10) hx hb hts h1w hown hX.1 hP 0 rfl rfl 13 (by decide) h2w (fun _ h9 => h9) rfl dX10_brokenBy_97 ?_
  have rf13 := hR 13
  refine iv_icmp_ge (tgt := 121) hx hb (by omega) (by omega) dX10_brokenBy_100 (by decide) (fun q18 => ?_) (fun q18 => ?_)
  · refine lv_iconst (v := Int32.ofInt (-1)) hx hb dX10_brokenBy_121 (by decide +kernel) ?_
    exact W.iret (v := Int32.ofInt ((-1))) hx hb hr (fun t ht hW => ⟨⟨Int32.ofInt ((-1)), ((-1), g15, g40_17), rfl, ⟨rfl, (show (inR (-1)) ∧ (∀ t, inR (g15 t)) ∧ (∀ t, inR (g40_17 t)) ∧ (True) from ⟨(by omega), rg15, r_g40_17, trivial⟩)⟩, by rw [ht]; exact hP, hD⟩, hS.F ht⟩) hS.2.2 dX10_brokenBy_122
  · refine lv_aload_n hx hb dX10_brokenBy_103 rfl (lv_at hl 1 rfl) ?_
    refine lv_iload hx hb dX10_brokenBy_104 (lv_at hl 0 rfl) ?_
    refine cr_i (va_runV (As := [.int (Int32.ofInt (x4_16))]) (rest := []) ⟨hx, hb, hml, hown, hts⟩ (mX10_holds l G k ar fi (uF (uF fa 39 (g15)) 40 (g40_17)) fl x4_16 H.size hR (iG (iG hRa rg15) r_g40_17) (by omega) (show 0 ≤ x4_16 ∧ x4_16 < 8 from by omega) (show RWf ((fa 10)) ((fa 8) x4_16) ((fa 9) x4_16) from by exact hRW x4_16 (by omega) (by omega))) (cwV 1 hts (gz [.methodLink RX10 374 yX10_holds, .instanceMethod yX10_holds, .selects RX10 yX10_holds yX10_holds, .initialized RX10] (.code yX10_holds cX10_holds 5 (some .boolean)) [(26, 16), (26, 17), (26, 18), (0, 5), (26, 19)] rfl) rfl rfl rfl (by decide +kernel) ⟨Nat.le_of_ble_eq_true rfl, Nat.le_of_ble_eq_true rfl⟩) (cr_preV (EZ_ok k) hZ hS hX hP hD hA (ci := 7) (q0 := 0) rfl rfl) rfl rfl hl.1 rfl (lv_room (Nat.le_of_ble_eq_true rfl)) dX10_brokenBy_106 ⟨Nat.le_of_ble_eq_true rfl, Nat.le_of_ble_eq_true rfl⟩) hD hS hA (fun r u H locs hp hP hD hS => ?_)
    obtain ⟨c19, c20⟩ := u
    obtain ⟨hP, hD⟩ : va_P G vwCl (wM k ar fi (uF (uF fa 39 (g15)) 40 (c20)) fl) H ∧ va_D A (wM k ar fi (uF (uF fa 39 (g15)) 40 (c20)) fl) := ⟨hP, hD⟩
    obtain ⟨h9, rc19, rc20, hp20⟩ : r = Int32.ofInt c19 ∧ (inR c19) ∧ (∀ t, inR (c20 t)) ∧ ((c19 = 0 ∨ c19 = 1)) := hp
    subst h9
    refine iv_if_ne (tgt := 115) hx hb (by omega) dX10_brokenBy_109 (by decide) (fun q21 => ?_) (fun q21 => ?_)
    · refine lv_iinc (v := Int32.ofInt (x4_16 + 1)) (lv' := [(4, .int (Int32.ofInt ((x4_16 + 1)))), (0, .ref (ar 71)), (1, .ref (ar 32)), (2, .int (Int32.ofInt (b0))), (3, .int (Int32.ofInt (a0)))]) hx hb dX10_brokenBy_115 hl (k := 0) rfl (Int32.ofInt_add _ _).symm (by decide) rfl (fun ls hl => ?_)
      refine lv_goto (tgt := 94) hx hb dX10_brokenBy_118 (by decide) ?_
      have hl : lv_has ls 5 [(4, .int (Int32.ofInt ((x4_16 + 1)))), (0, .ref (ar 71)), (1, .ref (ar 32)), (2, .int (Int32.ofInt (b0))), (3, .int (Int32.ofInt (a0)))] := lv_sub hl [0, 1, 2, 3, 4] rfl
      exact ih ((x4_16 + 1), c20) (show (fi 13 - (x4_16 + 1)).toNat < (fi 13 - x4_16).toNat from by omega) (show inR (x4_16 + 1) ∧ (∀ t, inR (c20 t)) ∧ (0 ≤ (x4_16 + 1)) from ⟨(by omega), rc20, (by omega)⟩) _ _ _ hP hD hS hl
    · refine lv_iload hx hb dX10_brokenBy_112 (lv_at hl 0 rfl) ?_
      exact W.iret (v := Int32.ofInt (x4_16)) hx hb hr (fun t ht hW => ⟨⟨Int32.ofInt (x4_16), (x4_16, g15, c20), rfl, ⟨rfl, (show (inR x4_16) ∧ (∀ t, inR (g15 t)) ∧ (∀ t, inR (c20 t)) ∧ (True) from ⟨(by omega), rg15, rc20, trivial⟩)⟩, by rw [ht]; exact hP, hD⟩, hS.F ht⟩) hS.2.2 dX10_brokenBy_114

