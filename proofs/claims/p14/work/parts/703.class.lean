set_option maxHeartbeats 4000000 in
set_option maxRecDepth 100000 in
theorem mX3_firstStones (l : Launch) (G : va_G) (k : Nat → ClassId) (ar : Nat → Nat) (fi : Nat → Int) (fa : Nat → Int → Int) (s0 : Int) (sz : Nat) (hR : ∀ j, inR (fi j)) (hRa : ∀ j t, inR (fa j t)) (hB8 : bnd (fa 8) 7 0 4) (hB20 : bnd (fa 20) 600 (-1000) 10000) (hB21 : bnd (fa 21) 4 0 601) (hr_s0 : inR s0) (hth : 0 ≤ fi 7 ∧ fi 7 ≤ 7) : CNi l G k (EZ k) yX3_firstStones wzX3_firstStones ({ frames := 0, cells := 0, slots := 0, locals := 0 }) [.ref (ar 99), .int (Int32.ofInt (s0))] sz (wP k ar fi fa) (fun (r0 : Int32) (u : Int) => r0 = Int32.ofInt (u) ∧ (inR u) ∧ (True)) (fun (u : Int) => (wP k ar fi fa)) := by
  refine Met.ofW (cc := cX3_firstStones) (maxL := 5) (ret := (some .int)) (by decide) rfl ?_
  intro p e s m args below meth c s₁ B hml hv
  obtain ⟨rfl, hsz, hP, hX, hD0, hZ0⟩ := hv
  have hx := B.exec
  have hb := B.bytes
  have hr := B.returns
  have hts := atoms_spec (ws := wzX3_firstStones) B.pre
  have hown : s.vm.findClass RX3 = some m.cls := findClass_of_methodNamed B.named
  subst hsz
  have hD := hD0.self (sz := s.heap.size)
  have hZ := hZ0
  generalize hAe : va_A (wP k ar fi fa) s.heap.size = A at hD hZ ⊢
  have hA : ∀ q : Nat, s.heap.size ≤ q → A q := fun q h => by rw [← hAe]; exact Or.inr h
  have hS : va_S A s.heap s.heap [] := va_S.rf
  have hl := lv_entry ([.ref (ar 99), .int (Int32.ofInt (s0))]) (n := 5) (Nat.le_of_ble_eq_true rfl)
  rw [lg_entry_eq]
  generalize (lg_sl ([.ref (ar 99), .int (Int32.ofInt (s0))]) ++ List.replicate (5 - (lg_sl ([.ref (ar 99), .int (Int32.ofInt (s0))])).length) Slot.unset).toArray = ls at hl ⊢
  have hl : lv_has ls 5 [(0, .ref (ar 99)), (1, .int (Int32.ofInt (s0)))] := hl
  obtain ⟨H, eH⟩ : ∃ H, H = s.heap := ⟨_, rfl⟩
  rw [← eH] at hP
  have hS : va_S A s.heap H [] := by rw [eH]; exact hS
  have gW : s.heap = H := eH.symm
  refine iv_heap gW ?_
  have h0w := hts (.fieldLink RX3 59 "RopeTown$Plan" "things" "I") (wz_at 3 1 rfl)
  have h1w : ∀ w ∈ wsX30, w ∈ wzX3_firstStones := fun w h => List.mem_cons_of_mem _ (inlX3 w h)
  have h2w := hts (.fieldLink RX3 9 "RopeTown$Plan" "kind" "[I") (wz_at 1 17 rfl)
  refine lv_iconst (v := Int32.ofInt 0) hx hb dX3_firstStones_0 (by decide +kernel) ?_
  refine lv_istore_n (lv' := [(2, .int (Int32.ofInt (0))), (0, .ref (ar 99)), (1, .int (Int32.ofInt (s0)))]) hx hb dX3_firstStones_1 rfl hl (by decide) rfl (fun ls hl => ?_)
  refine lv_iconst (v := Int32.ofInt 0) hx hb dX3_firstStones_2 (by decide +kernel) ?_
  refine lv_istore_n (lv' := [(3, .int (Int32.ofInt (0))), (2, .int (Int32.ofInt (0))), (0, .ref (ar 99)), (1, .int (Int32.ofInt (s0)))]) hx hb dX3_firstStones_3 rfl hl (by decide) rfl (fun ls hl => ?_)
  refine lv_iconst (v := Int32.ofInt 0) hx hb dX3_firstStones_4 (by decide +kernel) ?_
  refine lv_istore (lv' := [(4, .int (Int32.ofInt (0))), (3, .int (Int32.ofInt (0))), (2, .int (Int32.ofInt (0))), (0, .ref (ar 99)), (1, .int (Int32.ofInt (s0)))]) hx hb dX3_firstStones_5 hl (by decide) rfl (fun ls hl => ?_)
  refine iv_loop (α := Int × Int × Int) (nL := 5) (fun b9 => (wP k ar fi fa)) (fun b9 => [(4, .int (Int32.ofInt (b9.1))), (3, .int (Int32.ofInt (b9.2.1))), (2, .int (Int32.ofInt (b9.2.2))), (0, .ref (ar 99)), (1, .int (Int32.ofInt (s0)))]) (fun b9 => (fi 7 - b9.1).toNat) (fun b9 => inR b9.1 ∧ inR b9.2.1 ∧ inR b9.2.2 ∧ (0 ≤ b9.1 ∧ 0 ≤ b9.2.1 ∧ b9.2.1 ≤ b9.1 ∧ b9.1 ≤ 7)) ?_ (0, 0, 0) (show inR 0 ∧ inR 0 ∧ inR 0 ∧ (0 ≤ 0 ∧ 0 ≤ 0 ∧ 0 ≤ 0 ∧ 0 ≤ 7) from ⟨(by omega), (by omega), (by omega), (by omega)⟩) hP hD hS hl
  rintro ⟨x4_1, x3_2, x2_3⟩ ih hi9 H locs ls hP hD hS hl
  obtain ⟨r_x4_1, r_x3_2, r_x2_3, hinv⟩ : inR x4_1 ∧ inR x3_2 ∧ inR x2_3 ∧ (0 ≤ x4_1 ∧ 0 ≤ x3_2 ∧ x3_2 ≤ x4_1 ∧ x4_1 ≤ 7) := hi9
  obtain ⟨hP, hD⟩ : va_P G vwCl (wP k ar fi fa) H ∧ va_D A (wP k ar fi fa) := ⟨hP, hD⟩
  have hl : lv_has ls 5 [(4, .int (Int32.ofInt (x4_1))), (3, .int (Int32.ofInt (x3_2))), (2, .int (Int32.ofInt (x2_3))), (0, .ref (ar 99)), (1, .int (Int32.ofInt (s0)))] := hl
  refine lv_iload hx hb dX3_firstStones_7 (lv_at hl 0 rfl) ?_
  refine lv_aload_n hx hb dX3_firstStones_9 rfl (lv_at hl 3 rfl) ?_
  refine va_get (D := G) (ci := 2) (v := .int (Int32.ofInt (fi 7))) (C := RX3) (T := TX3) (N := 14) (ref := RX3) hx hb hts h1w hown hX.1 hP 0 rfl rfl 7 (by decide) h0w (fun _ h9 => h9) rfl dX3_firstStones_10 ?_
  have rf7 := hR 7
  refine iv_icmp_ge (tgt := 48) hx hb (by omega) (by omega) dX3_firstStones_13 (by decide) (fun q4 => ?_) (fun q4 => ?_)
  · refine lv_iload_n hx hb dX3_firstStones_48 rfl (lv_at hl 2 rfl) ?_
    exact W.iret (v := Int32.ofInt (x2_3)) hx hb hr (fun t ht hW => ⟨⟨Int32.ofInt (x2_3), (x2_3), rfl, ⟨rfl, (show (inR x2_3) ∧ (True) from ⟨(by omega), trivial⟩)⟩, by rw [ht]; exact hP, hD⟩, hS.F ht⟩) hS.2.2 dX3_firstStones_49
  · refine lv_iload_n hx hb dX3_firstStones_16 rfl (lv_at hl 1 rfl) ?_
    refine lv_iload_n hx hb dX3_firstStones_17 rfl (lv_at hl 4 rfl) ?_
    refine iv_icmp_ge (tgt := 48) hx hb (by omega) (by omega) dX3_firstStones_18 (by decide) (fun q5 => ?_) (fun q5 => ?_)
    · refine lv_iload_n hx hb dX3_firstStones_48 rfl (lv_at hl 2 rfl) ?_
      exact W.iret (v := Int32.ofInt (x2_3)) hx hb hr (fun t ht hW => ⟨⟨Int32.ofInt (x2_3), (x2_3), rfl, ⟨rfl, (show (inR x2_3) ∧ (True) from ⟨(by omega), trivial⟩)⟩, by rw [ht]; exact hP, hD⟩, hS.F ht⟩) hS.2.2 dX3_firstStones_49
    · refine lv_aload_n hx hb dX3_firstStones_21 rfl (lv_at hl 3 rfl) ?_
      refine va_get (D := G) (ci := 2) (v := .ref (ar 8)) (C := RX3) (T := TX3) (N := 14) (ref := RX3) hx hb hts h1w hown hX.1 hP 0 rfl rfl 8 (by decide) h2w (fun _ h9 => h9) rfl dX3_firstStones_22 ?_
      refine lv_iload hx hb dX3_firstStones_25 (lv_at hl 0 rfl) ?_
      refine iv_iald hx hb hX.1 hP 2 0 rfl rfl (by omega) (by omega) (by decide) dX3_firstStones_27 ?_
      refine iv_top (fun z6 ez6 => ?_)
      have rz6 : inR z6 := ez6 ▸ (hRa 8) _
      have ez6 : z6 = (fa 8) x4_1 := ez6
      have bz6 : 0 ≤ z6 ∧ z6 < 4 := by rw [ez6]; exact bnd_at hB8 (by omega) (by omega)
      refine lv_iconst (v := Int32.ofInt 2) hx hb dX3_firstStones_28 (by decide +kernel) ?_
      refine iv_icmp_ne (tgt := 42) hx hb (by omega) (by omega) dX3_firstStones_29 (by decide) (fun q7 => ?_) (fun q7 => ?_)
      · refine lv_iinc (v := Int32.ofInt (x4_1 + 1)) (lv' := [(4, .int (Int32.ofInt ((x4_1 + 1)))), (3, .int (Int32.ofInt (x3_2))), (2, .int (Int32.ofInt (x2_3))), (0, .ref (ar 99)), (1, .int (Int32.ofInt (s0)))]) hx hb dX3_firstStones_42 hl (k := 0) rfl (Int32.ofInt_add _ _).symm (by decide) rfl (fun ls hl => ?_)
        refine lv_goto (tgt := 7) hx hb dX3_firstStones_45 (by decide) ?_
        have hl : lv_has ls 5 [(4, .int (Int32.ofInt ((x4_1 + 1)))), (3, .int (Int32.ofInt (x3_2))), (2, .int (Int32.ofInt (x2_3))), (0, .ref (ar 99)), (1, .int (Int32.ofInt (s0)))] := lv_sub hl [0, 1, 2, 3, 4] rfl
        exact ih ((x4_1 + 1), x3_2, x2_3) (show (fi 7 - (x4_1 + 1)).toNat < (fi 7 - x4_1).toNat from by omega) (show inR (x4_1 + 1) ∧ inR x3_2 ∧ inR x2_3 ∧ (0 ≤ (x4_1 + 1) ∧ 0 ≤ x3_2 ∧ x3_2 ≤ (x4_1 + 1) ∧ (x4_1 + 1) ≤ 7) from ⟨(by omega), (by omega), (by omega), (by omega)⟩) _ _ _ hP hD hS hl
      · refine lv_iload_n hx hb dX3_firstStones_32 rfl (lv_at hl 2 rfl) ?_
        refine lv_iconst (v := Int32.ofInt 1) hx hb dX3_firstStones_33 (by decide +kernel) ?_
        refine lv_iload hx hb dX3_firstStones_34 (lv_at hl 0 rfl) ?_
        refine iv_shl hx hb dX3_firstStones_36 ?_
        refine iv_top (fun z8 ez8 => ?_)
        have rz8 : inR z8 := ez8 ▸ bShl_r _ _
        refine iv_or hx hb dX3_firstStones_37 ?_
        refine iv_top (fun z9 ez9 => ?_)
        have rz9 : inR z9 := ez9 ▸ bOr_r _ _
        refine lv_istore_n (lv' := [(2, .int (Int32.ofInt (z9))), (4, .int (Int32.ofInt (x4_1))), (3, .int (Int32.ofInt (x3_2))), (0, .ref (ar 99)), (1, .int (Int32.ofInt (s0)))]) hx hb dX3_firstStones_38 rfl hl (by decide) rfl (fun ls hl => ?_)
        refine lv_iinc (v := Int32.ofInt (x3_2 + 1)) (lv' := [(3, .int (Int32.ofInt ((x3_2 + 1)))), (2, .int (Int32.ofInt (z9))), (4, .int (Int32.ofInt (x4_1))), (0, .ref (ar 99)), (1, .int (Int32.ofInt (s0)))]) hx hb dX3_firstStones_39 hl (k := 2) rfl (Int32.ofInt_add _ _).symm (by decide) rfl (fun ls hl => ?_)
        refine lv_iinc (v := Int32.ofInt (x4_1 + 1)) (lv' := [(4, .int (Int32.ofInt ((x4_1 + 1)))), (3, .int (Int32.ofInt ((x3_2 + 1)))), (2, .int (Int32.ofInt (z9))), (0, .ref (ar 99)), (1, .int (Int32.ofInt (s0)))]) hx hb dX3_firstStones_42 hl (k := 2) rfl (Int32.ofInt_add _ _).symm (by decide) rfl (fun ls hl => ?_)
        refine lv_goto (tgt := 7) hx hb dX3_firstStones_45 (by decide) ?_
        have hl : lv_has ls 5 [(4, .int (Int32.ofInt ((x4_1 + 1)))), (3, .int (Int32.ofInt ((x3_2 + 1)))), (2, .int (Int32.ofInt (z9))), (0, .ref (ar 99)), (1, .int (Int32.ofInt (s0)))] := lv_sub hl [0, 1, 2, 3, 4] rfl
        exact ih ((x4_1 + 1), (x3_2 + 1), z9) (show (fi 7 - (x4_1 + 1)).toNat < (fi 7 - x4_1).toNat from by omega) (show inR (x4_1 + 1) ∧ inR (x3_2 + 1) ∧ inR z9 ∧ (0 ≤ (x4_1 + 1) ∧ 0 ≤ (x3_2 + 1) ∧ (x3_2 + 1) ≤ (x4_1 + 1) ∧ (x4_1 + 1) ≤ 7) from ⟨(by omega), (by omega), (by omega), (by omega)⟩) _ _ _ hP hD hS hl

set_option maxHeartbeats 4000000 in
set_option maxRecDepth 100000 in
theorem mX3_thingsWithAims (l : Launch) (G : va_G) (k : Nat → ClassId) (ar : Nat → Nat) (fi : Nat → Int) (fa : Nat → Int → Int) (sz : Nat) (hR : ∀ j, inR (fi j)) (hRa : ∀ j t, inR (fa j t)) (hB8 : bnd (fa 8) 7 0 4) (hB20 : bnd (fa 20) 600 (-1000) 10000) (hB21 : bnd (fa 21) 4 0 601) (hth : 0 ≤ fi 7 ∧ fi 7 ≤ 7) : CNi l G k (EZ k) yX3_thingsWithAims wzX3_thingsWithAims ({ frames := 0, cells := 0, slots := 0, locals := 0 }) [.ref (ar 99)] sz (wP k ar fi fa) (fun (r0 : Int32) (u : Int) => r0 = Int32.ofInt (u) ∧ (inR u) ∧ (u = og (am (fa 11)) (fi 7))) (fun (u : Int) => (wP k ar fi fa)) := by
  refine Met.ofW (cc := cX3_thingsWithAims) (maxL := 3) (ret := (some .int)) (by decide) rfl ?_
  intro p e s m args below meth c s₁ B hml hv
  obtain ⟨rfl, hsz, hP, hX, hD0, hZ0⟩ := hv
  have hx := B.exec
  have hb := B.bytes
  have hr := B.returns
  have hts := atoms_spec (ws := wzX3_thingsWithAims) B.pre
  have hown : s.vm.findClass RX3 = some m.cls := findClass_of_methodNamed B.named
  subst hsz
  have hD := hD0.self (sz := s.heap.size)
  have hZ := hZ0
  generalize hAe : va_A (wP k ar fi fa) s.heap.size = A at hD hZ ⊢
  have hA : ∀ q : Nat, s.heap.size ≤ q → A q := fun q h => by rw [← hAe]; exact Or.inr h
  have hS : va_S A s.heap s.heap [] := va_S.rf
  have hl := lv_entry ([.ref (ar 99)]) (n := 3) (Nat.le_of_ble_eq_true rfl)
  rw [lg_entry_eq]
  generalize (lg_sl ([.ref (ar 99)]) ++ List.replicate (3 - (lg_sl ([.ref (ar 99)])).length) Slot.unset).toArray = ls at hl ⊢
  have hl : lv_has ls 3 [(0, .ref (ar 99))] := hl
  obtain ⟨H, eH⟩ : ∃ H, H = s.heap := ⟨_, rfl⟩
  rw [← eH] at hP
  have hS : va_S A s.heap H [] := by rw [eH]; exact hS
  have gW : s.heap = H := eH.symm
  refine iv_heap gW ?_
  have h0w := hts (.fieldLink RX3 59 "RopeTown$Plan" "things" "I") (wz_at 3 1 rfl)
  have h1w : ∀ w ∈ wsX30, w ∈ wzX3_thingsWithAims := fun w h => List.mem_cons_of_mem _ (inlX3 w h)
  have h2w := hts (.fieldLink RX3 21 "RopeTown$Plan" "aim" "[I") (wz_at 1 20 rfl)
  refine lv_iconst (v := Int32.ofInt 0) hx hb dX3_thingsWithAims_0 (by decide +kernel) ?_
  refine lv_istore_n (lv' := [(1, .int (Int32.ofInt (0))), (0, .ref (ar 99))]) hx hb dX3_thingsWithAims_1 rfl hl (by decide) rfl (fun ls hl => ?_)
  refine lv_iconst (v := Int32.ofInt 0) hx hb dX3_thingsWithAims_2 (by decide +kernel) ?_
  refine lv_istore_n (lv' := [(2, .int (Int32.ofInt (0))), (1, .int (Int32.ofInt (0))), (0, .ref (ar 99))]) hx hb dX3_thingsWithAims_3 rfl hl (by decide) rfl (fun ls hl => ?_)
  refine iv_loop (α := Int × Int) (nL := 3) (fun b9 => (wP k ar fi fa)) (fun b9 => [(2, .int (Int32.ofInt (b9.1))), (1, .int (Int32.ofInt (b9.2))), (0, .ref (ar 99))]) (fun b9 => (fi 7 - b9.1).toNat) (fun b9 => inR b9.1 ∧ inR b9.2 ∧ ((0 ≤ b9.1 ∧ b9.1 ≤ fi 7) ∧ b9.2 = og (am (fa 11)) b9.1)) ?_ (0, 0) (show inR 0 ∧ inR 0 ∧ ((0 ≤ 0 ∧ 0 ≤ fi 7) ∧ 0 = og (am (fa 11)) 0) from ⟨(by omega), (by omega), (by exact ⟨by omega, og_0 rfl (by omega)⟩)⟩) hP hD hS hl
  rintro ⟨x2_1, x1_2⟩ ih hi9 H locs ls hP hD hS hl
  obtain ⟨r_x2_1, r_x1_2, hinv⟩ : inR x2_1 ∧ inR x1_2 ∧ ((0 ≤ x2_1 ∧ x2_1 ≤ fi 7) ∧ x1_2 = og (am (fa 11)) x2_1) := hi9
  obtain ⟨hJ1, hJ2⟩ := hinv
  obtain ⟨hP, hD⟩ : va_P G vwCl (wP k ar fi fa) H ∧ va_D A (wP k ar fi fa) := ⟨hP, hD⟩
  have hl : lv_has ls 3 [(2, .int (Int32.ofInt (x2_1))), (1, .int (Int32.ofInt (x1_2))), (0, .ref (ar 99))] := hl
  refine lv_iload_n hx hb dX3_thingsWithAims_4 rfl (lv_at hl 0 rfl) ?_
  refine lv_aload_n hx hb dX3_thingsWithAims_5 rfl (lv_at hl 2 rfl) ?_
  refine va_get (D := G) (ci := 2) (v := .int (Int32.ofInt (fi 7))) (C := RX3) (T := TX3) (N := 14) (ref := RX3) hx hb hts h1w hown hX.1 hP 0 rfl rfl 7 (by decide) h0w (fun _ h9 => h9) rfl dX3_thingsWithAims_6 ?_
  have rf7 := hR 7
  refine iv_icmp_ge (tgt := 38) hx hb (by omega) (by omega) dX3_thingsWithAims_9 (by decide) (fun q3 => ?_) (fun q3 => ?_)
  · refine lv_iload_n hx hb dX3_thingsWithAims_38 rfl (lv_at hl 1 rfl) ?_
    exact W.iret (v := Int32.ofInt (x1_2)) hx hb hr (fun t ht hW => ⟨⟨Int32.ofInt (x1_2), (x1_2), rfl, ⟨rfl, (show (inR x1_2) ∧ (x1_2 = og (am (fa 11)) (fi 7)) from ⟨(by omega), (by rw [show fi 7 = x2_1 by omega]; exact hJ2)⟩)⟩, by rw [ht]; exact hP, hD⟩, hS.F ht⟩) hS.2.2 dX3_thingsWithAims_39
  · refine lv_iload_n hx hb dX3_thingsWithAims_12 rfl (lv_at hl 1 rfl) ?_
    refine lv_aload_n hx hb dX3_thingsWithAims_13 rfl (lv_at hl 2 rfl) ?_
    refine va_get (D := G) (ci := 2) (v := .ref (ar 11)) (C := RX3) (T := TX3) (N := 14) (ref := RX3) hx hb hts h1w hown hX.1 hP 0 rfl rfl 11 (by decide) h2w (fun _ h9 => h9) rfl dX3_thingsWithAims_14 ?_
    refine lv_iload_n hx hb dX3_thingsWithAims_17 rfl (lv_at hl 0 rfl) ?_
    refine iv_iald hx hb hX.1 hP 5 0 rfl rfl (by omega) (by omega) (by decide) dX3_thingsWithAims_18 ?_
    refine iv_top (fun z4 ez4 => ?_)
    have rz4 : inR z4 := ez4 ▸ (hRa 11) _
    have ez4 : z4 = (fa 11) x2_1 := ez4
    refine lv_iconst (v := Int32.ofInt (-1)) hx hb dX3_thingsWithAims_19 (by decide +kernel) ?_
    refine iv_icmp_ne (tgt := 27) hx hb (by omega) (by omega) dX3_thingsWithAims_20 (by decide) (fun q5 => ?_) (fun q5 => ?_)
    · refine lv_iconst (v := Int32.ofInt 1) hx hb dX3_thingsWithAims_27 (by decide +kernel) ?_
      refine lv_iload_n hx hb dX3_thingsWithAims_28 rfl (lv_at hl 0 rfl) ?_
      refine iv_shl hx hb dX3_thingsWithAims_29 ?_
      refine iv_top (fun z6 ez6 => ?_)
      have rz6 : inR z6 := ez6 ▸ bShl_r _ _
      first | have hsh9 := ez6 | skip
      refine iv_or hx hb dX3_thingsWithAims_30 ?_
      refine iv_top (fun z7 ez7 => ?_)
      have rz7 : inR z7 := ez7 ▸ bOr_r _ _
      have hO9 := ez7
      refine lv_istore_n (lv' := [(1, .int (Int32.ofInt (z7))), (2, .int (Int32.ofInt (x2_1))), (0, .ref (ar 99))]) hx hb dX3_thingsWithAims_31 rfl hl (by decide) rfl (fun ls hl => ?_)
      refine lv_iinc (v := Int32.ofInt (x2_1 + 1)) (lv' := [(2, .int (Int32.ofInt ((x2_1 + 1)))), (1, .int (Int32.ofInt (z7))), (0, .ref (ar 99))]) hx hb dX3_thingsWithAims_32 hl (k := 1) rfl (Int32.ofInt_add _ _).symm (by decide) rfl (fun ls hl => ?_)
      refine lv_goto (tgt := 4) hx hb dX3_thingsWithAims_35 (by decide) ?_
      have hl : lv_has ls 3 [(2, .int (Int32.ofInt ((x2_1 + 1)))), (1, .int (Int32.ofInt (z7))), (0, .ref (ar 99))] := lv_sub hl [0, 1, 2] rfl
      exact ih ((x2_1 + 1), z7) (show (fi 7 - (x2_1 + 1)).toNat < (fi 7 - x2_1).toNat from by omega) (show inR (x2_1 + 1) ∧ inR z7 ∧ ((0 ≤ (x2_1 + 1) ∧ (x2_1 + 1) ≤ fi 7) ∧ z7 = og (am (fa 11)) (x2_1 + 1)) from ⟨(by omega), (by omega), (by first | exact ⟨by omega, og_s hJ2 (by omega) (amk_y (A := fa 11) (by omega) hsh9) hO9 rfl⟩ | exact ⟨by omega, og_s hJ2 (by omega) (amk_z (A := fa 11) (by omega) rfl) hO9 rfl⟩)⟩) _ _ _ hP hD hS hl
    · refine lv_iconst (v := Int32.ofInt 0) hx hb dX3_thingsWithAims_23 (by decide +kernel) ?_
      refine lv_goto (tgt := 30) hx hb dX3_thingsWithAims_24 (by decide) ?_
      first | have hsh9 := e0 | skip
      refine iv_or hx hb dX3_thingsWithAims_30 ?_
      refine iv_top (fun z8 ez8 => ?_)
      have rz8 : inR z8 := ez8 ▸ bOr_r _ _
      have hO9 := ez8
      refine lv_istore_n (lv' := [(1, .int (Int32.ofInt (z8))), (2, .int (Int32.ofInt (x2_1))), (0, .ref (ar 99))]) hx hb dX3_thingsWithAims_31 rfl hl (by decide) rfl (fun ls hl => ?_)
      refine lv_iinc (v := Int32.ofInt (x2_1 + 1)) (lv' := [(2, .int (Int32.ofInt ((x2_1 + 1)))), (1, .int (Int32.ofInt (z8))), (0, .ref (ar 99))]) hx hb dX3_thingsWithAims_32 hl (k := 1) rfl (Int32.ofInt_add _ _).symm (by decide) rfl (fun ls hl => ?_)
      refine lv_goto (tgt := 4) hx hb dX3_thingsWithAims_35 (by decide) ?_
      have hl : lv_has ls 3 [(2, .int (Int32.ofInt ((x2_1 + 1)))), (1, .int (Int32.ofInt (z8))), (0, .ref (ar 99))] := lv_sub hl [0, 1, 2] rfl
      exact ih ((x2_1 + 1), z8) (show (fi 7 - (x2_1 + 1)).toNat < (fi 7 - x2_1).toNat from by omega) (show inR (x2_1 + 1) ∧ inR z8 ∧ ((0 ≤ (x2_1 + 1) ∧ (x2_1 + 1) ≤ fi 7) ∧ z8 = og (am (fa 11)) (x2_1 + 1)) from ⟨(by omega), (by omega), (by first | exact ⟨by omega, og_s hJ2 (by omega) (amk_y (A := fa 11) (by omega) hsh9) hO9 rfl⟩ | exact ⟨by omega, og_s hJ2 (by omega) (amk_z (A := fa 11) (by omega) rfl) hO9 rfl⟩)⟩) _ _ _ hP hD hS hl

set_option maxHeartbeats 4000000 in
set_option maxRecDepth 100000 in
theorem mX3_bucketDepth (l : Launch) (G : va_G) (k : Nat → ClassId) (ar : Nat → Nat) (fi : Nat → Int) (fa : Nat → Int → Int) (s0 : Int) (b0 : Int) (sz : Nat) (hR : ∀ j, inR (fi j)) (hRa : ∀ j t, inR (fa j t)) (hB8 : bnd (fa 8) 7 0 4) (hB20 : bnd (fa 20) 600 (-1000) 10000) (hB21 : bnd (fa 21) 4 0 601) (hr_s0 : inR s0) (hr_b0 : inR b0) (hbt : 0 ≤ fi 0 ∧ fi 0 ≤ 11) : CNi l G k (EZ k) yX3_bucketDepth wzX3_bucketDepth ({ frames := 1, cells := 0, slots := 0, locals := 20 }) [.ref (ar 99), .int (Int32.ofInt (s0)), .int (Int32.ofInt (b0))] sz (wP k ar fi fa) (fun (r0 : Int32) (u : Int) => r0 = Int32.ofInt (u) ∧ (inR u) ∧ (u = buD b0 (dp s0) (fi 0) ∧ -15 ≤ u ∧ u ≤ 15)) (fun (u : Int) => (wP k ar fi fa)) := by
  refine Met.ofW (cc := cX3_bucketDepth) (maxL := 3) (ret := (some .int)) (by decide) rfl ?_
  intro p e s m args below meth c s₁ B hml hv
  obtain ⟨rfl, hsz, hP, hX, hD0, hZ0⟩ := hv
  have hx := B.exec
  have hb := B.bytes
  have hr := B.returns
  have hts := atoms_spec (ws := wzX3_bucketDepth) B.pre
  have hown : s.vm.findClass RX3 = some m.cls := findClass_of_methodNamed B.named
  subst hsz
  have hD := hD0.self (sz := s.heap.size)
  have hZ := hZ0
  generalize hAe : va_A (wP k ar fi fa) s.heap.size = A at hD hZ ⊢
  have hA : ∀ q : Nat, s.heap.size ≤ q → A q := fun q h => by rw [← hAe]; exact Or.inr h
  have hS : va_S A s.heap s.heap [] := va_S.rf
  have hl := lv_entry ([.ref (ar 99), .int (Int32.ofInt (s0)), .int (Int32.ofInt (b0))]) (n := 3) (Nat.le_of_ble_eq_true rfl)
  rw [lg_entry_eq]
  generalize (lg_sl ([.ref (ar 99), .int (Int32.ofInt (s0)), .int (Int32.ofInt (b0))]) ++ List.replicate (3 - (lg_sl ([.ref (ar 99), .int (Int32.ofInt (s0)), .int (Int32.ofInt (b0))])).length) Slot.unset).toArray = ls at hl ⊢
  have hl : lv_has ls 3 [(0, .ref (ar 99)), (1, .int (Int32.ofInt (s0))), (2, .int (Int32.ofInt (b0)))] := hl
  obtain ⟨H, eH⟩ : ∃ H, H = s.heap := ⟨_, rfl⟩
  rw [← eH] at hP
  have hS : va_S A s.heap H [] := by rw [eH]; exact hS
  have gW : s.heap = H := eH.symm
  refine iv_heap gW ?_
  have h0w := hts (.fieldLink RX3 37 "RopeTown$Plan" "bottom" "I") (wz_at 2 18 rfl)
  have h1w : ∀ w ∈ wsX30, w ∈ wzX3_bucketDepth := fun w h => List.mem_cons_of_mem _ (inlX3 w h)
  have h2w := hts (.initialized RX7) (wz_at 5 10 rfl)
  have h3w := hts (.static yX7_depth) (wz_at 22 12 rfl)
  refine lv_iload_n hx hb dX3_bucketDepth_0 rfl (lv_at hl 2 rfl) ?_
  refine iv_if_ne (tgt := 11) hx hb (by omega) dX3_bucketDepth_1 (by decide) (fun q1 => ?_) (fun q1 => ?_)
  · refine lv_aload_n hx hb dX3_bucketDepth_11 rfl (lv_at hl 0 rfl) ?_
    refine va_get (D := G) (ci := 2) (v := .int (Int32.ofInt (fi 0))) (C := RX3) (T := TX3) (N := 14) (ref := RX3) hx hb hts h1w hown hX.1 hP 0 rfl rfl 0 (by decide) h0w (fun _ h9 => h9) rfl dX3_bucketDepth_12 ?_
    have rf0 := hR 0
    refine lv_iload_n hx hb dX3_bucketDepth_15 rfl (lv_at hl 1 rfl) ?_
    refine c0_i (va_runSN (As := [.int (Int32.ofInt (s0))]) (rest := [.int (Int32.ofInt (fi 0))]) ⟨hx, hb, hml, hown, hts⟩ (mX7_depth l G k s0 H.size (by omega)) ⟨va_cnB 1 hts (gz [] (.code yX7_depth cX7_depth 1 (some .int)) [(22, 13)] rfl) rfl rfl rfl (nm_13 hX.2.2.1) h2w (by decide +kernel) ⟨Nat.le_of_ble_eq_true rfl, Nat.le_of_ble_eq_true rfl⟩, h3w, trivial⟩ (cr_pre0 (EZ_ok k) hZ hS hX hP hD hA) rfl rfl hl.1 rfl (lv_room (Nat.le_of_ble_eq_true rfl)) dX3_bucketDepth_16 ⟨Nat.le_of_ble_eq_true rfl, Nat.le_of_ble_eq_true rfl⟩) hP hD hS hA (fun r u H locs hp hP hD hS => ?_)
    obtain ⟨c2, rfl⟩ : ∃ z, z = u := ⟨_, rfl⟩
    obtain ⟨h9, rc2, hp2⟩ : r = Int32.ofInt c2 ∧ (inR c2) ∧ (c2 = dp s0 ∧ 0 ≤ c2 ∧ c2 ≤ 15) := hp
    subst h9
    have hDp16 := hp2.1
    refine iv_sub (x := fi 0) (y := c2) hx hb dX3_bucketDepth_19 ?_
    exact W.iret (v := Int32.ofInt ((fi 0 - c2))) hx hb hr (fun t ht hW => ⟨⟨Int32.ofInt ((fi 0 - c2)), ((fi 0 - c2)), rfl, ⟨rfl, (show (inR (fi 0 - c2)) ∧ ((fi 0 - c2) = buD b0 (dp s0) (fi 0) ∧ -15 ≤ (fi 0 - c2) ∧ (fi 0 - c2) ≤ 15) from ⟨(by omega), (by first | exact ⟨buD_y (by omega) (by omega), by omega⟩ | exact ⟨buD_m (by omega) rfl rfl (by omega) ⟨by omega, by omega⟩, by omega⟩)⟩)⟩, by rw [ht]; exact hP, hD⟩, hS.F ht⟩) hS.2.2 dX3_bucketDepth_20
  · refine lv_iload_n hx hb dX3_bucketDepth_4 rfl (lv_at hl 1 rfl) ?_
    refine c0_i (va_runSN (As := [.int (Int32.ofInt (s0))]) (rest := []) ⟨hx, hb, hml, hown, hts⟩ (mX7_depth l G k s0 H.size (by omega)) ⟨va_cnB 1 hts (gz [] (.code yX7_depth cX7_depth 1 (some .int)) [(22, 13)] rfl) rfl rfl rfl (nm_13 hX.2.2.1) h2w (by decide +kernel) ⟨Nat.le_of_ble_eq_true rfl, Nat.le_of_ble_eq_true rfl⟩, h3w, trivial⟩ (cr_pre0 (EZ_ok k) hZ hS hX hP hD hA) rfl rfl hl.1 rfl (lv_room (Nat.le_of_ble_eq_true rfl)) dX3_bucketDepth_5 ⟨Nat.le_of_ble_eq_true rfl, Nat.le_of_ble_eq_true rfl⟩) hP hD hS hA (fun r u H locs hp hP hD hS => ?_)
    obtain ⟨c3, rfl⟩ : ∃ z, z = u := ⟨_, rfl⟩
    obtain ⟨h9, rc3, hp3⟩ : r = Int32.ofInt c3 ∧ (inR c3) ∧ (c3 = dp s0 ∧ 0 ≤ c3 ∧ c3 ≤ 15) := hp
    subst h9
    have hDp5 := hp3.1
    refine lv_goto (tgt := 20) hx hb dX3_bucketDepth_8 (by decide) ?_
    exact W.iret (v := Int32.ofInt (c3)) hx hb hr (fun t ht hW => ⟨⟨Int32.ofInt (c3), (c3), rfl, ⟨rfl, (show (inR c3) ∧ (c3 = buD b0 (dp s0) (fi 0) ∧ -15 ≤ c3 ∧ c3 ≤ 15) from ⟨(by omega), (by first | exact ⟨buD_y (by omega) (by omega), by omega⟩ | exact ⟨buD_m (by omega) rfl rfl (by omega) ⟨by omega, by omega⟩, by omega⟩)⟩)⟩, by rw [ht]; exact hP, hD⟩, hS.F ht⟩) hS.2.2 dX3_bucketDepth_20

set_option maxHeartbeats 4000000 in
set_option maxRecDepth 100000 in
theorem mX3_thingDepth (l : Launch) (G : va_G) (k : Nat → ClassId) (ar : Nat → Nat) (fi : Nat → Int) (fa : Nat → Int → Int) (s0 : Int) (t0 : Int) (sz : Nat) (hR : ∀ j, inR (fi j)) (hRa : ∀ j t, inR (fa j t)) (hB8 : bnd (fa 8) 7 0 4) (hB20 : bnd (fa 20) 600 (-1000) 10000) (hB21 : bnd (fa 21) 4 0 601) (hr_s0 : inR s0) (hr_t0 : inR t0) (hbt : 0 ≤ fi 0 ∧ fi 0 ≤ 11) : CNi l G k (EZ k) yX3_thingDepth wzX3_thingDepth ({ frames := 2, cells := 0, slots := 0, locals := 42 }) [.ref (ar 99), .int (Int32.ofInt (s0)), .int (Int32.ofInt (t0))] sz (wP k ar fi fa) (fun (r0 : Int32) (u : Int) => r0 = Int32.ofInt (u) ∧ (inR u) ∧ (u = thD (nb s0 t0) (dp s0) (fi 0) ∧ -15 ≤ u ∧ u ≤ 15)) (fun (u : Int) => (wP k ar fi fa)) := by
  refine Met.ofW (cc := cX3_thingDepth) (maxL := 4) (ret := (some .int)) (by decide) rfl ?_
  intro p e s m args below meth c s₁ B hml hv
  obtain ⟨rfl, hsz, hP, hX, hD0, hZ0⟩ := hv
  have hx := B.exec
  have hb := B.bytes
  have hr := B.returns
  have hts := atoms_spec (ws := wzX3_thingDepth) B.pre
  have hown : s.vm.findClass RX3 = some m.cls := findClass_of_methodNamed B.named
  subst hsz
  have hD := hD0.self (sz := s.heap.size)
  have hZ := hZ0
  generalize hAe : va_A (wP k ar fi fa) s.heap.size = A at hD hZ ⊢
  have hA : ∀ q : Nat, s.heap.size ≤ q → A q := fun q h => by rw [← hAe]; exact Or.inr h
  have hS : va_S A s.heap s.heap [] := va_S.rf
  have hl := lv_entry ([.ref (ar 99), .int (Int32.ofInt (s0)), .int (Int32.ofInt (t0))]) (n := 4) (Nat.le_of_ble_eq_true rfl)
  rw [lg_entry_eq]
  generalize (lg_sl ([.ref (ar 99), .int (Int32.ofInt (s0)), .int (Int32.ofInt (t0))]) ++ List.replicate (4 - (lg_sl ([.ref (ar 99), .int (Int32.ofInt (s0)), .int (Int32.ofInt (t0))])).length) Slot.unset).toArray = ls at hl ⊢
  have hl : lv_has ls 4 [(0, .ref (ar 99)), (1, .int (Int32.ofInt (s0))), (2, .int (Int32.ofInt (t0)))] := hl
  obtain ⟨H, eH⟩ : ∃ H, H = s.heap := ⟨_, rfl⟩
  rw [← eH] at hP
  have hS : va_S A s.heap H [] := by rw [eH]; exact hS
  have gW : s.heap = H := eH.symm
  refine iv_heap gW ?_
  have h0w := hts (.initialized RX7) (wz_at 5 10 rfl)
  have h1w := hts (.static yX7_place) (wz_at 23 11 rfl)
  refine lv_iload_n hx hb dX3_thingDepth_0 rfl (lv_at hl 1 rfl) ?_
  refine lv_iload_n hx hb dX3_thingDepth_1 rfl (lv_at hl 2 rfl) ?_
  refine c0_i (va_runSN (As := [.int (Int32.ofInt (s0)), .int (Int32.ofInt (t0))]) (rest := []) ⟨hx, hb, hml, hown, hts⟩ (mX7_place l G k s0 t0 H.size (by omega) (by omega)) ⟨va_cnB 2 hts (gz [] (.code yX7_place cX7_place 2 (some .int)) [(23, 12)] rfl) rfl rfl rfl (nm_12 hX.2.2.1) h0w (by decide +kernel) ⟨Nat.le_of_ble_eq_true rfl, Nat.le_of_ble_eq_true rfl⟩, h1w, trivial⟩ (cr_pre0 (EZ_ok k) hZ hS hX hP hD hA) rfl rfl hl.1 rfl (lv_room (Nat.le_of_ble_eq_true rfl)) dX3_thingDepth_2 ⟨Nat.le_of_ble_eq_true rfl, Nat.le_of_ble_eq_true rfl⟩) hP hD hS hA (fun r u H locs hp hP hD hS => ?_)
  obtain ⟨c1, rfl⟩ : ∃ z, z = u := ⟨_, rfl⟩
  obtain ⟨h9, rc1, hp1⟩ : r = Int32.ofInt c1 ∧ (inR c1) ∧ (c1 = nb s0 t0 ∧ 0 ≤ c1 ∧ c1 ≤ 15) := hp
  subst h9
  have hPl2 := hp1.1
  refine lv_istore_n (lv' := [(3, .int (Int32.ofInt (c1))), (0, .ref (ar 99)), (1, .int (Int32.ofInt (s0))), (2, .int (Int32.ofInt (t0)))]) hx hb dX3_thingDepth_5 rfl hl (by decide) rfl (fun ls hl => ?_)
  refine lv_iload_n hx hb dX3_thingDepth_6 rfl (lv_at hl 0 rfl) ?_
  refine lv_bipush (v := Int32.ofInt 12) hx hb dX3_thingDepth_7 (by decide +kernel) ?_
  refine iv_icmp_ge (tgt := 14) hx hb (by omega) (by omega) dX3_thingDepth_9 (by decide) (fun q2 => ?_) (fun q2 => ?_)
  · refine lv_iload_n hx hb dX3_thingDepth_14 rfl (lv_at hl 0 rfl) ?_
    refine lv_bipush (v := Int32.ofInt 14) hx hb dX3_thingDepth_15 (by decide +kernel) ?_
    refine iv_icmp_ge (tgt := 32) hx hb (by omega) (by omega) dX3_thingDepth_17 (by decide) (fun q3 => ?_) (fun q3 => ?_)
    · refine lv_iconst (v := Int32.ofInt (-1)) hx hb dX3_thingDepth_32 (by decide +kernel) ?_
      exact W.iret (v := Int32.ofInt ((-1))) hx hb hr (fun t ht hW => ⟨⟨Int32.ofInt ((-1)), ((-1)), rfl, ⟨rfl, (show (inR (-1)) ∧ ((-1) = thD (nb s0 t0) (dp s0) (fi 0) ∧ -15 ≤ (-1) ∧ (-1) ≤ 15) from ⟨(by omega), (by exact ⟨by rw [← hPl2]; unfold thD; omega, by omega⟩)⟩)⟩, by rw [ht]; exact hP, hD⟩, hS.F ht⟩) hS.2.2 dX3_thingDepth_33
    · refine lv_aload_n hx hb dX3_thingDepth_20 rfl (lv_at hl 1 rfl) ?_
      refine lv_iload_n hx hb dX3_thingDepth_21 rfl (lv_at hl 2 rfl) ?_
      refine lv_iload_n hx hb dX3_thingDepth_22 rfl (lv_at hl 0 rfl) ?_
      refine lv_bipush (v := Int32.ofInt 12) hx hb dX3_thingDepth_23 (by decide +kernel) ?_
      refine iv_sub (x := c1) (y := 12) hx hb dX3_thingDepth_25 ?_
      refine cr_i (va_runV (As := [.int (Int32.ofInt (s0)), .int (Int32.ofInt ((c1 - 12)))]) (rest := []) ⟨hx, hb, hml, hown, hts⟩ (mX3_bucketDepth l G k ar fi fa s0 (c1 - 12) H.size hR hRa hB8 hB20 hB21 (by omega) (by omega) (show 0 ≤ (fi 0) ∧ (fi 0) ≤ 11 from by omega)) (cwV 2 hts (gz [.methodLink RX3 81 yX3_bucketDepth, .instanceMethod yX3_bucketDepth, .selects RX3 yX3_bucketDepth yX3_bucketDepth, .initialized RX3] (.code yX3_bucketDepth cX3_bucketDepth 3 (some .int)) [(23, 13), (23, 14), (23, 15), (0, 19), (23, 16)] rfl) rfl rfl rfl (by decide +kernel) ⟨Nat.le_of_ble_eq_true rfl, Nat.le_of_ble_eq_true rfl⟩) (cr_preV (EZ_ok k) hZ hS hX hP hD hA (ci := 2) (q0 := 0) rfl rfl) rfl rfl hl.1 rfl (lv_room (Nat.le_of_ble_eq_true rfl)) dX3_thingDepth_26 ⟨Nat.le_of_ble_eq_true rfl, Nat.le_of_ble_eq_true rfl⟩) hD hS hA (fun r u H locs hp hP hD hS => ?_)
      obtain ⟨c4, rfl⟩ : ∃ z, z = u := ⟨_, rfl⟩
      obtain ⟨h9, rc4, hp4⟩ : r = Int32.ofInt c4 ∧ (inR c4) ∧ (c4 = buD (c1 - 12) (dp s0) ((fi 0)) ∧ -15 ≤ c4 ∧ c4 ≤ 15) := hp
      subst h9
      have hBu26 := hp4.1
      refine lv_goto (tgt := 33) hx hb dX3_thingDepth_29 (by decide) ?_
      exact W.iret (v := Int32.ofInt (c4)) hx hb hr (fun t ht hW => ⟨⟨Int32.ofInt (c4), (c4), rfl, ⟨rfl, (show (inR c4) ∧ (c4 = thD (nb s0 t0) (dp s0) (fi 0) ∧ -15 ≤ c4 ∧ c4 ≤ 15) from ⟨(by omega), (by exact ⟨by rw [← hPl2]; unfold thD; omega, by omega⟩)⟩)⟩, by rw [ht]; exact hP, hD⟩, hS.F ht⟩) hS.2.2 dX3_thingDepth_33
  · refine lv_iload_n hx hb dX3_thingDepth_12 rfl (lv_at hl 0 rfl) ?_
    exact W.iret (v := Int32.ofInt (c1)) hx hb hr (fun t ht hW => ⟨⟨Int32.ofInt (c1), (c1), rfl, ⟨rfl, (show (inR c1) ∧ (c1 = thD (nb s0 t0) (dp s0) (fi 0) ∧ -15 ≤ c1 ∧ c1 ≤ 15) from ⟨(by omega), (by exact ⟨by rw [← hPl2]; unfold thD; omega, by omega⟩)⟩)⟩, by rw [ht]; exact hP, hD⟩, hS.F ht⟩) hS.2.2 dX3_thingDepth_13

set_option maxHeartbeats 4000000 in
set_option maxRecDepth 100000 in
theorem mX3_weightIn (l : Launch) (G : va_G) (k : Nat → ClassId) (ar : Nat → Nat) (fi : Nat → Int) (fa : Nat → Int → Int) (s0 : Int) (b0 : Int) (sz : Nat) (hR : ∀ j, inR (fi j)) (hRa : ∀ j t, inR (fa j t)) (hB8 : bnd (fa 8) 7 0 4) (hB20 : bnd (fa 20) 600 (-1000) 10000) (hB21 : bnd (fa 21) 4 0 601) (hr_s0 : inR s0) (hr_b0 : inR b0) (hth : 0 ≤ fi 7 ∧ fi 7 ≤ 7) (hb : b0 = 0 ∨ b0 = 1) : CNi l G k (EZ k) yX3_weightIn wzX3_weightIn ({ frames := 1, cells := 0, slots := 0, locals := 21 }) [.ref (ar 99), .int (Int32.ofInt (s0)), .int (Int32.ofInt (b0))] sz (wP k ar fi fa) (fun (r0 : Int32) (u : Int) => r0 = Int32.ofInt (u) ∧ (inR u) ∧ (u = (gs (lc (nb s0) (fa 9) b0) (fi 7)))) (fun (u : Int) => (wP k ar fi fa)) := by
  refine Met.ofW (cc := cX3_weightIn) (maxL := 5) (ret := (some .int)) (by decide) rfl ?_
  intro p e s m args below meth c s₁ B hml hv
  obtain ⟨rfl, hsz, hP, hX, hD0, hZ0⟩ := hv
  have hx := B.exec
  have hb := B.bytes
  have hr := B.returns
  have hts := atoms_spec (ws := wzX3_weightIn) B.pre
  have hown : s.vm.findClass RX3 = some m.cls := findClass_of_methodNamed B.named
  subst hsz
  have hD := hD0.self (sz := s.heap.size)
  have hZ := hZ0
  generalize hAe : va_A (wP k ar fi fa) s.heap.size = A at hD hZ ⊢
  have hA : ∀ q : Nat, s.heap.size ≤ q → A q := fun q h => by rw [← hAe]; exact Or.inr h
  have hS : va_S A s.heap s.heap [] := va_S.rf
  have hl := lv_entry ([.ref (ar 99), .int (Int32.ofInt (s0)), .int (Int32.ofInt (b0))]) (n := 5) (Nat.le_of_ble_eq_true rfl)
  rw [lg_entry_eq]
  generalize (lg_sl ([.ref (ar 99), .int (Int32.ofInt (s0)), .int (Int32.ofInt (b0))]) ++ List.replicate (5 - (lg_sl ([.ref (ar 99), .int (Int32.ofInt (s0)), .int (Int32.ofInt (b0))])).length) Slot.unset).toArray = ls at hl ⊢
  have hl : lv_has ls 5 [(0, .ref (ar 99)), (1, .int (Int32.ofInt (s0))), (2, .int (Int32.ofInt (b0)))] := hl
  obtain ⟨H, eH⟩ : ∃ H, H = s.heap := ⟨_, rfl⟩
  rw [← eH] at hP
  have hS : va_S A s.heap H [] := by rw [eH]; exact hS
  have gW : s.heap = H := eH.symm
  refine iv_heap gW ?_
  have h0w := hts (.fieldLink RX3 59 "RopeTown$Plan" "things" "I") (wz_at 3 1 rfl)
  have h1w : ∀ w ∈ wsX30, w ∈ wzX3_weightIn := fun w h => List.mem_cons_of_mem _ (inlX3 w h)
  have h2w := hts (.initialized RX7) (wz_at 5 10 rfl)
  have h3w := hts (.static yX7_place) (wz_at 23 11 rfl)
  have h4w := hts (.fieldLink RX3 15 "RopeTown$Plan" "weight" "[I") (wz_at 1 18 rfl)
  refine lv_iconst (v := Int32.ofInt 0) hx hb dX3_weightIn_0 (by decide +kernel) ?_
  refine lv_istore_n (lv' := [(3, .int (Int32.ofInt (0))), (0, .ref (ar 99)), (1, .int (Int32.ofInt (s0))), (2, .int (Int32.ofInt (b0)))]) hx hb dX3_weightIn_1 rfl hl (by decide) rfl (fun ls hl => ?_)
  refine lv_iconst (v := Int32.ofInt 0) hx hb dX3_weightIn_2 (by decide +kernel) ?_
  refine lv_istore (lv' := [(4, .int (Int32.ofInt (0))), (3, .int (Int32.ofInt (0))), (0, .ref (ar 99)), (1, .int (Int32.ofInt (s0))), (2, .int (Int32.ofInt (b0)))]) hx hb dX3_weightIn_3 hl (by decide) rfl (fun ls hl => ?_)
  refine iv_loop (α := Int × Int) (nL := 5) (fun b9 => (wP k ar fi fa)) (fun b9 => [(4, .int (Int32.ofInt (b9.1))), (3, .int (Int32.ofInt (b9.2))), (0, .ref (ar 99)), (1, .int (Int32.ofInt (s0))), (2, .int (Int32.ofInt (b0)))]) (fun b9 => (fi 7 - b9.1).toNat) (fun b9 => inR b9.1 ∧ inR b9.2 ∧ ((0 ≤ b9.1 ∧ b9.1 ≤ fi 7) ∧ b9.2 = gs (lc (nb s0) (fa 9) b0) b9.1)) ?_ (0, 0) (show inR 0 ∧ inR 0 ∧ ((0 ≤ 0 ∧ 0 ≤ fi 7) ∧ 0 = gs (lc (nb s0) (fa 9) b0) 0) from ⟨(by omega), (by omega), (by exact ⟨by omega, gs_0 rfl (by omega)⟩)⟩) hP hD hS hl
  rintro ⟨x4_1, x3_2⟩ ih hi9 H locs ls hP hD hS hl
  obtain ⟨r_x4_1, r_x3_2, hinv⟩ : inR x4_1 ∧ inR x3_2 ∧ ((0 ≤ x4_1 ∧ x4_1 ≤ fi 7) ∧ x3_2 = gs (lc (nb s0) (fa 9) b0) x4_1) := hi9
  obtain ⟨hJ1, hJ2⟩ := hinv
  obtain ⟨hP, hD⟩ : va_P G vwCl (wP k ar fi fa) H ∧ va_D A (wP k ar fi fa) := ⟨hP, hD⟩
  have hl : lv_has ls 5 [(4, .int (Int32.ofInt (x4_1))), (3, .int (Int32.ofInt (x3_2))), (0, .ref (ar 99)), (1, .int (Int32.ofInt (s0))), (2, .int (Int32.ofInt (b0)))] := hl
  refine lv_iload hx hb dX3_weightIn_5 (lv_at hl 0 rfl) ?_
  refine lv_aload_n hx hb dX3_weightIn_7 rfl (lv_at hl 2 rfl) ?_
  refine va_get (D := G) (ci := 2) (v := .int (Int32.ofInt (fi 7))) (C := RX3) (T := TX3) (N := 14) (ref := RX3) hx hb hts h1w hown hX.1 hP 0 rfl rfl 7 (by decide) h0w (fun _ h9 => h9) rfl dX3_weightIn_8 ?_
  have rf7 := hR 7
  refine iv_icmp_ge (tgt := 47) hx hb (by omega) (by omega) dX3_weightIn_11 (by decide) (fun q3 => ?_) (fun q3 => ?_)
  · refine lv_iload_n hx hb dX3_weightIn_47 rfl (lv_at hl 1 rfl) ?_
    exact W.iret (v := Int32.ofInt (x3_2)) hx hb hr (fun t ht hW => ⟨⟨Int32.ofInt (x3_2), (x3_2), rfl, ⟨rfl, (show (inR x3_2) ∧ (x3_2 = (gs (lc (nb s0) (fa 9) b0) (fi 7))) from ⟨(by omega), (by rw [show fi 7 = x4_1 by omega]; exact hJ2)⟩)⟩, by rw [ht]; exact hP, hD⟩, hS.F ht⟩) hS.2.2 dX3_weightIn_48
  · refine lv_iload_n hx hb dX3_weightIn_14 rfl (lv_at hl 1 rfl) ?_
    refine lv_iload_n hx hb dX3_weightIn_15 rfl (lv_at hl 3 rfl) ?_
    refine lv_iload hx hb dX3_weightIn_16 (lv_at hl 0 rfl) ?_
    refine c0_i (va_runSN (As := [.int (Int32.ofInt (s0)), .int (Int32.ofInt (x4_1))]) (rest := [.int (Int32.ofInt (x3_2))]) ⟨hx, hb, hml, hown, hts⟩ (mX7_place l G k s0 x4_1 H.size (by omega) (by omega)) ⟨va_cnB 2 hts (gz [] (.code yX7_place cX7_place 2 (some .int)) [(23, 12)] rfl) rfl rfl rfl (nm_12 hX.2.2.1) h2w (by decide +kernel) ⟨Nat.le_of_ble_eq_true rfl, Nat.le_of_ble_eq_true rfl⟩, h3w, trivial⟩ (cr_pre0 (EZ_ok k) hZ hS hX hP hD hA) rfl rfl hl.1 rfl (lv_room (Nat.le_of_ble_eq_true rfl)) dX3_weightIn_18 ⟨Nat.le_of_ble_eq_true rfl, Nat.le_of_ble_eq_true rfl⟩) hP hD hS hA (fun r u H locs hp hP hD hS => ?_)
    obtain ⟨c4, rfl⟩ : ∃ z, z = u := ⟨_, rfl⟩
    obtain ⟨h9, rc4, hp4⟩ : r = Int32.ofInt c4 ∧ (inR c4) ∧ (c4 = nb s0 x4_1 ∧ 0 ≤ c4 ∧ c4 ≤ 15) := hp
    subst h9
    have hPl18 := hp4.1
    refine lv_bipush (v := Int32.ofInt 12) hx hb dX3_weightIn_21 (by decide +kernel) ?_
    refine lv_iload_n hx hb dX3_weightIn_23 rfl (lv_at hl 4 rfl) ?_
    refine iv_add (x := 12) (y := b0) hx hb dX3_weightIn_24 ?_
    refine iv_icmp_ne (tgt := 38) hx hb (by omega) (by omega) dX3_weightIn_25 (by decide) (fun q5 => ?_) (fun q5 => ?_)
    · refine lv_iconst (v := Int32.ofInt 0) hx hb dX3_weightIn_38 (by decide +kernel) ?_
      refine iv_add (x := x3_2) (y := 0) hx hb dX3_weightIn_39 ?_
      refine iv_wr ?_
      refine iv_top (fun z6 ez6 => ?_)
      have rz6 : inR z6 := ez6 ▸ bWr_r _
      have hS9 := ez6
      refine lv_istore_n (lv' := [(3, .int (Int32.ofInt (z6))), (4, .int (Int32.ofInt (x4_1))), (0, .ref (ar 99)), (1, .int (Int32.ofInt (s0))), (2, .int (Int32.ofInt (b0)))]) hx hb dX3_weightIn_40 rfl hl (by decide) rfl (fun ls hl => ?_)
      refine lv_iinc (v := Int32.ofInt (x4_1 + 1)) (lv' := [(4, .int (Int32.ofInt ((x4_1 + 1)))), (3, .int (Int32.ofInt (z6))), (0, .ref (ar 99)), (1, .int (Int32.ofInt (s0))), (2, .int (Int32.ofInt (b0)))]) hx hb dX3_weightIn_41 hl (k := 1) rfl (Int32.ofInt_add _ _).symm (by decide) rfl (fun ls hl => ?_)
      refine lv_goto (tgt := 5) hx hb dX3_weightIn_44 (by decide) ?_
      have hl : lv_has ls 5 [(4, .int (Int32.ofInt ((x4_1 + 1)))), (3, .int (Int32.ofInt (z6))), (0, .ref (ar 99)), (1, .int (Int32.ofInt (s0))), (2, .int (Int32.ofInt (b0)))] := lv_sub hl [0, 1, 2, 3, 4] rfl
      exact ih ((x4_1 + 1), z6) (show (fi 7 - (x4_1 + 1)).toNat < (fi 7 - x4_1).toNat from by omega) (show inR (x4_1 + 1) ∧ inR z6 ∧ ((0 ≤ (x4_1 + 1) ∧ (x4_1 + 1) ≤ fi 7) ∧ z6 = gs (lc (nb s0) (fa 9) b0) (x4_1 + 1)) from ⟨(by omega), (by omega), (by first | exact ⟨by omega, gs_s hJ2 (by omega) (lc_y (p := nb s0) (W := fa 9) (b := b0) (by omega) (by omega)) hS9 rfl⟩ | exact ⟨by omega, gs_s hJ2 (by omega) (lc_n (p := nb s0) (W := fa 9) (b := b0) (by omega) rfl) hS9 rfl⟩)⟩) _ _ _ hP hD hS hl
    · refine lv_aload_n hx hb dX3_weightIn_28 rfl (lv_at hl 2 rfl) ?_
      refine va_get (D := G) (ci := 2) (v := .ref (ar 9)) (C := RX3) (T := TX3) (N := 14) (ref := RX3) hx hb hts h1w hown hX.1 hP 0 rfl rfl 9 (by decide) h4w (fun _ h9 => h9) rfl dX3_weightIn_29 ?_
      refine lv_iload hx hb dX3_weightIn_32 (lv_at hl 0 rfl) ?_
      refine iv_iald hx hb hX.1 hP 3 0 rfl rfl (by omega) (by omega) (by decide) dX3_weightIn_34 ?_
      refine iv_top (fun z7 ez7 => ?_)
      have rz7 : inR z7 := ez7 ▸ (hRa 9) _
      have ez7 : z7 = (fa 9) x4_1 := ez7
      refine lv_goto (tgt := 39) hx hb dX3_weightIn_35 (by decide) ?_
      refine iv_add (x := x3_2) (y := z7) hx hb dX3_weightIn_39 ?_
      refine iv_wr ?_
      refine iv_top (fun z8 ez8 => ?_)
      have rz8 : inR z8 := ez8 ▸ bWr_r _
      have hS9 := ez8
      refine lv_istore_n (lv' := [(3, .int (Int32.ofInt (z8))), (4, .int (Int32.ofInt (x4_1))), (0, .ref (ar 99)), (1, .int (Int32.ofInt (s0))), (2, .int (Int32.ofInt (b0)))]) hx hb dX3_weightIn_40 rfl hl (by decide) rfl (fun ls hl => ?_)
      refine lv_iinc (v := Int32.ofInt (x4_1 + 1)) (lv' := [(4, .int (Int32.ofInt ((x4_1 + 1)))), (3, .int (Int32.ofInt (z8))), (0, .ref (ar 99)), (1, .int (Int32.ofInt (s0))), (2, .int (Int32.ofInt (b0)))]) hx hb dX3_weightIn_41 hl (k := 1) rfl (Int32.ofInt_add _ _).symm (by decide) rfl (fun ls hl => ?_)
      refine lv_goto (tgt := 5) hx hb dX3_weightIn_44 (by decide) ?_
      have hl : lv_has ls 5 [(4, .int (Int32.ofInt ((x4_1 + 1)))), (3, .int (Int32.ofInt (z8))), (0, .ref (ar 99)), (1, .int (Int32.ofInt (s0))), (2, .int (Int32.ofInt (b0)))] := lv_sub hl [0, 1, 2, 3, 4] rfl
      exact ih ((x4_1 + 1), z8) (show (fi 7 - (x4_1 + 1)).toNat < (fi 7 - x4_1).toNat from by omega) (show inR (x4_1 + 1) ∧ inR z8 ∧ ((0 ≤ (x4_1 + 1) ∧ (x4_1 + 1) ≤ fi 7) ∧ z8 = gs (lc (nb s0) (fa 9) b0) (x4_1 + 1)) from ⟨(by omega), (by omega), (by first | exact ⟨by omega, gs_s hJ2 (by omega) (lc_y (p := nb s0) (W := fa 9) (b := b0) (by omega) (by omega)) hS9 rfl⟩ | exact ⟨by omega, gs_s hJ2 (by omega) (lc_n (p := nb s0) (W := fa 9) (b := b0) (by omega) rfl) hS9 rfl⟩)⟩) _ _ _ hP hD hS hl

set_option maxHeartbeats 4000000 in
set_option maxRecDepth 100000 in
theorem mX3_isServed (l : Launch) (G : va_G) (k : Nat → ClassId) (ar : Nat → Nat) (fi : Nat → Int) (fa : Nat → Int → Int) (s0 : Int) (t0 : Int) (sz : Nat) (hR : ∀ j, inR (fi j)) (hRa : ∀ j t, inR (fa j t)) (hB8 : bnd (fa 8) 7 0 4) (hB20 : bnd (fa 20) 600 (-1000) 10000) (hB21 : bnd (fa 21) 4 0 601) (hr_s0 : inR s0) (hr_t0 : inR t0) (ht0 : 0 ≤ t0 ∧ t0 < 7) : CNi l G k (EZ k) yX3_isServed wzX3_isServed ({ frames := 1, cells := 0, slots := 0, locals := 21 }) [.ref (ar 99), .int (Int32.ofInt (s0)), .int (Int32.ofInt (t0))] sz (wP k ar fi fa) (fun (r0 : Int32) (u : Int) => r0 = Int32.ofInt (u) ∧ (inR u) ∧ ((u = 1 ∧ sv (nb s0 t0) (fa 11 t0)) ∨ (u = 0 ∧ ¬ sv (nb s0 t0) (fa 11 t0)))) (fun (u : Int) => (wP k ar fi fa)) := by
  refine Met.ofW (cc := cX3_isServed) (maxL := 4) (ret := (some .boolean)) (by decide) rfl ?_
  intro p e s m args below meth c s₁ B hml hv
  obtain ⟨rfl, hsz, hP, hX, hD0, hZ0⟩ := hv
  have hx := B.exec
  have hb := B.bytes
  have hr := B.returns
  have hts := atoms_spec (ws := wzX3_isServed) B.pre
  have hown : s.vm.findClass RX3 = some m.cls := findClass_of_methodNamed B.named
  subst hsz
  have hD := hD0.self (sz := s.heap.size)
  have hZ := hZ0
  generalize hAe : va_A (wP k ar fi fa) s.heap.size = A at hD hZ ⊢
  have hA : ∀ q : Nat, s.heap.size ≤ q → A q := fun q h => by rw [← hAe]; exact Or.inr h
  have hS : va_S A s.heap s.heap [] := va_S.rf
  have hl := lv_entry ([.ref (ar 99), .int (Int32.ofInt (s0)), .int (Int32.ofInt (t0))]) (n := 4) (Nat.le_of_ble_eq_true rfl)
  rw [lg_entry_eq]
  generalize (lg_sl ([.ref (ar 99), .int (Int32.ofInt (s0)), .int (Int32.ofInt (t0))]) ++ List.replicate (4 - (lg_sl ([.ref (ar 99), .int (Int32.ofInt (s0)), .int (Int32.ofInt (t0))])).length) Slot.unset).toArray = ls at hl ⊢
  have hl : lv_has ls 4 [(0, .ref (ar 99)), (1, .int (Int32.ofInt (s0))), (2, .int (Int32.ofInt (t0)))] := hl
  obtain ⟨H, eH⟩ : ∃ H, H = s.heap := ⟨_, rfl⟩
  rw [← eH] at hP
  have hS : va_S A s.heap H [] := by rw [eH]; exact hS
  have gW : s.heap = H := eH.symm
  refine iv_heap gW ?_
  have h0w := hts (.initialized RX7) (wz_at 5 10 rfl)
  have h1w := hts (.static yX7_place) (wz_at 23 11 rfl)
  have h2w := hts (.fieldLink RX3 21 "RopeTown$Plan" "aim" "[I") (wz_at 1 20 rfl)
  have h3w : ∀ w ∈ wsX30, w ∈ wzX3_isServed := fun w h => List.mem_cons_of_mem _ (inlX3 w h)
  refine lv_iload_n hx hb dX3_isServed_0 rfl (lv_at hl 1 rfl) ?_
  refine lv_iload_n hx hb dX3_isServed_1 rfl (lv_at hl 2 rfl) ?_
  refine c0_i (va_runSN (As := [.int (Int32.ofInt (s0)), .int (Int32.ofInt (t0))]) (rest := []) ⟨hx, hb, hml, hown, hts⟩ (mX7_place l G k s0 t0 H.size (by omega) (by omega)) ⟨va_cnB 2 hts (gz [] (.code yX7_place cX7_place 2 (some .int)) [(23, 12)] rfl) rfl rfl rfl (nm_12 hX.2.2.1) h0w (by decide +kernel) ⟨Nat.le_of_ble_eq_true rfl, Nat.le_of_ble_eq_true rfl⟩, h1w, trivial⟩ (cr_pre0 (EZ_ok k) hZ hS hX hP hD hA) rfl rfl hl.1 rfl (lv_room (Nat.le_of_ble_eq_true rfl)) dX3_isServed_2 ⟨Nat.le_of_ble_eq_true rfl, Nat.le_of_ble_eq_true rfl⟩) hP hD hS hA (fun r u H locs hp hP hD hS => ?_)
  obtain ⟨c1, rfl⟩ : ∃ z, z = u := ⟨_, rfl⟩
  obtain ⟨h9, rc1, hp1⟩ : r = Int32.ofInt c1 ∧ (inR c1) ∧ (c1 = nb s0 t0 ∧ 0 ≤ c1 ∧ c1 ≤ 15) := hp
  subst h9
  have hPl2 := hp1.1
  refine lv_istore_n (lv' := [(3, .int (Int32.ofInt (c1))), (0, .ref (ar 99)), (1, .int (Int32.ofInt (s0))), (2, .int (Int32.ofInt (t0)))]) hx hb dX3_isServed_5 rfl hl (by decide) rfl (fun ls hl => ?_)
  refine lv_iload_n hx hb dX3_isServed_6 rfl (lv_at hl 0 rfl) ?_
  refine lv_aload_n hx hb dX3_isServed_7 rfl (lv_at hl 1 rfl) ?_
  refine va_get (D := G) (ci := 2) (v := .ref (ar 11)) (C := RX3) (T := TX3) (N := 14) (ref := RX3) hx hb hts h3w hown hX.1 hP 0 rfl rfl 11 (by decide) h2w (fun _ h9 => h9) rfl dX3_isServed_8 ?_
  refine lv_iload_n hx hb dX3_isServed_11 rfl (lv_at hl 3 rfl) ?_
  refine iv_iald hx hb hX.1 hP 5 0 rfl rfl (by omega) (by omega) (by decide) dX3_isServed_12 ?_
  refine iv_top (fun z2 ez2 => ?_)
  have rz2 : inR z2 := ez2 ▸ (hRa 11) _
  have ez2 : z2 = (fa 11) t0 := ez2
  refine iv_icmp_eq (tgt := 22) hx hb (by omega) (by omega) dX3_isServed_13 (by decide) (fun q3 => ?_) (fun q3 => ?_)
  · refine lv_iconst (v := Int32.ofInt 1) hx hb dX3_isServed_22 (by decide +kernel) ?_
    refine lv_goto (tgt := 27) hx hb dX3_isServed_23 (by decide) ?_
    exact W.zret (v := Int32.ofInt (1)) hx hb hr (nz_bool (by omega)) (fun t ht hW => ⟨⟨Int32.ofInt (1), (1), rfl, ⟨rfl, (show (inR 1) ∧ ((1 = 1 ∧ sv (nb s0 t0) (fa 11 t0)) ∨ (1 = 0 ∧ ¬ sv (nb s0 t0) (fa 11 t0))) from ⟨(by omega), (by omega)⟩)⟩, by rw [ht]; exact hP, hD⟩, hS.F ht⟩) hS.2.2 dX3_isServed_27
  · refine lv_iload_n hx hb dX3_isServed_16 rfl (lv_at hl 0 rfl) ?_
    refine lv_bipush (v := Int32.ofInt 14) hx hb dX3_isServed_17 (by decide +kernel) ?_
    refine iv_icmp_ne (tgt := 26) hx hb (by omega) (by omega) dX3_isServed_19 (by decide) (fun q4 => ?_) (fun q4 => ?_)
    · refine lv_iconst (v := Int32.ofInt 0) hx hb dX3_isServed_26 (by decide +kernel) ?_
      exact W.zret (v := Int32.ofInt (0)) hx hb hr (nz_bool (by omega)) (fun t ht hW => ⟨⟨Int32.ofInt (0), (0), rfl, ⟨rfl, (show (inR 0) ∧ ((0 = 1 ∧ sv (nb s0 t0) (fa 11 t0)) ∨ (0 = 0 ∧ ¬ sv (nb s0 t0) (fa 11 t0))) from ⟨(by omega), (by omega)⟩)⟩, by rw [ht]; exact hP, hD⟩, hS.F ht⟩) hS.2.2 dX3_isServed_27
    · refine lv_iconst (v := Int32.ofInt 1) hx hb dX3_isServed_22 (by decide +kernel) ?_
      refine lv_goto (tgt := 27) hx hb dX3_isServed_23 (by decide) ?_
      exact W.zret (v := Int32.ofInt (1)) hx hb hr (nz_bool (by omega)) (fun t ht hW => ⟨⟨Int32.ofInt (1), (1), rfl, ⟨rfl, (show (inR 1) ∧ ((1 = 1 ∧ sv (nb s0 t0) (fa 11 t0)) ∨ (1 = 0 ∧ ¬ sv (nb s0 t0) (fa 11 t0))) from ⟨(by omega), (by omega)⟩)⟩, by rw [ht]; exact hP, hD⟩, hS.F ht⟩) hS.2.2 dX3_isServed_27

set_option maxHeartbeats 4000000 in
set_option maxRecDepth 100000 in
theorem mX3_isAllServed (l : Launch) (G : va_G) (k : Nat → ClassId) (ar : Nat → Nat) (fi : Nat → Int) (fa : Nat → Int → Int) (s0 : Int) (sz : Nat) (hR : ∀ j, inR (fi j)) (hRa : ∀ j t, inR (fa j t)) (hB8 : bnd (fa 8) 7 0 4) (hB20 : bnd (fa 20) 600 (-1000) 10000) (hB21 : bnd (fa 21) 4 0 601) (hr_s0 : inR s0) (hth : 0 ≤ fi 7 ∧ fi 7 ≤ 7) (hbt : 0 ≤ fi 0 ∧ fi 0 ≤ 11) : CNi l G k (EZ k) yX3_isAllServed wzX3_isAllServed ({ frames := 3, cells := 0, slots := 0, locals := 65 }) [.ref (ar 99), .int (Int32.ofInt (s0))] sz (wP k ar fi fa) (fun (r0 : Int32) (u : Int) => r0 = Int32.ofInt (u) ∧ (inR u) ∧ ((u = 0 ∨ u = 1))) (fun (u : Int) => (wP k ar fi fa)) := by
  refine Met.ofW (cc := cX3_isAllServed) (maxL := 5) (ret := (some .boolean)) (by decide) rfl ?_
  intro p e s m args below meth c s₁ B hml hv
  obtain ⟨rfl, hsz, hP, hX, hD0, hZ0⟩ := hv
  have hx := B.exec
  have hb := B.bytes
  have hr := B.returns
  have hts := atoms_spec (ws := wzX3_isAllServed) B.pre
  have hown : s.vm.findClass RX3 = some m.cls := findClass_of_methodNamed B.named
  subst hsz
  have hD := hD0.self (sz := s.heap.size)
  have hZ := hZ0
  generalize hAe : va_A (wP k ar fi fa) s.heap.size = A at hD hZ ⊢
  have hA : ∀ q : Nat, s.heap.size ≤ q → A q := fun q h => by rw [← hAe]; exact Or.inr h
  have hS : va_S A s.heap s.heap [] := va_S.rf
  have hl := lv_entry ([.ref (ar 99), .int (Int32.ofInt (s0))]) (n := 5) (Nat.le_of_ble_eq_true rfl)
  rw [lg_entry_eq]
  generalize (lg_sl ([.ref (ar 99), .int (Int32.ofInt (s0))]) ++ List.replicate (5 - (lg_sl ([.ref (ar 99), .int (Int32.ofInt (s0))])).length) Slot.unset).toArray = ls at hl ⊢
  have hl : lv_has ls 5 [(0, .ref (ar 99)), (1, .int (Int32.ofInt (s0)))] := hl
  obtain ⟨H, eH⟩ : ∃ H, H = s.heap := ⟨_, rfl⟩
  rw [← eH] at hP
  have hS : va_S A s.heap H [] := by rw [eH]; exact hS
  have gW : s.heap = H := eH.symm
  refine iv_heap gW ?_
  have h0w := hts (.fieldLink RX3 59 "RopeTown$Plan" "things" "I") (wz_at 3 1 rfl)
  have h1w : ∀ w ∈ wsX30, w ∈ wzX3_isAllServed := fun w h => List.mem_cons_of_mem _ (inlX3 w h)
  have h2w := hts (.initialized RX7) (wz_at 5 10 rfl)
  have h3w := hts (.static yX7_place) (wz_at 23 11 rfl)
  have h4w := hts (.fieldLink RX3 21 "RopeTown$Plan" "aim" "[I") (wz_at 1 20 rfl)
  refine lv_iconst (v := Int32.ofInt 0) hx hb dX3_isAllServed_0 (by decide +kernel) ?_
  refine lv_istore_n (lv' := [(2, .int (Int32.ofInt (0))), (0, .ref (ar 99)), (1, .int (Int32.ofInt (s0)))]) hx hb dX3_isAllServed_1 rfl hl (by decide) rfl (fun ls hl => ?_)
  refine iv_loop (α := Int) (nL := 5) (fun b9 => (wP k ar fi fa)) (fun b9 => [(2, .int (Int32.ofInt (b9))), (0, .ref (ar 99)), (1, .int (Int32.ofInt (s0)))]) (fun b9 => (fi 7 - b9).toNat) (fun b9 => inR b9 ∧ (0 ≤ b9)) ?_ (0) (show inR 0 ∧ (0 ≤ 0) from ⟨(by omega), (by omega)⟩) hP hD hS hl
  intro x2_1 ih hi9 H locs ls hP hD hS hl
  obtain ⟨r_x2_1, hinv⟩ : inR x2_1 ∧ (0 ≤ x2_1) := hi9
  obtain ⟨hP, hD⟩ : va_P G vwCl (wP k ar fi fa) H ∧ va_D A (wP k ar fi fa) := ⟨hP, hD⟩
  have hl : lv_has ls 5 [(2, .int (Int32.ofInt (x2_1))), (0, .ref (ar 99)), (1, .int (Int32.ofInt (s0)))] := hl
  refine lv_iload_n hx hb dX3_isAllServed_2 rfl (lv_at hl 0 rfl) ?_
  refine lv_aload_n hx hb dX3_isAllServed_3 rfl (lv_at hl 1 rfl) ?_
  refine va_get (D := G) (ci := 2) (v := .int (Int32.ofInt (fi 7))) (C := RX3) (T := TX3) (N := 14) (ref := RX3) hx hb hts h1w hown hX.1 hP 0 rfl rfl 7 (by decide) h0w (fun _ h9 => h9) rfl dX3_isAllServed_4 ?_
  have rf7 := hR 7
  refine iv_icmp_ge (tgt := 67) hx hb (by omega) (by omega) dX3_isAllServed_7 (by decide) (fun q2 => ?_) (fun q2 => ?_)
  · refine lv_iconst (v := Int32.ofInt 1) hx hb dX3_isAllServed_67 (by decide +kernel) ?_
    exact W.zret (v := Int32.ofInt (1)) hx hb hr (nz_bool (by omega)) (fun t ht hW => ⟨⟨Int32.ofInt (1), (1), rfl, ⟨rfl, (show (inR 1) ∧ ((1 = 0 ∨ 1 = 1)) from ⟨(by omega), (by omega)⟩)⟩, by rw [ht]; exact hP, hD⟩, hS.F ht⟩) hS.2.2 dX3_isAllServed_68
  · refine lv_iload_n hx hb dX3_isAllServed_10 rfl (lv_at hl 2 rfl) ?_
    refine lv_iload_n hx hb dX3_isAllServed_11 rfl (lv_at hl 0 rfl) ?_
    refine c0_i (va_runSN (As := [.int (Int32.ofInt (s0)), .int (Int32.ofInt (x2_1))]) (rest := []) ⟨hx, hb, hml, hown, hts⟩ (mX7_place l G k s0 x2_1 H.size (by omega) (by omega)) ⟨va_cnB 2 hts (gz [] (.code yX7_place cX7_place 2 (some .int)) [(23, 12)] rfl) rfl rfl rfl (nm_12 hX.2.2.1) h2w (by decide +kernel) ⟨Nat.le_of_ble_eq_true rfl, Nat.le_of_ble_eq_true rfl⟩, h3w, trivial⟩ (cr_pre0 (EZ_ok k) hZ hS hX hP hD hA) rfl rfl hl.1 rfl (lv_room (Nat.le_of_ble_eq_true rfl)) dX3_isAllServed_12 ⟨Nat.le_of_ble_eq_true rfl, Nat.le_of_ble_eq_true rfl⟩) hP hD hS hA (fun r u H locs hp hP hD hS => ?_)
    obtain ⟨c3, rfl⟩ : ∃ z, z = u := ⟨_, rfl⟩
    obtain ⟨h9, rc3, hp3⟩ : r = Int32.ofInt c3 ∧ (inR c3) ∧ (c3 = nb s0 x2_1 ∧ 0 ≤ c3 ∧ c3 ≤ 15) := hp
    subst h9
    have hPl12 := hp3.1
    refine lv_istore_n (lv' := [(3, .int (Int32.ofInt (c3))), (2, .int (Int32.ofInt (x2_1))), (0, .ref (ar 99)), (1, .int (Int32.ofInt (s0)))]) hx hb dX3_isAllServed_15 rfl hl (by decide) rfl (fun ls hl => ?_)
    refine lv_aload_n hx hb dX3_isAllServed_16 rfl (lv_at hl 2 rfl) ?_
    refine va_get (D := G) (ci := 2) (v := .ref (ar 11)) (C := RX3) (T := TX3) (N := 14) (ref := RX3) hx hb hts h1w hown hX.1 hP 0 rfl rfl 11 (by decide) h4w (fun _ h9 => h9) rfl dX3_isAllServed_17 ?_
    refine lv_iload_n hx hb dX3_isAllServed_20 rfl (lv_at hl 1 rfl) ?_
    refine iv_iald hx hb hX.1 hP 5 0 rfl rfl (by omega) (by omega) (by decide) dX3_isAllServed_21 ?_
    refine iv_top (fun z4 ez4 => ?_)
    have rz4 : inR z4 := ez4 ▸ (hRa 11) _
    have ez4 : z4 = (fa 11) x2_1 := ez4
    refine lv_iconst (v := Int32.ofInt (-1)) hx hb dX3_isAllServed_22 (by decide +kernel) ?_
    refine iv_icmp_eq (tgt := 36) hx hb (by omega) (by omega) dX3_isAllServed_23 (by decide) (fun q5 => ?_) (fun q5 => ?_)
    · refine lv_iconst (v := Int32.ofInt 0) hx hb dX3_isAllServed_36 (by decide +kernel) ?_
      refine lv_istore (lv' := [(4, .int (Int32.ofInt (0))), (3, .int (Int32.ofInt (c3))), (2, .int (Int32.ofInt (x2_1))), (0, .ref (ar 99)), (1, .int (Int32.ofInt (s0)))]) hx hb dX3_isAllServed_37 hl (by decide) rfl (fun ls hl => ?_)
      refine lv_iload hx hb dX3_isAllServed_39 (lv_at hl 0 rfl) ?_
      refine iv_if_eq (tgt := 61) hx hb (by omega) dX3_isAllServed_41 (by decide) (fun _ => ?_) (fun q => absurd q (by omega))
      refine lv_iinc (v := Int32.ofInt (x2_1 + 1)) (lv' := [(2, .int (Int32.ofInt ((x2_1 + 1)))), (4, .int (Int32.ofInt (0))), (3, .int (Int32.ofInt (c3))), (0, .ref (ar 99)), (1, .int (Int32.ofInt (s0)))]) hx hb dX3_isAllServed_61 hl (k := 2) rfl (Int32.ofInt_add _ _).symm (by decide) rfl (fun ls hl => ?_)
      refine lv_goto (tgt := 2) hx hb dX3_isAllServed_64 (by decide) ?_
      have hl : lv_has ls 5 [(2, .int (Int32.ofInt ((x2_1 + 1)))), (0, .ref (ar 99)), (1, .int (Int32.ofInt (s0)))] := lv_sub hl [0, 3, 4] rfl
      exact ih ((x2_1 + 1)) (show (fi 7 - (x2_1 + 1)).toNat < (fi 7 - x2_1).toNat from by omega) (show inR (x2_1 + 1) ∧ (0 ≤ (x2_1 + 1)) from ⟨(by omega), (by omega)⟩) _ _ _ hP hD hS hl
    · refine lv_iload_n hx hb dX3_isAllServed_26 rfl (lv_at hl 0 rfl) ?_
      refine lv_bipush (v := Int32.ofInt 14) hx hb dX3_isAllServed_27 (by decide +kernel) ?_
      refine iv_icmp_ge (tgt := 36) hx hb (by omega) (by omega) dX3_isAllServed_29 (by decide) (fun q6 => ?_) (fun q6 => ?_)
      · refine lv_iconst (v := Int32.ofInt 0) hx hb dX3_isAllServed_36 (by decide +kernel) ?_
        refine lv_istore (lv' := [(4, .int (Int32.ofInt (0))), (3, .int (Int32.ofInt (c3))), (2, .int (Int32.ofInt (x2_1))), (0, .ref (ar 99)), (1, .int (Int32.ofInt (s0)))]) hx hb dX3_isAllServed_37 hl (by decide) rfl (fun ls hl => ?_)
        refine lv_iload hx hb dX3_isAllServed_39 (lv_at hl 0 rfl) ?_
        refine iv_if_eq (tgt := 61) hx hb (by omega) dX3_isAllServed_41 (by decide) (fun _ => ?_) (fun q => absurd q (by omega))
        refine lv_iinc (v := Int32.ofInt (x2_1 + 1)) (lv' := [(2, .int (Int32.ofInt ((x2_1 + 1)))), (4, .int (Int32.ofInt (0))), (3, .int (Int32.ofInt (c3))), (0, .ref (ar 99)), (1, .int (Int32.ofInt (s0)))]) hx hb dX3_isAllServed_61 hl (k := 2) rfl (Int32.ofInt_add _ _).symm (by decide) rfl (fun ls hl => ?_)
        refine lv_goto (tgt := 2) hx hb dX3_isAllServed_64 (by decide) ?_
        have hl : lv_has ls 5 [(2, .int (Int32.ofInt ((x2_1 + 1)))), (0, .ref (ar 99)), (1, .int (Int32.ofInt (s0)))] := lv_sub hl [0, 3, 4] rfl
        exact ih ((x2_1 + 1)) (show (fi 7 - (x2_1 + 1)).toNat < (fi 7 - x2_1).toNat from by omega) (show inR (x2_1 + 1) ∧ (0 ≤ (x2_1 + 1)) from ⟨(by omega), (by omega)⟩) _ _ _ hP hD hS hl
      · refine lv_iconst (v := Int32.ofInt 1) hx hb dX3_isAllServed_32 (by decide +kernel) ?_
        refine lv_goto (tgt := 37) hx hb dX3_isAllServed_33 (by decide) ?_
        refine lv_istore (lv' := [(4, .int (Int32.ofInt (1))), (3, .int (Int32.ofInt (c3))), (2, .int (Int32.ofInt (x2_1))), (0, .ref (ar 99)), (1, .int (Int32.ofInt (s0)))]) hx hb dX3_isAllServed_37 hl (by decide) rfl (fun ls hl => ?_)
        refine lv_iload hx hb dX3_isAllServed_39 (lv_at hl 0 rfl) ?_
        refine iv_if_eq (tgt := 61) hx hb (by omega) dX3_isAllServed_41 (by decide) (fun q => absurd q (by omega)) (fun _ => ?_)
        refine lv_aload_n hx hb dX3_isAllServed_44 rfl (lv_at hl 3 rfl) ?_
        refine lv_iload_n hx hb dX3_isAllServed_45 rfl (lv_at hl 4 rfl) ?_
        refine lv_iload_n hx hb dX3_isAllServed_46 rfl (lv_at hl 2 rfl) ?_
        refine cr_i (va_runV (As := [.int (Int32.ofInt (s0)), .int (Int32.ofInt (x2_1))]) (rest := []) ⟨hx, hb, hml, hown, hts⟩ (mX3_thingDepth l G k ar fi fa s0 x2_1 H.size hR hRa hB8 hB20 hB21 (by omega) (by omega) (show 0 ≤ (fi 0) ∧ (fi 0) ≤ 11 from by omega)) (cwV 2 hts (gz [.methodLink RX3 84 yX3_thingDepth, .instanceMethod yX3_thingDepth, .selects RX3 yX3_thingDepth yX3_thingDepth, .initialized RX3] (.code yX3_thingDepth cX3_thingDepth 4 (some .int)) [(27, 8), (23, 8), (23, 9), (0, 19), (23, 10)] rfl) rfl rfl rfl (by decide +kernel) ⟨Nat.le_of_ble_eq_true rfl, Nat.le_of_ble_eq_true rfl⟩) (cr_preV (EZ_ok k) hZ hS hX hP hD hA (ci := 2) (q0 := 0) rfl rfl) rfl rfl hl.1 rfl (lv_room (Nat.le_of_ble_eq_true rfl)) dX3_isAllServed_47 ⟨Nat.le_of_ble_eq_true rfl, Nat.le_of_ble_eq_true rfl⟩) hD hS hA (fun r u H locs hp hP hD hS => ?_)
        obtain ⟨c7, rfl⟩ : ∃ z, z = u := ⟨_, rfl⟩
        obtain ⟨h9, rc7, hp7⟩ : r = Int32.ofInt c7 ∧ (inR c7) ∧ (c7 = thD (nb s0 x2_1) (dp s0) ((fi 0)) ∧ -15 ≤ c7 ∧ c7 ≤ 15) := hp
        subst h9
        have hTd47 := hp7.1
        refine lv_aload_n hx hb dX3_isAllServed_50 rfl (lv_at hl 3 rfl) ?_
        refine va_get (D := G) (ci := 2) (v := .ref (ar 11)) (C := RX3) (T := TX3) (N := 14) (ref := RX3) hx hb hts h1w hown hX.1 hP 0 rfl rfl 11 (by decide) h4w (fun _ h9 => h9) rfl dX3_isAllServed_51 ?_
        refine lv_iload_n hx hb dX3_isAllServed_54 rfl (lv_at hl 2 rfl) ?_
        refine iv_iald hx hb hX.1 hP 5 0 rfl rfl (by omega) (by omega) (by decide) dX3_isAllServed_55 ?_
        refine iv_top (fun z8 ez8 => ?_)
        have rz8 : inR z8 := ez8 ▸ (hRa 11) _
        have ez8 : z8 = (fa 11) x2_1 := ez8
        refine iv_icmp_eq (tgt := 61) hx hb (by omega) (by omega) dX3_isAllServed_56 (by decide) (fun q9 => ?_) (fun q9 => ?_)
        · refine lv_iinc (v := Int32.ofInt (x2_1 + 1)) (lv' := [(2, .int (Int32.ofInt ((x2_1 + 1)))), (4, .int (Int32.ofInt (1))), (3, .int (Int32.ofInt (c3))), (0, .ref (ar 99)), (1, .int (Int32.ofInt (s0)))]) hx hb dX3_isAllServed_61 hl (k := 2) rfl (Int32.ofInt_add _ _).symm (by decide) rfl (fun ls hl => ?_)
          refine lv_goto (tgt := 2) hx hb dX3_isAllServed_64 (by decide) ?_
          have hl : lv_has ls 5 [(2, .int (Int32.ofInt ((x2_1 + 1)))), (0, .ref (ar 99)), (1, .int (Int32.ofInt (s0)))] := lv_sub hl [0, 3, 4] rfl
          exact ih ((x2_1 + 1)) (show (fi 7 - (x2_1 + 1)).toNat < (fi 7 - x2_1).toNat from by omega) (show inR (x2_1 + 1) ∧ (0 ≤ (x2_1 + 1)) from ⟨(by omega), (by omega)⟩) _ _ _ hP hD hS hl
        · refine lv_iconst (v := Int32.ofInt 0) hx hb dX3_isAllServed_59 (by decide +kernel) ?_
          exact W.zret (v := Int32.ofInt (0)) hx hb hr (nz_bool (by omega)) (fun t ht hW => ⟨⟨Int32.ofInt (0), (0), rfl, ⟨rfl, (show (inR 0) ∧ ((0 = 0 ∨ 0 = 1)) from ⟨(by omega), (by omega)⟩)⟩, by rw [ht]; exact hP, hD⟩, hS.F ht⟩) hS.2.2 dX3_isAllServed_60

