set_option maxHeartbeats 4000000 in
set_option maxRecDepth 100000 in
theorem mX10_nearest (l : Launch) (G : va_G) (k : Nat → ClassId) (ar : Nat → Nat) (fi : Nat → Int) (fa : Nat → Int → Int) (fl : Nat → Int64) (sz : Nat) (hR : ∀ j, inR (fi j)) (hRa : ∀ j t, inR (fa j t)) (s1 : 0 ≤ fi 50) (s2 : fi 50 ≤ 1500) : CNi l G k (EZ k) yX10_nearest wzX10_nearest ({ frames := 0, cells := 0, slots := 0, locals := 0 }) [.ref (ar 71)] sz (wM k ar fi fa fl) (fun (r0 : Int32) (u : Int) => r0 = Int32.ofInt (u) ∧ (inR u) ∧ (u = -1 ∨ (0 ≤ u ∧ u < fi 50 ∧ fa 49 u = 0))) (fun (u : Int) => (wM k ar fi fa fl)) := by
  refine Met.ofW (cc := cX10_nearest) (maxL := 3) (ret := (some .int)) (by decide) rfl ?_
  intro p e s m args below meth c s₁ B hml hv
  obtain ⟨rfl, hsz, hP, hX, hD0, hZ0⟩ := hv
  have hx := B.exec
  have hb := B.bytes
  have hr := B.returns
  have hts := atoms_spec (ws := wzX10_nearest) B.pre
  have hown : s.vm.findClass RX10 = some m.cls := findClass_of_methodNamed B.named
  subst hsz
  have hD := hD0.self (sz := s.heap.size)
  have hZ := hZ0
  generalize hAe : va_A (wM k ar fi fa fl) s.heap.size = A at hD hZ ⊢
  have hA : ∀ q : Nat, s.heap.size ≤ q → A q := fun q h => by rw [← hAe]; exact Or.inr h
  have hS : va_S A s.heap s.heap [] := va_S.rf
  have hl := lv_entry ([.ref (ar 71)]) (n := 3) (Nat.le_of_ble_eq_true rfl)
  rw [lg_entry_eq]
  generalize (lg_sl ([.ref (ar 71)]) ++ List.replicate (3 - (lg_sl ([.ref (ar 71)])).length) Slot.unset).toArray = ls at hl ⊢
  have hl : lv_has ls 3 [(0, .ref (ar 71))] := hl
  obtain ⟨H, eH⟩ : ∃ H, H = s.heap := ⟨_, rfl⟩
  rw [← eH] at hP
  have hS : va_S A s.heap H [] := by rw [eH]; exact hS
  have gW : s.heap = H := eH.symm
  refine iv_heap gW ?_
  have h0w := hts (.fieldLink RX10 436 "RopeTownModel" "states" "I") (wz_at 35 21 rfl)
  have h1w : ∀ w ∈ wsX100, w ∈ wzX10_nearest := fun w h => List.mem_cons_of_mem _ (inlX10 w h)
  have h2w := hts (.fieldLink RX10 130 "RopeTownModel" "isDone" "[Z") (wz_at 7 8 rfl)
  have h3w := hts (.fieldLink RX10 121 "RopeTownModel" "far" "[I") (wz_at 7 4 rfl)
  refine lv_iconst (v := Int32.ofInt (-1)) hx hb dX10_nearest_0 (by decide +kernel) ?_
  refine lv_istore_n (lv' := [(1, .int (Int32.ofInt ((-1)))), (0, .ref (ar 71))]) hx hb dX10_nearest_1 rfl hl (by decide) rfl (fun ls hl => ?_)
  refine lv_iconst (v := Int32.ofInt 0) hx hb dX10_nearest_2 (by decide +kernel) ?_
  refine lv_istore_n (lv' := [(2, .int (Int32.ofInt (0))), (1, .int (Int32.ofInt ((-1)))), (0, .ref (ar 71))]) hx hb dX10_nearest_3 rfl hl (by decide) rfl (fun ls hl => ?_)
  refine iv_loop (α := Int × Int) (nL := 3) (fun b9 => (wM k ar fi fa fl)) (fun b9 => [(2, .int (Int32.ofInt (b9.1))), (1, .int (Int32.ofInt (b9.2))), (0, .ref (ar 71))]) (fun b9 => (fi 50 - b9.1).toNat) (fun b9 => inR b9.1 ∧ inR b9.2 ∧ (0 ≤ b9.1 ∧ (b9.2 = -1 ∨ (0 ≤ b9.2 ∧ b9.2 < fi 50 ∧ fa 49 b9.2 = 0)))) ?_ (0, (-1)) (show inR 0 ∧ inR (-1) ∧ (0 ≤ 0 ∧ ((-1) = -1 ∨ (0 ≤ (-1) ∧ (-1) < fi 50 ∧ fa 49 (-1) = 0))) from ⟨(by omega), (by omega), (by omega)⟩) hP hD hS hl
  rintro ⟨x2_1, x1_2⟩ ih hi9 H locs ls hP hD hS hl
  obtain ⟨r_x2_1, r_x1_2, hinv⟩ : inR x2_1 ∧ inR x1_2 ∧ (0 ≤ x2_1 ∧ (x1_2 = -1 ∨ (0 ≤ x1_2 ∧ x1_2 < fi 50 ∧ fa 49 x1_2 = 0))) := hi9
  obtain ⟨hP, hD⟩ : va_P G vwCl (wM k ar fi fa fl) H ∧ va_D A (wM k ar fi fa fl) := ⟨hP, hD⟩
  have hl : lv_has ls 3 [(2, .int (Int32.ofInt (x2_1))), (1, .int (Int32.ofInt (x1_2))), (0, .ref (ar 71))] := hl
  refine lv_iload_n hx hb dX10_nearest_4 rfl (lv_at hl 0 rfl) ?_
  refine lv_aload_n hx hb dX10_nearest_5 rfl (lv_at hl 2 rfl) ?_
  refine va_get (D := G) (ci := 7) (v := .int (Int32.ofInt (fi 50))) (C := RX10) (T := TX10) (N := 71) (ref := RX10) hx hb hts h1w hown hX.1 hP 0 rfl rfl 50 (by decide) h0w (fun _ h9 => h9) rfl dX10_nearest_6 ?_
  have rf50 := hR 50
  refine iv_icmp_ge (tgt := 49) hx hb (by omega) (by omega) dX10_nearest_9 (by decide) (fun q3 => ?_) (fun q3 => ?_)
  · refine lv_iload_n hx hb dX10_nearest_49 rfl (lv_at hl 1 rfl) ?_
    exact W.iret (v := Int32.ofInt (x1_2)) hx hb hr (fun t ht hW => ⟨⟨Int32.ofInt (x1_2), (x1_2), rfl, ⟨rfl, (show (inR x1_2) ∧ (x1_2 = -1 ∨ (0 ≤ x1_2 ∧ x1_2 < fi 50 ∧ fa 49 x1_2 = 0)) from ⟨(by omega), (by omega)⟩)⟩, by rw [ht]; exact hP, hD⟩, hS.F ht⟩) hS.2.2 dX10_nearest_50
  · refine lv_aload_n hx hb dX10_nearest_12 rfl (lv_at hl 2 rfl) ?_
    refine va_get (D := G) (ci := 7) (v := .ref (ar 49)) (C := RX10) (T := TX10) (N := 71) (ref := RX10) hx hb hts h1w hown hX.1 hP 0 rfl rfl 49 (by decide) h2w (fun _ h9 => h9) rfl dX10_nearest_13 ?_
    refine lv_iload_n hx hb dX10_nearest_16 rfl (lv_at hl 0 rfl) ?_
    refine iv_zald hx hb hX.1 hP 25 3 rfl rfl (by omega) (by omega) (by decide) dX10_nearest_17 ?_
    refine iv_top (fun z4 ez4 => ?_)
    have rz4 : inR z4 := ez4 ▸ (hRa 49) _
    have ez4 : z4 = (fa 49) x2_1 := ez4
    refine iv_if_ne (tgt := 43) hx hb (by omega) dX10_nearest_18 (by decide) (fun q5 => ?_) (fun q5 => ?_)
    · refine lv_iinc (v := Int32.ofInt (x2_1 + 1)) (lv' := [(2, .int (Int32.ofInt ((x2_1 + 1)))), (1, .int (Int32.ofInt (x1_2))), (0, .ref (ar 71))]) hx hb dX10_nearest_43 hl (k := 0) rfl (Int32.ofInt_add _ _).symm (by decide) rfl (fun ls hl => ?_)
      refine lv_goto (tgt := 4) hx hb dX10_nearest_46 (by decide) ?_
      have hl : lv_has ls 3 [(2, .int (Int32.ofInt ((x2_1 + 1)))), (1, .int (Int32.ofInt (x1_2))), (0, .ref (ar 71))] := lv_sub hl [0, 1, 2] rfl
      exact ih ((x2_1 + 1), x1_2) (show (fi 50 - (x2_1 + 1)).toNat < (fi 50 - x2_1).toNat from by omega) (show inR (x2_1 + 1) ∧ inR x1_2 ∧ (0 ≤ (x2_1 + 1) ∧ (x1_2 = -1 ∨ (0 ≤ x1_2 ∧ x1_2 < fi 50 ∧ fa 49 x1_2 = 0))) from ⟨(by omega), (by omega), (by omega)⟩) _ _ _ hP hD hS hl
    · refine lv_iload_n hx hb dX10_nearest_21 rfl (lv_at hl 1 rfl) ?_
      refine lv_iconst (v := Int32.ofInt (-1)) hx hb dX10_nearest_22 (by decide +kernel) ?_
      refine iv_icmp_eq (tgt := 41) hx hb (by omega) (by omega) dX10_nearest_23 (by decide) (fun q6 => ?_) (fun q6 => ?_)
      · refine lv_iload_n hx hb dX10_nearest_41 rfl (lv_at hl 0 rfl) ?_
        refine lv_istore_n (lv' := [(1, .int (Int32.ofInt (x2_1))), (2, .int (Int32.ofInt (x2_1))), (0, .ref (ar 71))]) hx hb dX10_nearest_42 rfl hl (by decide) rfl (fun ls hl => ?_)
        refine lv_iinc (v := Int32.ofInt (x2_1 + 1)) (lv' := [(2, .int (Int32.ofInt ((x2_1 + 1)))), (1, .int (Int32.ofInt (x2_1))), (0, .ref (ar 71))]) hx hb dX10_nearest_43 hl (k := 1) rfl (Int32.ofInt_add _ _).symm (by decide) rfl (fun ls hl => ?_)
        refine lv_goto (tgt := 4) hx hb dX10_nearest_46 (by decide) ?_
        have hl : lv_has ls 3 [(2, .int (Int32.ofInt ((x2_1 + 1)))), (1, .int (Int32.ofInt (x2_1))), (0, .ref (ar 71))] := lv_sub hl [0, 1, 2] rfl
        exact ih ((x2_1 + 1), x2_1) (show (fi 50 - (x2_1 + 1)).toNat < (fi 50 - x2_1).toNat from by omega) (show inR (x2_1 + 1) ∧ inR x2_1 ∧ (0 ≤ (x2_1 + 1) ∧ (x2_1 = -1 ∨ (0 ≤ x2_1 ∧ x2_1 < fi 50 ∧ fa 49 x2_1 = 0))) from ⟨(by omega), (by omega), (by omega)⟩) _ _ _ hP hD hS hl
      · refine lv_aload_n hx hb dX10_nearest_26 rfl (lv_at hl 2 rfl) ?_
        refine va_get (D := G) (ci := 7) (v := .ref (ar 46)) (C := RX10) (T := TX10) (N := 71) (ref := RX10) hx hb hts h1w hown hX.1 hP 0 rfl rfl 46 (by decide) h3w (fun _ h9 => h9) rfl dX10_nearest_27 ?_
        refine lv_iload_n hx hb dX10_nearest_30 rfl (lv_at hl 0 rfl) ?_
        refine iv_iald hx hb hX.1 hP 22 0 rfl rfl (by omega) (by omega) (by decide) dX10_nearest_31 ?_
        refine iv_top (fun z7 ez7 => ?_)
        have rz7 : inR z7 := ez7 ▸ (hRa 46) _
        have ez7 : z7 = (fa 46) x2_1 := ez7
        refine lv_aload_n hx hb dX10_nearest_32 rfl (lv_at hl 2 rfl) ?_
        refine va_get (D := G) (ci := 7) (v := .ref (ar 46)) (C := RX10) (T := TX10) (N := 71) (ref := RX10) hx hb hts h1w hown hX.1 hP 0 rfl rfl 46 (by decide) h3w (fun _ h9 => h9) rfl dX10_nearest_33 ?_
        refine lv_iload_n hx hb dX10_nearest_36 rfl (lv_at hl 1 rfl) ?_
        refine iv_iald hx hb hX.1 hP 22 0 rfl rfl (by omega) (by omega) (by decide) dX10_nearest_37 ?_
        refine iv_top (fun z8 ez8 => ?_)
        have rz8 : inR z8 := ez8 ▸ (hRa 46) _
        have ez8 : z8 = (fa 46) x1_2 := ez8
        refine iv_icmp_ge (tgt := 43) hx hb (by omega) (by omega) dX10_nearest_38 (by decide) (fun q9 => ?_) (fun q9 => ?_)
        · refine lv_iinc (v := Int32.ofInt (x2_1 + 1)) (lv' := [(2, .int (Int32.ofInt ((x2_1 + 1)))), (1, .int (Int32.ofInt (x1_2))), (0, .ref (ar 71))]) hx hb dX10_nearest_43 hl (k := 0) rfl (Int32.ofInt_add _ _).symm (by decide) rfl (fun ls hl => ?_)
          refine lv_goto (tgt := 4) hx hb dX10_nearest_46 (by decide) ?_
          have hl : lv_has ls 3 [(2, .int (Int32.ofInt ((x2_1 + 1)))), (1, .int (Int32.ofInt (x1_2))), (0, .ref (ar 71))] := lv_sub hl [0, 1, 2] rfl
          exact ih ((x2_1 + 1), x1_2) (show (fi 50 - (x2_1 + 1)).toNat < (fi 50 - x2_1).toNat from by omega) (show inR (x2_1 + 1) ∧ inR x1_2 ∧ (0 ≤ (x2_1 + 1) ∧ (x1_2 = -1 ∨ (0 ≤ x1_2 ∧ x1_2 < fi 50 ∧ fa 49 x1_2 = 0))) from ⟨(by omega), (by omega), (by omega)⟩) _ _ _ hP hD hS hl
        · refine lv_iload_n hx hb dX10_nearest_41 rfl (lv_at hl 0 rfl) ?_
          refine lv_istore_n (lv' := [(1, .int (Int32.ofInt (x2_1))), (2, .int (Int32.ofInt (x2_1))), (0, .ref (ar 71))]) hx hb dX10_nearest_42 rfl hl (by decide) rfl (fun ls hl => ?_)
          refine lv_iinc (v := Int32.ofInt (x2_1 + 1)) (lv' := [(2, .int (Int32.ofInt ((x2_1 + 1)))), (1, .int (Int32.ofInt (x2_1))), (0, .ref (ar 71))]) hx hb dX10_nearest_43 hl (k := 1) rfl (Int32.ofInt_add _ _).symm (by decide) rfl (fun ls hl => ?_)
          refine lv_goto (tgt := 4) hx hb dX10_nearest_46 (by decide) ?_
          have hl : lv_has ls 3 [(2, .int (Int32.ofInt ((x2_1 + 1)))), (1, .int (Int32.ofInt (x2_1))), (0, .ref (ar 71))] := lv_sub hl [0, 1, 2] rfl
          exact ih ((x2_1 + 1), x2_1) (show (fi 50 - (x2_1 + 1)).toNat < (fi 50 - x2_1).toNat from by omega) (show inR (x2_1 + 1) ∧ inR x2_1 ∧ (0 ≤ (x2_1 + 1) ∧ (x2_1 = -1 ∨ (0 ≤ x2_1 ∧ x2_1 < fi 50 ∧ fa 49 x2_1 = 0))) from ⟨(by omega), (by omega), (by omega)⟩) _ _ _ hP hD hS hl

set_option maxHeartbeats 4000000 in
set_option maxRecDepth 100000 in
theorem mX10_seek_32 (l : Launch) (G : va_G) (k : Nat → ClassId) (ar : Nat → Nat) (fi : Nat → Int) (fa : Nat → Int → Int) (fl : Nat → Int64) (a0 : Int) (w0 : Int) (sz : Nat) (hR : ∀ j, inR (fi j)) (hRa : ∀ j t, inR (fa j t)) (hr_a0 : inR a0) (hr_w0 : inR w0) (hth : 0 ≤ fi 12 ∧ fi 12 ≤ 7) (hru : 0 ≤ fi 13 ∧ fi 13 ≤ 4) (hRW : ∀ q9, 0 ≤ q9 → q9 < fi 13 → RWf (fa 10) (fa 8 q9) (fa 9 q9)) (hdp : 0 ≤ fa 3 0 ∧ fa 3 0 ≤ 11) (hw : w0 = 0 ∨ w0 = 1) : CNi l G k (EZ k) yX10_seek wzX10_seek ({ frames := 13, cells := 0, slots := 0, locals := 324 }) [.ref (ar 71), .ref (ar 32), .int (Int32.ofInt (a0)), .int (Int32.ofInt (w0))] sz (wM k ar fi fa fl) (fun (r0 : Int32) (u : Int × (Int → Int) × (Int → Int) × (Int → Int) × (Int → Int) × (Int → Int) × (Int → Int) × (Int → Int) × (Int → Int) × Int × Int × Int × Int × Int × Int × Int × Int × (Nat → Int64)) => r0 = Int32.ofInt (u.1) ∧ (inR u.1) ∧ (∀ t, inR (u.2.1 t)) ∧ (∀ t, inR (u.2.2.1 t)) ∧ (∀ t, inR (u.2.2.2.1 t)) ∧ (∀ t, inR (u.2.2.2.2.1 t)) ∧ (∀ t, inR (u.2.2.2.2.2.1 t)) ∧ (∀ t, inR (u.2.2.2.2.2.2.1 t)) ∧ (∀ t, inR (u.2.2.2.2.2.2.2.1 t)) ∧ (∀ t, inR (u.2.2.2.2.2.2.2.2.1 t)) ∧ (inR u.2.2.2.2.2.2.2.2.2.1) ∧ (inR u.2.2.2.2.2.2.2.2.2.2.1) ∧ (inR u.2.2.2.2.2.2.2.2.2.2.2.1) ∧ (inR u.2.2.2.2.2.2.2.2.2.2.2.2.1) ∧ (inR u.2.2.2.2.2.2.2.2.2.2.2.2.2.1) ∧ (inR u.2.2.2.2.2.2.2.2.2.2.2.2.2.2.1) ∧ (inR u.2.2.2.2.2.2.2.2.2.2.2.2.2.2.2.1) ∧ (inR u.2.2.2.2.2.2.2.2.2.2.2.2.2.2.2.2.1) ∧ ((u.1 = 0 ∨ u.1 = 1) ∧ 0 ≤ u.2.2.2.2.2.2.2.2.2.2.2.2.1 ∧ u.2.2.2.2.2.2.2.2.2.2.2.2.1 ≤ 1500)) (fun (u : Int × (Int → Int) × (Int → Int) × (Int → Int) × (Int → Int) × (Int → Int) × (Int → Int) × (Int → Int) × (Int → Int) × Int × Int × Int × Int × Int × Int × Int × Int × (Nat → Int64)) => (wM k ar (uF (uF (uF (uF (uF (uF (uF (uF fi 41 (u.2.2.2.2.2.2.2.2.2.1)) 42 (u.2.2.2.2.2.2.2.2.2.2.1)) 43 (u.2.2.2.2.2.2.2.2.2.2.2.1)) 50 (u.2.2.2.2.2.2.2.2.2.2.2.2.1)) 51 (u.2.2.2.2.2.2.2.2.2.2.2.2.2.1)) 52 (u.2.2.2.2.2.2.2.2.2.2.2.2.2.2.1)) 55 (u.2.2.2.2.2.2.2.2.2.2.2.2.2.2.2.1)) 56 (u.2.2.2.2.2.2.2.2.2.2.2.2.2.2.2.2.1)) (uF (uF (uF (uF (uF (uF (uF (uF fa 39 (u.2.1)) 40 (u.2.2.1)) 46 (u.2.2.2.1)) 47 (u.2.2.2.2.1)) 48 (u.2.2.2.2.2.1)) 49 (u.2.2.2.2.2.2.1)) 53 (u.2.2.2.2.2.2.2.1)) 54 (u.2.2.2.2.2.2.2.2.1)) u.2.2.2.2.2.2.2.2.2.2.2.2.2.2.2.2.2)) := by
  refine Met.ofW (cc := cX10_seek) (maxL := 6) (ret := (some .boolean)) (by decide) rfl ?_
  intro p e s m args below meth c s₁ B hml hv
  obtain ⟨rfl, hsz, hP, hX, hD0, hZ0⟩ := hv
  have hx := B.exec
  have hb := B.bytes
  have hr := B.returns
  have hts := atoms_spec (ws := wzX10_seek) B.pre
  have hown : s.vm.findClass RX10 = some m.cls := findClass_of_methodNamed B.named
  subst hsz
  have hD := hD0.self (sz := s.heap.size)
  have hZ := hZ0
  generalize hAe : va_A (wM k ar fi fa fl) s.heap.size = A at hD hZ ⊢
  have hA : ∀ q : Nat, s.heap.size ≤ q → A q := fun q h => by rw [← hAe]; exact Or.inr h
  have hS : va_S A s.heap s.heap [] := va_S.rf
  have hl := lv_entry ([.ref (ar 71), .ref (ar 32), .int (Int32.ofInt (a0)), .int (Int32.ofInt (w0))]) (n := 6) (Nat.le_of_ble_eq_true rfl)
  rw [lg_entry_eq]
  generalize (lg_sl ([.ref (ar 71), .ref (ar 32), .int (Int32.ofInt (a0)), .int (Int32.ofInt (w0))]) ++ List.replicate (6 - (lg_sl ([.ref (ar 71), .ref (ar 32), .int (Int32.ofInt (a0)), .int (Int32.ofInt (w0))])).length) Slot.unset).toArray = ls at hl ⊢
  have hl : lv_has ls 6 [(0, .ref (ar 71)), (1, .ref (ar 32)), (2, .int (Int32.ofInt (a0))), (3, .int (Int32.ofInt (w0)))] := hl
  obtain ⟨H, eH⟩ : ∃ H, H = s.heap := ⟨_, rfl⟩
  rw [← eH] at hP
  have hS : va_S A s.heap H [] := by rw [eH]; exact hS
  have gW : s.heap = H := eH.symm
  refine iv_heap gW ?_
  have h0w := hts (.fieldLink RX10 436 "RopeTownModel" "states" "I") (wz_at 35 21 rfl)
  have h1w : ∀ w ∈ wsX100, w ∈ wzX10_seek := fun w h => List.mem_cons_of_mem _ (inlX10 w h)
  have h2w := hts (.fieldLink RX10 439 "RopeTownModel" "isSpent" "Z") (wz_at 35 22 rfl)
  have h3w := hts (.fieldLink RX10 448 "RopeTownModel" "byWinding" "Z") (wz_at 35 23 rfl)
  have h4w := hts (.fieldLink RX10 137 "RopeTownModel" "then" "[I") (wz_at 7 10 rfl)
  have h5w := hts (.fieldLink RX10 130 "RopeTownModel" "isDone" "[Z") (wz_at 7 8 rfl)
  have h6w := hts (.fieldLink RX10 117 "RopeTownModel" "state" "[J") (wz_at 7 3 rfl)
  have h7w := hts (.fieldLink RX10 121 "RopeTownModel" "far" "[I") (wz_at 7 4 rfl)
  have h8w := hts (.fieldLink RX10 455 "RopeTownModel" "from" "I") (wz_at 36 0 rfl)
  have h9w := hts (.fieldLink RX10 134 "RopeTownModel" "row" "[I") (wz_at 7 9 rfl)
  have h10w := hts (.fieldLink RX10 127 "RopeTownModel" "heads" "[I") (wz_at 7 6 rfl)
  refine lv_iconst (v := Int32.ofInt 0) hx hb dX10_seek_0 (by decide +kernel) ?_
  refine lv_istore (lv' := [(4, .int (Int32.ofInt (0))), (0, .ref (ar 71)), (1, .ref (ar 32)), (2, .int (Int32.ofInt (a0))), (3, .int (Int32.ofInt (w0)))]) hx hb dX10_seek_1 hl (by decide) rfl (fun ls hl => ?_)
  refine iv_loop (α := Int × (Int → Int)) (nL := 6) (fun b9 => (wM k ar fi (uF fa 48 (b9.2)) fl)) (fun b9 => [(4, .int (Int32.ofInt (b9.1))), (0, .ref (ar 71)), (1, .ref (ar 32)), (2, .int (Int32.ofInt (a0))), (3, .int (Int32.ofInt (w0)))]) (fun b9 => (8192 - b9.1).toNat) (fun b9 => inR b9.1 ∧ (∀ t, inR (b9.2 t)) ∧ (0 ≤ b9.1 ∧ b9.1 ≤ 8192 ∧ ∀ f, 0 ≤ f → f < b9.1 → b9.2 f = -1)) ?_ (0, fa 48) (show inR 0 ∧ (∀ t, inR ((fa 48) t)) ∧ (0 ≤ 0 ∧ 0 ≤ 8192 ∧ ∀ f, 0 ≤ f → f < 0 → (fa 48) f = -1) from ⟨(by omega), (hRa 48), (by exact ⟨by omega, by omega, fun f h1 h2 => by omega⟩)⟩) hP hD hS hl
  rintro ⟨x4_1, g48_2⟩ ih hi9 H locs ls hP hD hS hl
  obtain ⟨r_x4_1, r_g48_2, hinv⟩ : inR x4_1 ∧ (∀ t, inR (g48_2 t)) ∧ (0 ≤ x4_1 ∧ x4_1 ≤ 8192 ∧ ∀ f, 0 ≤ f → f < x4_1 → g48_2 f = -1) := hi9
  have i48 := hinv.2.2
  obtain ⟨hP, hD⟩ : va_P G vwCl (wM k ar fi (uF fa 48 (g48_2)) fl) H ∧ va_D A (wM k ar fi (uF fa 48 (g48_2)) fl) := ⟨hP, hD⟩
  have hl : lv_has ls 6 [(4, .int (Int32.ofInt (x4_1))), (0, .ref (ar 71)), (1, .ref (ar 32)), (2, .int (Int32.ofInt (a0))), (3, .int (Int32.ofInt (w0)))] := hl
  refine lv_iload hx hb dX10_seek_3 (lv_at hl 0 rfl) ?_
  refine lv_sipush (v := Int32.ofInt 8192) hx hb dX10_seek_5 (by decide +kernel) ?_
  refine iv_icmp_ge (tgt := 25) hx hb (by omega) (by omega) dX10_seek_8 (by decide) (fun q3 => ?_) (fun q3 => ?_)
  · refine lv_aload_n hx hb dX10_seek_25 rfl (lv_at hl 1 rfl) ?_
    refine lv_iconst (v := Int32.ofInt 0) hx hb dX10_seek_26 (by decide +kernel) ?_
    refine iv_put (ci := 7) (v := .int (Int32.ofInt (0))) (ty := .int) (C := RX10) (T := TX10) (N := 71) (ref := RX10) hx hb hts h1w tyX10 tyX10_ok nmX10 hown hX.1 hP hD hS 0 rfl rfl 50 (by decide) h0w (fun _ h9 => h9) rfl (by decide +kernel) rfl rfl (Nat.le_of_ble_eq_true rfl) (wM_F50 _ _ _ _ _) dX10_seek_27 (fun H locs hP hD hS => ?_)
    refine lv_aload_n hx hb dX10_seek_30 rfl (lv_at hl 1 rfl) ?_
    refine lv_iconst (v := Int32.ofInt 0) hx hb dX10_seek_31 (by decide +kernel) ?_
    refine iv_put (ci := 7) (v := .int (Int32.ofInt (0))) (ty := .boolean) (C := RX10) (T := TX10) (N := 71) (ref := RX10) hx hb hts h1w tyX10 tyX10_ok nmX10 hown hX.1 hP hD hS 0 rfl rfl 52 (by decide) h2w (fun _ h9 => h9) rfl (by decide +kernel) (nz_bool (by omega)) (fz_bool (by omega)) (Nat.le_of_ble_eq_true rfl) (wM_F52 _ _ _ _ _) dX10_seek_32 (fun H locs hP hD hS => ?_)
    refine lv_aload_n hx hb dX10_seek_35 rfl (lv_at hl 1 rfl) ?_
    refine lv_iload_n hx hb dX10_seek_36 rfl (lv_at hl 4 rfl) ?_
    refine iv_put (ci := 7) (v := .int (Int32.ofInt (w0))) (ty := .boolean) (C := RX10) (T := TX10) (N := 71) (ref := RX10) hx hb hts h1w tyX10 tyX10_ok nmX10 hown hX.1 hP hD hS 0 rfl rfl 51 (by decide) h3w (fun _ h9 => h9) rfl (by decide +kernel) (nz_bool (by omega)) (fz_bool (by omega)) (Nat.le_of_ble_eq_true rfl) (wM_F51 _ _ _ _ _) dX10_seek_37 (fun H locs hP hD hS => ?_)
    obtain ⟨hP, hD⟩ : va_P G vwCl (wM k ar (uF (uF (uF fi 50 (0)) 51 (w0)) 52 (0)) (uF fa 48 (g48_2)) fl) H ∧ va_D A (wM k ar (uF (uF (uF fi 50 (0)) 51 (w0)) 52 (0)) (uF fa 48 (g48_2)) fl) := ⟨hP, hD⟩
    refine lv_iconst (v := Int32.ofInt 0) hx hb dX10_seek_40 (by decide +kernel) ?_
    refine lv_istore (lv' := [(4, .int (Int32.ofInt (0))), (0, .ref (ar 71)), (1, .ref (ar 32)), (2, .int (Int32.ofInt (a0))), (3, .int (Int32.ofInt (w0)))]) hx hb dX10_seek_41 hl (by decide) rfl (fun ls hl => ?_)
    refine iv_loop (α := Int × (Int → Int)) (nL := 6) (fun b9 => (wM k ar (uF (uF (uF fi 50 (0)) 51 (w0)) 52 (0)) (uF (uF fa 48 (g48_2)) 54 (b9.2)) fl)) (fun b9 => [(4, .int (Int32.ofInt (b9.1))), (0, .ref (ar 71)), (1, .ref (ar 32)), (2, .int (Int32.ofInt (a0))), (3, .int (Int32.ofInt (w0)))]) (fun b9 => (7 - b9.1).toNat) (fun b9 => inR b9.1 ∧ (∀ t, inR (b9.2 t)) ∧ (0 ≤ b9.1 ∧ b9.1 ≤ 7)) ?_ (0, fa 54) (show inR 0 ∧ (∀ t, inR ((fa 54) t)) ∧ (0 ≤ 0 ∧ 0 ≤ 7) from ⟨(by omega), (hRa 54), (by omega)⟩) hP hD hS hl
    rintro ⟨x4_4, g54_5⟩ ih hi9 H locs ls hP hD hS hl
    obtain ⟨r_x4_4, r_g54_5, hinv⟩ : inR x4_4 ∧ (∀ t, inR (g54_5 t)) ∧ (0 ≤ x4_4 ∧ x4_4 ≤ 7) := hi9
    obtain ⟨hP, hD⟩ : va_P G vwCl (wM k ar (uF (uF (uF fi 50 (0)) 51 (w0)) 52 (0)) (uF (uF fa 48 (g48_2)) 54 (g54_5)) fl) H ∧ va_D A (wM k ar (uF (uF (uF fi 50 (0)) 51 (w0)) 52 (0)) (uF (uF fa 48 (g48_2)) 54 (g54_5)) fl) := ⟨hP, hD⟩
    have hl : lv_has ls 6 [(4, .int (Int32.ofInt (x4_4))), (0, .ref (ar 71)), (1, .ref (ar 32)), (2, .int (Int32.ofInt (a0))), (3, .int (Int32.ofInt (w0)))] := hl
    refine lv_iload hx hb dX10_seek_43 (lv_at hl 0 rfl) ?_
    refine lv_bipush (v := Int32.ofInt 7) hx hb dX10_seek_45 (by decide +kernel) ?_
    refine iv_icmp_ge (tgt := 67) hx hb (by omega) (by omega) dX10_seek_47 (by decide) (fun q6 => ?_) (fun q6 => ?_)
    · have s1 : (0 : Int) ≤ 0 := by omega
      have s2 : (0 : Int) ≤ 1500 := by omega
      have s3 : ∀ f, 0 ≤ f → f < 8192 → -1 ≤ g48_2 f ∧ g48_2 f < 0 := fun f h1 h2 => by have := i48 f h1 (by omega); omega
      have s4 : ∀ t, 0 ≤ t → t < 0 → -1 ≤ (fa 47) t ∧ (fa 47) t < t := fun t h1 h2 => by omega
      have hFR := FR.rf (n := 0) (d := (fa 49))
      refine lv_aload_n hx hb dX10_seek_67 rfl (lv_at hl 1 rfl) ?_
      refine lv_aload_n hx hb dX10_seek_68 rfl (lv_at hl 1 rfl) ?_
      refine va_get (D := G) (ci := 7) (v := .ref (ar 54)) (C := RX10) (T := TX10) (N := 71) (ref := RX10) hx hb hts h1w hown hX.1 hP 0 rfl rfl 54 (by decide) h4w (fun _ h9 => h9) rfl dX10_seek_69 ?_
      refine lv_iload_n hx hb dX10_seek_72 rfl (lv_at hl 3 rfl) ?_
      refine cr_l (va_runS (As := [.ref (ar 54), .int (Int32.ofInt (a0))]) (rest := [.ref (ar 71)]) ⟨hx, hb, hml, hown, hts⟩ (mX10_pack l G k ar (uF (uF (uF fi 50 (0)) 51 (w0)) 52 (0)) (uF (uF fa 48 (g48_2)) 54 (g54_5)) fl a0 H.size (iF (iF (iF hR (by omega)) (by omega)) (by omega)) (iG (iG hRa r_g48_2) r_g54_5) (by omega)) (cwS 2 hts (gz [.methodLink RX10 451 yX10_pack, .static yX10_pack, .initialized RX10] (.code yX10_pack cX10_pack 5 (some .long)) [(36, 1), (36, 2), (0, 5), (36, 3)] rfl) rfl rfl rfl (by decide +kernel) ⟨Nat.le_of_ble_eq_true rfl, Nat.le_of_ble_eq_true rfl⟩) (cr_preS (EZ_ok k) hZ hS hX hP hD hA) rfl rfl hl.1 rfl (lv_room (Nat.le_of_ble_eq_true rfl)) dX10_seek_73 ⟨Nat.le_of_ble_eq_true rfl, Nat.le_of_ble_eq_true rfl⟩) hD hS hA (fun r u H locs hp hP hD hS => ?_)
      obtain ⟨c7, rfl⟩ : ∃ z, z = u := ⟨_, rfl⟩
      obtain ⟨h9, hp7⟩ : r = c7 ∧ (True) := hp
      replace h9 := h9.symm; subst h9
      refine lv_iconst (v := Int32.ofInt 0) hx hb dX10_seek_76 (by decide +kernel) ?_
      refine cr_v (va_runV (As := [.long (c7), .int (Int32.ofInt (0))]) (rest := []) ⟨hx, hb, hml, hown, hts⟩ (mX10_come l G k ar (uF (uF (uF fi 50 (0)) 51 (w0)) 52 (0)) (uF (uF fa 48 (g48_2)) 54 (g54_5)) fl c7 0 H.size (iF (iF (iF hR (by omega)) (by omega)) (by omega)) (iG (iG hRa r_g48_2) r_g54_5) (by omega) (show 0 ≤ 0 from by omega) (show 0 ≤ 1500 from by omega) (show ∀ f, 0 ≤ f → f < 8192 → -1 ≤ g48_2 f ∧ g48_2 f < 0 from by first | exact s3 | omega) (show ∀ t, 0 ≤ t → t < 0 → -1 ≤ (fa 47) t ∧ (fa 47) t < t from by first | exact s4 | omega)) (cwV 2 hts (gz [.methodLink RX10 458 yX10_come, .instanceMethod yX10_come, .selects RX10 yX10_come yX10_come, .initialized RX10] (.code yX10_come cX10_come 6 none) [(36, 5), (36, 6), (36, 7), (0, 5), (36, 8)] rfl) rfl rfl rfl (by decide +kernel) ⟨Nat.le_of_ble_eq_true rfl, Nat.le_of_ble_eq_true rfl⟩) (cr_preV (EZ_ok k) hZ hS hX hP hD hA (ci := 7) (q0 := 0) rfl rfl) rfl rfl hl.1 rfl (lv_room (Nat.le_of_ble_eq_true rfl)) dX10_seek_77 ⟨Nat.le_of_ble_eq_true rfl, Nat.le_of_ble_eq_true rfl⟩) hD hS hA (fun u H locs hp hP hD hS => ?_)
      obtain ⟨c8, c9, c10, c11, c12, c13, c14⟩ := u
      obtain ⟨hP, hD⟩ : va_P G vwCl (wM k ar (uF (uF (uF fi 50 (c12)) 51 (w0)) 52 (c13)) (uF (uF (uF (uF (uF fa 46 (c8)) 47 (c9)) 48 (c10)) 49 (c11)) 54 (g54_5)) c14) H ∧ va_D A (wM k ar (uF (uF (uF fi 50 (c12)) 51 (w0)) 52 (c13)) (uF (uF (uF (uF (uF fa 46 (c8)) 47 (c9)) 48 (c10)) 49 (c11)) 54 (g54_5)) c14) := ⟨hP, hD⟩
      obtain ⟨rc8, rc9, rc10, rc11, rc12, rc13, hp14⟩ : (∀ t, inR (c8 t)) ∧ (∀ t, inR (c9 t)) ∧ (∀ t, inR (c10 t)) ∧ (∀ t, inR (c11 t)) ∧ (inR c12) ∧ (inR c13) ∧ (0 ≤ c12 ∧ c12 ≤ 1500 ∧ (∀ f, 0 ≤ f → f < 8192 → -1 ≤ c10 f ∧ c10 f < c12) ∧ (∀ t, 0 ≤ t → t < c12 → -1 ≤ c9 t ∧ c9 t < t) ∧ FR (0) ((fa 49)) c12 c11) := hp
      obtain ⟨s1, s2, s3, s4, hF1⟩ := hp14
      have hFR := hFR.tr hF1
      refine lv_aload_n hx hb dX10_seek_80 rfl (lv_at hl 1 rfl) ?_
      refine cr_i (va_runV (As := []) (rest := []) ⟨hx, hb, hml, hown, hts⟩ (mX10_nearest l G k ar (uF (uF (uF fi 50 (c12)) 51 (w0)) 52 (c13)) (uF (uF (uF (uF (uF fa 46 (c8)) 47 (c9)) 48 (c10)) 49 (c11)) 54 (g54_5)) c14 H.size (iF (iF (iF hR (by omega)) (by omega)) (by omega)) (iG (iG (iG (iG (iG hRa rc8) rc9) rc10) rc11) r_g54_5) (show 0 ≤ c12 from by omega) (show c12 ≤ 1500 from by omega)) (cwV 0 hts (gz [.methodLink RX10 462 yX10_nearest, .instanceMethod yX10_nearest, .selects RX10 yX10_nearest yX10_nearest, .initialized RX10] (.code yX10_nearest cX10_nearest 3 (some .int)) [(36, 13), (36, 14), (36, 15), (0, 5), (36, 16)] rfl) rfl rfl rfl (by decide +kernel) ⟨Nat.le_of_ble_eq_true rfl, Nat.le_of_ble_eq_true rfl⟩) (cr_preV (EZ_ok k) hZ hS hX hP hD hA (ci := 7) (q0 := 0) rfl rfl) rfl rfl hl.1 rfl (lv_room (Nat.le_of_ble_eq_true rfl)) dX10_seek_81 ⟨Nat.le_of_ble_eq_true rfl, Nat.le_of_ble_eq_true rfl⟩) hD hS hA (fun r u H locs hp hP hD hS => ?_)
      obtain ⟨c15, rfl⟩ : ∃ z, z = u := ⟨_, rfl⟩
      obtain ⟨h9, rc15, hp15⟩ : r = Int32.ofInt c15 ∧ (inR c15) ∧ (c15 = -1 ∨ (0 ≤ c15 ∧ c15 < c12 ∧ c11 c15 = 0)) := hp
      subst h9
      refine lv_istore (lv' := [(4, .int (Int32.ofInt (c15))), (0, .ref (ar 71)), (1, .ref (ar 32)), (2, .int (Int32.ofInt (a0))), (3, .int (Int32.ofInt (w0)))]) hx hb dX10_seek_84 hl (by decide) rfl (fun ls hl => ?_)
      refine iv_loop (α := Int × Int × Int × Int × Int × Int × Int × Int × (Int → Int) × (Int → Int) × (Int → Int) × (Int → Int) × (Int → Int) × (Int → Int) × (Int → Int) × (Int → Int) × (Nat → Int64)) (nL := 6) (fun b9 => (wM k ar (uF (uF (uF (uF (uF (uF (uF (uF fi 41 (b9.2.1)) 42 (b9.2.2.1)) 43 (b9.2.2.2.1)) 50 (b9.2.2.2.2.1)) 51 (w0)) 52 (b9.2.2.2.2.2.1)) 55 (b9.2.2.2.2.2.2.1)) 56 (b9.2.2.2.2.2.2.2.1)) (uF (uF (uF (uF (uF (uF (uF (uF fa 39 (b9.2.2.2.2.2.2.2.2.1)) 40 (b9.2.2.2.2.2.2.2.2.2.1)) 46 (b9.2.2.2.2.2.2.2.2.2.2.1)) 47 (b9.2.2.2.2.2.2.2.2.2.2.2.1)) 48 (b9.2.2.2.2.2.2.2.2.2.2.2.2.1)) 49 (b9.2.2.2.2.2.2.2.2.2.2.2.2.2.1)) 53 (b9.2.2.2.2.2.2.2.2.2.2.2.2.2.2.1)) 54 (b9.2.2.2.2.2.2.2.2.2.2.2.2.2.2.2.1)) b9.2.2.2.2.2.2.2.2.2.2.2.2.2.2.2.2)) (fun b9 => [(4, .int (Int32.ofInt (b9.1))), (0, .ref (ar 71)), (1, .ref (ar 32)), (2, .int (Int32.ofInt (a0))), (3, .int (Int32.ofInt (w0)))]) (fun b9 => (1501 - cnt b9.2.2.2.2.2.2.2.2.2.2.2.2.2.1 b9.2.2.2.2.1).toNat) (fun b9 => inR b9.1 ∧ inR b9.2.1 ∧ inR b9.2.2.1 ∧ inR b9.2.2.2.1 ∧ inR b9.2.2.2.2.1 ∧ inR b9.2.2.2.2.2.1 ∧ inR b9.2.2.2.2.2.2.1 ∧ inR b9.2.2.2.2.2.2.2.1 ∧ (∀ t, inR (b9.2.2.2.2.2.2.2.2.1 t)) ∧ (∀ t, inR (b9.2.2.2.2.2.2.2.2.2.1 t)) ∧ (∀ t, inR (b9.2.2.2.2.2.2.2.2.2.2.1 t)) ∧ (∀ t, inR (b9.2.2.2.2.2.2.2.2.2.2.2.1 t)) ∧ (∀ t, inR (b9.2.2.2.2.2.2.2.2.2.2.2.2.1 t)) ∧ (∀ t, inR (b9.2.2.2.2.2.2.2.2.2.2.2.2.2.1 t)) ∧ (∀ t, inR (b9.2.2.2.2.2.2.2.2.2.2.2.2.2.2.1 t)) ∧ (∀ t, inR (b9.2.2.2.2.2.2.2.2.2.2.2.2.2.2.2.1 t)) ∧ (0 ≤ b9.2.2.2.2.1 ∧ b9.2.2.2.2.1 ≤ 1500 ∧ (∀ f, 0 ≤ f → f < 8192 → -1 ≤ b9.2.2.2.2.2.2.2.2.2.2.2.2.1 f ∧ b9.2.2.2.2.2.2.2.2.2.2.2.2.1 f < b9.2.2.2.2.1) ∧ (∀ t, 0 ≤ t → t < b9.2.2.2.2.1 → -1 ≤ b9.2.2.2.2.2.2.2.2.2.2.2.1 t ∧ b9.2.2.2.2.2.2.2.2.2.2.2.1 t < t) ∧ (b9.1 = -1 ∨ (0 ≤ b9.1 ∧ b9.1 < b9.2.2.2.2.1 ∧ b9.2.2.2.2.2.2.2.2.2.2.2.2.2.1 b9.1 = 0)))) ?_ (c15, fi 41, fi 42, fi 43, c12, c13, fi 55, fi 56, fa 39, fa 40, c8, c9, c10, c11, fa 53, g54_5, c14) (show inR c15 ∧ inR (fi 41) ∧ inR (fi 42) ∧ inR (fi 43) ∧ inR c12 ∧ inR c13 ∧ inR (fi 55) ∧ inR (fi 56) ∧ (∀ t, inR ((fa 39) t)) ∧ (∀ t, inR ((fa 40) t)) ∧ (∀ t, inR (c8 t)) ∧ (∀ t, inR (c9 t)) ∧ (∀ t, inR (c10 t)) ∧ (∀ t, inR (c11 t)) ∧ (∀ t, inR ((fa 53) t)) ∧ (∀ t, inR (g54_5 t)) ∧ (0 ≤ c12 ∧ c12 ≤ 1500 ∧ (∀ f, 0 ≤ f → f < 8192 → -1 ≤ c10 f ∧ c10 f < c12) ∧ (∀ t, 0 ≤ t → t < c12 → -1 ≤ c9 t ∧ c9 t < t) ∧ (c15 = -1 ∨ (0 ≤ c15 ∧ c15 < c12 ∧ c11 c15 = 0))) from ⟨(by omega), (hR 41), (hR 42), (hR 43), (by omega), (by omega), (hR 55), (hR 56), (hRa 39), (hRa 40), rc8, rc9, rc10, rc11, (hRa 53), r_g54_5, (by exact ⟨s1, s2, s3, s4, by omega⟩)⟩) hP hD hS hl
      rintro ⟨x4_16, n41_17, n42_18, n43_19, n50_20, n52_21, n55_22, n56_23, g39_24, g40_25, g46_26, g47_27, g48_28, g49_29, g53_30, g54_31, gl_32⟩ ih hi9 H locs ls hP hD hS hl
      obtain ⟨r_x4_16, r_n41_17, r_n42_18, r_n43_19, r_n50_20, r_n52_21, r_n55_22, r_n56_23, r_g39_24, r_g40_25, r_g46_26, r_g47_27, r_g48_28, r_g49_29, r_g53_30, r_g54_31, hinv⟩ : inR x4_16 ∧ inR n41_17 ∧ inR n42_18 ∧ inR n43_19 ∧ inR n50_20 ∧ inR n52_21 ∧ inR n55_22 ∧ inR n56_23 ∧ (∀ t, inR (g39_24 t)) ∧ (∀ t, inR (g40_25 t)) ∧ (∀ t, inR (g46_26 t)) ∧ (∀ t, inR (g47_27 t)) ∧ (∀ t, inR (g48_28 t)) ∧ (∀ t, inR (g49_29 t)) ∧ (∀ t, inR (g53_30 t)) ∧ (∀ t, inR (g54_31 t)) ∧ (0 ≤ n50_20 ∧ n50_20 ≤ 1500 ∧ (∀ f, 0 ≤ f → f < 8192 → -1 ≤ g48_28 f ∧ g48_28 f < n50_20) ∧ (∀ t, 0 ≤ t → t < n50_20 → -1 ≤ g47_27 t ∧ g47_27 t < t) ∧ (x4_16 = -1 ∨ (0 ≤ x4_16 ∧ x4_16 < n50_20 ∧ g49_29 x4_16 = 0))) := hi9
      obtain ⟨s1, s2, s3, s4, hk4⟩ := hinv
      have c7 := cnt_le (g49_29) s1
      have s2o := s2
      obtain ⟨hP, hD⟩ : va_P G vwCl (wM k ar (uF (uF (uF (uF (uF (uF (uF (uF fi 41 (n41_17)) 42 (n42_18)) 43 (n43_19)) 50 (n50_20)) 51 (w0)) 52 (n52_21)) 55 (n55_22)) 56 (n56_23)) (uF (uF (uF (uF (uF (uF (uF (uF fa 39 (g39_24)) 40 (g40_25)) 46 (g46_26)) 47 (g47_27)) 48 (g48_28)) 49 (g49_29)) 53 (g53_30)) 54 (g54_31)) gl_32) H ∧ va_D A (wM k ar (uF (uF (uF (uF (uF (uF (uF (uF fi 41 (n41_17)) 42 (n42_18)) 43 (n43_19)) 50 (n50_20)) 51 (w0)) 52 (n52_21)) 55 (n55_22)) 56 (n56_23)) (uF (uF (uF (uF (uF (uF (uF (uF fa 39 (g39_24)) 40 (g40_25)) 46 (g46_26)) 47 (g47_27)) 48 (g48_28)) 49 (g49_29)) 53 (g53_30)) 54 (g54_31)) gl_32) := ⟨hP, hD⟩
      have hl : lv_has ls 6 [(4, .int (Int32.ofInt (x4_16))), (0, .ref (ar 71)), (1, .ref (ar 32)), (2, .int (Int32.ofInt (a0))), (3, .int (Int32.ofInt (w0)))] := hl
      refine lv_iload hx hb dX10_seek_86 (lv_at hl 0 rfl) ?_
      refine lv_iconst (v := Int32.ofInt (-1)) hx hb dX10_seek_88 (by decide +kernel) ?_
      refine iv_icmp_eq (tgt := 173) hx hb (by omega) (by omega) dX10_seek_89 (by decide) (fun q33 => ?_) (fun q33 => ?_)
      · refine lv_aload_n hx hb dX10_seek_173 rfl (lv_at hl 1 rfl) ?_
        refine va_get (D := G) (ci := 7) (v := .int (Int32.ofInt (n52_21))) (C := RX10) (T := TX10) (N := 71) (ref := RX10) hx hb hts h1w hown hX.1 hP 0 rfl rfl 52 (by decide) h2w (fun _ h9 => h9) rfl dX10_seek_174 ?_
        refine iv_if_ne (tgt := 184) hx hb (by omega) dX10_seek_177 (by decide) (fun q34 => ?_) (fun q34 => ?_)
        · refine lv_iconst (v := Int32.ofInt 0) hx hb dX10_seek_184 (by decide +kernel) ?_
          exact W.zret (v := Int32.ofInt (0)) hx hb hr (nz_bool (by omega)) (fun t ht hW => ⟨⟨Int32.ofInt (0), (0, g39_24, g40_25, g46_26, g47_27, g48_28, g49_29, g53_30, g54_31, n41_17, n42_18, n43_19, n50_20, w0, n52_21, n55_22, n56_23, gl_32), rfl, ⟨rfl, (show (inR 0) ∧ (∀ t, inR (g39_24 t)) ∧ (∀ t, inR (g40_25 t)) ∧ (∀ t, inR (g46_26 t)) ∧ (∀ t, inR (g47_27 t)) ∧ (∀ t, inR (g48_28 t)) ∧ (∀ t, inR (g49_29 t)) ∧ (∀ t, inR (g53_30 t)) ∧ (∀ t, inR (g54_31 t)) ∧ (inR n41_17) ∧ (inR n42_18) ∧ (inR n43_19) ∧ (inR n50_20) ∧ (inR w0) ∧ (inR n52_21) ∧ (inR n55_22) ∧ (inR n56_23) ∧ ((0 = 0 ∨ 0 = 1) ∧ 0 ≤ n50_20 ∧ n50_20 ≤ 1500) from ⟨(by omega), r_g39_24, r_g40_25, r_g46_26, r_g47_27, r_g48_28, r_g49_29, r_g53_30, r_g54_31, (by omega), (by omega), (by omega), (by omega), (by omega), (by omega), (by omega), (by omega), (by omega)⟩)⟩, by rw [ht]; exact hP, hD⟩, hS.F ht⟩) hS.2.2 dX10_seek_185
        · refine lv_iconst (v := Int32.ofInt 1) hx hb dX10_seek_180 (by decide +kernel) ?_
          refine lv_goto (tgt := 185) hx hb dX10_seek_181 (by decide) ?_
          exact W.zret (v := Int32.ofInt (1)) hx hb hr (nz_bool (by omega)) (fun t ht hW => ⟨⟨Int32.ofInt (1), (1, g39_24, g40_25, g46_26, g47_27, g48_28, g49_29, g53_30, g54_31, n41_17, n42_18, n43_19, n50_20, w0, n52_21, n55_22, n56_23, gl_32), rfl, ⟨rfl, (show (inR 1) ∧ (∀ t, inR (g39_24 t)) ∧ (∀ t, inR (g40_25 t)) ∧ (∀ t, inR (g46_26 t)) ∧ (∀ t, inR (g47_27 t)) ∧ (∀ t, inR (g48_28 t)) ∧ (∀ t, inR (g49_29 t)) ∧ (∀ t, inR (g53_30 t)) ∧ (∀ t, inR (g54_31 t)) ∧ (inR n41_17) ∧ (inR n42_18) ∧ (inR n43_19) ∧ (inR n50_20) ∧ (inR w0) ∧ (inR n52_21) ∧ (inR n55_22) ∧ (inR n56_23) ∧ ((1 = 0 ∨ 1 = 1) ∧ 0 ≤ n50_20 ∧ n50_20 ≤ 1500) from ⟨(by omega), r_g39_24, r_g40_25, r_g46_26, r_g47_27, r_g48_28, r_g49_29, r_g53_30, r_g54_31, (by omega), (by omega), (by omega), (by omega), (by omega), (by omega), (by omega), (by omega), (by omega)⟩)⟩, by rw [ht]; exact hP, hD⟩, hS.F ht⟩) hS.2.2 dX10_seek_185
      · refine lv_aload_n hx hb dX10_seek_92 rfl (lv_at hl 1 rfl) ?_
        refine va_get (D := G) (ci := 7) (v := .int (Int32.ofInt (n52_21))) (C := RX10) (T := TX10) (N := 71) (ref := RX10) hx hb hts h1w hown hX.1 hP 0 rfl rfl 52 (by decide) h2w (fun _ h9 => h9) rfl dX10_seek_93 ?_
        refine iv_if_ne (tgt := 173) hx hb (by omega) dX10_seek_96 (by decide) (fun q35 => ?_) (fun q35 => ?_)
        · refine lv_aload_n hx hb dX10_seek_173 rfl (lv_at hl 1 rfl) ?_
          refine va_get (D := G) (ci := 7) (v := .int (Int32.ofInt (n52_21))) (C := RX10) (T := TX10) (N := 71) (ref := RX10) hx hb hts h1w hown hX.1 hP 0 rfl rfl 52 (by decide) h2w (fun _ h9 => h9) rfl dX10_seek_174 ?_
          refine iv_if_ne (tgt := 184) hx hb (by omega) dX10_seek_177 (by decide) (fun q36 => ?_) (fun q36 => ?_)
          · refine lv_iconst (v := Int32.ofInt 0) hx hb dX10_seek_184 (by decide +kernel) ?_
            exact W.zret (v := Int32.ofInt (0)) hx hb hr (nz_bool (by omega)) (fun t ht hW => ⟨⟨Int32.ofInt (0), (0, g39_24, g40_25, g46_26, g47_27, g48_28, g49_29, g53_30, g54_31, n41_17, n42_18, n43_19, n50_20, w0, n52_21, n55_22, n56_23, gl_32), rfl, ⟨rfl, (show (inR 0) ∧ (∀ t, inR (g39_24 t)) ∧ (∀ t, inR (g40_25 t)) ∧ (∀ t, inR (g46_26 t)) ∧ (∀ t, inR (g47_27 t)) ∧ (∀ t, inR (g48_28 t)) ∧ (∀ t, inR (g49_29 t)) ∧ (∀ t, inR (g53_30 t)) ∧ (∀ t, inR (g54_31 t)) ∧ (inR n41_17) ∧ (inR n42_18) ∧ (inR n43_19) ∧ (inR n50_20) ∧ (inR w0) ∧ (inR n52_21) ∧ (inR n55_22) ∧ (inR n56_23) ∧ ((0 = 0 ∨ 0 = 1) ∧ 0 ≤ n50_20 ∧ n50_20 ≤ 1500) from ⟨(by omega), r_g39_24, r_g40_25, r_g46_26, r_g47_27, r_g48_28, r_g49_29, r_g53_30, r_g54_31, (by omega), (by omega), (by omega), (by omega), (by omega), (by omega), (by omega), (by omega), (by omega)⟩)⟩, by rw [ht]; exact hP, hD⟩, hS.F ht⟩) hS.2.2 dX10_seek_185
          · refine lv_iconst (v := Int32.ofInt 1) hx hb dX10_seek_180 (by decide +kernel) ?_
            refine lv_goto (tgt := 185) hx hb dX10_seek_181 (by decide) ?_
            exact W.zret (v := Int32.ofInt (1)) hx hb hr (nz_bool (by omega)) (fun t ht hW => ⟨⟨Int32.ofInt (1), (1, g39_24, g40_25, g46_26, g47_27, g48_28, g49_29, g53_30, g54_31, n41_17, n42_18, n43_19, n50_20, w0, n52_21, n55_22, n56_23, gl_32), rfl, ⟨rfl, (show (inR 1) ∧ (∀ t, inR (g39_24 t)) ∧ (∀ t, inR (g40_25 t)) ∧ (∀ t, inR (g46_26 t)) ∧ (∀ t, inR (g47_27 t)) ∧ (∀ t, inR (g48_28 t)) ∧ (∀ t, inR (g49_29 t)) ∧ (∀ t, inR (g53_30 t)) ∧ (∀ t, inR (g54_31 t)) ∧ (inR n41_17) ∧ (inR n42_18) ∧ (inR n43_19) ∧ (inR n50_20) ∧ (inR w0) ∧ (inR n52_21) ∧ (inR n55_22) ∧ (inR n56_23) ∧ ((1 = 0 ∨ 1 = 1) ∧ 0 ≤ n50_20 ∧ n50_20 ≤ 1500) from ⟨(by omega), r_g39_24, r_g40_25, r_g46_26, r_g47_27, r_g48_28, r_g49_29, r_g53_30, r_g54_31, (by omega), (by omega), (by omega), (by omega), (by omega), (by omega), (by omega), (by omega), (by omega)⟩)⟩, by rw [ht]; exact hP, hD⟩, hS.F ht⟩) hS.2.2 dX10_seek_185
        · refine lv_aload_n hx hb dX10_seek_99 rfl (lv_at hl 1 rfl) ?_
          refine va_get (D := G) (ci := 7) (v := .ref (ar 49)) (C := RX10) (T := TX10) (N := 71) (ref := RX10) hx hb hts h1w hown hX.1 hP 0 rfl rfl 49 (by decide) h5w (fun _ h9 => h9) rfl dX10_seek_100 ?_
          refine lv_iload hx hb dX10_seek_103 (lv_at hl 0 rfl) ?_
          refine lv_iconst (v := Int32.ofInt 1) hx hb dX10_seek_105 (by decide +kernel) ?_
          refine iv_zast hx hb hX.1 hP hD hS 25 3 rfl rfl (wM_A49 _ _ _ _ _) (by omega) (by omega) (by omega) (by decide) dX10_seek_106 (fun H locs hP hD hS => ?_)
          obtain ⟨hP, hD⟩ : va_P G vwCl (wM k ar (uF (uF (uF (uF (uF (uF (uF (uF fi 41 (n41_17)) 42 (n42_18)) 43 (n43_19)) 50 (n50_20)) 51 (w0)) 52 (n52_21)) 55 (n55_22)) 56 (n56_23)) (uF (uF (uF (uF (uF (uF (uF (uF fa 39 (g39_24)) 40 (g40_25)) 46 (g46_26)) 47 (g47_27)) 48 (g48_28)) 49 (uA (g49_29) (x4_16) (1))) 53 (g53_30)) 54 (g54_31)) gl_32) H ∧ va_D A (wM k ar (uF (uF (uF (uF (uF (uF (uF (uF fi 41 (n41_17)) 42 (n42_18)) 43 (n43_19)) 50 (n50_20)) 51 (w0)) 52 (n52_21)) 55 (n55_22)) 56 (n56_23)) (uF (uF (uF (uF (uF (uF (uF (uF fa 39 (g39_24)) 40 (g40_25)) 46 (g46_26)) 47 (g47_27)) 48 (g48_28)) 49 (uA (g49_29) (x4_16) (1))) 53 (g53_30)) 54 (g54_31)) gl_32) := ⟨hP, hD⟩
          obtain ⟨g37, eg37, rg37⟩ : ∃ z, z = uA (g49_29) (x4_16) (1) ∧ ∀ t, inR (z t) := ⟨_, rfl, iU r_g49_29 (by omega)⟩
          rw [← eg37] at hP hD
          obtain ⟨hP, hD⟩ : va_P G vwCl (wM k ar (uF (uF (uF (uF (uF (uF (uF (uF fi 41 (n41_17)) 42 (n42_18)) 43 (n43_19)) 50 (n50_20)) 51 (w0)) 52 (n52_21)) 55 (n55_22)) 56 (n56_23)) (uF (uF (uF (uF (uF (uF (uF (uF fa 39 (g39_24)) 40 (g40_25)) 46 (g46_26)) 47 (g47_27)) 48 (g48_28)) 49 (g37)) 53 (g53_30)) 54 (g54_31)) gl_32) H ∧ va_D A (wM k ar (uF (uF (uF (uF (uF (uF (uF (uF fi 41 (n41_17)) 42 (n42_18)) 43 (n43_19)) 50 (n50_20)) 51 (w0)) 52 (n52_21)) 55 (n55_22)) 56 (n56_23)) (uF (uF (uF (uF (uF (uF (uF (uF fa 39 (g39_24)) 40 (g40_25)) 46 (g46_26)) 47 (g47_27)) 48 (g48_28)) 49 (g37)) 53 (g53_30)) 54 (g54_31)) gl_32) := ⟨hP, hD⟩
          have eD := eg37
          have hFR := FR.rf (n := n50_20) (d := g37)
          refine lv_aload_n hx hb dX10_seek_107 rfl (lv_at hl 1 rfl) ?_
          refine lv_aload_n hx hb dX10_seek_108 rfl (lv_at hl 1 rfl) ?_
          refine va_get (D := G) (ci := 7) (v := .ref (ar 45)) (C := RX10) (T := TX10) (N := 71) (ref := RX10) hx hb hts h1w hown hX.1 hP 0 rfl rfl 45 (by decide) h6w (fun _ h9 => h9) rfl dX10_seek_109 ?_
          refine lv_iload hx hb dX10_seek_112 (lv_at hl 0 rfl) ?_
          refine iv_lald hx hb hX.1 hP 21 2 rfl rfl (by omega) (by omega) (by decide) dX10_seek_114 ?_
          refine lv_topl (fun z38 ez38 => ?_)
          refine cr_v (va_runV (As := [.long (z38)]) (rest := []) ⟨hx, hb, hml, hown, hts⟩ (mX10_unpack l G k ar (uF (uF (uF (uF (uF (uF (uF (uF fi 41 (n41_17)) 42 (n42_18)) 43 (n43_19)) 50 (n50_20)) 51 (w0)) 52 (n52_21)) 55 (n55_22)) 56 (n56_23)) (uF (uF (uF (uF (uF (uF (uF (uF fa 39 (g39_24)) 40 (g40_25)) 46 (g46_26)) 47 (g47_27)) 48 (g48_28)) 49 (g37)) 53 (g53_30)) 54 (g54_31)) gl_32 z38 H.size (iF (iF (iF (iF (iF (iF (iF (iF hR (by omega)) (by omega)) (by omega)) (by omega)) (by omega)) (by omega)) (by omega)) (by omega)) (iG (iG (iG (iG (iG (iG (iG (iG hRa r_g39_24) r_g40_25) r_g46_26) r_g47_27) r_g48_28) rg37) r_g53_30) r_g54_31)) (cwV 1 hts (gz [.methodLink RX10 465 yX10_unpack, .instanceMethod yX10_unpack, .selects RX10 yX10_unpack yX10_unpack, .initialized RX10] (.code yX10_unpack cX10_unpack 6 none) [(36, 17), (36, 18), (36, 19), (0, 5), (36, 20)] rfl) rfl rfl rfl (by decide +kernel) ⟨Nat.le_of_ble_eq_true rfl, Nat.le_of_ble_eq_true rfl⟩) (cr_preV (EZ_ok k) hZ hS hX hP hD hA (ci := 7) (q0 := 0) rfl rfl) rfl rfl hl.1 rfl (lv_room (Nat.le_of_ble_eq_true rfl)) dX10_seek_115 ⟨Nat.le_of_ble_eq_true rfl, Nat.le_of_ble_eq_true rfl⟩) hD hS hA (fun u H locs hp hP hD hS => ?_)
          obtain ⟨c39, c40⟩ := u
          obtain ⟨hP, hD⟩ : va_P G vwCl (wM k ar (uF (uF (uF (uF (uF (uF (uF (uF fi 41 (n41_17)) 42 (n42_18)) 43 (n43_19)) 50 (n50_20)) 51 (w0)) 52 (n52_21)) 55 (c40)) 56 (n56_23)) (uF (uF (uF (uF (uF (uF (uF (uF fa 39 (g39_24)) 40 (g40_25)) 46 (g46_26)) 47 (g47_27)) 48 (g48_28)) 49 (g37)) 53 (c39)) 54 (g54_31)) gl_32) H ∧ va_D A (wM k ar (uF (uF (uF (uF (uF (uF (uF (uF fi 41 (n41_17)) 42 (n42_18)) 43 (n43_19)) 50 (n50_20)) 51 (w0)) 52 (n52_21)) 55 (c40)) 56 (n56_23)) (uF (uF (uF (uF (uF (uF (uF (uF fa 39 (g39_24)) 40 (g40_25)) 46 (g46_26)) 47 (g47_27)) 48 (g48_28)) 49 (g37)) 53 (c39)) 54 (g54_31)) gl_32) := ⟨hP, hD⟩
          obtain ⟨rc39, rc40, hp40⟩ : (∀ t, inR (c39 t)) ∧ (inR c40) ∧ (True) := hp
          refine lv_aload_n hx hb dX10_seek_118 rfl (lv_at hl 1 rfl) ?_
          refine lv_aload_n hx hb dX10_seek_119 rfl (lv_at hl 1 rfl) ?_
          refine va_get (D := G) (ci := 7) (v := .ref (ar 46)) (C := RX10) (T := TX10) (N := 71) (ref := RX10) hx hb hts h1w hown hX.1 hP 0 rfl rfl 46 (by decide) h7w (fun _ h9 => h9) rfl dX10_seek_120 ?_
          refine lv_iload hx hb dX10_seek_123 (lv_at hl 0 rfl) ?_
          refine iv_iald hx hb hX.1 hP 22 0 rfl rfl (by omega) (by omega) (by decide) dX10_seek_125 ?_
          refine iv_top (fun z41 ez41 => ?_)
          have rz41 : inR z41 := ez41 ▸ r_g46_26 _
          have ez41 : z41 = g46_26 x4_16 := ez41
          refine iv_put (ci := 7) (v := .int (Int32.ofInt (z41))) (ty := .int) (C := RX10) (T := TX10) (N := 71) (ref := RX10) hx hb hts h1w tyX10 tyX10_ok nmX10 hown hX.1 hP hD hS 0 rfl rfl 56 (by decide) h8w (fun _ h9 => h9) rfl (by decide +kernel) rfl rfl (Nat.le_of_ble_eq_true rfl) (wM_F56 _ _ _ _ _) dX10_seek_126 (fun H locs hP hD hS => ?_)
          obtain ⟨hP, hD⟩ : va_P G vwCl (wM k ar (uF (uF (uF (uF (uF (uF (uF (uF fi 41 (n41_17)) 42 (n42_18)) 43 (n43_19)) 50 (n50_20)) 51 (w0)) 52 (n52_21)) 55 (c40)) 56 (z41)) (uF (uF (uF (uF (uF (uF (uF (uF fa 39 (g39_24)) 40 (g40_25)) 46 (g46_26)) 47 (g47_27)) 48 (g48_28)) 49 (g37)) 53 (c39)) 54 (g54_31)) gl_32) H ∧ va_D A (wM k ar (uF (uF (uF (uF (uF (uF (uF (uF fi 41 (n41_17)) 42 (n42_18)) 43 (n43_19)) 50 (n50_20)) 51 (w0)) 52 (n52_21)) 55 (c40)) 56 (z41)) (uF (uF (uF (uF (uF (uF (uF (uF fa 39 (g39_24)) 40 (g40_25)) 46 (g46_26)) 47 (g47_27)) 48 (g48_28)) 49 (g37)) 53 (c39)) 54 (g54_31)) gl_32) := ⟨hP, hD⟩
          refine lv_iconst (v := Int32.ofInt 0) hx hb dX10_seek_129 (by decide +kernel) ?_
          refine lv_istore (lv' := [(5, .int (Int32.ofInt (0))), (4, .int (Int32.ofInt (x4_16))), (0, .ref (ar 71)), (1, .ref (ar 32)), (2, .int (Int32.ofInt (a0))), (3, .int (Int32.ofInt (w0)))]) hx hb dX10_seek_130 hl (by decide) rfl (fun ls hl => ?_)
          refine iv_loop (α := Int × (Int → Int)) (nL := 6) (fun b9 => (wM k ar (uF (uF (uF (uF (uF (uF (uF (uF fi 41 (n41_17)) 42 (n42_18)) 43 (n43_19)) 50 (n50_20)) 51 (w0)) 52 (n52_21)) 55 (c40)) 56 (z41)) (uF (uF (uF (uF (uF (uF (uF (uF fa 39 (g39_24)) 40 (g40_25)) 46 (g46_26)) 47 (g47_27)) 48 (g48_28)) 49 (g37)) 53 (c39)) 54 (b9.2)) gl_32)) (fun b9 => [(5, .int (Int32.ofInt (b9.1))), (4, .int (Int32.ofInt (x4_16))), (0, .ref (ar 71)), (1, .ref (ar 32)), (2, .int (Int32.ofInt (a0))), (3, .int (Int32.ofInt (w0)))]) (fun b9 => (7 - b9.1).toNat) (fun b9 => inR b9.1 ∧ (∀ t, inR (b9.2 t)) ∧ (0 ≤ b9.1 ∧ b9.1 ≤ 7)) ?_ (0, g54_31) (show inR 0 ∧ (∀ t, inR (g54_31 t)) ∧ (0 ≤ 0 ∧ 0 ≤ 7) from ⟨(by omega), r_g54_31, (by omega)⟩) hP hD hS hl
          rintro ⟨x5_42, g54_43⟩ ih132 hi9 H locs ls hP hD hS hl
          obtain ⟨r_x5_42, r_g54_43, hinv⟩ : inR x5_42 ∧ (∀ t, inR (g54_43 t)) ∧ (0 ≤ x5_42 ∧ x5_42 ≤ 7) := hi9
          obtain ⟨hP, hD⟩ : va_P G vwCl (wM k ar (uF (uF (uF (uF (uF (uF (uF (uF fi 41 (n41_17)) 42 (n42_18)) 43 (n43_19)) 50 (n50_20)) 51 (w0)) 52 (n52_21)) 55 (c40)) 56 (z41)) (uF (uF (uF (uF (uF (uF (uF (uF fa 39 (g39_24)) 40 (g40_25)) 46 (g46_26)) 47 (g47_27)) 48 (g48_28)) 49 (g37)) 53 (c39)) 54 (g54_43)) gl_32) H ∧ va_D A (wM k ar (uF (uF (uF (uF (uF (uF (uF (uF fi 41 (n41_17)) 42 (n42_18)) 43 (n43_19)) 50 (n50_20)) 51 (w0)) 52 (n52_21)) 55 (c40)) 56 (z41)) (uF (uF (uF (uF (uF (uF (uF (uF fa 39 (g39_24)) 40 (g40_25)) 46 (g46_26)) 47 (g47_27)) 48 (g48_28)) 49 (g37)) 53 (c39)) 54 (g54_43)) gl_32) := ⟨hP, hD⟩
          have hl : lv_has ls 6 [(5, .int (Int32.ofInt (x5_42))), (4, .int (Int32.ofInt (x4_16))), (0, .ref (ar 71)), (1, .ref (ar 32)), (2, .int (Int32.ofInt (a0))), (3, .int (Int32.ofInt (w0)))] := hl
          refine lv_iload hx hb dX10_seek_132 (lv_at hl 0 rfl) ?_
          refine lv_bipush (v := Int32.ofInt 7) hx hb dX10_seek_134 (by decide +kernel) ?_
          refine iv_icmp_ge (tgt := 159) hx hb (by omega) (by omega) dX10_seek_136 (by decide) (fun q44 => ?_) (fun q44 => ?_)
          · refine lv_aload_n hx hb dX10_seek_159 rfl (lv_at hl 2 rfl) ?_
            refine lv_iconst (v := Int32.ofInt 0) hx hb dX10_seek_160 (by decide +kernel) ?_
            refine cr_v (va_runV (As := [.int (Int32.ofInt (0))]) (rest := []) ⟨hx, hb, hml, hown, hts⟩ (mX10_arrange_0 l G k ar (uF (uF (uF (uF (uF (uF (uF (uF fi 41 (n41_17)) 42 (n42_18)) 43 (n43_19)) 50 (n50_20)) 51 (w0)) 52 (n52_21)) 55 (c40)) 56 (z41)) (uF (uF (uF (uF (uF (uF (uF (uF fa 39 (g39_24)) 40 (g40_25)) 46 (g46_26)) 47 (g47_27)) 48 (g48_28)) 49 (g37)) 53 (c39)) 54 (g54_43)) gl_32 H.size (iF (iF (iF (iF (iF (iF (iF (iF hR (by omega)) (by omega)) (by omega)) (by omega)) (by omega)) (by omega)) (by omega)) (by omega)) (iG (iG (iG (iG (iG (iG (iG (iG hRa r_g39_24) r_g40_25) r_g46_26) r_g47_27) r_g48_28) rg37) rc39) r_g54_43) (show 0 ≤ (fi 12) ∧ (fi 12) ≤ 7 from by omega) (show 0 ≤ (fi 13) ∧ (fi 13) ≤ 4 from by omega) (show ∀ q9, 0 ≤ q9 → q9 < (fi 13) → RWf ((fa 10)) ((fa 8) q9) ((fa 9) q9) from by first | exact hRW | omega) (show 0 ≤ (fa 3) 0 ∧ (fa 3) 0 ≤ 11 from by omega) (show 0 ≤ n50_20 from by omega) (show n50_20 ≤ 1500 from by omega) (show ∀ f, 0 ≤ f → f < 8192 → -1 ≤ g48_28 f ∧ g48_28 f < n50_20 from by first | exact s3 | omega) (show ∀ t, 0 ≤ t → t < n50_20 → -1 ≤ g47_27 t ∧ g47_27 t < t from by first | exact s4 | omega) (show 0 ≤ (fi 12) from by omega)) (cwV 1 hts (gz [.methodLink RX10 445 yX10_arrange, .instanceMethod yX10_arrange, .selects RX10 yX10_arrange yX10_arrange, .initialized RX10] (.code yX10_arrange cX10_arrange 7 none) [(36, 22), (36, 23), (37, 0), (0, 5), (37, 1)] rfl) rfl rfl rfl (by decide +kernel) ⟨Nat.le_of_ble_eq_true rfl, Nat.le_of_ble_eq_true rfl⟩) (cr_preV (EZ_ok k) hZ hS hX hP hD hA (ci := 7) (q0 := 0) rfl rfl) rfl rfl hl.1 rfl (lv_room (Nat.le_of_ble_eq_true rfl)) dX10_seek_161 ⟨Nat.le_of_ble_eq_true rfl, Nat.le_of_ble_eq_true rfl⟩) hD hS hA (fun u H locs hp hP hD hS => ?_)
            obtain ⟨c45, c46, c47, c48, c49, c50, c51, c52, c53, c54, c55, c56, c57⟩ := u
            obtain ⟨hP, hD⟩ : va_P G vwCl (wM k ar (uF (uF (uF (uF (uF (uF (uF (uF fi 41 (c52)) 42 (c53)) 43 (c54)) 50 (c55)) 51 (w0)) 52 (c56)) 55 (c40)) 56 (z41)) (uF (uF (uF (uF (uF (uF (uF (uF fa 39 (c45)) 40 (c46)) 46 (c47)) 47 (c48)) 48 (c49)) 49 (c50)) 53 (c39)) 54 (c51)) c57) H ∧ va_D A (wM k ar (uF (uF (uF (uF (uF (uF (uF (uF fi 41 (c52)) 42 (c53)) 43 (c54)) 50 (c55)) 51 (w0)) 52 (c56)) 55 (c40)) 56 (z41)) (uF (uF (uF (uF (uF (uF (uF (uF fa 39 (c45)) 40 (c46)) 46 (c47)) 47 (c48)) 48 (c49)) 49 (c50)) 53 (c39)) 54 (c51)) c57) := ⟨hP, hD⟩
            obtain ⟨rc45, rc46, rc47, rc48, rc49, rc50, rc51, rc52, rc53, rc54, rc55, rc56, hp57⟩ : (∀ t, inR (c45 t)) ∧ (∀ t, inR (c46 t)) ∧ (∀ t, inR (c47 t)) ∧ (∀ t, inR (c48 t)) ∧ (∀ t, inR (c49 t)) ∧ (∀ t, inR (c50 t)) ∧ (∀ t, inR (c51 t)) ∧ (inR c52) ∧ (inR c53) ∧ (inR c54) ∧ (inR c55) ∧ (inR c56) ∧ (0 ≤ c55 ∧ c55 ≤ 1500 ∧ (∀ f, 0 ≤ f → f < 8192 → -1 ≤ c49 f ∧ c49 f < c55) ∧ (∀ t, 0 ≤ t → t < c55 → -1 ≤ c48 t ∧ c48 t < t) ∧ FR (n50_20) (g37) c55 c50) := hp
            obtain ⟨s1, s2, s3, s4, hF1⟩ := hp57
            have hFR := hFR.tr hF1
            refine lv_aload_n hx hb dX10_seek_164 rfl (lv_at hl 2 rfl) ?_
            refine cr_i (va_runV (As := []) (rest := []) ⟨hx, hb, hml, hown, hts⟩ (mX10_nearest l G k ar (uF (uF (uF (uF (uF (uF (uF (uF fi 41 (c52)) 42 (c53)) 43 (c54)) 50 (c55)) 51 (w0)) 52 (c56)) 55 (c40)) 56 (z41)) (uF (uF (uF (uF (uF (uF (uF (uF fa 39 (c45)) 40 (c46)) 46 (c47)) 47 (c48)) 48 (c49)) 49 (c50)) 53 (c39)) 54 (c51)) c57 H.size (iF (iF (iF (iF (iF (iF (iF (iF hR (by omega)) (by omega)) (by omega)) (by omega)) (by omega)) (by omega)) (by omega)) (by omega)) (iG (iG (iG (iG (iG (iG (iG (iG hRa rc45) rc46) rc47) rc48) rc49) rc50) rc39) rc51) (show 0 ≤ c55 from by omega) (show c55 ≤ 1500 from by omega)) (cwV 0 hts (gz [.methodLink RX10 462 yX10_nearest, .instanceMethod yX10_nearest, .selects RX10 yX10_nearest yX10_nearest, .initialized RX10] (.code yX10_nearest cX10_nearest 3 (some .int)) [(36, 13), (36, 14), (36, 15), (0, 5), (36, 16)] rfl) rfl rfl rfl (by decide +kernel) ⟨Nat.le_of_ble_eq_true rfl, Nat.le_of_ble_eq_true rfl⟩) (cr_preV (EZ_ok k) hZ hS hX hP hD hA (ci := 7) (q0 := 0) rfl rfl) rfl rfl hl.1 rfl (lv_room (Nat.le_of_ble_eq_true rfl)) dX10_seek_165 ⟨Nat.le_of_ble_eq_true rfl, Nat.le_of_ble_eq_true rfl⟩) hD hS hA (fun r u H locs hp hP hD hS => ?_)
            obtain ⟨c58, rfl⟩ : ∃ z, z = u := ⟨_, rfl⟩
            obtain ⟨h9, rc58, hp58⟩ : r = Int32.ofInt c58 ∧ (inR c58) ∧ (c58 = -1 ∨ (0 ≤ c58 ∧ c58 < c55 ∧ c50 c58 = 0)) := hp
            subst h9
            refine lv_istore (lv' := [(4, .int (Int32.ofInt (c58))), (5, .int (Int32.ofInt (x5_42))), (0, .ref (ar 71)), (1, .ref (ar 32)), (2, .int (Int32.ofInt (a0))), (3, .int (Int32.ofInt (w0)))]) hx hb dX10_seek_168 hl (by decide) rfl (fun ls hl => ?_)
            refine lv_goto (tgt := 86) hx hb dX10_seek_170 (by decide) ?_
            have hl : lv_has ls 6 [(4, .int (Int32.ofInt (c58))), (0, .ref (ar 71)), (1, .ref (ar 32)), (2, .int (Int32.ofInt (a0))), (3, .int (Int32.ofInt (w0)))] := lv_sub hl [0, 2, 3, 4, 5] rfl
            exact ih (c58, c52, c53, c54, c55, c56, c40, z41, c45, c46, c47, c48, c49, c50, c39, c51, c57) (show (1501 - cnt c50 c55).toNat < (1501 - cnt g49_29 n50_20).toNat from by have c9 := cnt_step (by omega) (by omega) (by omega) eD hFR; omega) (show inR c58 ∧ inR c52 ∧ inR c53 ∧ inR c54 ∧ inR c55 ∧ inR c56 ∧ inR c40 ∧ inR z41 ∧ (∀ t, inR (c45 t)) ∧ (∀ t, inR (c46 t)) ∧ (∀ t, inR (c47 t)) ∧ (∀ t, inR (c48 t)) ∧ (∀ t, inR (c49 t)) ∧ (∀ t, inR (c50 t)) ∧ (∀ t, inR (c39 t)) ∧ (∀ t, inR (c51 t)) ∧ (0 ≤ c55 ∧ c55 ≤ 1500 ∧ (∀ f, 0 ≤ f → f < 8192 → -1 ≤ c49 f ∧ c49 f < c55) ∧ (∀ t, 0 ≤ t → t < c55 → -1 ≤ c48 t ∧ c48 t < t) ∧ (c58 = -1 ∨ (0 ≤ c58 ∧ c58 < c55 ∧ c50 c58 = 0))) from ⟨(by omega), (by omega), (by omega), (by omega), (by omega), (by omega), (by omega), (by omega), rc45, rc46, rc47, rc48, rc49, rc50, rc39, rc51, (by exact ⟨s1, s2, s3, s4, by omega⟩)⟩) _ _ _ hP hD hS hl
          · refine lv_aload_n hx hb dX10_seek_139 rfl (lv_at hl 2 rfl) ?_
            refine va_get (D := G) (ci := 7) (v := .ref (ar 54)) (C := RX10) (T := TX10) (N := 71) (ref := RX10) hx hb hts h1w hown hX.1 hP 0 rfl rfl 54 (by decide) h4w (fun _ h9 => h9) rfl dX10_seek_140 ?_
            refine lv_iload hx hb dX10_seek_143 (lv_at hl 0 rfl) ?_
            refine lv_aload_n hx hb dX10_seek_145 rfl (lv_at hl 2 rfl) ?_
            refine va_get (D := G) (ci := 7) (v := .ref (ar 53)) (C := RX10) (T := TX10) (N := 71) (ref := RX10) hx hb hts h1w hown hX.1 hP 0 rfl rfl 53 (by decide) h9w (fun _ h9 => h9) rfl dX10_seek_146 ?_
            refine lv_iload hx hb dX10_seek_149 (lv_at hl 0 rfl) ?_
            refine iv_iald hx hb hX.1 hP 26 0 rfl rfl (by omega) (by omega) (by decide) dX10_seek_151 ?_
            refine iv_top (fun z59 ez59 => ?_)
            have rz59 : inR z59 := ez59 ▸ rc39 _
            have ez59 : z59 = c39 x5_42 := ez59
            refine iv_iast hx hb hX.1 hP hD hS 27 0 rfl rfl (wM_A54 _ _ _ _ _) (by omega) (by omega) (by decide) dX10_seek_152 (fun H locs hP hD hS => ?_)
            obtain ⟨hP, hD⟩ : va_P G vwCl (wM k ar (uF (uF (uF (uF (uF (uF (uF (uF fi 41 (n41_17)) 42 (n42_18)) 43 (n43_19)) 50 (n50_20)) 51 (w0)) 52 (n52_21)) 55 (c40)) 56 (z41)) (uF (uF (uF (uF (uF (uF (uF (uF fa 39 (g39_24)) 40 (g40_25)) 46 (g46_26)) 47 (g47_27)) 48 (g48_28)) 49 (g37)) 53 (c39)) 54 (uA (g54_43) (x5_42) (z59))) gl_32) H ∧ va_D A (wM k ar (uF (uF (uF (uF (uF (uF (uF (uF fi 41 (n41_17)) 42 (n42_18)) 43 (n43_19)) 50 (n50_20)) 51 (w0)) 52 (n52_21)) 55 (c40)) 56 (z41)) (uF (uF (uF (uF (uF (uF (uF (uF fa 39 (g39_24)) 40 (g40_25)) 46 (g46_26)) 47 (g47_27)) 48 (g48_28)) 49 (g37)) 53 (c39)) 54 (uA (g54_43) (x5_42) (z59))) gl_32) := ⟨hP, hD⟩
            obtain ⟨g60, eg60, rg60⟩ : ∃ z, z = uA (g54_43) (x5_42) (z59) ∧ ∀ t, inR (z t) := ⟨_, rfl, iU r_g54_43 (by omega)⟩
            rw [← eg60] at hP hD
            refine lv_iinc (v := Int32.ofInt (x5_42 + 1)) (lv' := [(5, .int (Int32.ofInt ((x5_42 + 1)))), (4, .int (Int32.ofInt (x4_16))), (0, .ref (ar 71)), (1, .ref (ar 32)), (2, .int (Int32.ofInt (a0))), (3, .int (Int32.ofInt (w0)))]) hx hb dX10_seek_153 hl (k := 0) rfl (Int32.ofInt_add _ _).symm (by decide) rfl (fun ls hl => ?_)
            refine lv_goto (tgt := 132) hx hb dX10_seek_156 (by decide) ?_
            have hl : lv_has ls 6 [(5, .int (Int32.ofInt ((x5_42 + 1)))), (4, .int (Int32.ofInt (x4_16))), (0, .ref (ar 71)), (1, .ref (ar 32)), (2, .int (Int32.ofInt (a0))), (3, .int (Int32.ofInt (w0)))] := lv_sub hl [0, 1, 2, 3, 4, 5] rfl
            exact ih132 ((x5_42 + 1), g60) (show (7 - (x5_42 + 1)).toNat < (7 - x5_42).toNat from by omega) (show inR (x5_42 + 1) ∧ (∀ t, inR (g60 t)) ∧ (0 ≤ (x5_42 + 1) ∧ (x5_42 + 1) ≤ 7) from ⟨(by omega), rg60, (by omega)⟩) _ _ _ hP hD hS hl
    · refine lv_aload_n hx hb dX10_seek_50 rfl (lv_at hl 1 rfl) ?_
      refine va_get (D := G) (ci := 7) (v := .ref (ar 54)) (C := RX10) (T := TX10) (N := 71) (ref := RX10) hx hb hts h1w hown hX.1 hP 0 rfl rfl 54 (by decide) h4w (fun _ h9 => h9) rfl dX10_seek_51 ?_
      refine lv_iload hx hb dX10_seek_54 (lv_at hl 0 rfl) ?_
      refine lv_aload_n hx hb dX10_seek_56 rfl (lv_at hl 2 rfl) ?_
      refine lv_iload hx hb dX10_seek_57 (lv_at hl 0 rfl) ?_
      refine iv_iald hx hb hX.1 hP 11 0 rfl rfl (by omega) (by omega) (by decide) dX10_seek_59 ?_
      refine iv_top (fun z61 ez61 => ?_)
      have rz61 : inR z61 := ez61 ▸ (hRa 32) _
      have ez61 : z61 = (fa 32) x4_4 := ez61
      refine iv_iast hx hb hX.1 hP hD hS 27 0 rfl rfl (wM_A54 _ _ _ _ _) (by omega) (by omega) (by decide) dX10_seek_60 (fun H locs hP hD hS => ?_)
      obtain ⟨hP, hD⟩ : va_P G vwCl (wM k ar (uF (uF (uF fi 50 (0)) 51 (w0)) 52 (0)) (uF (uF fa 48 (g48_2)) 54 (uA (g54_5) (x4_4) (z61))) fl) H ∧ va_D A (wM k ar (uF (uF (uF fi 50 (0)) 51 (w0)) 52 (0)) (uF (uF fa 48 (g48_2)) 54 (uA (g54_5) (x4_4) (z61))) fl) := ⟨hP, hD⟩
      obtain ⟨g62, eg62, rg62⟩ : ∃ z, z = uA (g54_5) (x4_4) (z61) ∧ ∀ t, inR (z t) := ⟨_, rfl, iU r_g54_5 (by omega)⟩
      rw [← eg62] at hP hD
      refine lv_iinc (v := Int32.ofInt (x4_4 + 1)) (lv' := [(4, .int (Int32.ofInt ((x4_4 + 1)))), (0, .ref (ar 71)), (1, .ref (ar 32)), (2, .int (Int32.ofInt (a0))), (3, .int (Int32.ofInt (w0)))]) hx hb dX10_seek_61 hl (k := 0) rfl (Int32.ofInt_add _ _).symm (by decide) rfl (fun ls hl => ?_)
      refine lv_goto (tgt := 43) hx hb dX10_seek_64 (by decide) ?_
      have hl : lv_has ls 6 [(4, .int (Int32.ofInt ((x4_4 + 1)))), (0, .ref (ar 71)), (1, .ref (ar 32)), (2, .int (Int32.ofInt (a0))), (3, .int (Int32.ofInt (w0)))] := lv_sub hl [0, 1, 2, 3, 4] rfl
      exact ih ((x4_4 + 1), g62) (show (7 - (x4_4 + 1)).toNat < (7 - x4_4).toNat from by omega) (show inR (x4_4 + 1) ∧ (∀ t, inR (g62 t)) ∧ (0 ≤ (x4_4 + 1) ∧ (x4_4 + 1) ≤ 7) from ⟨(by omega), rg62, (by omega)⟩) _ _ _ hP hD hS hl
  · refine lv_aload_n hx hb dX10_seek_11 rfl (lv_at hl 1 rfl) ?_
    refine va_get (D := G) (ci := 7) (v := .ref (ar 48)) (C := RX10) (T := TX10) (N := 71) (ref := RX10) hx hb hts h1w hown hX.1 hP 0 rfl rfl 48 (by decide) h10w (fun _ h9 => h9) rfl dX10_seek_12 ?_
    refine lv_iload hx hb dX10_seek_15 (lv_at hl 0 rfl) ?_
    refine lv_iconst (v := Int32.ofInt (-1)) hx hb dX10_seek_17 (by decide +kernel) ?_
    refine iv_iast hx hb hX.1 hP hD hS 24 0 rfl rfl (wM_A48 _ _ _ _ _) (by omega) (by omega) (by decide) dX10_seek_18 (fun H locs hP hD hS => ?_)
    obtain ⟨hP, hD⟩ : va_P G vwCl (wM k ar fi (uF fa 48 (uA (g48_2) (x4_1) ((-1)))) fl) H ∧ va_D A (wM k ar fi (uF fa 48 (uA (g48_2) (x4_1) ((-1)))) fl) := ⟨hP, hD⟩
    obtain ⟨g63, eg63, rg63⟩ : ∃ z, z = uA (g48_2) (x4_1) ((-1)) ∧ ∀ t, inR (z t) := ⟨_, rfl, iU r_g48_2 (by omega)⟩
    rw [← eg63] at hP hD
    refine lv_iinc (v := Int32.ofInt (x4_1 + 1)) (lv' := [(4, .int (Int32.ofInt ((x4_1 + 1)))), (0, .ref (ar 71)), (1, .ref (ar 32)), (2, .int (Int32.ofInt (a0))), (3, .int (Int32.ofInt (w0)))]) hx hb dX10_seek_19 hl (k := 0) rfl (Int32.ofInt_add _ _).symm (by decide) rfl (fun ls hl => ?_)
    refine lv_goto (tgt := 3) hx hb dX10_seek_22 (by decide) ?_
    have hl : lv_has ls 6 [(4, .int (Int32.ofInt ((x4_1 + 1)))), (0, .ref (ar 71)), (1, .ref (ar 32)), (2, .int (Int32.ofInt (a0))), (3, .int (Int32.ofInt (w0)))] := lv_sub hl [0, 1, 2, 3, 4] rfl
    exact ih ((x4_1 + 1), g63) (show (8192 - (x4_1 + 1)).toNat < (8192 - x4_1).toNat from by omega) (show inR (x4_1 + 1) ∧ (∀ t, inR (g63 t)) ∧ (0 ≤ (x4_1 + 1) ∧ (x4_1 + 1) ≤ 8192 ∧ ∀ f, 0 ≤ f → f < (x4_1 + 1) → g63 f = -1) from ⟨(by omega), rg63, (by exact ⟨by omega, by omega, fill_step i48 eg63⟩)⟩) _ _ _ hP hD hS hl

