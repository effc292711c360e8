set_option maxHeartbeats 4000000 in
set_option maxRecDepth 100000 in
theorem mX10_nearest (l : Launch) (G : va_G) (k : Nat → ClassId) (ar : Nat → Nat) (fi : Nat → Int) (fa : Nat → Int → Int) (fl : Nat → Int64) (sz : Nat) (hR : ∀ j, inR (fi j)) (hRa : ∀ j t, inR (fa j t)) (s1 : 0 ≤ fi 50) (s2 : fi 50 ≤ 1500) : CNi l G k (EZ k) yX10_nearest wzX10_nearest ({ frames := 0, cells := 0, slots := 0, locals := 0 }) [.ref (ar 71)] sz (wM k ar fi fa fl) (fun (r0 : Int32) (u : Int) => r0 = Int32.ofInt (u) ∧ (inR u) ∧ ((u = -1 ∨ (0 ≤ u ∧ u < fi 50 ∧ fa 49 u = 0)) ∧ NrI (fa 49) u (fi 50))) (fun (u : Int) => (wM k ar fi fa fl)) := by
  refine Met.ofW (cc := cX10_nearest) (maxL := 3) (ret := (some .int)) (by decide) rfl ?_
  intro p e s m args below meth c s₁ B hml hv
  obtain ⟨rfl, hsz, hP, hX, hD0, hZ0⟩ := hv
  have hx := B.exec
  have hb := B.bytes
  have hr := B.returns
  have hts := atoms_spec (ws := wzX10_nearest) B.pre
  have hown : s.vm.findClass RX10 = some m.cls := findClass_of_methodNamed B.named
  subst hsz
  have hD := hD0.self (sz := s.heap.size)
  have hZ := hZ0
  generalize hAe : va_A (wM k ar fi fa fl) s.heap.size = A at hD hZ ⊢
  have hA : ∀ q : Nat, s.heap.size ≤ q → A q := fun q h => by rw [← hAe]; exact Or.inr h
  have hS : va_S A s.heap s.heap [] := va_S.rf
  have hl := lv_entry ([.ref (ar 71)]) (n := 3) (Nat.le_of_ble_eq_true rfl)
  rw [lg_entry_eq]
  generalize (lg_sl ([.ref (ar 71)]) ++ List.replicate (3 - (lg_sl ([.ref (ar 71)])).length) Slot.unset).toArray = ls at hl ⊢
  have hl : lv_has ls 3 [(0, .ref (ar 71))] := hl
  obtain ⟨H, eH⟩ : ∃ H, H = s.heap := ⟨_, rfl⟩
  rw [← eH] at hP
  have hS : va_S A s.heap H [] := by rw [eH]; exact hS
  have gW : s.heap = H := eH.symm
  refine iv_heap gW ?_
  have h0w := hts (.fieldLink RX10 436 "RopeTownModel" "states" "I") (wz_at 35 17 rfl)
  have h1w : ∀ w ∈ wsX100, w ∈ wzX10_nearest := fun w h => List.mem_cons_of_mem _ (inlX10 w h)
  have h2w := hts (.fieldLink RX10 130 "RopeTownModel" "isDone" "[Z") (wz_at 7 8 rfl)
  have h3w := hts (.fieldLink RX10 121 "RopeTownModel" "far" "[I") (wz_at 7 4 rfl)
  refine lv_iconst (v := Int32.ofInt (-1)) hx hb dX10_nearest_0 (by decide +kernel) ?_
  refine lv_istore_n (lv' := [(1, .int (Int32.ofInt ((-1)))), (0, .ref (ar 71))]) hx hb dX10_nearest_1 rfl hl (by decide) rfl (fun ls hl => ?_)
  refine lv_iconst (v := Int32.ofInt 0) hx hb dX10_nearest_2 (by decide +kernel) ?_
  refine lv_istore_n (lv' := [(2, .int (Int32.ofInt (0))), (1, .int (Int32.ofInt ((-1)))), (0, .ref (ar 71))]) hx hb dX10_nearest_3 rfl hl (by decide) rfl (fun ls hl => ?_)
  refine iv_loop (α := Int × Int) (nL := 3) (fun b9 => (wM k ar fi fa fl)) (fun b9 => [(2, .int (Int32.ofInt (b9.1))), (1, .int (Int32.ofInt (b9.2))), (0, .ref (ar 71))]) (fun b9 => (fi 50 - b9.1).toNat) (fun b9 => inR b9.1 ∧ inR b9.2 ∧ ((0 ≤ b9.1 ∧ b9.1 ≤ fi 50 ∧ (b9.2 = -1 ∨ (0 ≤ b9.2 ∧ b9.2 < fi 50 ∧ fa 49 b9.2 = 0))) ∧ NrI (fa 49) b9.2 b9.1)) ?_ (0, (-1)) (show inR 0 ∧ inR (-1) ∧ ((0 ≤ 0 ∧ 0 ≤ fi 50 ∧ ((-1) = -1 ∨ (0 ≤ (-1) ∧ (-1) < fi 50 ∧ fa 49 (-1) = 0))) ∧ NrI (fa 49) (-1) 0) from ⟨(by omega), (by omega), (by exact ⟨by omega, nr_0 rfl⟩)⟩) hP hD hS hl
  rintro ⟨x2_1, x1_2⟩ ih hi9 H locs ls hP hD hS hl
  obtain ⟨r_x2_1, r_x1_2, hinv⟩ : inR x2_1 ∧ inR x1_2 ∧ ((0 ≤ x2_1 ∧ x2_1 ≤ fi 50 ∧ (x1_2 = -1 ∨ (0 ≤ x1_2 ∧ x1_2 < fi 50 ∧ fa 49 x1_2 = 0))) ∧ NrI (fa 49) x1_2 x2_1) := hi9
  obtain ⟨hinv, hNI⟩ := hinv
  obtain ⟨hP, hD⟩ : va_P G vwCl (wM k ar fi fa fl) H ∧ va_D A (wM k ar fi fa fl) := ⟨hP, hD⟩
  have hl : lv_has ls 3 [(2, .int (Int32.ofInt (x2_1))), (1, .int (Int32.ofInt (x1_2))), (0, .ref (ar 71))] := hl
  refine lv_iload_n hx hb dX10_nearest_4 rfl (lv_at hl 0 rfl) ?_
  refine lv_aload_n hx hb dX10_nearest_5 rfl (lv_at hl 2 rfl) ?_
  refine va_get (D := G) (ci := 7) (v := .int (Int32.ofInt (fi 50))) (C := RX10) (T := TX10) (N := 71) (ref := RX10) hx hb hts h1w hown hX.1 hP 0 rfl rfl 50 (by decide) h0w (fun _ h9 => h9) rfl dX10_nearest_6 ?_
  have rf50 := hR 50
  refine iv_icmp_ge (tgt := 49) hx hb (by omega) (by omega) dX10_nearest_9 (by decide) (fun q3 => ?_) (fun q3 => ?_)
  · refine lv_iload_n hx hb dX10_nearest_49 rfl (lv_at hl 1 rfl) ?_
    exact W.iret (v := Int32.ofInt (x1_2)) hx hb hr (fun t ht hW => ⟨⟨Int32.ofInt (x1_2), (x1_2), rfl, ⟨rfl, (show (inR x1_2) ∧ ((x1_2 = -1 ∨ (0 ≤ x1_2 ∧ x1_2 < fi 50 ∧ fa 49 x1_2 = 0)) ∧ NrI (fa 49) x1_2 (fi 50)) from ⟨(by omega), (by exact ⟨by omega, by rw [show fi 50 = x2_1 by omega]; exact hNI⟩)⟩)⟩, by rw [ht]; exact hP, hD⟩, hS.F ht⟩) hS.2.2 dX10_nearest_50
  · refine lv_aload_n hx hb dX10_nearest_12 rfl (lv_at hl 2 rfl) ?_
    refine va_get (D := G) (ci := 7) (v := .ref (ar 49)) (C := RX10) (T := TX10) (N := 71) (ref := RX10) hx hb hts h1w hown hX.1 hP 0 rfl rfl 49 (by decide) h2w (fun _ h9 => h9) rfl dX10_nearest_13 ?_
    refine lv_iload_n hx hb dX10_nearest_16 rfl (lv_at hl 0 rfl) ?_
    refine iv_zald hx hb hX.1 hP 25 3 rfl rfl (by omega) (by omega) (by decide) dX10_nearest_17 ?_
    refine iv_top (fun z4 ez4 => ?_)
    have rz4 : inR z4 := ez4 ▸ (hRa 49) _
    have ez4 : z4 = (fa 49) x2_1 := ez4
    have hn7 := ez4
    refine iv_if_ne (tgt := 43) hx hb (by omega) dX10_nearest_18 (by decide) (fun q5 => ?_) (fun q5 => ?_)
    · refine lv_iinc (v := Int32.ofInt (x2_1 + 1)) (lv' := [(2, .int (Int32.ofInt ((x2_1 + 1)))), (1, .int (Int32.ofInt (x1_2))), (0, .ref (ar 71))]) hx hb dX10_nearest_43 hl (k := 0) rfl (Int32.ofInt_add _ _).symm (by decide) rfl (fun ls hl => ?_)
      refine lv_goto (tgt := 4) hx hb dX10_nearest_46 (by decide) ?_
      have hl : lv_has ls 3 [(2, .int (Int32.ofInt ((x2_1 + 1)))), (1, .int (Int32.ofInt (x1_2))), (0, .ref (ar 71))] := lv_sub hl [0, 1, 2] rfl
      exact ih ((x2_1 + 1), x1_2) (show (fi 50 - (x2_1 + 1)).toNat < (fi 50 - x2_1).toNat from by omega) (show inR (x2_1 + 1) ∧ inR x1_2 ∧ ((0 ≤ (x2_1 + 1) ∧ (x2_1 + 1) ≤ fi 50 ∧ (x1_2 = -1 ∨ (0 ≤ x1_2 ∧ x1_2 < fi 50 ∧ fa 49 x1_2 = 0))) ∧ NrI (fa 49) x1_2 (x2_1 + 1)) from ⟨(by omega), (by omega), (by first | exact ⟨by omega, nr_t (by omega)⟩ | exact ⟨by omega, nr_s hNI hn7 (by omega) rfl⟩)⟩) _ _ _ hP hD hS hl
    · refine lv_iload_n hx hb dX10_nearest_21 rfl (lv_at hl 1 rfl) ?_
      refine lv_iconst (v := Int32.ofInt (-1)) hx hb dX10_nearest_22 (by decide +kernel) ?_
      refine iv_icmp_eq (tgt := 41) hx hb (by omega) (by omega) dX10_nearest_23 (by decide) (fun q6 => ?_) (fun q6 => ?_)
      · refine lv_iload_n hx hb dX10_nearest_41 rfl (lv_at hl 0 rfl) ?_
        refine lv_istore_n (lv' := [(1, .int (Int32.ofInt (x2_1))), (2, .int (Int32.ofInt (x2_1))), (0, .ref (ar 71))]) hx hb dX10_nearest_42 rfl hl (by decide) rfl (fun ls hl => ?_)
        refine lv_iinc (v := Int32.ofInt (x2_1 + 1)) (lv' := [(2, .int (Int32.ofInt ((x2_1 + 1)))), (1, .int (Int32.ofInt (x2_1))), (0, .ref (ar 71))]) hx hb dX10_nearest_43 hl (k := 1) rfl (Int32.ofInt_add _ _).symm (by decide) rfl (fun ls hl => ?_)
        refine lv_goto (tgt := 4) hx hb dX10_nearest_46 (by decide) ?_
        have hl : lv_has ls 3 [(2, .int (Int32.ofInt ((x2_1 + 1)))), (1, .int (Int32.ofInt (x2_1))), (0, .ref (ar 71))] := lv_sub hl [0, 1, 2] rfl
        exact ih ((x2_1 + 1), x2_1) (show (fi 50 - (x2_1 + 1)).toNat < (fi 50 - x2_1).toNat from by omega) (show inR (x2_1 + 1) ∧ inR x2_1 ∧ ((0 ≤ (x2_1 + 1) ∧ (x2_1 + 1) ≤ fi 50 ∧ (x2_1 = -1 ∨ (0 ≤ x2_1 ∧ x2_1 < fi 50 ∧ fa 49 x2_1 = 0))) ∧ NrI (fa 49) x2_1 (x2_1 + 1)) from ⟨(by omega), (by omega), (by first | exact ⟨by omega, nr_t (by omega)⟩ | exact ⟨by omega, nr_s hNI hn7 (by omega) rfl⟩)⟩) _ _ _ hP hD hS hl
      · refine lv_aload_n hx hb dX10_nearest_26 rfl (lv_at hl 2 rfl) ?_
        refine va_get (D := G) (ci := 7) (v := .ref (ar 46)) (C := RX10) (T := TX10) (N := 71) (ref := RX10) hx hb hts h1w hown hX.1 hP 0 rfl rfl 46 (by decide) h3w (fun _ h9 => h9) rfl dX10_nearest_27 ?_
        refine lv_iload_n hx hb dX10_nearest_30 rfl (lv_at hl 0 rfl) ?_
        refine iv_iald hx hb hX.1 hP 22 0 rfl rfl (by omega) (by omega) (by decide) dX10_nearest_31 ?_
        refine iv_top (fun z7 ez7 => ?_)
        have rz7 : inR z7 := ez7 ▸ (hRa 46) _
        have ez7 : z7 = (fa 46) x2_1 := ez7
        refine lv_aload_n hx hb dX10_nearest_32 rfl (lv_at hl 2 rfl) ?_
        refine va_get (D := G) (ci := 7) (v := .ref (ar 46)) (C := RX10) (T := TX10) (N := 71) (ref := RX10) hx hb hts h1w hown hX.1 hP 0 rfl rfl 46 (by decide) h3w (fun _ h9 => h9) rfl dX10_nearest_33 ?_
        refine lv_iload_n hx hb dX10_nearest_36 rfl (lv_at hl 1 rfl) ?_
        refine iv_iald hx hb hX.1 hP 22 0 rfl rfl (by omega) (by omega) (by decide) dX10_nearest_37 ?_
        refine iv_top (fun z8 ez8 => ?_)
        have rz8 : inR z8 := ez8 ▸ (hRa 46) _
        have ez8 : z8 = (fa 46) x1_2 := ez8
        refine iv_icmp_ge (tgt := 43) hx hb (by omega) (by omega) dX10_nearest_38 (by decide) (fun q9 => ?_) (fun q9 => ?_)
        · refine lv_iinc (v := Int32.ofInt (x2_1 + 1)) (lv' := [(2, .int (Int32.ofInt ((x2_1 + 1)))), (1, .int (Int32.ofInt (x1_2))), (0, .ref (ar 71))]) hx hb dX10_nearest_43 hl (k := 0) rfl (Int32.ofInt_add _ _).symm (by decide) rfl (fun ls hl => ?_)
          refine lv_goto (tgt := 4) hx hb dX10_nearest_46 (by decide) ?_
          have hl : lv_has ls 3 [(2, .int (Int32.ofInt ((x2_1 + 1)))), (1, .int (Int32.ofInt (x1_2))), (0, .ref (ar 71))] := lv_sub hl [0, 1, 2] rfl
          exact ih ((x2_1 + 1), x1_2) (show (fi 50 - (x2_1 + 1)).toNat < (fi 50 - x2_1).toNat from by omega) (show inR (x2_1 + 1) ∧ inR x1_2 ∧ ((0 ≤ (x2_1 + 1) ∧ (x2_1 + 1) ≤ fi 50 ∧ (x1_2 = -1 ∨ (0 ≤ x1_2 ∧ x1_2 < fi 50 ∧ fa 49 x1_2 = 0))) ∧ NrI (fa 49) x1_2 (x2_1 + 1)) from ⟨(by omega), (by omega), (by first | exact ⟨by omega, nr_t (by omega)⟩ | exact ⟨by omega, nr_s hNI hn7 (by omega) rfl⟩)⟩) _ _ _ hP hD hS hl
        · refine lv_iload_n hx hb dX10_nearest_41 rfl (lv_at hl 0 rfl) ?_
          refine lv_istore_n (lv' := [(1, .int (Int32.ofInt (x2_1))), (2, .int (Int32.ofInt (x2_1))), (0, .ref (ar 71))]) hx hb dX10_nearest_42 rfl hl (by decide) rfl (fun ls hl => ?_)
          refine lv_iinc (v := Int32.ofInt (x2_1 + 1)) (lv' := [(2, .int (Int32.ofInt ((x2_1 + 1)))), (1, .int (Int32.ofInt (x2_1))), (0, .ref (ar 71))]) hx hb dX10_nearest_43 hl (k := 1) rfl (Int32.ofInt_add _ _).symm (by decide) rfl (fun ls hl => ?_)
          refine lv_goto (tgt := 4) hx hb dX10_nearest_46 (by decide) ?_
          have hl : lv_has ls 3 [(2, .int (Int32.ofInt ((x2_1 + 1)))), (1, .int (Int32.ofInt (x2_1))), (0, .ref (ar 71))] := lv_sub hl [0, 1, 2] rfl
          exact ih ((x2_1 + 1), x2_1) (show (fi 50 - (x2_1 + 1)).toNat < (fi 50 - x2_1).toNat from by omega) (show inR (x2_1 + 1) ∧ inR x2_1 ∧ ((0 ≤ (x2_1 + 1) ∧ (x2_1 + 1) ≤ fi 50 ∧ (x2_1 = -1 ∨ (0 ≤ x2_1 ∧ x2_1 < fi 50 ∧ fa 49 x2_1 = 0))) ∧ NrI (fa 49) x2_1 (x2_1 + 1)) from ⟨(by omega), (by omega), (by first | exact ⟨by omega, nr_t (by omega)⟩ | exact ⟨by omega, nr_s hNI hn7 (by omega) rfl⟩)⟩) _ _ _ hP hD hS hl

