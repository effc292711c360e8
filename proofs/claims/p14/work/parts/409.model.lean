set_option maxHeartbeats 4000000 in
set_option maxRecDepth 100000 in
theorem mX10_which_1 (l : Launch) (G : va_G) (k : Nat → ClassId) (ar : Nat → Nat) (fi : Nat → Int) (fa : Nat → Int → Int) (fl : Nat → Int64) (sz : Nat) (hR : ∀ j, inR (fi j)) (hRa : ∀ j t, inR (fa j t)) (hk1 : fi 20 = 1 → 0 ≤ fi 22 ∧ fi 22 ≤ fi 23 ∧ fi 23 ≤ 600) (hty : TS (fa 16) (fi 19) (fi 24) (fi 22) (fi 23) (fi 20) (fi 21)) : CNi l G k (EZ k) yX10_which wzX10_which ({ frames := 5, cells := 0, slots := 0, locals := 108 }) [.ref (ar 71), .ref (ar 1)] sz (wM k ar fi fa fl) (fun (r0 : Int32) (u : Int) => r0 = Int32.ofInt (u) ∧ (inR u) ∧ ((u = -1 ∨ (0 ≤ u ∧ u < 7 ∧ fi 24 = 0 ∧ fi 20 = 1)) ∧ Wh (fa 16) (fi 19) (fi 24) (fi 22) vwI 7 u)) (fun (u : Int) => (wM k ar fi fa fl)) := by
  refine Met.ofW (cc := cX10_which) (maxL := 3) (ret := (some .int)) (by decide) rfl ?_
  intro p e s m args below meth c s₁ B hml hv
  obtain ⟨rfl, hsz, hP, hX, hD0, hZ0⟩ := hv
  have hx := B.exec
  have hb := B.bytes
  have hr := B.returns
  have hts := atoms_spec (ws := wzX10_which) B.pre
  have hown : s.vm.findClass RX10 = some m.cls := findClass_of_methodNamed B.named
  subst hsz
  have hD := hD0.self (sz := s.heap.size)
  have hZ := hZ0
  generalize hAe : va_A (wM k ar fi fa fl) s.heap.size = A at hD hZ ⊢
  have hA : ∀ q : Nat, s.heap.size ≤ q → A q := fun q h => by rw [← hAe]; exact Or.inr h
  have hS : va_S A s.heap s.heap [] := va_S.rf
  have hl := lv_entry ([.ref (ar 71), .ref (ar 1)]) (n := 3) (Nat.le_of_ble_eq_true rfl)
  rw [lg_entry_eq]
  generalize (lg_sl ([.ref (ar 71), .ref (ar 1)]) ++ List.replicate (3 - (lg_sl ([.ref (ar 71), .ref (ar 1)])).length) Slot.unset).toArray = ls at hl ⊢
  have hl : lv_has ls 3 [(0, .ref (ar 71)), (1, .ref (ar 1))] := hl
  obtain ⟨H, eH⟩ : ∃ H, H = s.heap := ⟨_, rfl⟩
  rw [← eH] at hP
  have hS : va_S A s.heap H [] := by rw [eH]; exact hS
  have gW : s.heap = H := eH.symm
  refine iv_heap gW ?_
  refine lv_iconst (v := Int32.ofInt 0) hx hb dX10_which_0 (by decide +kernel) ?_
  refine lv_istore_n (lv' := [(2, .int (Int32.ofInt (0))), (0, .ref (ar 71)), (1, .ref (ar 1))]) hx hb dX10_which_1 rfl hl (by decide) rfl (fun ls hl => ?_)
  refine iv_loop (α := Int) (nL := 3) (fun b9 => (wM k ar fi fa fl)) (fun b9 => [(2, .int (Int32.ofInt (b9))), (0, .ref (ar 71)), (1, .ref (ar 1))]) (fun b9 => (7 - b9).toNat) (fun b9 => inR b9 ∧ ((0 ≤ b9 ∧ b9 ≤ 7) ∧ Wn (fa 16) (fi 19) (fi 24) (fi 22) vwI b9)) ?_ (0) (show inR 0 ∧ ((0 ≤ 0 ∧ 0 ≤ 7) ∧ Wn (fa 16) (fi 19) (fi 24) (fi 22) vwI 0) from ⟨(by omega), (by exact ⟨by omega, wn_0 (by omega)⟩)⟩) hP hD hS hl
  intro x2_1 ih hi9 H locs ls hP hD hS hl
  obtain ⟨r_x2_1, hinv⟩ : inR x2_1 ∧ ((0 ≤ x2_1 ∧ x2_1 ≤ 7) ∧ Wn (fa 16) (fi 19) (fi 24) (fi 22) vwI x2_1) := hi9
  obtain ⟨hJ1, hWn⟩ := hinv
  obtain ⟨hP, hD⟩ : va_P G vwCl (wM k ar fi fa fl) H ∧ va_D A (wM k ar fi fa fl) := ⟨hP, hD⟩
  have hl : lv_has ls 3 [(2, .int (Int32.ofInt (x2_1))), (0, .ref (ar 71)), (1, .ref (ar 1))] := hl
  refine lv_iload_n hx hb dX10_which_2 rfl (lv_at hl 0 rfl) ?_
  refine lv_aload_n hx hb dX10_which_3 rfl (lv_at hl 2 rfl) ?_
  refine iv_alenS (v := Int32.ofInt 7) hx hb hZ.2.2.2.2.2 hP 38 rfl (by decide) dX10_which_4 ?_
  refine iv_icmp_ge (tgt := 26) hx hb (by omega) (by omega) dX10_which_5 (by decide) (fun q2 => ?_) (fun q2 => ?_)
  · refine lv_iconst (v := Int32.ofInt (-1)) hx hb dX10_which_26 (by decide +kernel) ?_
    exact W.iret (v := Int32.ofInt ((-1))) hx hb hr (fun t ht hW => ⟨⟨Int32.ofInt ((-1)), ((-1)), rfl, ⟨rfl, (show (inR (-1)) ∧ (((-1) = -1 ∨ (0 ≤ (-1) ∧ (-1) < 7 ∧ fi 24 = 0 ∧ fi 20 = 1)) ∧ Wh (fa 16) (fi 19) (fi 24) (fi 22) vwI 7 (-1)) from ⟨(by omega), (by first | exact ⟨by omega, wh_y hix hI12 (by omega) (by omega)⟩ | exact ⟨by omega, wh_n hWn (by omega) rfl⟩)⟩)⟩, by rw [ht]; exact hP, hD⟩, hS.F ht⟩) hS.2.2 dX10_which_27
  · refine lv_aload_n hx hb dX10_which_8 rfl (lv_at hl 1 rfl) ?_
    refine lv_aload_n hx hb dX10_which_9 rfl (lv_at hl 2 rfl) ?_
    refine lv_iload_n hx hb dX10_which_10 rfl (lv_at hl 0 rfl) ?_
    refine iv_ald1e hx hb hZ hP 38 rfl (by omega) (by omega) dX10_which_11 (fun z3 hz3 hix => ?_)
    refine cr_i (va_runV (As := [.ref (k (111 + z3))]) (rest := []) ⟨hx, hb, hml, hown, hts⟩ (mX10_is l G k ar fi fa fl z3 H.size hR hRa (show z3 < 47 from by omega) (show (fi 20) = 1 → 0 ≤ (fi 22) ∧ (fi 22) ≤ (fi 23) ∧ (fi 23) ≤ 600 from by omega) (show TS ((fa 16)) ((fi 19)) ((fi 24)) ((fi 22)) ((fi 23)) ((fi 20)) ((fi 21)) from by first | assumption | exact TS_any (by assumption))) (cwV 1 hts (gz [.methodLink RX10 237 yX10_is, .instanceMethod yX10_is, .selects RX10 yX10_is yX10_is, .initialized RX10] (.code yX10_is cX10_is 4 (some .boolean)) [(18, 6), (18, 7), (18, 8), (0, 5), (18, 9)] rfl) rfl rfl rfl (by decide +kernel) ⟨Nat.le_of_ble_eq_true rfl, Nat.le_of_ble_eq_true rfl⟩) (cr_preV (EZ_ok k) hZ hS hX hP hD hA (ci := 7) (q0 := 0) rfl rfl) rfl rfl hl.1 rfl (lv_room (Nat.le_of_ble_eq_true rfl)) dX10_which_12 ⟨Nat.le_of_ble_eq_true rfl, Nat.le_of_ble_eq_true rfl⟩) hD hS hA (fun r u H locs hp hP hD hS => ?_)
    obtain ⟨c4, rfl⟩ : ∃ z, z = u := ⟨_, rfl⟩
    obtain ⟨h9, rc4, hp4⟩ : r = Int32.ofInt c4 ∧ (inR c4) ∧ (((c4 = 0 ∨ c4 = 1) ∧ (c4 = 1 → (fi 24) = 0 ∧ (fi 20) = 1)) ∧ Isr c4 ((fi 24)) (isWd ((fa 16)) ((fi 19)) z3 ((fi 22)))) := hp
    subst h9
    obtain ⟨hp4, hI12⟩ := hp4
    refine iv_if_eq (tgt := 20) hx hb (by omega) dX10_which_15 (by decide) (fun q5 => ?_) (fun q5 => ?_)
    · refine lv_iinc (v := Int32.ofInt (x2_1 + 1)) (lv' := [(2, .int (Int32.ofInt ((x2_1 + 1)))), (0, .ref (ar 71)), (1, .ref (ar 1))]) hx hb dX10_which_20 hl (k := 0) rfl (Int32.ofInt_add _ _).symm (by decide) rfl (fun ls hl => ?_)
      refine lv_goto (tgt := 2) hx hb dX10_which_23 (by decide) ?_
      have hl : lv_has ls 3 [(2, .int (Int32.ofInt ((x2_1 + 1)))), (0, .ref (ar 71)), (1, .ref (ar 1))] := lv_sub hl [0, 1, 2] rfl
      exact ih ((x2_1 + 1)) (show (7 - (x2_1 + 1)).toNat < (7 - x2_1).toNat from by omega) (show inR (x2_1 + 1) ∧ ((0 ≤ (x2_1 + 1) ∧ (x2_1 + 1) ≤ 7) ∧ Wn (fa 16) (fi 19) (fi 24) (fi 22) vwI (x2_1 + 1)) from ⟨(by omega), (by exact ⟨by omega, wn_s hWn (by omega) hix hI12 (by omega) rfl⟩)⟩) _ _ _ hP hD hS hl
    · refine lv_iload_n hx hb dX10_which_18 rfl (lv_at hl 0 rfl) ?_
      exact W.iret (v := Int32.ofInt (x2_1)) hx hb hr (fun t ht hW => ⟨⟨Int32.ofInt (x2_1), (x2_1), rfl, ⟨rfl, (show (inR x2_1) ∧ ((x2_1 = -1 ∨ (0 ≤ x2_1 ∧ x2_1 < 7 ∧ fi 24 = 0 ∧ fi 20 = 1)) ∧ Wh (fa 16) (fi 19) (fi 24) (fi 22) vwI 7 x2_1) from ⟨(by omega), (by first | exact ⟨by omega, wh_y hix hI12 (by omega) (by omega)⟩ | exact ⟨by omega, wh_n hWn (by omega) rfl⟩)⟩)⟩, by rw [ht]; exact hP, hD⟩, hS.F ht⟩) hS.2.2 dX10_which_19

