set_option maxHeartbeats 4000000 in
set_option maxRecDepth 100000 in
theorem mX9_isSpared (l : Launch) (G : va_G) (k : Nat → ClassId) (ar : Nat → Nat) (tp : Nat) (pa : Nat) (pp : Nat) (pd : Nat) (pb : Nat) (pk : Nat) (ps : Nat) (fi : Nat → Int) (fa : Nat → Int → Int) (s0 : Int) (k0 : Int) (sz : Nat) (hR : ∀ j, inR (fi j)) (hRa : ∀ j t, inR (fa j t)) (hr_s0 : inR s0) (hr_k0 : inR k0) (hk : 0 ≤ k0 ∧ k0 ≤ 128) : CNi l G k (EZ k) yX9_isSpared wzX9_isSpared ({ frames := 0, cells := 0, slots := 0, locals := 0 }) [.ref (ar 99), .int (Int32.ofInt (s0)), .int (Int32.ofInt (k0))] sz (wT k ar (tp) (pa) (pp) (pd) (pb) (pk) (ps) fi fa) (fun (r0 : Int32) (u : Int) => r0 = Int32.ofInt (u) ∧ (inR u) ∧ ((u = 0 ∨ u = 1))) (fun (u : Int) => (wT k ar (tp) (pa) (pp) (pd) (pb) (pk) (ps) fi fa)) := by
  refine Met.ofW (cc := cX9_isSpared) (maxL := 4) (ret := (some .boolean)) (by decide) rfl ?_
  intro p e s m args below meth c s₁ B hml hv
  obtain ⟨rfl, hsz, hP, hX, hD0, hZ0⟩ := hv
  have hx := B.exec
  have hb := B.bytes
  have hr := B.returns
  have hts := atoms_spec (ws := wzX9_isSpared) B.pre
  have hown : s.vm.findClass RX9 = some m.cls := findClass_of_methodNamed B.named
  subst hsz
  have hD := hD0.self (sz := s.heap.size)
  have hZ := hZ0
  generalize hAe : va_A (wT k ar (tp) (pa) (pp) (pd) (pb) (pk) (ps) fi fa) s.heap.size = A at hD hZ ⊢
  have hA : ∀ q : Nat, s.heap.size ≤ q → A q := fun q h => by rw [← hAe]; exact Or.inr h
  have hS : va_S A s.heap s.heap [] := va_S.rf
  have hl := lv_entry ([.ref (ar 99), .int (Int32.ofInt (s0)), .int (Int32.ofInt (k0))]) (n := 4) (Nat.le_of_ble_eq_true rfl)
  rw [lg_entry_eq]
  generalize (lg_sl ([.ref (ar 99), .int (Int32.ofInt (s0)), .int (Int32.ofInt (k0))]) ++ List.replicate (4 - (lg_sl ([.ref (ar 99), .int (Int32.ofInt (s0)), .int (Int32.ofInt (k0))])).length) Slot.unset).toArray = ls at hl ⊢
  have hl : lv_has ls 4 [(0, .ref (ar 99)), (1, .int (Int32.ofInt (s0))), (2, .int (Int32.ofInt (k0)))] := hl
  obtain ⟨H, eH⟩ : ∃ H, H = s.heap := ⟨_, rfl⟩
  rw [← eH] at hP
  have hS : va_S A s.heap H [] := by rw [eH]; exact hS
  have gW : s.heap = H := eH.symm
  refine iv_heap gW ?_
  have h0w := hts (.fieldLink RX9 60 "RopeTown" "ways" "[I") (wz_at 1 13 rfl)
  have h1w : ∀ w ∈ wsX90, w ∈ wzX9_isSpared := fun w h => List.mem_cons_of_mem _ (inlX9 w h)
  refine lv_iconst (v := Int32.ofInt 0) hx hb dX9_isSpared_0 (by decide +kernel) ?_
  refine lv_istore_n (lv' := [(3, .int (Int32.ofInt (0))), (0, .ref (ar 99)), (1, .int (Int32.ofInt (s0))), (2, .int (Int32.ofInt (k0)))]) hx hb dX9_isSpared_1 rfl hl (by decide) rfl (fun ls hl => ?_)
  refine iv_loop (α := Int) (nL := 4) (fun b9 => (wT k ar (tp) (pa) (pp) (pd) (pb) (pk) (ps) fi fa)) (fun b9 => [(3, .int (Int32.ofInt (b9))), (0, .ref (ar 99)), (1, .int (Int32.ofInt (s0))), (2, .int (Int32.ofInt (k0)))]) (fun b9 => (k0 - b9).toNat) (fun b9 => inR b9 ∧ (0 ≤ b9)) ?_ (0) (show inR 0 ∧ (0 ≤ 0) from ⟨(by omega), (by omega)⟩) hP hD hS hl
  intro x3_1 ih hi9 H locs ls hP hD hS hl
  obtain ⟨r_x3_1, hinv⟩ : inR x3_1 ∧ (0 ≤ x3_1) := hi9
  obtain ⟨hP, hD⟩ : va_P G vwCl (wT k ar (tp) (pa) (pp) (pd) (pb) (pk) (ps) fi fa) H ∧ va_D A (wT k ar (tp) (pa) (pp) (pd) (pb) (pk) (ps) fi fa) := ⟨hP, hD⟩
  have hl : lv_has ls 4 [(3, .int (Int32.ofInt (x3_1))), (0, .ref (ar 99)), (1, .int (Int32.ofInt (s0))), (2, .int (Int32.ofInt (k0)))] := hl
  refine lv_iload_n hx hb dX9_isSpared_2 rfl (lv_at hl 0 rfl) ?_
  refine lv_iload_n hx hb dX9_isSpared_3 rfl (lv_at hl 3 rfl) ?_
  refine iv_icmp_ge (tgt := 26) hx hb (by omega) (by omega) dX9_isSpared_4 (by decide) (fun q2 => ?_) (fun q2 => ?_)
  · refine lv_iconst (v := Int32.ofInt 0) hx hb dX9_isSpared_26 (by decide +kernel) ?_
    exact W.zret (v := Int32.ofInt (0)) hx hb hr (nz_bool (by omega)) (fun t ht hW => ⟨⟨Int32.ofInt (0), (0), rfl, ⟨rfl, (show (inR 0) ∧ ((0 = 0 ∨ 0 = 1)) from ⟨(by omega), (by omega)⟩)⟩, by rw [ht]; exact hP, hD⟩, hS.F ht⟩) hS.2.2 dX9_isSpared_27
  · refine lv_aload_n hx hb dX9_isSpared_7 rfl (lv_at hl 1 rfl) ?_
    refine va_get (D := G) (ci := 6) (v := .ref (ar 10)) (C := RX9) (T := TX9) (N := 11) (ref := RX9) hx hb hts h1w hown hX.1 hP 0 rfl rfl 10 (by decide) h0w (fun _ h9 => h9) rfl dX9_isSpared_8 ?_
    refine lv_iload_n hx hb dX9_isSpared_11 rfl (lv_at hl 0 rfl) ?_
    refine iv_iald hx hb hX.1 hP 1 0 rfl rfl (by omega) (by omega) (by decide) dX9_isSpared_12 ?_
    refine iv_top (fun z3 ez3 => ?_)
    have rz3 : inR z3 := ez3 ▸ (hRa 10) _
    have ez3 : z3 = (fa 10) x3_1 := ez3
    refine lv_iload_n hx hb dX9_isSpared_13 rfl (lv_at hl 2 rfl) ?_
    refine iv_and hx hb dX9_isSpared_14 ?_
    refine iv_top (fun z4 ez4 => ?_)
    have rz4 : inR z4 := ez4 ▸ bAnd_r _ _
    refine iv_if_ne (tgt := 20) hx hb (by omega) dX9_isSpared_15 (by decide) (fun q5 => ?_) (fun q5 => ?_)
    · refine lv_iinc (v := Int32.ofInt (x3_1 + 1)) (lv' := [(3, .int (Int32.ofInt ((x3_1 + 1)))), (0, .ref (ar 99)), (1, .int (Int32.ofInt (s0))), (2, .int (Int32.ofInt (k0)))]) hx hb dX9_isSpared_20 hl (k := 0) rfl (Int32.ofInt_add _ _).symm (by decide) rfl (fun ls hl => ?_)
      refine lv_goto (tgt := 2) hx hb dX9_isSpared_23 (by decide) ?_
      have hl : lv_has ls 4 [(3, .int (Int32.ofInt ((x3_1 + 1)))), (0, .ref (ar 99)), (1, .int (Int32.ofInt (s0))), (2, .int (Int32.ofInt (k0)))] := lv_sub hl [0, 1, 2, 3] rfl
      exact ih ((x3_1 + 1)) (show (k0 - (x3_1 + 1)).toNat < (k0 - x3_1).toNat from by omega) (show inR (x3_1 + 1) ∧ (0 ≤ (x3_1 + 1)) from ⟨(by omega), (by omega)⟩) _ _ _ hP hD hS hl
    · refine lv_iconst (v := Int32.ofInt 1) hx hb dX9_isSpared_18 (by decide +kernel) ?_
      exact W.zret (v := Int32.ofInt (1)) hx hb hr (nz_bool (by omega)) (fun t ht hW => ⟨⟨Int32.ofInt (1), (1), rfl, ⟨rfl, (show (inR 1) ∧ ((1 = 0 ∨ 1 = 1)) from ⟨(by omega), (by omega)⟩)⟩, by rw [ht]; exact hP, hD⟩, hS.F ht⟩) hS.2.2 dX9_isSpared_19

