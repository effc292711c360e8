set_option maxHeartbeats 4000000 in
set_option maxRecDepth 100000 in
theorem mX10_atFirst (l : Launch) (G : va_G) (k : Nat → ClassId) (ar : Nat → Nat) (fi : Nat → Int) (fa : Nat → Int → Int) (fl : Nat → Int64) (b0 : Int) (sz : Nat) (hR : ∀ j, inR (fi j)) (hRa : ∀ j t, inR (fa j t)) (hr_b0 : inR b0) (hb : 0 ≤ b0 ∧ b0 ≤ 7) : CNv l G k (EZ k) yX10_atFirst wzX10_atFirst ({ frames := 0, cells := 0, slots := 0, locals := 0 }) [.ref (ar 71), .int (Int32.ofInt (b0))] sz (wM k ar fi fa fl) (fun (u : (Int → Int)) => (∀ t, inR (u t)) ∧ ((∀ t, t < b0 → u t = fa 3 t) ∧ (∀ t, b0 + 7 ≤ t → u t = fa 3 t) ∧ (∀ k, 0 ≤ k → k < 7 → u (b0 + k) = pl0.1 k))) (fun (u : (Int → Int)) => (wM k ar fi (uF fa 3 (u)) fl)) := by
  refine Met.ofW (cc := cX10_atFirst) (maxL := 3) (ret := none) (by decide) rfl ?_
  intro p e s m args below meth c s₁ B hml hv
  obtain ⟨rfl, hsz, hP, hX, hD0, hZ0⟩ := hv
  have hx := B.exec
  have hb := B.bytes
  have hr := B.returns
  have hts := atoms_spec (ws := wzX10_atFirst) B.pre
  have hown : s.vm.findClass RX10 = some m.cls := findClass_of_methodNamed B.named
  subst hsz
  have hD := hD0.self (sz := s.heap.size)
  have hZ := hZ0
  generalize hAe : va_A (wM k ar fi fa fl) s.heap.size = A at hD hZ ⊢
  have hA : ∀ q : Nat, s.heap.size ≤ q → A q := fun q h => by rw [← hAe]; exact Or.inr h
  have hS : va_S A s.heap s.heap [] := va_S.rf
  have hl := lv_entry ([.ref (ar 71), .int (Int32.ofInt (b0))]) (n := 3) (Nat.le_of_ble_eq_true rfl)
  rw [lg_entry_eq]
  generalize (lg_sl ([.ref (ar 71), .int (Int32.ofInt (b0))]) ++ List.replicate (3 - (lg_sl ([.ref (ar 71), .int (Int32.ofInt (b0))])).length) Slot.unset).toArray = ls at hl ⊢
  have hl : lv_has ls 3 [(0, .ref (ar 71)), (1, .int (Int32.ofInt (b0)))] := hl
  obtain ⟨H, eH⟩ : ∃ H, H = s.heap := ⟨_, rfl⟩
  rw [← eH] at hP
  have hS : va_S A s.heap H [] := by rw [eH]; exact hS
  have gW : s.heap = H := eH.symm
  refine iv_heap gW ?_
  have h0w := hts (.fieldLink RX10 54 "RopeTownModel" "rule" "[I") (wz_at 6 6 rfl)
  have h1w : ∀ w ∈ wsX100, w ∈ wzX10_atFirst := fun w h => List.mem_cons_of_mem _ (inlX10 w h)
  refine lv_iconst (v := Int32.ofInt 0) hx hb dX10_atFirst_0 (by decide +kernel) ?_
  refine lv_istore_n (lv' := [(2, .int (Int32.ofInt (0))), (0, .ref (ar 71)), (1, .int (Int32.ofInt (b0)))]) hx hb dX10_atFirst_1 rfl hl (by decide) rfl (fun ls hl => ?_)
  refine iv_loop (α := Int × (Int → Int)) (nL := 3) (fun b9 => (wM k ar fi (uF fa 3 (b9.2)) fl)) (fun b9 => [(2, .int (Int32.ofInt (b9.1))), (0, .ref (ar 71)), (1, .int (Int32.ofInt (b0)))]) (fun b9 => (7 - b9.1).toNat) (fun b9 => inR b9.1 ∧ (∀ t, inR (b9.2 t)) ∧ (0 ≤ b9.1 ∧ b9.1 ≤ 7 ∧ (∀ t, t < b0 → b9.2 t = fa 3 t) ∧ (∀ t, b0 + 7 ≤ t → b9.2 t = fa 3 t) ∧ (∀ k, 0 ≤ k → k < b9.1 → b9.2 (b0 + k) = pl0.1 k))) ?_ (0, fa 3) (show inR 0 ∧ (∀ t, inR ((fa 3) t)) ∧ (0 ≤ 0 ∧ 0 ≤ 7 ∧ (∀ t, t < b0 → (fa 3) t = fa 3 t) ∧ (∀ t, b0 + 7 ≤ t → (fa 3) t = fa 3 t) ∧ (∀ k, 0 ≤ k → k < 0 → (fa 3) (b0 + k) = pl0.1 k)) from ⟨(by omega), (hRa 3), (by exact ⟨by omega, by omega, fun t _ => rfl, fun t _ => rfl, fun k h0 h1 => absurd h1 (by omega)⟩)⟩) hP hD hS hl
  rintro ⟨x2_1, g3_2⟩ ih hi9 H locs ls hP hD hS hl
  obtain ⟨r_x2_1, r_g3_2, hinv⟩ : inR x2_1 ∧ (∀ t, inR (g3_2 t)) ∧ (0 ≤ x2_1 ∧ x2_1 ≤ 7 ∧ (∀ t, t < b0 → g3_2 t = fa 3 t) ∧ (∀ t, b0 + 7 ≤ t → g3_2 t = fa 3 t) ∧ (∀ k, 0 ≤ k → k < x2_1 → g3_2 (b0 + k) = pl0.1 k)) := hi9
  obtain ⟨i1, i2, i3, i4, i5⟩ := hinv
  obtain ⟨hP, hD⟩ : va_P G vwCl (wM k ar fi (uF fa 3 (g3_2)) fl) H ∧ va_D A (wM k ar fi (uF fa 3 (g3_2)) fl) := ⟨hP, hD⟩
  have hl : lv_has ls 3 [(2, .int (Int32.ofInt (x2_1))), (0, .ref (ar 71)), (1, .int (Int32.ofInt (b0)))] := hl
  refine lv_iload_n hx hb dX10_atFirst_2 rfl (lv_at hl 0 rfl) ?_
  refine lv_bipush (v := Int32.ofInt 7) hx hb dX10_atFirst_3 (by decide +kernel) ?_
  refine iv_icmp_ge (tgt := 60) hx hb (by omega) (by omega) dX10_atFirst_5 (by decide) (fun q3 => ?_) (fun q3 => ?_)
  · exact W.vret hx hb hr (fun t ht hW => ⟨⟨(g3_2), rfl, (show (∀ t, inR (g3_2 t)) ∧ ((∀ t, t < b0 → g3_2 t = fa 3 t) ∧ (∀ t, b0 + 7 ≤ t → g3_2 t = fa 3 t) ∧ (∀ k, 0 ≤ k → k < 7 → g3_2 (b0 + k) = pl0.1 k)) from ⟨r_g3_2, (by exact ⟨i3, i4, fun k h0 h1 => i5 k h0 (by omega)⟩)⟩), by rw [ht]; exact hP, hD⟩, hS.F ht⟩) hS.2.2 dX10_atFirst_60
  · refine lv_aload_n hx hb dX10_atFirst_8 rfl (lv_at hl 1 rfl) ?_
    refine va_get (D := G) (ci := 7) (v := .ref (ar 3)) (C := RX10) (T := TX10) (N := 71) (ref := RX10) hx hb hts h1w hown hX.1 hP 0 rfl rfl 3 (by decide) h0w (fun _ h9 => h9) rfl dX10_atFirst_9 ?_
    refine lv_iload_n hx hb dX10_atFirst_12 rfl (lv_at hl 2 rfl) ?_
    refine lv_iload_n hx hb dX10_atFirst_13 rfl (lv_at hl 0 rfl) ?_
    refine iv_add (x := b0) (y := x2_1) hx hb dX10_atFirst_14 ?_
    refine iv_join (G := G) (A := A) (H0 := s.heap) (α := Int) (nL := 3) 53 (fun b9 => [.int (Int32.ofInt (b9)), .int (Int32.ofInt ((b0 + x2_1))), .ref (ar 3)]) (fun b9 => (wM k ar fi (uF fa 3 (g3_2)) fl)) (fun b9 => [(2, .int (Int32.ofInt (x2_1))), (0, .ref (ar 71)), (1, .int (Int32.ofInt (b0)))]) (fun b9 => inR b9 ∧ (b9 = pl0.1 x2_1)) ?_ (fun J53 => ?_)
    · intro s0_4 hi9 H locs ls hP hD hS hl
      obtain ⟨r_s0_4, hinv⟩ : inR s0_4 ∧ (s0_4 = pl0.1 x2_1) := hi9
      obtain ⟨hP, hD⟩ : va_P G vwCl (wM k ar fi (uF fa 3 (g3_2)) fl) H ∧ va_D A (wM k ar fi (uF fa 3 (g3_2)) fl) := ⟨hP, hD⟩
      have hl : lv_has ls 3 [(2, .int (Int32.ofInt (x2_1))), (0, .ref (ar 71)), (1, .int (Int32.ofInt (b0)))] := hl
      have hinv53 := hinv
      refine iv_iast hx hb hX.1 hP hD hS 1 0 rfl rfl (wM_A3 _ _ _ _ _) (by omega) (by omega) (by decide) dX10_atFirst_53 (fun H locs hP hD hS => ?_)
      obtain ⟨hP, hD⟩ : va_P G vwCl (wM k ar fi (uF fa 3 (uA (g3_2) ((b0 + x2_1)) (s0_4))) fl) H ∧ va_D A (wM k ar fi (uF fa 3 (uA (g3_2) ((b0 + x2_1)) (s0_4))) fl) := ⟨hP, hD⟩
      obtain ⟨g5, eg5, rg5⟩ : ∃ z, z = uA (g3_2) ((b0 + x2_1)) (s0_4) ∧ ∀ t, inR (z t) := ⟨_, rfl, iU r_g3_2 (by omega)⟩
      rw [← eg5] at hP hD
      refine lv_iinc (v := Int32.ofInt (x2_1 + 1)) (lv' := [(2, .int (Int32.ofInt ((x2_1 + 1)))), (0, .ref (ar 71)), (1, .int (Int32.ofInt (b0)))]) hx hb dX10_atFirst_54 hl (k := 0) rfl (Int32.ofInt_add _ _).symm (by decide) rfl (fun ls hl => ?_)
      refine lv_goto (tgt := 2) hx hb dX10_atFirst_57 (by decide) ?_
      have hl : lv_has ls 3 [(2, .int (Int32.ofInt ((x2_1 + 1)))), (0, .ref (ar 71)), (1, .int (Int32.ofInt (b0)))] := lv_sub hl [0, 1, 2] rfl
      exact ih ((x2_1 + 1), g5) (show (7 - (x2_1 + 1)).toNat < (7 - x2_1).toNat from by omega) (show inR (x2_1 + 1) ∧ (∀ t, inR (g5 t)) ∧ (0 ≤ (x2_1 + 1) ∧ (x2_1 + 1) ≤ 7 ∧ (∀ t, t < b0 → g5 t = fa 3 t) ∧ (∀ t, b0 + 7 ≤ t → g5 t = fa 3 t) ∧ (∀ k, 0 ≤ k → k < (x2_1 + 1) → g5 (b0 + k) = pl0.1 k)) from ⟨(by omega), rg5, (by exact ⟨by omega, by omega, fun t ht => by rw [eg5, uA_ne (by omega)]; exact i3 t ht, fun t ht => by rw [eg5, uA_ne (by omega)]; exact i4 t ht, at_f7 i5 hinv53 eg5⟩)⟩) _ _ _ hP hD hS hl
    · refine lv_iload_n hx hb dX10_atFirst_15 rfl (lv_at hl 0 rfl) ?_
      refine iv_if_ne (tgt := 23) hx hb (by omega) dX10_atFirst_16 (by decide) (fun q6 => ?_) (fun q6 => ?_)
      · refine lv_iload_n hx hb dX10_atFirst_23 rfl (lv_at hl 0 rfl) ?_
        refine lv_iconst (v := Int32.ofInt 2) hx hb dX10_atFirst_24 (by decide +kernel) ?_
        refine iv_icmp_ne (tgt := 33) hx hb (by omega) (by omega) dX10_atFirst_25 (by decide) (fun q7 => ?_) (fun q7 => ?_)
        · refine lv_iload_n hx hb dX10_atFirst_33 rfl (lv_at hl 0 rfl) ?_
          refine lv_iconst (v := Int32.ofInt 4) hx hb dX10_atFirst_34 (by decide +kernel) ?_
          refine iv_icmp_ne (tgt := 42) hx hb (by omega) (by omega) dX10_atFirst_35 (by decide) (fun q8 => ?_) (fun q8 => ?_)
          · refine lv_iload_n hx hb dX10_atFirst_42 rfl (lv_at hl 0 rfl) ?_
            refine lv_iconst (v := Int32.ofInt 5) hx hb dX10_atFirst_43 (by decide +kernel) ?_
            refine iv_icmp_ne (tgt := 52) hx hb (by omega) (by omega) dX10_atFirst_44 (by decide) (fun q9 => ?_) (fun q9 => ?_)
            · refine lv_iconst (v := Int32.ofInt 0) hx hb dX10_atFirst_52 (by decide +kernel) ?_
              have hl : lv_has ls 3 [(2, .int (Int32.ofInt (x2_1))), (0, .ref (ar 71)), (1, .int (Int32.ofInt (b0)))] := lv_sub hl [0, 1, 2] rfl
              exact J53 (0) (show inR 0 ∧ (0 = pl0.1 x2_1) from ⟨(by omega), (by show _ = (if x2_1 = 0 then 1 else if x2_1 = 2 then 99 else if x2_1 = 4 then 1 else if x2_1 = 5 then 20 else 0); omega)⟩) _ _ _ hP hD hS hl
            · refine lv_bipush (v := Int32.ofInt 20) hx hb dX10_atFirst_47 (by decide +kernel) ?_
              refine lv_goto (tgt := 53) hx hb dX10_atFirst_49 (by decide) ?_
              have hl : lv_has ls 3 [(2, .int (Int32.ofInt (x2_1))), (0, .ref (ar 71)), (1, .int (Int32.ofInt (b0)))] := lv_sub hl [0, 1, 2] rfl
              exact J53 (20) (show inR 20 ∧ (20 = pl0.1 x2_1) from ⟨(by omega), (by show _ = (if x2_1 = 0 then 1 else if x2_1 = 2 then 99 else if x2_1 = 4 then 1 else if x2_1 = 5 then 20 else 0); omega)⟩) _ _ _ hP hD hS hl
          · refine lv_iconst (v := Int32.ofInt 1) hx hb dX10_atFirst_38 (by decide +kernel) ?_
            refine lv_goto (tgt := 53) hx hb dX10_atFirst_39 (by decide) ?_
            have hl : lv_has ls 3 [(2, .int (Int32.ofInt (x2_1))), (0, .ref (ar 71)), (1, .int (Int32.ofInt (b0)))] := lv_sub hl [0, 1, 2] rfl
            exact J53 (1) (show inR 1 ∧ (1 = pl0.1 x2_1) from ⟨(by omega), (by show _ = (if x2_1 = 0 then 1 else if x2_1 = 2 then 99 else if x2_1 = 4 then 1 else if x2_1 = 5 then 20 else 0); omega)⟩) _ _ _ hP hD hS hl
        · refine lv_bipush (v := Int32.ofInt 99) hx hb dX10_atFirst_28 (by decide +kernel) ?_
          refine lv_goto (tgt := 53) hx hb dX10_atFirst_30 (by decide) ?_
          have hl : lv_has ls 3 [(2, .int (Int32.ofInt (x2_1))), (0, .ref (ar 71)), (1, .int (Int32.ofInt (b0)))] := lv_sub hl [0, 1, 2] rfl
          exact J53 (99) (show inR 99 ∧ (99 = pl0.1 x2_1) from ⟨(by omega), (by show _ = (if x2_1 = 0 then 1 else if x2_1 = 2 then 99 else if x2_1 = 4 then 1 else if x2_1 = 5 then 20 else 0); omega)⟩) _ _ _ hP hD hS hl
      · refine lv_iconst (v := Int32.ofInt 1) hx hb dX10_atFirst_19 (by decide +kernel) ?_
        refine lv_goto (tgt := 53) hx hb dX10_atFirst_20 (by decide) ?_
        have hl : lv_has ls 3 [(2, .int (Int32.ofInt (x2_1))), (0, .ref (ar 71)), (1, .int (Int32.ofInt (b0)))] := lv_sub hl [0, 1, 2] rfl
        exact J53 (1) (show inR 1 ∧ (1 = pl0.1 x2_1) from ⟨(by omega), (by show _ = (if x2_1 = 0 then 1 else if x2_1 = 2 then 99 else if x2_1 = 4 then 1 else if x2_1 = 5 then 20 else 0); omega)⟩) _ _ _ hP hD hS hl

