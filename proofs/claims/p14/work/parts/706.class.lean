set_option maxHeartbeats 4000000 in
set_option maxRecDepth 100000 in
theorem mJ7_fill_P13 (l : Launch) (G : va_G) (k : Nat → ClassId) (ar : Nat → Nat) (fi : Nat → Int) (fa : Nat → Int → Int) (v0 : Int) (sz : Nat) (hR : ∀ j, inR (fi j)) (hRa : ∀ j t, inR (fa j t)) (hB8 : bnd (fa 8) 7 0 4) (hB20 : bnd (fa 20) 600 (-1000) 10000) (hB21 : bnd (fa 21) 4 0 601) (hr_v0 : inR v0) : CNv l G k (EZ k) yJ7_fill_53178 wzJ7_fill_53178 ({ frames := 0, cells := 0, slots := 0, locals := 0 }) [.ref (ar 13), .int (Int32.ofInt (v0))] sz (wP k ar fi fa) (fun (u : (Int → Int)) => (∀ t, inR (u t)) ∧ (∀ t, 0 ≤ t → t < 7 → u t = v0)) (fun (u : (Int → Int)) => (wP k ar fi (uF fa 13 (u)))) := by
  refine Met.ofW (cc := cJ7_fill_53178) (maxL := 4) (ret := none) (by decide) rfl ?_
  intro p e s m args below meth c s₁ B hml hv
  obtain ⟨rfl, hsz, hP, hX, hD0, hZ0⟩ := hv
  have hx := B.exec
  have hb := B.bytes
  have hr := B.returns
  have hts := atoms_spec (ws := wzJ7_fill_53178) B.pre
  have hown : s.vm.findClass RJ7 = some m.cls := findClass_of_methodNamed B.named
  subst hsz
  have hD := hD0.self (sz := s.heap.size)
  have hZ := hZ0
  generalize hAe : va_A (wP k ar fi fa) s.heap.size = A at hD hZ ⊢
  have hA : ∀ q : Nat, s.heap.size ≤ q → A q := fun q h => by rw [← hAe]; exact Or.inr h
  have hS : va_S A s.heap s.heap [] := va_S.rf
  have hl := lv_entry ([.ref (ar 13), .int (Int32.ofInt (v0))]) (n := 4) (Nat.le_of_ble_eq_true rfl)
  rw [lg_entry_eq]
  generalize (lg_sl ([.ref (ar 13), .int (Int32.ofInt (v0))]) ++ List.replicate (4 - (lg_sl ([.ref (ar 13), .int (Int32.ofInt (v0))])).length) Slot.unset).toArray = ls at hl ⊢
  have hl : lv_has ls 4 [(0, .ref (ar 13)), (1, .int (Int32.ofInt (v0)))] := hl
  obtain ⟨H, eH⟩ : ∃ H, H = s.heap := ⟨_, rfl⟩
  rw [← eH] at hP
  have hS : va_S A s.heap H [] := by rw [eH]; exact hS
  have gW : s.heap = H := eH.symm
  refine iv_heap gW ?_
  refine lv_iconst (v := Int32.ofInt 0) hx hb dJ7_fill_53178_0 (by decide +kernel) ?_
  refine lv_istore_n (lv' := [(2, .int (Int32.ofInt (0))), (0, .ref (ar 13)), (1, .int (Int32.ofInt (v0)))]) hx hb dJ7_fill_53178_1 rfl hl (by decide) rfl (fun ls hl => ?_)
  refine lv_aload_n hx hb dJ7_fill_53178_2 rfl (lv_at hl 1 rfl) ?_
  refine va_alen (v := Int32.ofInt 7) hx hb hX.1 hP 6 0 rfl rfl (show Int32.ofNat 7 = Int32.ofInt 7 from by decide) dJ7_fill_53178_3 ?_
  refine lv_istore_n (lv' := [(3, .int (Int32.ofInt (7))), (2, .int (Int32.ofInt (0))), (0, .ref (ar 13)), (1, .int (Int32.ofInt (v0)))]) hx hb dJ7_fill_53178_4 rfl hl (by decide) rfl (fun ls hl => ?_)
  refine iv_loop (α := Int × (Int → Int)) (nL := 4) (fun b9 => (wP k ar fi (uF fa 13 (b9.2)))) (fun b9 => [(3, .int (Int32.ofInt (7))), (2, .int (Int32.ofInt (b9.1))), (0, .ref (ar 13)), (1, .int (Int32.ofInt (v0)))]) (fun b9 => (7 - b9.1).toNat) (fun b9 => inR b9.1 ∧ (∀ t, inR (b9.2 t)) ∧ ((0 ≤ b9.1 ∧ b9.1 ≤ 7) ∧ ∀ f, 0 ≤ f → f < b9.1 → b9.2 f = v0)) ?_ (0, fa 13) (show inR 0 ∧ (∀ t, inR ((fa 13) t)) ∧ ((0 ≤ 0 ∧ 0 ≤ 7) ∧ ∀ f, 0 ≤ f → f < 0 → (fa 13) f = v0) from ⟨(by omega), (hRa 13), (by exact ⟨by omega, fun f h1 h2 => absurd h1 (by omega)⟩)⟩) hP hD hS hl
  rintro ⟨x2_1, g13_2⟩ ih hi9 H locs ls hP hD hS hl
  obtain ⟨r_x2_1, r_g13_2, hinv⟩ : inR x2_1 ∧ (∀ t, inR (g13_2 t)) ∧ ((0 ≤ x2_1 ∧ x2_1 ≤ 7) ∧ ∀ f, 0 ≤ f → f < x2_1 → g13_2 f = v0) := hi9
  obtain ⟨hinv, hF9⟩ := hinv
  obtain ⟨hP, hD⟩ : va_P G vwCl (wP k ar fi (uF fa 13 (g13_2))) H ∧ va_D A (wP k ar fi (uF fa 13 (g13_2))) := ⟨hP, hD⟩
  have hl : lv_has ls 4 [(3, .int (Int32.ofInt (7))), (2, .int (Int32.ofInt (x2_1))), (0, .ref (ar 13)), (1, .int (Int32.ofInt (v0)))] := hl
  refine lv_iload_n hx hb dJ7_fill_53178_5 rfl (lv_at hl 1 rfl) ?_
  refine lv_iload_n hx hb dJ7_fill_53178_6 rfl (lv_at hl 0 rfl) ?_
  refine iv_icmp_ge (tgt := 20) hx hb (by omega) (by omega) dJ7_fill_53178_7 (by decide) (fun q3 => ?_) (fun q3 => ?_)
  · exact W.vret hx hb hr (fun t ht hW => ⟨⟨(g13_2), rfl, (show (∀ t, inR (g13_2 t)) ∧ (∀ t, 0 ≤ t → t < 7 → g13_2 t = v0) from ⟨r_g13_2, (by exact fun t h1 h2 => hF9 t h1 (by omega))⟩), by rw [ht]; exact hP, hD⟩, hS.F ht⟩) hS.2.2 dJ7_fill_53178_20
  · refine lv_aload_n hx hb dJ7_fill_53178_10 rfl (lv_at hl 2 rfl) ?_
    refine lv_iload_n hx hb dJ7_fill_53178_11 rfl (lv_at hl 1 rfl) ?_
    refine lv_iload_n hx hb dJ7_fill_53178_12 rfl (lv_at hl 3 rfl) ?_
    refine iv_iast hx hb hX.1 hP hD hS 6 0 rfl rfl (fun g' => show _ = (wP k ar fi (uF fa 13 (g'))) from rfl) (by omega) (by omega) (by decide) dJ7_fill_53178_13 (fun H locs hP hD hS => ?_)
    obtain ⟨hP, hD⟩ : va_P G vwCl (wP k ar fi (uF fa 13 (uA (g13_2) (x2_1) (v0)))) H ∧ va_D A (wP k ar fi (uF fa 13 (uA (g13_2) (x2_1) (v0)))) := ⟨hP, hD⟩
    obtain ⟨g4, eg4, rg4⟩ : ∃ z, z = uA (g13_2) (x2_1) (v0) ∧ ∀ t, inR (z t) := ⟨_, rfl, iU r_g13_2 (by omega)⟩
    rw [← eg4] at hP hD
    refine lv_iinc (v := Int32.ofInt (x2_1 + 1)) (lv' := [(2, .int (Int32.ofInt ((x2_1 + 1)))), (3, .int (Int32.ofInt (7))), (0, .ref (ar 13)), (1, .int (Int32.ofInt (v0)))]) hx hb dJ7_fill_53178_14 hl (k := 1) rfl (Int32.ofInt_add _ _).symm (by decide) rfl (fun ls hl => ?_)
    refine lv_goto (tgt := 5) hx hb dJ7_fill_53178_17 (by decide) ?_
    have hl : lv_has ls 4 [(3, .int (Int32.ofInt (7))), (2, .int (Int32.ofInt ((x2_1 + 1)))), (0, .ref (ar 13)), (1, .int (Int32.ofInt (v0)))] := lv_sub hl [1, 0, 2, 3] rfl
    exact ih ((x2_1 + 1), g4) (show (7 - (x2_1 + 1)).toNat < (7 - x2_1).toNat from by omega) (show inR (x2_1 + 1) ∧ (∀ t, inR (g4 t)) ∧ ((0 ≤ (x2_1 + 1) ∧ (x2_1 + 1) ≤ 7) ∧ ∀ f, 0 ≤ f → f < (x2_1 + 1) → g4 f = v0) from ⟨(by omega), rg4, (by exact ⟨by omega, fill_step hF9 eg4⟩)⟩) _ _ _ hP hD hS hl

set_option maxHeartbeats 4000000 in
set_option maxRecDepth 100000 in
theorem mJ7_fill_S7 (l : Launch) (G : va_G) (k : Nat → ClassId) (ar : Nat → Nat) (pl : Nat) (fi : Nat → Int) (fa : Nat → Int → Int) (v0 : Int) (sz : Nat) (hR : ∀ j, inR (fi j)) (hRa : ∀ j t, inR (fa j t)) (hB5 : bnd (fa 5) 1500 (-1) 1500) (hB7 : bnd (fa 7) 1024 (-1) 1500) (hB8 : bnd (fa 8) 1500 (-1) 1500) (hB9 : bnd (fa 9) 1500 0 1500) (hB10 : bnd (fa 10) 1500 0 1500) (hr_v0 : inR v0) (hv : -1 ≤ v0 ∧ v0 < 1500) : CNv l G k (EZ k) yJ7_fill_53178 wzJ7_fill_53178 ({ frames := 0, cells := 0, slots := 0, locals := 0 }) [.ref (ar 7), .int (Int32.ofInt (v0))] sz (wS k ar (pl) fi fa) (fun (u : (Int → Int)) => (∀ t, inR (u t)) ∧ (bnd u 1024 (-1) 1500) ∧ (∀ t, 0 ≤ t → t < 1024 → u t = v0)) (fun (u : (Int → Int)) => (wS k ar (pl) fi (uF fa 7 (u)))) := by
  refine Met.ofW (cc := cJ7_fill_53178) (maxL := 4) (ret := none) (by decide) rfl ?_
  intro p e s m args below meth c s₁ B hml hv
  obtain ⟨rfl, hsz, hP, hX, hD0, hZ0⟩ := hv
  have hx := B.exec
  have hb := B.bytes
  have hr := B.returns
  have hts := atoms_spec (ws := wzJ7_fill_53178) B.pre
  have hown : s.vm.findClass RJ7 = some m.cls := findClass_of_methodNamed B.named
  subst hsz
  have hD := hD0.self (sz := s.heap.size)
  have hZ := hZ0
  generalize hAe : va_A (wS k ar (pl) fi fa) s.heap.size = A at hD hZ ⊢
  have hA : ∀ q : Nat, s.heap.size ≤ q → A q := fun q h => by rw [← hAe]; exact Or.inr h
  have hS : va_S A s.heap s.heap [] := va_S.rf
  have hl := lv_entry ([.ref (ar 7), .int (Int32.ofInt (v0))]) (n := 4) (Nat.le_of_ble_eq_true rfl)
  rw [lg_entry_eq]
  generalize (lg_sl ([.ref (ar 7), .int (Int32.ofInt (v0))]) ++ List.replicate (4 - (lg_sl ([.ref (ar 7), .int (Int32.ofInt (v0))])).length) Slot.unset).toArray = ls at hl ⊢
  have hl : lv_has ls 4 [(0, .ref (ar 7)), (1, .int (Int32.ofInt (v0)))] := hl
  obtain ⟨H, eH⟩ : ∃ H, H = s.heap := ⟨_, rfl⟩
  rw [← eH] at hP
  have hS : va_S A s.heap H [] := by rw [eH]; exact hS
  have gW : s.heap = H := eH.symm
  refine iv_heap gW ?_
  refine lv_iconst (v := Int32.ofInt 0) hx hb dJ7_fill_53178_0 (by decide +kernel) ?_
  refine lv_istore_n (lv' := [(2, .int (Int32.ofInt (0))), (0, .ref (ar 7)), (1, .int (Int32.ofInt (v0)))]) hx hb dJ7_fill_53178_1 rfl hl (by decide) rfl (fun ls hl => ?_)
  refine lv_aload_n hx hb dJ7_fill_53178_2 rfl (lv_at hl 1 rfl) ?_
  refine va_alen (v := Int32.ofInt 1024) hx hb hX.1 hP 4 0 rfl rfl (show Int32.ofNat 1024 = Int32.ofInt 1024 from by decide) dJ7_fill_53178_3 ?_
  refine lv_istore_n (lv' := [(3, .int (Int32.ofInt (1024))), (2, .int (Int32.ofInt (0))), (0, .ref (ar 7)), (1, .int (Int32.ofInt (v0)))]) hx hb dJ7_fill_53178_4 rfl hl (by decide) rfl (fun ls hl => ?_)
  refine iv_loop (α := Int × (Int → Int)) (nL := 4) (fun b9 => (wS k ar (pl) fi (uF fa 7 (b9.2)))) (fun b9 => [(3, .int (Int32.ofInt (1024))), (2, .int (Int32.ofInt (b9.1))), (0, .ref (ar 7)), (1, .int (Int32.ofInt (v0)))]) (fun b9 => (1024 - b9.1).toNat) (fun b9 => inR b9.1 ∧ (∀ t, inR (b9.2 t)) ∧ (bnd b9.2 1024 (-1) 1500) ∧ ((0 ≤ b9.1 ∧ b9.1 ≤ 1024) ∧ ∀ f, 0 ≤ f → f < b9.1 → b9.2 f = v0)) ?_ (0, fa 7) (show inR 0 ∧ (∀ t, inR ((fa 7) t)) ∧ (bnd (fa 7) 1024 (-1) 1500) ∧ ((0 ≤ 0 ∧ 0 ≤ 1024) ∧ ∀ f, 0 ≤ f → f < 0 → (fa 7) f = v0) from ⟨(by omega), (hRa 7), hB7, (by exact ⟨by omega, fun f h1 h2 => absurd h1 (by omega)⟩)⟩) hP hD hS hl
  rintro ⟨x2_1, g7_2⟩ ih hi9 H locs ls hP hD hS hl
  obtain ⟨r_x2_1, r_g7_2, b_g7_2, hinv⟩ : inR x2_1 ∧ (∀ t, inR (g7_2 t)) ∧ (bnd g7_2 1024 (-1) 1500) ∧ ((0 ≤ x2_1 ∧ x2_1 ≤ 1024) ∧ ∀ f, 0 ≤ f → f < x2_1 → g7_2 f = v0) := hi9
  obtain ⟨hinv, hF9⟩ := hinv
  obtain ⟨hP, hD⟩ : va_P G vwCl (wS k ar (pl) fi (uF fa 7 (g7_2))) H ∧ va_D A (wS k ar (pl) fi (uF fa 7 (g7_2))) := ⟨hP, hD⟩
  have hl : lv_has ls 4 [(3, .int (Int32.ofInt (1024))), (2, .int (Int32.ofInt (x2_1))), (0, .ref (ar 7)), (1, .int (Int32.ofInt (v0)))] := hl
  refine lv_iload_n hx hb dJ7_fill_53178_5 rfl (lv_at hl 1 rfl) ?_
  refine lv_iload_n hx hb dJ7_fill_53178_6 rfl (lv_at hl 0 rfl) ?_
  refine iv_icmp_ge (tgt := 20) hx hb (by omega) (by omega) dJ7_fill_53178_7 (by decide) (fun q3 => ?_) (fun q3 => ?_)
  · exact W.vret hx hb hr (fun t ht hW => ⟨⟨(g7_2), rfl, (show (∀ t, inR (g7_2 t)) ∧ (bnd g7_2 1024 (-1) 1500) ∧ (∀ t, 0 ≤ t → t < 1024 → g7_2 t = v0) from ⟨r_g7_2, b_g7_2, (by exact fun t h1 h2 => hF9 t h1 (by omega))⟩), by rw [ht]; exact hP, hD⟩, hS.F ht⟩) hS.2.2 dJ7_fill_53178_20
  · refine lv_aload_n hx hb dJ7_fill_53178_10 rfl (lv_at hl 2 rfl) ?_
    refine lv_iload_n hx hb dJ7_fill_53178_11 rfl (lv_at hl 1 rfl) ?_
    refine lv_iload_n hx hb dJ7_fill_53178_12 rfl (lv_at hl 3 rfl) ?_
    refine iv_iast hx hb hX.1 hP hD hS 4 0 rfl rfl (fun g' => show _ = (wS k ar (pl) fi (uF fa 7 (g'))) from rfl) (by omega) (by omega) (by decide) dJ7_fill_53178_13 (fun H locs hP hD hS => ?_)
    obtain ⟨hP, hD⟩ : va_P G vwCl (wS k ar (pl) fi (uF fa 7 (uA (g7_2) (x2_1) (v0)))) H ∧ va_D A (wS k ar (pl) fi (uF fa 7 (uA (g7_2) (x2_1) (v0)))) := ⟨hP, hD⟩
    obtain ⟨g4, eg4, rg4⟩ : ∃ z, z = uA (g7_2) (x2_1) (v0) ∧ ∀ t, inR (z t) := ⟨_, rfl, iU r_g7_2 (by omega)⟩
    rw [← eg4] at hP hD
    have bg4 : bnd g4 1024 (-1) 1500 := bnd_up b_g7_2 (by omega) (by omega) eg4
    refine lv_iinc (v := Int32.ofInt (x2_1 + 1)) (lv' := [(2, .int (Int32.ofInt ((x2_1 + 1)))), (3, .int (Int32.ofInt (1024))), (0, .ref (ar 7)), (1, .int (Int32.ofInt (v0)))]) hx hb dJ7_fill_53178_14 hl (k := 1) rfl (Int32.ofInt_add _ _).symm (by decide) rfl (fun ls hl => ?_)
    refine lv_goto (tgt := 5) hx hb dJ7_fill_53178_17 (by decide) ?_
    have hl : lv_has ls 4 [(3, .int (Int32.ofInt (1024))), (2, .int (Int32.ofInt ((x2_1 + 1)))), (0, .ref (ar 7)), (1, .int (Int32.ofInt (v0)))] := lv_sub hl [1, 0, 2, 3] rfl
    exact ih ((x2_1 + 1), g4) (show (1024 - (x2_1 + 1)).toNat < (1024 - x2_1).toNat from by omega) (show inR (x2_1 + 1) ∧ (∀ t, inR (g4 t)) ∧ (bnd g4 1024 (-1) 1500) ∧ ((0 ≤ (x2_1 + 1) ∧ (x2_1 + 1) ≤ 1024) ∧ ∀ f, 0 ≤ f → f < (x2_1 + 1) → g4 f = v0) from ⟨(by omega), rg4, bg4, (by exact ⟨by omega, fill_step hF9 eg4⟩)⟩) _ _ _ hP hD hS hl

set_option maxHeartbeats 4000000 in
set_option maxRecDepth 100000 in
theorem mJ7_fill_S14 (l : Launch) (G : va_G) (k : Nat → ClassId) (ar : Nat → Nat) (pl : Nat) (fi : Nat → Int) (fa : Nat → Int → Int) (v0 : Int) (sz : Nat) (hR : ∀ j, inR (fi j)) (hRa : ∀ j t, inR (fa j t)) (hB5 : bnd (fa 5) 1500 (-1) 1500) (hB7 : bnd (fa 7) 1024 (-1) 1500) (hB8 : bnd (fa 8) 1500 (-1) 1500) (hB9 : bnd (fa 9) 1500 0 1500) (hB10 : bnd (fa 10) 1500 0 1500) (hr_v0 : inR v0) : CNv l G k (EZ k) yJ7_fill_53178 wzJ7_fill_53178 ({ frames := 0, cells := 0, slots := 0, locals := 0 }) [.ref (ar 14), .int (Int32.ofInt (v0))] sz (wS k ar (pl) fi fa) (fun (u : (Int → Int)) => (∀ t, inR (u t)) ∧ (∀ t, 0 ≤ t → t < 1641 → u t = v0)) (fun (u : (Int → Int)) => (wS k ar (pl) fi (uF fa 14 (u)))) := by
  refine Met.ofW (cc := cJ7_fill_53178) (maxL := 4) (ret := none) (by decide) rfl ?_
  intro p e s m args below meth c s₁ B hml hv
  obtain ⟨rfl, hsz, hP, hX, hD0, hZ0⟩ := hv
  have hx := B.exec
  have hb := B.bytes
  have hr := B.returns
  have hts := atoms_spec (ws := wzJ7_fill_53178) B.pre
  have hown : s.vm.findClass RJ7 = some m.cls := findClass_of_methodNamed B.named
  subst hsz
  have hD := hD0.self (sz := s.heap.size)
  have hZ := hZ0
  generalize hAe : va_A (wS k ar (pl) fi fa) s.heap.size = A at hD hZ ⊢
  have hA : ∀ q : Nat, s.heap.size ≤ q → A q := fun q h => by rw [← hAe]; exact Or.inr h
  have hS : va_S A s.heap s.heap [] := va_S.rf
  have hl := lv_entry ([.ref (ar 14), .int (Int32.ofInt (v0))]) (n := 4) (Nat.le_of_ble_eq_true rfl)
  rw [lg_entry_eq]
  generalize (lg_sl ([.ref (ar 14), .int (Int32.ofInt (v0))]) ++ List.replicate (4 - (lg_sl ([.ref (ar 14), .int (Int32.ofInt (v0))])).length) Slot.unset).toArray = ls at hl ⊢
  have hl : lv_has ls 4 [(0, .ref (ar 14)), (1, .int (Int32.ofInt (v0)))] := hl
  obtain ⟨H, eH⟩ : ∃ H, H = s.heap := ⟨_, rfl⟩
  rw [← eH] at hP
  have hS : va_S A s.heap H [] := by rw [eH]; exact hS
  have gW : s.heap = H := eH.symm
  refine iv_heap gW ?_
  refine lv_iconst (v := Int32.ofInt 0) hx hb dJ7_fill_53178_0 (by decide +kernel) ?_
  refine lv_istore_n (lv' := [(2, .int (Int32.ofInt (0))), (0, .ref (ar 14)), (1, .int (Int32.ofInt (v0)))]) hx hb dJ7_fill_53178_1 rfl hl (by decide) rfl (fun ls hl => ?_)
  refine lv_aload_n hx hb dJ7_fill_53178_2 rfl (lv_at hl 1 rfl) ?_
  refine va_alen (v := Int32.ofInt 1641) hx hb hX.1 hP 9 0 rfl rfl (show Int32.ofNat 1641 = Int32.ofInt 1641 from by decide) dJ7_fill_53178_3 ?_
  refine lv_istore_n (lv' := [(3, .int (Int32.ofInt (1641))), (2, .int (Int32.ofInt (0))), (0, .ref (ar 14)), (1, .int (Int32.ofInt (v0)))]) hx hb dJ7_fill_53178_4 rfl hl (by decide) rfl (fun ls hl => ?_)
  refine iv_loop (α := Int × (Int → Int)) (nL := 4) (fun b9 => (wS k ar (pl) fi (uF fa 14 (b9.2)))) (fun b9 => [(3, .int (Int32.ofInt (1641))), (2, .int (Int32.ofInt (b9.1))), (0, .ref (ar 14)), (1, .int (Int32.ofInt (v0)))]) (fun b9 => (1641 - b9.1).toNat) (fun b9 => inR b9.1 ∧ (∀ t, inR (b9.2 t)) ∧ ((0 ≤ b9.1 ∧ b9.1 ≤ 1641) ∧ ∀ f, 0 ≤ f → f < b9.1 → b9.2 f = v0)) ?_ (0, fa 14) (show inR 0 ∧ (∀ t, inR ((fa 14) t)) ∧ ((0 ≤ 0 ∧ 0 ≤ 1641) ∧ ∀ f, 0 ≤ f → f < 0 → (fa 14) f = v0) from ⟨(by omega), (hRa 14), (by exact ⟨by omega, fun f h1 h2 => absurd h1 (by omega)⟩)⟩) hP hD hS hl
  rintro ⟨x2_1, g14_2⟩ ih hi9 H locs ls hP hD hS hl
  obtain ⟨r_x2_1, r_g14_2, hinv⟩ : inR x2_1 ∧ (∀ t, inR (g14_2 t)) ∧ ((0 ≤ x2_1 ∧ x2_1 ≤ 1641) ∧ ∀ f, 0 ≤ f → f < x2_1 → g14_2 f = v0) := hi9
  obtain ⟨hinv, hF9⟩ := hinv
  obtain ⟨hP, hD⟩ : va_P G vwCl (wS k ar (pl) fi (uF fa 14 (g14_2))) H ∧ va_D A (wS k ar (pl) fi (uF fa 14 (g14_2))) := ⟨hP, hD⟩
  have hl : lv_has ls 4 [(3, .int (Int32.ofInt (1641))), (2, .int (Int32.ofInt (x2_1))), (0, .ref (ar 14)), (1, .int (Int32.ofInt (v0)))] := hl
  refine lv_iload_n hx hb dJ7_fill_53178_5 rfl (lv_at hl 1 rfl) ?_
  refine lv_iload_n hx hb dJ7_fill_53178_6 rfl (lv_at hl 0 rfl) ?_
  refine iv_icmp_ge (tgt := 20) hx hb (by omega) (by omega) dJ7_fill_53178_7 (by decide) (fun q3 => ?_) (fun q3 => ?_)
  · exact W.vret hx hb hr (fun t ht hW => ⟨⟨(g14_2), rfl, (show (∀ t, inR (g14_2 t)) ∧ (∀ t, 0 ≤ t → t < 1641 → g14_2 t = v0) from ⟨r_g14_2, (by exact fun t h1 h2 => hF9 t h1 (by omega))⟩), by rw [ht]; exact hP, hD⟩, hS.F ht⟩) hS.2.2 dJ7_fill_53178_20
  · refine lv_aload_n hx hb dJ7_fill_53178_10 rfl (lv_at hl 2 rfl) ?_
    refine lv_iload_n hx hb dJ7_fill_53178_11 rfl (lv_at hl 1 rfl) ?_
    refine lv_iload_n hx hb dJ7_fill_53178_12 rfl (lv_at hl 3 rfl) ?_
    refine iv_iast hx hb hX.1 hP hD hS 9 0 rfl rfl (fun g' => show _ = (wS k ar (pl) fi (uF fa 14 (g'))) from rfl) (by omega) (by omega) (by decide) dJ7_fill_53178_13 (fun H locs hP hD hS => ?_)
    obtain ⟨hP, hD⟩ : va_P G vwCl (wS k ar (pl) fi (uF fa 14 (uA (g14_2) (x2_1) (v0)))) H ∧ va_D A (wS k ar (pl) fi (uF fa 14 (uA (g14_2) (x2_1) (v0)))) := ⟨hP, hD⟩
    obtain ⟨g4, eg4, rg4⟩ : ∃ z, z = uA (g14_2) (x2_1) (v0) ∧ ∀ t, inR (z t) := ⟨_, rfl, iU r_g14_2 (by omega)⟩
    rw [← eg4] at hP hD
    refine lv_iinc (v := Int32.ofInt (x2_1 + 1)) (lv' := [(2, .int (Int32.ofInt ((x2_1 + 1)))), (3, .int (Int32.ofInt (1641))), (0, .ref (ar 14)), (1, .int (Int32.ofInt (v0)))]) hx hb dJ7_fill_53178_14 hl (k := 1) rfl (Int32.ofInt_add _ _).symm (by decide) rfl (fun ls hl => ?_)
    refine lv_goto (tgt := 5) hx hb dJ7_fill_53178_17 (by decide) ?_
    have hl : lv_has ls 4 [(3, .int (Int32.ofInt (1641))), (2, .int (Int32.ofInt ((x2_1 + 1)))), (0, .ref (ar 14)), (1, .int (Int32.ofInt (v0)))] := lv_sub hl [1, 0, 2, 3] rfl
    exact ih ((x2_1 + 1), g4) (show (1641 - (x2_1 + 1)).toNat < (1641 - x2_1).toNat from by omega) (show inR (x2_1 + 1) ∧ (∀ t, inR (g4 t)) ∧ ((0 ≤ (x2_1 + 1) ∧ (x2_1 + 1) ≤ 1641) ∧ ∀ f, 0 ≤ f → f < (x2_1 + 1) → g4 f = v0) from ⟨(by omega), rg4, (by exact ⟨by omega, fill_step hF9 eg4⟩)⟩) _ _ _ hP hD hS hl

set_option maxHeartbeats 4000000 in
set_option maxRecDepth 100000 in
theorem mX3_brokenRule (l : Launch) (G : va_G) (k : Nat → ClassId) (ar : Nat → Nat) (fi : Nat → Int) (fa : Nat → Int → Int) (s0 : Int) (b0 : Int) (sz : Nat) (hR : ∀ j, inR (fi j)) (hRa : ∀ j t, inR (fa j t)) (hB8 : bnd (fa 8) 7 0 4) (hB20 : bnd (fa 20) 600 (-1000) 10000) (hB21 : bnd (fa 21) 4 0 601) (hr_s0 : inR s0) (hr_b0 : inR b0) (hth : 0 ≤ fi 7 ∧ fi 7 ≤ 7) (hbt : 0 ≤ fi 0 ∧ fi 0 ≤ 11) (hsz : 0 ≤ fi 24 ∧ fi 24 ≤ 4) (hb : b0 = 0 ∨ b0 = 1) (hRC : ∀ q9, 0 ≤ q9 → q9 < fi 24 → RWf (dcf (fa 20)) (stq (fa 21) q9) (fa 21 q9)) : CNi l G k (EZ k) yX3_brokenRule wzX3_brokenRule ({ frames := 2, cells := 0, slots := 0, locals := 48 }) [.ref (ar 99), .int (Int32.ofInt (s0)), .int (Int32.ofInt (b0))] sz (wP k ar fi fa) (fun (r0 : Int32) (u : Int × (Int → Int) × (Int → Int)) => r0 = Int32.ofInt (u.1) ∧ (inR u.1) ∧ (∀ t, inR (u.2.1 t)) ∧ (∀ t, inR (u.2.2 t)) ∧ ((-1 ≤ u.1 ∧ u.1 < 4) ∧ brkP u.1 (fun q => evR (dcf (fa 20)) (vls (nb s0) (fa 8) (fa 9) b0 (fi 7) (fi 0) (dp s0)) (stq (fa 21) q) (fa 21 q)) (fi 24))) (fun (u : Int × (Int → Int) × (Int → Int)) => (wP k ar fi (uF (uF fa 13 (u.2.1)) 22 (u.2.2)))) := by
  refine Met.ofW (cc := cX3_brokenRule) (maxL := 5) (ret := (some .int)) (by decide) rfl ?_
  intro p e s m args below meth c s₁ B hml hv
  obtain ⟨rfl, hsz, hP, hX, hD0, hZ0⟩ := hv
  have hx := B.exec
  have hb := B.bytes
  have hr := B.returns
  have hts := atoms_spec (ws := wzX3_brokenRule) B.pre
  have hown : s.vm.findClass RX3 = some m.cls := findClass_of_methodNamed B.named
  subst hsz
  have hD := hD0.self (sz := s.heap.size)
  have hZ := hZ0
  generalize hAe : va_A (wP k ar fi fa) s.heap.size = A at hD hZ ⊢
  have hA : ∀ q : Nat, s.heap.size ≤ q → A q := fun q h => by rw [← hAe]; exact Or.inr h
  have hS : va_S A s.heap s.heap [] := va_S.rf
  have hl := lv_entry ([.ref (ar 99), .int (Int32.ofInt (s0)), .int (Int32.ofInt (b0))]) (n := 5) (Nat.le_of_ble_eq_true rfl)
  rw [lg_entry_eq]
  generalize (lg_sl ([.ref (ar 99), .int (Int32.ofInt (s0)), .int (Int32.ofInt (b0))]) ++ List.replicate (5 - (lg_sl ([.ref (ar 99), .int (Int32.ofInt (s0)), .int (Int32.ofInt (b0))])).length) Slot.unset).toArray = ls at hl ⊢
  have hl : lv_has ls 5 [(0, .ref (ar 99)), (1, .int (Int32.ofInt (s0))), (2, .int (Int32.ofInt (b0)))] := hl
  obtain ⟨H, eH⟩ : ∃ H, H = s.heap := ⟨_, rfl⟩
  rw [← eH] at hP
  have hS : va_S A s.heap H [] := by rw [eH]; exact hS
  have gW : s.heap = H := eH.symm
  refine iv_heap gW ?_
  have h0w := hts (.fieldLink RX3 27 "RopeTown$Plan" "rules" "LRopeTown$Rules;") (wz_at 2 0 rfl)
  have h1w : ∀ w ∈ wsX30, w ∈ wzX3_brokenRule := fun w h => List.mem_cons_of_mem _ (inlX3 w h)
  have h2w : ∀ w ∈ wsX50, w ∈ wzX3_brokenRule := fun w h => List.mem_cons_of_mem _ (inlX5 w h)
  have h3w := hts (.fieldLink RX3 31 "RopeTown$Plan" "values" "[I") (wz_at 2 1 rfl)
  have h4w := hts (.fieldLink RX3 59 "RopeTown$Plan" "things" "I") (wz_at 3 1 rfl)
  have h5w := hts (.initialized RX5) (wz_at 1 23 rfl)
  have h6w := hts (.instanceMethod yX5_worth) (wz_at 25 11 rfl)
  have h7w := hts (.selects RX5 yX5_worth yX5_worth) (wz_at 25 12 rfl)
  have h8w := hts (.initialized RX7) (wz_at 5 10 rfl)
  have h9w := hts (.static yX7_place) (wz_at 23 11 rfl)
  have h10w := hts (.fieldLink RX3 15 "RopeTown$Plan" "weight" "[I") (wz_at 1 18 rfl)
  have h11w := hts (.fieldLink RX3 9 "RopeTown$Plan" "kind" "[I") (wz_at 1 17 rfl)
  refine lv_aload_n hx hb dX3_brokenRule_0 rfl (lv_at hl 0 rfl) ?_
  refine va_get (D := G) (ci := 2) (v := .ref (ar 98)) (C := RX3) (T := TX3) (N := 14) (ref := RX3) hx hb hts h1w hown hX.1 hP 0 rfl rfl 12 (by decide) h0w (fun _ h9 => h9) rfl dX3_brokenRule_1 ?_
  refine va_getN (D := G) (ci := 4) (v := .int (Int32.ofInt (fi 24))) (C := RX5) (T := TX5) (N := 5) (ref := RX5) (host := RX9) hx hb hts h2w hown hX.1 hP 1 rfl rfl 4 (by decide) (nf_2 hX.2.2.1) (fun _ h9 => h9) rfl dX3_brokenRule_4 ?_
  have rf24 := hR 24
  refine iv_if_ne (tgt := 12) hx hb (by omega) dX3_brokenRule_7 (by decide) (fun q1 => ?_) (fun q1 => ?_)
  · refine lv_aload_n hx hb dX3_brokenRule_12 rfl (lv_at hl 0 rfl) ?_
    refine va_get (D := G) (ci := 2) (v := .ref (ar 13)) (C := RX3) (T := TX3) (N := 14) (ref := RX3) hx hb hts h1w hown hX.1 hP 0 rfl rfl 13 (by decide) h3w (fun _ h9 => h9) rfl dX3_brokenRule_13 ?_
    refine lv_iconst (v := Int32.ofInt 0) hx hb dX3_brokenRule_16 (by decide +kernel) ?_
    refine cr_v (va_runS (As := [.ref (ar 13), .int (Int32.ofInt (0))]) (rest := []) ⟨hx, hb, hml, hown, hts⟩ (mJ7_fill_P13 l G k ar fi fa 0 H.size hR hRa hB8 hB20 hB21 (by omega)) (va_cwS 2 hts (gz [.methodLink RX3 119 yJ7_fill_53178, .static yJ7_fill_53178, .initialized RJ7] (.code yJ7_fill_53178 cJ7_fill_53178 4 none) [(25, 10), (16, 2), (16, 3), (16, 4)] rfl) rfl rfl rfl (by decide +kernel) ⟨Nat.le_of_ble_eq_true rfl, Nat.le_of_ble_eq_true rfl⟩) (cr_preS (EZ_ok k) hZ hS hX hP hD hA) rfl rfl hl.1 rfl (lv_room (Nat.le_of_ble_eq_true rfl)) dX3_brokenRule_17 ⟨Nat.le_of_ble_eq_true rfl, Nat.le_of_ble_eq_true rfl⟩) hD hS hA (fun u H locs hp hP hD hS => ?_)
    obtain ⟨c2, rfl⟩ : ∃ z, z = u := ⟨_, rfl⟩
    obtain ⟨hP, hD⟩ : va_P G vwCl (wP k ar fi (uF fa 13 (c2))) H ∧ va_D A (wP k ar fi (uF fa 13 (c2))) := ⟨hP, hD⟩
    obtain ⟨rc2, hp2⟩ : (∀ t, inR (c2 t)) ∧ (∀ t, 0 ≤ t → t < 7 → c2 t = 0) := hp
    have hFi17 := hp2
    refine lv_iconst (v := Int32.ofInt 0) hx hb dX3_brokenRule_20 (by decide +kernel) ?_
    refine lv_istore_n (lv' := [(3, .int (Int32.ofInt (0))), (0, .ref (ar 99)), (1, .int (Int32.ofInt (s0))), (2, .int (Int32.ofInt (b0)))]) hx hb dX3_brokenRule_21 rfl hl (by decide) rfl (fun ls hl => ?_)
    refine iv_loop (α := Int × (Int → Int)) (nL := 5) (fun b9 => (wP k ar fi (uF fa 13 (b9.2)))) (fun b9 => [(3, .int (Int32.ofInt (b9.1))), (0, .ref (ar 99)), (1, .int (Int32.ofInt (s0))), (2, .int (Int32.ofInt (b0)))]) (fun b9 => (fi 7 - b9.1).toNat) (fun b9 => inR b9.1 ∧ (∀ t, inR (b9.2 t)) ∧ ((0 ≤ b9.1 ∧ b9.1 ≤ fi 7) ∧ VI b9.2 (nb s0) (fa 8) (fa 9) b0 b9.1)) ?_ (0, c2) (show inR 0 ∧ (∀ t, inR (c2 t)) ∧ ((0 ≤ 0 ∧ 0 ≤ fi 7) ∧ VI c2 (nb s0) (fa 8) (fa 9) b0 0) from ⟨(by omega), rc2, (by exact ⟨by omega, vi_0 hFi17 rfl⟩)⟩) hP hD hS hl
    rintro ⟨x3_3, g13_4⟩ ih hi9 H locs ls hP hD hS hl
    obtain ⟨r_x3_3, r_g13_4, hinv⟩ : inR x3_3 ∧ (∀ t, inR (g13_4 t)) ∧ ((0 ≤ x3_3 ∧ x3_3 ≤ fi 7) ∧ VI g13_4 (nb s0) (fa 8) (fa 9) b0 x3_3) := hi9
    obtain ⟨hinv, hVI⟩ := hinv
    obtain ⟨hP, hD⟩ : va_P G vwCl (wP k ar fi (uF fa 13 (g13_4))) H ∧ va_D A (wP k ar fi (uF fa 13 (g13_4))) := ⟨hP, hD⟩
    have hl : lv_has ls 5 [(3, .int (Int32.ofInt (x3_3))), (0, .ref (ar 99)), (1, .int (Int32.ofInt (s0))), (2, .int (Int32.ofInt (b0)))] := hl
    refine lv_iload_n hx hb dX3_brokenRule_22 rfl (lv_at hl 0 rfl) ?_
    refine lv_aload_n hx hb dX3_brokenRule_23 rfl (lv_at hl 1 rfl) ?_
    refine va_get (D := G) (ci := 2) (v := .int (Int32.ofInt (fi 7))) (C := RX3) (T := TX3) (N := 14) (ref := RX3) hx hb hts h1w hown hX.1 hP 0 rfl rfl 7 (by decide) h4w (fun _ h9 => h9) rfl dX3_brokenRule_24 ?_
    have rf7 := hR 7
    refine iv_icmp_ge (tgt := 110) hx hb (by omega) (by omega) dX3_brokenRule_27 (by decide) (fun q5 => ?_) (fun q5 => ?_)
    · refine lv_aload_n hx hb dX3_brokenRule_110 rfl (lv_at hl 1 rfl) ?_
      refine va_get (D := G) (ci := 2) (v := .ref (ar 13)) (C := RX3) (T := TX3) (N := 14) (ref := RX3) hx hb hts h1w hown hX.1 hP 0 rfl rfl 13 (by decide) h3w (fun _ h9 => h9) rfl dX3_brokenRule_111 ?_
      refine lv_iconst (v := Int32.ofInt 5) hx hb dX3_brokenRule_114 (by decide +kernel) ?_
      refine lv_aload_n hx hb dX3_brokenRule_115 rfl (lv_at hl 1 rfl) ?_
      refine lv_iload_n hx hb dX3_brokenRule_116 rfl (lv_at hl 2 rfl) ?_
      refine lv_iload_n hx hb dX3_brokenRule_117 rfl (lv_at hl 3 rfl) ?_
      refine cr_i (va_runV (As := [.int (Int32.ofInt (s0)), .int (Int32.ofInt (b0))]) (rest := [.int (Int32.ofInt (5)), .ref (ar 13)]) ⟨hx, hb, hml, hown, hts⟩ (mX3_bucketDepth l G k ar fi (uF fa 13 (g13_4)) s0 b0 H.size hR (iG hRa r_g13_4) hB8 hB20 hB21 (by omega) (by omega) (show 0 ≤ (fi 0) ∧ (fi 0) ≤ 11 from by omega)) (cwV 2 hts (gz [.methodLink RX3 81 yX3_bucketDepth, .instanceMethod yX3_bucketDepth, .selects RX3 yX3_bucketDepth yX3_bucketDepth, .initialized RX3] (.code yX3_bucketDepth cX3_bucketDepth 3 (some .int)) [(23, 13), (23, 14), (23, 15), (0, 19), (23, 16)] rfl) rfl rfl rfl (by decide +kernel) ⟨Nat.le_of_ble_eq_true rfl, Nat.le_of_ble_eq_true rfl⟩) (cr_preV (EZ_ok k) hZ hS hX hP hD hA (ci := 2) (q0 := 0) rfl rfl) rfl rfl hl.1 rfl (lv_room (Nat.le_of_ble_eq_true rfl)) dX3_brokenRule_118 ⟨Nat.le_of_ble_eq_true rfl, Nat.le_of_ble_eq_true rfl⟩) hD hS hA (fun r u H locs hp hP hD hS => ?_)
      obtain ⟨c6, rfl⟩ : ∃ z, z = u := ⟨_, rfl⟩
      obtain ⟨h9, rc6, hp6⟩ : r = Int32.ofInt c6 ∧ (inR c6) ∧ (c6 = buD b0 (dp s0) ((fi 0)) ∧ -15 ≤ c6 ∧ c6 ≤ 15) := hp
      subst h9
      have hBu118 := hp6.1
      refine iv_iast hx hb hX.1 hP hD hS 6 0 rfl rfl (fun g' => show _ = (wP k ar fi (uF fa 13 (g'))) from rfl) (by omega) (by omega) (by decide) dX3_brokenRule_121 (fun H locs hP hD hS => ?_)
      obtain ⟨hP, hD⟩ : va_P G vwCl (wP k ar fi (uF fa 13 (uA (g13_4) (5) (c6)))) H ∧ va_D A (wP k ar fi (uF fa 13 (uA (g13_4) (5) (c6)))) := ⟨hP, hD⟩
      obtain ⟨g7, eg7, rg7⟩ : ∃ z, z = uA (g13_4) (5) (c6) ∧ ∀ t, inR (z t) := ⟨_, rfl, iU r_g13_4 (by omega)⟩
      rw [← eg7] at hP hD
      have hVV := vi_x2 hVI (show x3_3 = fi 7 by omega) hBu118 eg7
      refine lv_iconst (v := Int32.ofInt 0) hx hb dX3_brokenRule_122 (by decide +kernel) ?_
      refine lv_istore_n (lv' := [(3, .int (Int32.ofInt (0))), (0, .ref (ar 99)), (1, .int (Int32.ofInt (s0))), (2, .int (Int32.ofInt (b0)))]) hx hb dX3_brokenRule_123 rfl hl (by decide) rfl (fun ls hl => ?_)
      refine iv_loop (α := Int × (Int → Int)) (nL := 5) (fun b9 => (wP k ar fi (uF (uF fa 13 (g7)) 22 (b9.2)))) (fun b9 => [(3, .int (Int32.ofInt (b9.1))), (0, .ref (ar 99)), (1, .int (Int32.ofInt (s0))), (2, .int (Int32.ofInt (b0)))]) (fun b9 => (fi 24 - b9.1).toNat) (fun b9 => inR b9.1 ∧ (∀ t, inR (b9.2 t)) ∧ (0 ≤ b9.1 ∧ bkI (fun q => evR (dcf (fa 20)) (vls (nb s0) (fa 8) (fa 9) b0 (fi 7) (fi 0) (dp s0)) (stq (fa 21) q) (fa 21 q)) b9.1)) ?_ (0, fa 22) (show inR 0 ∧ (∀ t, inR ((fa 22) t)) ∧ (0 ≤ 0 ∧ bkI (fun q => evR (dcf (fa 20)) (vls (nb s0) (fa 8) (fa 9) b0 (fi 7) (fi 0) (dp s0)) (stq (fa 21) q) (fa 21 q)) 0) from ⟨(by omega), (hRa 22), (by exact ⟨by omega, bki_0 (by omega)⟩)⟩) hP hD hS hl
      rintro ⟨x3_8, g22_9⟩ ih hi9 H locs ls hP hD hS hl
      obtain ⟨r_x3_8, r_g22_9, hinv⟩ : inR x3_8 ∧ (∀ t, inR (g22_9 t)) ∧ (0 ≤ x3_8 ∧ bkI (fun q => evR (dcf (fa 20)) (vls (nb s0) (fa 8) (fa 9) b0 (fi 7) (fi 0) (dp s0)) (stq (fa 21) q) (fa 21 q)) x3_8) := hi9
      obtain ⟨hinv, hBI⟩ := hinv
      obtain ⟨hP, hD⟩ : va_P G vwCl (wP k ar fi (uF (uF fa 13 (g7)) 22 (g22_9))) H ∧ va_D A (wP k ar fi (uF (uF fa 13 (g7)) 22 (g22_9))) := ⟨hP, hD⟩
      have hl : lv_has ls 5 [(3, .int (Int32.ofInt (x3_8))), (0, .ref (ar 99)), (1, .int (Int32.ofInt (s0))), (2, .int (Int32.ofInt (b0)))] := hl
      refine lv_iload_n hx hb dX3_brokenRule_124 rfl (lv_at hl 0 rfl) ?_
      refine lv_aload_n hx hb dX3_brokenRule_125 rfl (lv_at hl 1 rfl) ?_
      refine va_get (D := G) (ci := 2) (v := .ref (ar 98)) (C := RX3) (T := TX3) (N := 14) (ref := RX3) hx hb hts h1w hown hX.1 hP 0 rfl rfl 12 (by decide) h0w (fun _ h9 => h9) rfl dX3_brokenRule_126 ?_
      refine va_getN (D := G) (ci := 4) (v := .int (Int32.ofInt (fi 24))) (C := RX5) (T := TX5) (N := 5) (ref := RX5) (host := RX9) hx hb hts h2w hown hX.1 hP 1 rfl rfl 4 (by decide) (nf_2 hX.2.2.1) (fun _ h9 => h9) rfl dX3_brokenRule_129 ?_
      have rf24 := hR 24
      refine iv_icmp_ge (tgt := 158) hx hb (by omega) (by omega) dX3_brokenRule_132 (by decide) (fun q10 => ?_) (fun q10 => ?_)
      · refine lv_iconst (v := Int32.ofInt (-1)) hx hb dX3_brokenRule_158 (by decide +kernel) ?_
        exact W.iret (v := Int32.ofInt ((-1))) hx hb hr (fun t ht hW => ⟨⟨Int32.ofInt ((-1)), ((-1), g7, g22_9), rfl, ⟨rfl, (show (inR (-1)) ∧ (∀ t, inR (g7 t)) ∧ (∀ t, inR (g22_9 t)) ∧ ((-1 ≤ (-1) ∧ (-1) < 4) ∧ brkP (-1) (fun q => evR (dcf (fa 20)) (vls (nb s0) (fa 8) (fa 9) b0 (fi 7) (fi 0) (dp s0)) (stq (fa 21) q) (fa 21 q)) (fi 24)) from ⟨(by omega), rg7, r_g22_9, (by first | exact ⟨by omega, brk_n (bki_0 (x := 0) (by omega)) (by omega) rfl⟩ | exact ⟨by omega, brk_y2 hBI (by omega) (by omega) (by omega)⟩ | exact ⟨by omega, brk_n hBI (by omega) rfl⟩)⟩)⟩, by rw [ht]; exact hP, hD⟩, hS.F ht⟩) hS.2.2 dX3_brokenRule_159
      · refine lv_aload_n hx hb dX3_brokenRule_135 rfl (lv_at hl 1 rfl) ?_
        refine va_get (D := G) (ci := 2) (v := .ref (ar 98)) (C := RX3) (T := TX3) (N := 14) (ref := RX3) hx hb hts h1w hown hX.1 hP 0 rfl rfl 12 (by decide) h0w (fun _ h9 => h9) rfl dX3_brokenRule_136 ?_
        refine lv_iload_n hx hb dX3_brokenRule_139 rfl (lv_at hl 0 rfl) ?_
        refine lv_aload_n hx hb dX3_brokenRule_140 rfl (lv_at hl 1 rfl) ?_
        refine va_get (D := G) (ci := 2) (v := .ref (ar 13)) (C := RX3) (T := TX3) (N := 14) (ref := RX3) hx hb hts h1w hown hX.1 hP 0 rfl rfl 13 (by decide) h3w (fun _ h9 => h9) rfl dX3_brokenRule_141 ?_
        refine cr_i (va_runVN (As := [.int (Int32.ofInt (x3_8)), .ref (ar 13)]) (rest := []) ⟨hx, hb, hml, hown, hts⟩ (mX5_worth l G k ar fi (uF (uF fa 13 (g7)) 22 (g22_9)) x3_8 H.size hR (iG (iG hRa rg7) r_g22_9) hB8 hB20 hB21 (by omega) (show 0 ≤ (fi 24) ∧ (fi 24) ≤ 4 from by omega) (show 0 ≤ x3_8 ∧ x3_8 < (fi 24) from by omega) (show RWf (dcf ((fa 20))) (stq ((fa 21)) x3_8) ((fa 21) x3_8) from by exact hRC x3_8 (by omega) (by omega))) ⟨va_cnB 2 hts (gz [] (.code yX5_worth cX5_worth 7 (some .int)) [(25, 13)] rfl) rfl rfl rfl (nm_20 hX.2.2.1) h5w (by decide +kernel) ⟨Nat.le_of_ble_eq_true rfl, Nat.le_of_ble_eq_true rfl⟩, h6w, h7w⟩ (cr_preV (EZ_ok k) hZ hS hX hP hD hA (ci := 4) (q0 := 1) rfl rfl) rfl rfl hl.1 rfl (lv_room (Nat.le_of_ble_eq_true rfl)) dX3_brokenRule_144 ⟨Nat.le_of_ble_eq_true rfl, Nat.le_of_ble_eq_true rfl⟩) hD hS hA (fun r u H locs hp hP hD hS => ?_)
        obtain ⟨c11, c12⟩ := u
        obtain ⟨hP, hD⟩ : va_P G vwCl (wP k ar fi (uF (uF fa 13 (g7)) 22 (c12))) H ∧ va_D A (wP k ar fi (uF (uF fa 13 (g7)) 22 (c12))) := ⟨hP, hD⟩
        obtain ⟨h9, rc11, rc12, hp12⟩ : r = Int32.ofInt c11 ∧ (inR c11) ∧ (∀ t, inR (c12 t)) ∧ (c11 = evR (dcf ((fa 20))) (g7) (stq ((fa 21)) x3_8) ((fa 21) x3_8)) := hp
        subst h9
        have hWo144 := hp12
        have hev := ev_V (hRC x3_8 (by omega) (by omega)) hVV
        refine iv_if_ne (tgt := 152) hx hb (by omega) dX3_brokenRule_147 (by decide) (fun q13 => ?_) (fun q13 => ?_)
        · refine lv_iinc (v := Int32.ofInt (x3_8 + 1)) (lv' := [(3, .int (Int32.ofInt ((x3_8 + 1)))), (0, .ref (ar 99)), (1, .int (Int32.ofInt (s0))), (2, .int (Int32.ofInt (b0)))]) hx hb dX3_brokenRule_152 hl (k := 0) rfl (Int32.ofInt_add _ _).symm (by decide) rfl (fun ls hl => ?_)
          refine lv_goto (tgt := 124) hx hb dX3_brokenRule_155 (by decide) ?_
          have hl : lv_has ls 5 [(3, .int (Int32.ofInt ((x3_8 + 1)))), (0, .ref (ar 99)), (1, .int (Int32.ofInt (s0))), (2, .int (Int32.ofInt (b0)))] := lv_sub hl [0, 1, 2, 3] rfl
          exact ih ((x3_8 + 1), c12) (show (fi 24 - (x3_8 + 1)).toNat < (fi 24 - x3_8).toNat from by omega) (show inR (x3_8 + 1) ∧ (∀ t, inR (c12 t)) ∧ (0 ≤ (x3_8 + 1) ∧ bkI (fun q => evR (dcf (fa 20)) (vls (nb s0) (fa 8) (fa 9) b0 (fi 7) (fi 0) (dp s0)) (stq (fa 21) q) (fa 21 q)) (x3_8 + 1)) from ⟨(by omega), rc12, (by exact ⟨by omega, bki_s2 hBI (by omega) rfl⟩)⟩) _ _ _ hP hD hS hl
        · refine lv_iload_n hx hb dX3_brokenRule_150 rfl (lv_at hl 0 rfl) ?_
          exact W.iret (v := Int32.ofInt (x3_8)) hx hb hr (fun t ht hW => ⟨⟨Int32.ofInt (x3_8), (x3_8, g7, c12), rfl, ⟨rfl, (show (inR x3_8) ∧ (∀ t, inR (g7 t)) ∧ (∀ t, inR (c12 t)) ∧ ((-1 ≤ x3_8 ∧ x3_8 < 4) ∧ brkP x3_8 (fun q => evR (dcf (fa 20)) (vls (nb s0) (fa 8) (fa 9) b0 (fi 7) (fi 0) (dp s0)) (stq (fa 21) q) (fa 21 q)) (fi 24)) from ⟨(by omega), rg7, rc12, (by first | exact ⟨by omega, brk_n (bki_0 (x := 0) (by omega)) (by omega) rfl⟩ | exact ⟨by omega, brk_y2 hBI (by omega) (by omega) (by omega)⟩ | exact ⟨by omega, brk_n hBI (by omega) rfl⟩)⟩)⟩, by rw [ht]; exact hP, hD⟩, hS.F ht⟩) hS.2.2 dX3_brokenRule_151
    · refine lv_iload_n hx hb dX3_brokenRule_30 rfl (lv_at hl 2 rfl) ?_
      refine lv_iload_n hx hb dX3_brokenRule_31 rfl (lv_at hl 0 rfl) ?_
      refine c0_i (va_runSN (As := [.int (Int32.ofInt (s0)), .int (Int32.ofInt (x3_3))]) (rest := []) ⟨hx, hb, hml, hown, hts⟩ (mX7_place l G k s0 x3_3 H.size (by omega) (by omega)) ⟨va_cnB 2 hts (gz [] (.code yX7_place cX7_place 2 (some .int)) [(23, 12)] rfl) rfl rfl rfl (nm_12 hX.2.2.1) h8w (by decide +kernel) ⟨Nat.le_of_ble_eq_true rfl, Nat.le_of_ble_eq_true rfl⟩, h9w, trivial⟩ (cr_pre0 (EZ_ok k) hZ hS hX hP hD hA) rfl rfl hl.1 rfl (lv_room (Nat.le_of_ble_eq_true rfl)) dX3_brokenRule_32 ⟨Nat.le_of_ble_eq_true rfl, Nat.le_of_ble_eq_true rfl⟩) hP hD hS hA (fun r u H locs hp hP hD hS => ?_)
      obtain ⟨c14, rfl⟩ : ∃ z, z = u := ⟨_, rfl⟩
      obtain ⟨h9, rc14, hp14⟩ : r = Int32.ofInt c14 ∧ (inR c14) ∧ (c14 = nb s0 x3_3 ∧ 0 ≤ c14 ∧ c14 ≤ 15) := hp
      subst h9
      have hPl32 := hp14.1
      refine lv_istore (lv' := [(4, .int (Int32.ofInt (c14))), (3, .int (Int32.ofInt (x3_3))), (0, .ref (ar 99)), (1, .int (Int32.ofInt (s0))), (2, .int (Int32.ofInt (b0)))]) hx hb dX3_brokenRule_35 hl (by decide) rfl (fun ls hl => ?_)
      refine lv_iload hx hb dX3_brokenRule_37 (lv_at hl 0 rfl) ?_
      refine lv_bipush (v := Int32.ofInt 12) hx hb dX3_brokenRule_39 (by decide +kernel) ?_
      refine lv_iload_n hx hb dX3_brokenRule_41 rfl (lv_at hl 4 rfl) ?_
      refine iv_add (x := 12) (y := b0) hx hb dX3_brokenRule_42 ?_
      refine iv_icmp_ne (tgt := 79) hx hb (by omega) (by omega) dX3_brokenRule_43 (by decide) (fun q15 => ?_) (fun q15 => ?_)
      · refine lv_iload hx hb dX3_brokenRule_79 (lv_at hl 0 rfl) ?_
        refine lv_bipush (v := Int32.ofInt 13) hx hb dX3_brokenRule_81 (by decide +kernel) ?_
        refine lv_iload_n hx hb dX3_brokenRule_83 rfl (lv_at hl 4 rfl) ?_
        refine iv_sub (x := 13) (y := b0) hx hb dX3_brokenRule_84 ?_
        refine iv_icmp_ne (tgt := 104) hx hb (by omega) (by omega) dX3_brokenRule_85 (by decide) (fun q16 => ?_) (fun q16 => ?_)
        · refine lv_iinc (v := Int32.ofInt (x3_3 + 1)) (lv' := [(3, .int (Int32.ofInt ((x3_3 + 1)))), (4, .int (Int32.ofInt (c14))), (0, .ref (ar 99)), (1, .int (Int32.ofInt (s0))), (2, .int (Int32.ofInt (b0)))]) hx hb dX3_brokenRule_104 hl (k := 1) rfl (Int32.ofInt_add _ _).symm (by decide) rfl (fun ls hl => ?_)
          refine lv_goto (tgt := 22) hx hb dX3_brokenRule_107 (by decide) ?_
          have hl : lv_has ls 5 [(3, .int (Int32.ofInt ((x3_3 + 1)))), (0, .ref (ar 99)), (1, .int (Int32.ofInt (s0))), (2, .int (Int32.ofInt (b0)))] := lv_sub hl [0, 2, 3, 4] rfl
          exact ih ((x3_3 + 1), g13_4) (show (fi 7 - (x3_3 + 1)).toNat < (fi 7 - x3_3).toNat from by omega) (show inR (x3_3 + 1) ∧ (∀ t, inR (g13_4 t)) ∧ ((0 ≤ (x3_3 + 1) ∧ (x3_3 + 1) ≤ fi 7) ∧ VI g13_4 (nb s0) (fa 8) (fa 9) b0 (x3_3 + 1)) from ⟨(by omega), r_g13_4, (by first | exact ⟨by omega, vi_i2 hVI (by omega) (by omega) hk8 (by omega) hy2 hy3 hg1 hy5 hy4 hy6 eg13_4 rfl⟩ | exact ⟨by omega, vi_o2 hVI (by omega) (by omega) (by omega) hw5 hw4 hw6 eg13_4 rfl⟩ | exact ⟨by omega, vi_n2 hVI (by omega) (by omega) (by omega) rfl⟩)⟩) _ _ _ hP hD hS hl
        · refine lv_aload_n hx hb dX3_brokenRule_88 rfl (lv_at hl 2 rfl) ?_
          refine va_get (D := G) (ci := 2) (v := .ref (ar 13)) (C := RX3) (T := TX3) (N := 14) (ref := RX3) hx hb hts h1w hown hX.1 hP 0 rfl rfl 13 (by decide) h3w (fun _ h9 => h9) rfl dX3_brokenRule_89 ?_
          refine lv_bipush (v := Int32.ofInt 6) hx hb dX3_brokenRule_92 (by decide +kernel) ?_
          refine lv_dup2_11 hx hb dX3_brokenRule_94 rfl rfl ?_
          refine iv_iald hx hb hX.1 hP 6 0 rfl rfl (by omega) (by omega) (by decide) dX3_brokenRule_95 ?_
          refine iv_top (fun z17 ez17 => ?_)
          have rz17 : inR z17 := ez17 ▸ r_g13_4 _
          have ez17 : z17 = g13_4 6 := ez17
          have hw4 := ez17
          refine lv_aload_n hx hb dX3_brokenRule_96 rfl (lv_at hl 2 rfl) ?_
          refine va_get (D := G) (ci := 2) (v := .ref (ar 9)) (C := RX3) (T := TX3) (N := 14) (ref := RX3) hx hb hts h1w hown hX.1 hP 0 rfl rfl 9 (by decide) h10w (fun _ h9 => h9) rfl dX3_brokenRule_97 ?_
          refine lv_iload_n hx hb dX3_brokenRule_100 rfl (lv_at hl 1 rfl) ?_
          refine iv_iald hx hb hX.1 hP 3 0 rfl rfl (by omega) (by omega) (by decide) dX3_brokenRule_101 ?_
          refine iv_top (fun z18 ez18 => ?_)
          have rz18 : inR z18 := ez18 ▸ (hRa 9) _
          have ez18 : z18 = (fa 9) x3_3 := ez18
          have hw5 := ez18
          refine iv_add (x := z17) (y := z18) hx hb dX3_brokenRule_102 ?_
          refine iv_wr ?_
          refine iv_top (fun z19 ez19 => ?_)
          have rz19 : inR z19 := ez19 ▸ bWr_r _
          have hw6 := ez19
          refine iv_iast hx hb hX.1 hP hD hS 6 0 rfl rfl (fun g' => show _ = (wP k ar fi (uF fa 13 (g'))) from rfl) (by omega) (by omega) (by decide) dX3_brokenRule_103 (fun H locs hP hD hS => ?_)
          obtain ⟨hP, hD⟩ : va_P G vwCl (wP k ar fi (uF fa 13 (uA (g13_4) (6) (z19)))) H ∧ va_D A (wP k ar fi (uF fa 13 (uA (g13_4) (6) (z19)))) := ⟨hP, hD⟩
          obtain ⟨g20, eg20, rg20⟩ : ∃ z, z = uA (g13_4) (6) (z19) ∧ ∀ t, inR (z t) := ⟨_, rfl, iU r_g13_4 (by omega)⟩
          rw [← eg20] at hP hD
          refine lv_iinc (v := Int32.ofInt (x3_3 + 1)) (lv' := [(3, .int (Int32.ofInt ((x3_3 + 1)))), (4, .int (Int32.ofInt (c14))), (0, .ref (ar 99)), (1, .int (Int32.ofInt (s0))), (2, .int (Int32.ofInt (b0)))]) hx hb dX3_brokenRule_104 hl (k := 1) rfl (Int32.ofInt_add _ _).symm (by decide) rfl (fun ls hl => ?_)
          refine lv_goto (tgt := 22) hx hb dX3_brokenRule_107 (by decide) ?_
          have hl : lv_has ls 5 [(3, .int (Int32.ofInt ((x3_3 + 1)))), (0, .ref (ar 99)), (1, .int (Int32.ofInt (s0))), (2, .int (Int32.ofInt (b0)))] := lv_sub hl [0, 2, 3, 4] rfl
          exact ih ((x3_3 + 1), g20) (show (fi 7 - (x3_3 + 1)).toNat < (fi 7 - x3_3).toNat from by omega) (show inR (x3_3 + 1) ∧ (∀ t, inR (g20 t)) ∧ ((0 ≤ (x3_3 + 1) ∧ (x3_3 + 1) ≤ fi 7) ∧ VI g20 (nb s0) (fa 8) (fa 9) b0 (x3_3 + 1)) from ⟨(by omega), rg20, (by first | exact ⟨by omega, vi_i2 hVI (by omega) (by omega) hk8 (by omega) hy2 hy3 hg1 hy5 hy4 hy6 eg20 rfl⟩ | exact ⟨by omega, vi_o2 hVI (by omega) (by omega) (by omega) hw5 hw4 hw6 eg20 rfl⟩ | exact ⟨by omega, vi_n2 hVI (by omega) (by omega) (by omega) rfl⟩)⟩) _ _ _ hP hD hS hl
      · refine lv_aload_n hx hb dX3_brokenRule_46 rfl (lv_at hl 2 rfl) ?_
        refine va_get (D := G) (ci := 2) (v := .ref (ar 13)) (C := RX3) (T := TX3) (N := 14) (ref := RX3) hx hb hts h1w hown hX.1 hP 0 rfl rfl 13 (by decide) h3w (fun _ h9 => h9) rfl dX3_brokenRule_47 ?_
        refine lv_aload_n hx hb dX3_brokenRule_50 rfl (lv_at hl 2 rfl) ?_
        refine va_get (D := G) (ci := 2) (v := .ref (ar 8)) (C := RX3) (T := TX3) (N := 14) (ref := RX3) hx hb hts h1w hown hX.1 hP 0 rfl rfl 8 (by decide) h11w (fun _ h9 => h9) rfl dX3_brokenRule_51 ?_
        refine lv_iload_n hx hb dX3_brokenRule_54 rfl (lv_at hl 1 rfl) ?_
        refine iv_iald hx hb hX.1 hP 2 0 rfl rfl (by omega) (by omega) (by decide) dX3_brokenRule_55 ?_
        refine iv_top (fun z21 ez21 => ?_)
        have rz21 : inR z21 := ez21 ▸ (hRa 8) _
        have ez21 : z21 = (fa 8) x3_3 := ez21
        have bz21 : 0 ≤ z21 ∧ z21 < 4 := by rw [ez21]; exact bnd_at hB8 (by omega) (by omega)
        refine lv_dup2_11 hx hb dX3_brokenRule_56 rfl rfl ?_
        refine iv_iald hx hb hX.1 hP 6 0 rfl rfl (by omega) (by omega) (by decide) dX3_brokenRule_57 ?_
        refine iv_top (fun z22 ez22 => ?_)
        have rz22 : inR z22 := ez22 ▸ r_g13_4 _
        have ez22 : z22 = g13_4 z21 := ez22
        have hy2 := ez22
        refine lv_iconst (v := Int32.ofInt 1) hx hb dX3_brokenRule_58 (by decide +kernel) ?_
        refine iv_add (x := z22) (y := 1) hx hb dX3_brokenRule_59 ?_
        refine iv_wr ?_
        refine iv_top (fun z23 ez23 => ?_)
        have rz23 : inR z23 := ez23 ▸ bWr_r _
        have hy3 := ez23
        have hk8 := ez21
        refine iv_iast hx hb hX.1 hP hD hS 6 0 rfl rfl (fun g' => show _ = (wP k ar fi (uF fa 13 (g'))) from rfl) (by omega) (by omega) (by decide) dX3_brokenRule_60 (fun H locs hP hD hS => ?_)
        obtain ⟨hP, hD⟩ : va_P G vwCl (wP k ar fi (uF fa 13 (uA (g13_4) (z21) (z23)))) H ∧ va_D A (wP k ar fi (uF fa 13 (uA (g13_4) (z21) (z23)))) := ⟨hP, hD⟩
        obtain ⟨g24, eg24, rg24⟩ : ∃ z, z = uA (g13_4) (z21) (z23) ∧ ∀ t, inR (z t) := ⟨_, rfl, iU r_g13_4 (by omega)⟩
        rw [← eg24] at hP hD
        have hg1 := eg24
        refine lv_aload_n hx hb dX3_brokenRule_61 rfl (lv_at hl 2 rfl) ?_
        refine va_get (D := G) (ci := 2) (v := .ref (ar 13)) (C := RX3) (T := TX3) (N := 14) (ref := RX3) hx hb hts h1w hown hX.1 hP 0 rfl rfl 13 (by decide) h3w (fun _ h9 => h9) rfl dX3_brokenRule_62 ?_
        refine lv_iconst (v := Int32.ofInt 4) hx hb dX3_brokenRule_65 (by decide +kernel) ?_
        refine lv_dup2_11 hx hb dX3_brokenRule_66 rfl rfl ?_
        refine iv_iald hx hb hX.1 hP 6 0 rfl rfl (by omega) (by omega) (by decide) dX3_brokenRule_67 ?_
        refine iv_top (fun z25 ez25 => ?_)
        have rz25 : inR z25 := ez25 ▸ rg24 _
        have ez25 : z25 = g24 4 := ez25
        have hy4 := ez25
        refine lv_aload_n hx hb dX3_brokenRule_68 rfl (lv_at hl 2 rfl) ?_
        refine va_get (D := G) (ci := 2) (v := .ref (ar 9)) (C := RX3) (T := TX3) (N := 14) (ref := RX3) hx hb hts h1w hown hX.1 hP 0 rfl rfl 9 (by decide) h10w (fun _ h9 => h9) rfl dX3_brokenRule_69 ?_
        refine lv_iload_n hx hb dX3_brokenRule_72 rfl (lv_at hl 1 rfl) ?_
        refine iv_iald hx hb hX.1 hP 3 0 rfl rfl (by omega) (by omega) (by decide) dX3_brokenRule_73 ?_
        refine iv_top (fun z26 ez26 => ?_)
        have rz26 : inR z26 := ez26 ▸ (hRa 9) _
        have ez26 : z26 = (fa 9) x3_3 := ez26
        have hy5 := ez26
        refine iv_add (x := z25) (y := z26) hx hb dX3_brokenRule_74 ?_
        refine iv_wr ?_
        refine iv_top (fun z27 ez27 => ?_)
        have rz27 : inR z27 := ez27 ▸ bWr_r _
        have hy6 := ez27
        refine iv_iast hx hb hX.1 hP hD hS 6 0 rfl rfl (fun g' => show _ = (wP k ar fi (uF fa 13 (g'))) from rfl) (by omega) (by omega) (by decide) dX3_brokenRule_75 (fun H locs hP hD hS => ?_)
        obtain ⟨hP, hD⟩ : va_P G vwCl (wP k ar fi (uF fa 13 (uA (g24) (4) (z27)))) H ∧ va_D A (wP k ar fi (uF fa 13 (uA (g24) (4) (z27)))) := ⟨hP, hD⟩
        obtain ⟨g28, eg28, rg28⟩ : ∃ z, z = uA (g24) (4) (z27) ∧ ∀ t, inR (z t) := ⟨_, rfl, iU rg24 (by omega)⟩
        rw [← eg28] at hP hD
        refine lv_goto (tgt := 104) hx hb dX3_brokenRule_76 (by decide) ?_
        refine lv_iinc (v := Int32.ofInt (x3_3 + 1)) (lv' := [(3, .int (Int32.ofInt ((x3_3 + 1)))), (4, .int (Int32.ofInt (c14))), (0, .ref (ar 99)), (1, .int (Int32.ofInt (s0))), (2, .int (Int32.ofInt (b0)))]) hx hb dX3_brokenRule_104 hl (k := 1) rfl (Int32.ofInt_add _ _).symm (by decide) rfl (fun ls hl => ?_)
        refine lv_goto (tgt := 22) hx hb dX3_brokenRule_107 (by decide) ?_
        have hl : lv_has ls 5 [(3, .int (Int32.ofInt ((x3_3 + 1)))), (0, .ref (ar 99)), (1, .int (Int32.ofInt (s0))), (2, .int (Int32.ofInt (b0)))] := lv_sub hl [0, 2, 3, 4] rfl
        exact ih ((x3_3 + 1), g28) (show (fi 7 - (x3_3 + 1)).toNat < (fi 7 - x3_3).toNat from by omega) (show inR (x3_3 + 1) ∧ (∀ t, inR (g28 t)) ∧ ((0 ≤ (x3_3 + 1) ∧ (x3_3 + 1) ≤ fi 7) ∧ VI g28 (nb s0) (fa 8) (fa 9) b0 (x3_3 + 1)) from ⟨(by omega), rg28, (by first | exact ⟨by omega, vi_i2 hVI (by omega) (by omega) hk8 (by omega) hy2 hy3 hg1 hy5 hy4 hy6 eg28 rfl⟩ | exact ⟨by omega, vi_o2 hVI (by omega) (by omega) (by omega) hw5 hw4 hw6 eg28 rfl⟩ | exact ⟨by omega, vi_n2 hVI (by omega) (by omega) (by omega) rfl⟩)⟩) _ _ _ hP hD hS hl
  · refine lv_iconst (v := Int32.ofInt (-1)) hx hb dX3_brokenRule_10 (by decide +kernel) ?_
    exact W.iret (v := Int32.ofInt ((-1))) hx hb hr (fun t ht hW => ⟨⟨Int32.ofInt ((-1)), ((-1), fa 13, fa 22), rfl, ⟨rfl, (show (inR (-1)) ∧ (∀ t, inR ((fa 13) t)) ∧ (∀ t, inR ((fa 22) t)) ∧ ((-1 ≤ (-1) ∧ (-1) < 4) ∧ brkP (-1) (fun q => evR (dcf (fa 20)) (vls (nb s0) (fa 8) (fa 9) b0 (fi 7) (fi 0) (dp s0)) (stq (fa 21) q) (fa 21 q)) (fi 24)) from ⟨(by omega), (hRa 13), (hRa 22), (by first | exact ⟨by omega, brk_n (bki_0 (x := 0) (by omega)) (by omega) rfl⟩ | exact ⟨by omega, brk_y2 hBI (by omega) (by omega) (by omega)⟩ | exact ⟨by omega, brk_n hBI (by omega) rfl⟩)⟩)⟩, by rw [ht]; exact hP, hD⟩, hS.F ht⟩) hS.2.2 dX3_brokenRule_11

