set_option maxHeartbeats 4000000 in
set_option maxRecDepth 100000 in
theorem mX10_be_66_35 (l : Launch) (G : va_G) (k : Nat → ClassId) (ar : Nat → Nat) (fi : Nat → Int) (fa : Nat → Int → Int) (fl : Nat → Int64) (sz : Nat) (hR : ∀ j, inR (fi j)) (hRa : ∀ j t, inR (fa j t)) : CNv l G k (EZ k) yX10_be wzX10_be ({ frames := 0, cells := 0, slots := 0, locals := 0 }) [.ref (ar 66), .ref (ar 35)] sz (wM k ar fi fa fl) (fun (u : (Int → Int)) => (∀ t, inR (u t)) ∧ (∀ t, 0 ≤ t → t < 60 → u t = fa 35 t)) (fun (u : (Int → Int)) => (wM k ar fi (uF fa 66 (u)) fl)) := by
  refine Met.ofW (cc := cX10_be) (maxL := 3) (ret := none) (by decide) rfl ?_
  intro p e s m args below meth c s₁ B hml hv
  obtain ⟨rfl, hsz, hP, hX, hD0, hZ0⟩ := hv
  have hx := B.exec
  have hb := B.bytes
  have hr := B.returns
  have hts := atoms_spec (ws := wzX10_be) B.pre
  have hown : s.vm.findClass RX10 = some m.cls := findClass_of_methodNamed B.named
  subst hsz
  have hD := hD0.self (sz := s.heap.size)
  have hZ := hZ0
  generalize hAe : va_A (wM k ar fi fa fl) s.heap.size = A at hD hZ ⊢
  have hA : ∀ q : Nat, s.heap.size ≤ q → A q := fun q h => by rw [← hAe]; exact Or.inr h
  have hS : va_S A s.heap s.heap [] := va_S.rf
  have hl := lv_entry ([.ref (ar 66), .ref (ar 35)]) (n := 3) (Nat.le_of_ble_eq_true rfl)
  rw [lg_entry_eq]
  generalize (lg_sl ([.ref (ar 66), .ref (ar 35)]) ++ List.replicate (3 - (lg_sl ([.ref (ar 66), .ref (ar 35)])).length) Slot.unset).toArray = ls at hl ⊢
  have hl : lv_has ls 3 [(0, .ref (ar 66)), (1, .ref (ar 35))] := hl
  obtain ⟨H, eH⟩ : ∃ H, H = s.heap := ⟨_, rfl⟩
  rw [← eH] at hP
  have hS : va_S A s.heap H [] := by rw [eH]; exact hS
  have gW : s.heap = H := eH.symm
  refine iv_heap gW ?_
  refine lv_iconst (v := Int32.ofInt 0) hx hb dX10_be_0 (by decide +kernel) ?_
  refine lv_istore_n (lv' := [(2, .int (Int32.ofInt (0))), (0, .ref (ar 66)), (1, .ref (ar 35))]) hx hb dX10_be_1 rfl hl (by decide) rfl (fun ls hl => ?_)
  refine iv_loop (α := Int × (Int → Int)) (nL := 3) (fun b9 => (wM k ar fi (uF fa 66 (b9.2)) fl)) (fun b9 => [(2, .int (Int32.ofInt (b9.1))), (0, .ref (ar 66)), (1, .ref (ar 35))]) (fun b9 => (60 - b9.1).toNat) (fun b9 => inR b9.1 ∧ (∀ t, inR (b9.2 t)) ∧ (0 ≤ b9.1 ∧ b9.1 ≤ 60 ∧ ∀ t, 0 ≤ t → t < b9.1 → b9.2 t = fa 35 t)) ?_ (0, fa 66) (show inR 0 ∧ (∀ t, inR ((fa 66) t)) ∧ (0 ≤ 0 ∧ 0 ≤ 60 ∧ ∀ t, 0 ≤ t → t < 0 → (fa 66) t = fa 35 t) from ⟨(by omega), (hRa 66), (by exact ⟨by omega, by omega, fun t h1 h2 => by omega⟩)⟩) hP hD hS hl
  rintro ⟨x2_1, g66_2⟩ ih hi9 H locs ls hP hD hS hl
  obtain ⟨r_x2_1, r_g66_2, hinv⟩ : inR x2_1 ∧ (∀ t, inR (g66_2 t)) ∧ (0 ≤ x2_1 ∧ x2_1 ≤ 60 ∧ ∀ t, 0 ≤ t → t < x2_1 → g66_2 t = fa 35 t) := hi9
  have hb9 := hinv.2.2
  obtain ⟨hP, hD⟩ : va_P G vwCl (wM k ar fi (uF fa 66 (g66_2)) fl) H ∧ va_D A (wM k ar fi (uF fa 66 (g66_2)) fl) := ⟨hP, hD⟩
  have hl : lv_has ls 3 [(2, .int (Int32.ofInt (x2_1))), (0, .ref (ar 66)), (1, .ref (ar 35))] := hl
  refine lv_iload_n hx hb dX10_be_2 rfl (lv_at hl 0 rfl) ?_
  refine lv_aload_n hx hb dX10_be_3 rfl (lv_at hl 1 rfl) ?_
  refine va_alen (v := Int32.ofInt 60) hx hb hX.1 hP 32 0 rfl rfl (show Int32.ofNat 60 = Int32.ofInt 60 from by decide) dX10_be_4 ?_
  refine iv_icmp_ge (tgt := 20) hx hb (by omega) (by omega) dX10_be_5 (by decide) (fun q3 => ?_) (fun q3 => ?_)
  · exact W.vret hx hb hr (fun t ht hW => ⟨⟨(g66_2), rfl, (show (∀ t, inR (g66_2 t)) ∧ (∀ t, 0 ≤ t → t < 60 → g66_2 t = fa 35 t) from ⟨r_g66_2, (by exact fun t h1 h2 => hb9 t h1 (by omega))⟩), by rw [ht]; exact hP, hD⟩, hS.F ht⟩) hS.2.2 dX10_be_20
  · refine lv_aload_n hx hb dX10_be_8 rfl (lv_at hl 1 rfl) ?_
    refine lv_iload_n hx hb dX10_be_9 rfl (lv_at hl 0 rfl) ?_
    refine lv_aload_n hx hb dX10_be_10 rfl (lv_at hl 2 rfl) ?_
    refine lv_iload_n hx hb dX10_be_11 rfl (lv_at hl 0 rfl) ?_
    refine iv_iald hx hb hX.1 hP 14 0 rfl rfl (by omega) (by omega) (by decide) dX10_be_12 ?_
    refine iv_top (fun z4 ez4 => ?_)
    have rz4 : inR z4 := ez4 ▸ (hRa 35) _
    have ez4 : z4 = (fa 35) x2_1 := ez4
    refine iv_iast hx hb hX.1 hP hD hS 32 0 rfl rfl (wM_A66 _ _ _ _ _) (by omega) (by omega) (by decide) dX10_be_13 (fun H locs hP hD hS => ?_)
    obtain ⟨hP, hD⟩ : va_P G vwCl (wM k ar fi (uF fa 66 (uA (g66_2) (x2_1) (z4))) fl) H ∧ va_D A (wM k ar fi (uF fa 66 (uA (g66_2) (x2_1) (z4))) fl) := ⟨hP, hD⟩
    obtain ⟨g5, eg5, rg5⟩ : ∃ z, z = uA (g66_2) (x2_1) (z4) ∧ ∀ t, inR (z t) := ⟨_, rfl, iU r_g66_2 (by omega)⟩
    rw [← eg5] at hP hD
    refine lv_iinc (v := Int32.ofInt (x2_1 + 1)) (lv' := [(2, .int (Int32.ofInt ((x2_1 + 1)))), (0, .ref (ar 66)), (1, .ref (ar 35))]) hx hb dX10_be_14 hl (k := 0) rfl (Int32.ofInt_add _ _).symm (by decide) rfl (fun ls hl => ?_)
    refine lv_goto (tgt := 2) hx hb dX10_be_17 (by decide) ?_
    have hl : lv_has ls 3 [(2, .int (Int32.ofInt ((x2_1 + 1)))), (0, .ref (ar 66)), (1, .ref (ar 35))] := lv_sub hl [0, 1, 2] rfl
    exact ih ((x2_1 + 1), g5) (show (60 - (x2_1 + 1)).toNat < (60 - x2_1).toNat from by omega) (show inR (x2_1 + 1) ∧ (∀ t, inR (g5 t)) ∧ (0 ≤ (x2_1 + 1) ∧ (x2_1 + 1) ≤ 60 ∧ ∀ t, 0 ≤ t → t < (x2_1 + 1) → g5 t = fa 35 t) from ⟨(by omega), rg5, (by exact ⟨by omega, by omega, be_step hb9 (by assumption) eg5⟩)⟩) _ _ _ hP hD hS hl

set_option maxHeartbeats 4000000 in
set_option maxRecDepth 100000 in
theorem mX10_be_67_36 (l : Launch) (G : va_G) (k : Nat → ClassId) (ar : Nat → Nat) (fi : Nat → Int) (fa : Nat → Int → Int) (fl : Nat → Int64) (sz : Nat) (hR : ∀ j, inR (fi j)) (hRa : ∀ j t, inR (fa j t)) : CNv l G k (EZ k) yX10_be wzX10_be ({ frames := 0, cells := 0, slots := 0, locals := 0 }) [.ref (ar 67), .ref (ar 36)] sz (wM k ar fi fa fl) (fun (u : (Int → Int)) => (∀ t, inR (u t)) ∧ (∀ t, 0 ≤ t → t < 60 → u t = fa 36 t)) (fun (u : (Int → Int)) => (wM k ar fi (uF fa 67 (u)) fl)) := by
  refine Met.ofW (cc := cX10_be) (maxL := 3) (ret := none) (by decide) rfl ?_
  intro p e s m args below meth c s₁ B hml hv
  obtain ⟨rfl, hsz, hP, hX, hD0, hZ0⟩ := hv
  have hx := B.exec
  have hb := B.bytes
  have hr := B.returns
  have hts := atoms_spec (ws := wzX10_be) B.pre
  have hown : s.vm.findClass RX10 = some m.cls := findClass_of_methodNamed B.named
  subst hsz
  have hD := hD0.self (sz := s.heap.size)
  have hZ := hZ0
  generalize hAe : va_A (wM k ar fi fa fl) s.heap.size = A at hD hZ ⊢
  have hA : ∀ q : Nat, s.heap.size ≤ q → A q := fun q h => by rw [← hAe]; exact Or.inr h
  have hS : va_S A s.heap s.heap [] := va_S.rf
  have hl := lv_entry ([.ref (ar 67), .ref (ar 36)]) (n := 3) (Nat.le_of_ble_eq_true rfl)
  rw [lg_entry_eq]
  generalize (lg_sl ([.ref (ar 67), .ref (ar 36)]) ++ List.replicate (3 - (lg_sl ([.ref (ar 67), .ref (ar 36)])).length) Slot.unset).toArray = ls at hl ⊢
  have hl : lv_has ls 3 [(0, .ref (ar 67)), (1, .ref (ar 36))] := hl
  obtain ⟨H, eH⟩ : ∃ H, H = s.heap := ⟨_, rfl⟩
  rw [← eH] at hP
  have hS : va_S A s.heap H [] := by rw [eH]; exact hS
  have gW : s.heap = H := eH.symm
  refine iv_heap gW ?_
  refine lv_iconst (v := Int32.ofInt 0) hx hb dX10_be_0 (by decide +kernel) ?_
  refine lv_istore_n (lv' := [(2, .int (Int32.ofInt (0))), (0, .ref (ar 67)), (1, .ref (ar 36))]) hx hb dX10_be_1 rfl hl (by decide) rfl (fun ls hl => ?_)
  refine iv_loop (α := Int × (Int → Int)) (nL := 3) (fun b9 => (wM k ar fi (uF fa 67 (b9.2)) fl)) (fun b9 => [(2, .int (Int32.ofInt (b9.1))), (0, .ref (ar 67)), (1, .ref (ar 36))]) (fun b9 => (60 - b9.1).toNat) (fun b9 => inR b9.1 ∧ (∀ t, inR (b9.2 t)) ∧ (0 ≤ b9.1 ∧ b9.1 ≤ 60 ∧ ∀ t, 0 ≤ t → t < b9.1 → b9.2 t = fa 36 t)) ?_ (0, fa 67) (show inR 0 ∧ (∀ t, inR ((fa 67) t)) ∧ (0 ≤ 0 ∧ 0 ≤ 60 ∧ ∀ t, 0 ≤ t → t < 0 → (fa 67) t = fa 36 t) from ⟨(by omega), (hRa 67), (by exact ⟨by omega, by omega, fun t h1 h2 => by omega⟩)⟩) hP hD hS hl
  rintro ⟨x2_1, g67_2⟩ ih hi9 H locs ls hP hD hS hl
  obtain ⟨r_x2_1, r_g67_2, hinv⟩ : inR x2_1 ∧ (∀ t, inR (g67_2 t)) ∧ (0 ≤ x2_1 ∧ x2_1 ≤ 60 ∧ ∀ t, 0 ≤ t → t < x2_1 → g67_2 t = fa 36 t) := hi9
  have hb9 := hinv.2.2
  obtain ⟨hP, hD⟩ : va_P G vwCl (wM k ar fi (uF fa 67 (g67_2)) fl) H ∧ va_D A (wM k ar fi (uF fa 67 (g67_2)) fl) := ⟨hP, hD⟩
  have hl : lv_has ls 3 [(2, .int (Int32.ofInt (x2_1))), (0, .ref (ar 67)), (1, .ref (ar 36))] := hl
  refine lv_iload_n hx hb dX10_be_2 rfl (lv_at hl 0 rfl) ?_
  refine lv_aload_n hx hb dX10_be_3 rfl (lv_at hl 1 rfl) ?_
  refine va_alen (v := Int32.ofInt 60) hx hb hX.1 hP 33 0 rfl rfl (show Int32.ofNat 60 = Int32.ofInt 60 from by decide) dX10_be_4 ?_
  refine iv_icmp_ge (tgt := 20) hx hb (by omega) (by omega) dX10_be_5 (by decide) (fun q3 => ?_) (fun q3 => ?_)
  · exact W.vret hx hb hr (fun t ht hW => ⟨⟨(g67_2), rfl, (show (∀ t, inR (g67_2 t)) ∧ (∀ t, 0 ≤ t → t < 60 → g67_2 t = fa 36 t) from ⟨r_g67_2, (by exact fun t h1 h2 => hb9 t h1 (by omega))⟩), by rw [ht]; exact hP, hD⟩, hS.F ht⟩) hS.2.2 dX10_be_20
  · refine lv_aload_n hx hb dX10_be_8 rfl (lv_at hl 1 rfl) ?_
    refine lv_iload_n hx hb dX10_be_9 rfl (lv_at hl 0 rfl) ?_
    refine lv_aload_n hx hb dX10_be_10 rfl (lv_at hl 2 rfl) ?_
    refine lv_iload_n hx hb dX10_be_11 rfl (lv_at hl 0 rfl) ?_
    refine iv_iald hx hb hX.1 hP 15 0 rfl rfl (by omega) (by omega) (by decide) dX10_be_12 ?_
    refine iv_top (fun z4 ez4 => ?_)
    have rz4 : inR z4 := ez4 ▸ (hRa 36) _
    have ez4 : z4 = (fa 36) x2_1 := ez4
    refine iv_iast hx hb hX.1 hP hD hS 33 0 rfl rfl (wM_A67 _ _ _ _ _) (by omega) (by omega) (by decide) dX10_be_13 (fun H locs hP hD hS => ?_)
    obtain ⟨hP, hD⟩ : va_P G vwCl (wM k ar fi (uF fa 67 (uA (g67_2) (x2_1) (z4))) fl) H ∧ va_D A (wM k ar fi (uF fa 67 (uA (g67_2) (x2_1) (z4))) fl) := ⟨hP, hD⟩
    obtain ⟨g5, eg5, rg5⟩ : ∃ z, z = uA (g67_2) (x2_1) (z4) ∧ ∀ t, inR (z t) := ⟨_, rfl, iU r_g67_2 (by omega)⟩
    rw [← eg5] at hP hD
    refine lv_iinc (v := Int32.ofInt (x2_1 + 1)) (lv' := [(2, .int (Int32.ofInt ((x2_1 + 1)))), (0, .ref (ar 67)), (1, .ref (ar 36))]) hx hb dX10_be_14 hl (k := 0) rfl (Int32.ofInt_add _ _).symm (by decide) rfl (fun ls hl => ?_)
    refine lv_goto (tgt := 2) hx hb dX10_be_17 (by decide) ?_
    have hl : lv_has ls 3 [(2, .int (Int32.ofInt ((x2_1 + 1)))), (0, .ref (ar 67)), (1, .ref (ar 36))] := lv_sub hl [0, 1, 2] rfl
    exact ih ((x2_1 + 1), g5) (show (60 - (x2_1 + 1)).toNat < (60 - x2_1).toNat from by omega) (show inR (x2_1 + 1) ∧ (∀ t, inR (g5 t)) ∧ (0 ≤ (x2_1 + 1) ∧ (x2_1 + 1) ≤ 60 ∧ ∀ t, 0 ≤ t → t < (x2_1 + 1) → g5 t = fa 36 t) from ⟨(by omega), rg5, (by exact ⟨by omega, by omega, be_step hb9 (by assumption) eg5⟩)⟩) _ _ _ hP hD hS hl

set_option maxHeartbeats 4000000 in
set_option maxRecDepth 100000 in
theorem mX10_be_68_37 (l : Launch) (G : va_G) (k : Nat → ClassId) (ar : Nat → Nat) (fi : Nat → Int) (fa : Nat → Int → Int) (fl : Nat → Int64) (sz : Nat) (hR : ∀ j, inR (fi j)) (hRa : ∀ j t, inR (fa j t)) : CNv l G k (EZ k) yX10_be wzX10_be ({ frames := 0, cells := 0, slots := 0, locals := 0 }) [.ref (ar 68), .ref (ar 37)] sz (wM k ar fi fa fl) (fun (u : (Int → Int)) => (∀ t, inR (u t)) ∧ (∀ t, 0 ≤ t → t < 60 → u t = fa 37 t)) (fun (u : (Int → Int)) => (wM k ar fi (uF fa 68 (u)) fl)) := by
  refine Met.ofW (cc := cX10_be) (maxL := 3) (ret := none) (by decide) rfl ?_
  intro p e s m args below meth c s₁ B hml hv
  obtain ⟨rfl, hsz, hP, hX, hD0, hZ0⟩ := hv
  have hx := B.exec
  have hb := B.bytes
  have hr := B.returns
  have hts := atoms_spec (ws := wzX10_be) B.pre
  have hown : s.vm.findClass RX10 = some m.cls := findClass_of_methodNamed B.named
  subst hsz
  have hD := hD0.self (sz := s.heap.size)
  have hZ := hZ0
  generalize hAe : va_A (wM k ar fi fa fl) s.heap.size = A at hD hZ ⊢
  have hA : ∀ q : Nat, s.heap.size ≤ q → A q := fun q h => by rw [← hAe]; exact Or.inr h
  have hS : va_S A s.heap s.heap [] := va_S.rf
  have hl := lv_entry ([.ref (ar 68), .ref (ar 37)]) (n := 3) (Nat.le_of_ble_eq_true rfl)
  rw [lg_entry_eq]
  generalize (lg_sl ([.ref (ar 68), .ref (ar 37)]) ++ List.replicate (3 - (lg_sl ([.ref (ar 68), .ref (ar 37)])).length) Slot.unset).toArray = ls at hl ⊢
  have hl : lv_has ls 3 [(0, .ref (ar 68)), (1, .ref (ar 37))] := hl
  obtain ⟨H, eH⟩ : ∃ H, H = s.heap := ⟨_, rfl⟩
  rw [← eH] at hP
  have hS : va_S A s.heap H [] := by rw [eH]; exact hS
  have gW : s.heap = H := eH.symm
  refine iv_heap gW ?_
  refine lv_iconst (v := Int32.ofInt 0) hx hb dX10_be_0 (by decide +kernel) ?_
  refine lv_istore_n (lv' := [(2, .int (Int32.ofInt (0))), (0, .ref (ar 68)), (1, .ref (ar 37))]) hx hb dX10_be_1 rfl hl (by decide) rfl (fun ls hl => ?_)
  refine iv_loop (α := Int × (Int → Int)) (nL := 3) (fun b9 => (wM k ar fi (uF fa 68 (b9.2)) fl)) (fun b9 => [(2, .int (Int32.ofInt (b9.1))), (0, .ref (ar 68)), (1, .ref (ar 37))]) (fun b9 => (60 - b9.1).toNat) (fun b9 => inR b9.1 ∧ (∀ t, inR (b9.2 t)) ∧ (0 ≤ b9.1 ∧ b9.1 ≤ 60 ∧ ∀ t, 0 ≤ t → t < b9.1 → b9.2 t = fa 37 t)) ?_ (0, fa 68) (show inR 0 ∧ (∀ t, inR ((fa 68) t)) ∧ (0 ≤ 0 ∧ 0 ≤ 60 ∧ ∀ t, 0 ≤ t → t < 0 → (fa 68) t = fa 37 t) from ⟨(by omega), (hRa 68), (by exact ⟨by omega, by omega, fun t h1 h2 => by omega⟩)⟩) hP hD hS hl
  rintro ⟨x2_1, g68_2⟩ ih hi9 H locs ls hP hD hS hl
  obtain ⟨r_x2_1, r_g68_2, hinv⟩ : inR x2_1 ∧ (∀ t, inR (g68_2 t)) ∧ (0 ≤ x2_1 ∧ x2_1 ≤ 60 ∧ ∀ t, 0 ≤ t → t < x2_1 → g68_2 t = fa 37 t) := hi9
  have hb9 := hinv.2.2
  obtain ⟨hP, hD⟩ : va_P G vwCl (wM k ar fi (uF fa 68 (g68_2)) fl) H ∧ va_D A (wM k ar fi (uF fa 68 (g68_2)) fl) := ⟨hP, hD⟩
  have hl : lv_has ls 3 [(2, .int (Int32.ofInt (x2_1))), (0, .ref (ar 68)), (1, .ref (ar 37))] := hl
  refine lv_iload_n hx hb dX10_be_2 rfl (lv_at hl 0 rfl) ?_
  refine lv_aload_n hx hb dX10_be_3 rfl (lv_at hl 1 rfl) ?_
  refine va_alen (v := Int32.ofInt 60) hx hb hX.1 hP 34 0 rfl rfl (show Int32.ofNat 60 = Int32.ofInt 60 from by decide) dX10_be_4 ?_
  refine iv_icmp_ge (tgt := 20) hx hb (by omega) (by omega) dX10_be_5 (by decide) (fun q3 => ?_) (fun q3 => ?_)
  · exact W.vret hx hb hr (fun t ht hW => ⟨⟨(g68_2), rfl, (show (∀ t, inR (g68_2 t)) ∧ (∀ t, 0 ≤ t → t < 60 → g68_2 t = fa 37 t) from ⟨r_g68_2, (by exact fun t h1 h2 => hb9 t h1 (by omega))⟩), by rw [ht]; exact hP, hD⟩, hS.F ht⟩) hS.2.2 dX10_be_20
  · refine lv_aload_n hx hb dX10_be_8 rfl (lv_at hl 1 rfl) ?_
    refine lv_iload_n hx hb dX10_be_9 rfl (lv_at hl 0 rfl) ?_
    refine lv_aload_n hx hb dX10_be_10 rfl (lv_at hl 2 rfl) ?_
    refine lv_iload_n hx hb dX10_be_11 rfl (lv_at hl 0 rfl) ?_
    refine iv_iald hx hb hX.1 hP 16 0 rfl rfl (by omega) (by omega) (by decide) dX10_be_12 ?_
    refine iv_top (fun z4 ez4 => ?_)
    have rz4 : inR z4 := ez4 ▸ (hRa 37) _
    have ez4 : z4 = (fa 37) x2_1 := ez4
    refine iv_iast hx hb hX.1 hP hD hS 34 0 rfl rfl (wM_A68 _ _ _ _ _) (by omega) (by omega) (by decide) dX10_be_13 (fun H locs hP hD hS => ?_)
    obtain ⟨hP, hD⟩ : va_P G vwCl (wM k ar fi (uF fa 68 (uA (g68_2) (x2_1) (z4))) fl) H ∧ va_D A (wM k ar fi (uF fa 68 (uA (g68_2) (x2_1) (z4))) fl) := ⟨hP, hD⟩
    obtain ⟨g5, eg5, rg5⟩ : ∃ z, z = uA (g68_2) (x2_1) (z4) ∧ ∀ t, inR (z t) := ⟨_, rfl, iU r_g68_2 (by omega)⟩
    rw [← eg5] at hP hD
    refine lv_iinc (v := Int32.ofInt (x2_1 + 1)) (lv' := [(2, .int (Int32.ofInt ((x2_1 + 1)))), (0, .ref (ar 68)), (1, .ref (ar 37))]) hx hb dX10_be_14 hl (k := 0) rfl (Int32.ofInt_add _ _).symm (by decide) rfl (fun ls hl => ?_)
    refine lv_goto (tgt := 2) hx hb dX10_be_17 (by decide) ?_
    have hl : lv_has ls 3 [(2, .int (Int32.ofInt ((x2_1 + 1)))), (0, .ref (ar 68)), (1, .ref (ar 37))] := lv_sub hl [0, 1, 2] rfl
    exact ih ((x2_1 + 1), g5) (show (60 - (x2_1 + 1)).toNat < (60 - x2_1).toNat from by omega) (show inR (x2_1 + 1) ∧ (∀ t, inR (g5 t)) ∧ (0 ≤ (x2_1 + 1) ∧ (x2_1 + 1) ≤ 60 ∧ ∀ t, 0 ≤ t → t < (x2_1 + 1) → g5 t = fa 37 t) from ⟨(by omega), rg5, (by exact ⟨by omega, by omega, be_step hb9 (by assumption) eg5⟩)⟩) _ _ _ hP hD hS hl

set_option maxHeartbeats 4000000 in
set_option maxRecDepth 100000 in
theorem mX10_be_69_38 (l : Launch) (G : va_G) (k : Nat → ClassId) (ar : Nat → Nat) (fi : Nat → Int) (fa : Nat → Int → Int) (fl : Nat → Int64) (sz : Nat) (hR : ∀ j, inR (fi j)) (hRa : ∀ j t, inR (fa j t)) : CNv l G k (EZ k) yX10_be wzX10_be ({ frames := 0, cells := 0, slots := 0, locals := 0 }) [.ref (ar 69), .ref (ar 38)] sz (wM k ar fi fa fl) (fun (u : (Int → Int)) => (∀ t, inR (u t)) ∧ (∀ t, 0 ≤ t → t < 60 → u t = fa 38 t)) (fun (u : (Int → Int)) => (wM k ar fi (uF fa 69 (u)) fl)) := by
  refine Met.ofW (cc := cX10_be) (maxL := 3) (ret := none) (by decide) rfl ?_
  intro p e s m args below meth c s₁ B hml hv
  obtain ⟨rfl, hsz, hP, hX, hD0, hZ0⟩ := hv
  have hx := B.exec
  have hb := B.bytes
  have hr := B.returns
  have hts := atoms_spec (ws := wzX10_be) B.pre
  have hown : s.vm.findClass RX10 = some m.cls := findClass_of_methodNamed B.named
  subst hsz
  have hD := hD0.self (sz := s.heap.size)
  have hZ := hZ0
  generalize hAe : va_A (wM k ar fi fa fl) s.heap.size = A at hD hZ ⊢
  have hA : ∀ q : Nat, s.heap.size ≤ q → A q := fun q h => by rw [← hAe]; exact Or.inr h
  have hS : va_S A s.heap s.heap [] := va_S.rf
  have hl := lv_entry ([.ref (ar 69), .ref (ar 38)]) (n := 3) (Nat.le_of_ble_eq_true rfl)
  rw [lg_entry_eq]
  generalize (lg_sl ([.ref (ar 69), .ref (ar 38)]) ++ List.replicate (3 - (lg_sl ([.ref (ar 69), .ref (ar 38)])).length) Slot.unset).toArray = ls at hl ⊢
  have hl : lv_has ls 3 [(0, .ref (ar 69)), (1, .ref (ar 38))] := hl
  obtain ⟨H, eH⟩ : ∃ H, H = s.heap := ⟨_, rfl⟩
  rw [← eH] at hP
  have hS : va_S A s.heap H [] := by rw [eH]; exact hS
  have gW : s.heap = H := eH.symm
  refine iv_heap gW ?_
  refine lv_iconst (v := Int32.ofInt 0) hx hb dX10_be_0 (by decide +kernel) ?_
  refine lv_istore_n (lv' := [(2, .int (Int32.ofInt (0))), (0, .ref (ar 69)), (1, .ref (ar 38))]) hx hb dX10_be_1 rfl hl (by decide) rfl (fun ls hl => ?_)
  refine iv_loop (α := Int × (Int → Int)) (nL := 3) (fun b9 => (wM k ar fi (uF fa 69 (b9.2)) fl)) (fun b9 => [(2, .int (Int32.ofInt (b9.1))), (0, .ref (ar 69)), (1, .ref (ar 38))]) (fun b9 => (60 - b9.1).toNat) (fun b9 => inR b9.1 ∧ (∀ t, inR (b9.2 t)) ∧ (0 ≤ b9.1 ∧ b9.1 ≤ 60 ∧ ∀ t, 0 ≤ t → t < b9.1 → b9.2 t = fa 38 t)) ?_ (0, fa 69) (show inR 0 ∧ (∀ t, inR ((fa 69) t)) ∧ (0 ≤ 0 ∧ 0 ≤ 60 ∧ ∀ t, 0 ≤ t → t < 0 → (fa 69) t = fa 38 t) from ⟨(by omega), (hRa 69), (by exact ⟨by omega, by omega, fun t h1 h2 => by omega⟩)⟩) hP hD hS hl
  rintro ⟨x2_1, g69_2⟩ ih hi9 H locs ls hP hD hS hl
  obtain ⟨r_x2_1, r_g69_2, hinv⟩ : inR x2_1 ∧ (∀ t, inR (g69_2 t)) ∧ (0 ≤ x2_1 ∧ x2_1 ≤ 60 ∧ ∀ t, 0 ≤ t → t < x2_1 → g69_2 t = fa 38 t) := hi9
  have hb9 := hinv.2.2
  obtain ⟨hP, hD⟩ : va_P G vwCl (wM k ar fi (uF fa 69 (g69_2)) fl) H ∧ va_D A (wM k ar fi (uF fa 69 (g69_2)) fl) := ⟨hP, hD⟩
  have hl : lv_has ls 3 [(2, .int (Int32.ofInt (x2_1))), (0, .ref (ar 69)), (1, .ref (ar 38))] := hl
  refine lv_iload_n hx hb dX10_be_2 rfl (lv_at hl 0 rfl) ?_
  refine lv_aload_n hx hb dX10_be_3 rfl (lv_at hl 1 rfl) ?_
  refine va_alen (v := Int32.ofInt 60) hx hb hX.1 hP 35 0 rfl rfl (show Int32.ofNat 60 = Int32.ofInt 60 from by decide) dX10_be_4 ?_
  refine iv_icmp_ge (tgt := 20) hx hb (by omega) (by omega) dX10_be_5 (by decide) (fun q3 => ?_) (fun q3 => ?_)
  · exact W.vret hx hb hr (fun t ht hW => ⟨⟨(g69_2), rfl, (show (∀ t, inR (g69_2 t)) ∧ (∀ t, 0 ≤ t → t < 60 → g69_2 t = fa 38 t) from ⟨r_g69_2, (by exact fun t h1 h2 => hb9 t h1 (by omega))⟩), by rw [ht]; exact hP, hD⟩, hS.F ht⟩) hS.2.2 dX10_be_20
  · refine lv_aload_n hx hb dX10_be_8 rfl (lv_at hl 1 rfl) ?_
    refine lv_iload_n hx hb dX10_be_9 rfl (lv_at hl 0 rfl) ?_
    refine lv_aload_n hx hb dX10_be_10 rfl (lv_at hl 2 rfl) ?_
    refine lv_iload_n hx hb dX10_be_11 rfl (lv_at hl 0 rfl) ?_
    refine iv_iald hx hb hX.1 hP 17 0 rfl rfl (by omega) (by omega) (by decide) dX10_be_12 ?_
    refine iv_top (fun z4 ez4 => ?_)
    have rz4 : inR z4 := ez4 ▸ (hRa 38) _
    have ez4 : z4 = (fa 38) x2_1 := ez4
    refine iv_iast hx hb hX.1 hP hD hS 35 0 rfl rfl (wM_A69 _ _ _ _ _) (by omega) (by omega) (by decide) dX10_be_13 (fun H locs hP hD hS => ?_)
    obtain ⟨hP, hD⟩ : va_P G vwCl (wM k ar fi (uF fa 69 (uA (g69_2) (x2_1) (z4))) fl) H ∧ va_D A (wM k ar fi (uF fa 69 (uA (g69_2) (x2_1) (z4))) fl) := ⟨hP, hD⟩
    obtain ⟨g5, eg5, rg5⟩ : ∃ z, z = uA (g69_2) (x2_1) (z4) ∧ ∀ t, inR (z t) := ⟨_, rfl, iU r_g69_2 (by omega)⟩
    rw [← eg5] at hP hD
    refine lv_iinc (v := Int32.ofInt (x2_1 + 1)) (lv' := [(2, .int (Int32.ofInt ((x2_1 + 1)))), (0, .ref (ar 69)), (1, .ref (ar 38))]) hx hb dX10_be_14 hl (k := 0) rfl (Int32.ofInt_add _ _).symm (by decide) rfl (fun ls hl => ?_)
    refine lv_goto (tgt := 2) hx hb dX10_be_17 (by decide) ?_
    have hl : lv_has ls 3 [(2, .int (Int32.ofInt ((x2_1 + 1)))), (0, .ref (ar 69)), (1, .ref (ar 38))] := lv_sub hl [0, 1, 2] rfl
    exact ih ((x2_1 + 1), g5) (show (60 - (x2_1 + 1)).toNat < (60 - x2_1).toNat from by omega) (show inR (x2_1 + 1) ∧ (∀ t, inR (g5 t)) ∧ (0 ≤ (x2_1 + 1) ∧ (x2_1 + 1) ≤ 60 ∧ ∀ t, 0 ≤ t → t < (x2_1 + 1) → g5 t = fa 38 t) from ⟨(by omega), rg5, (by exact ⟨by omega, by omega, be_step hb9 (by assumption) eg5⟩)⟩) _ _ _ hP hD hS hl

set_option maxHeartbeats 4000000 in
set_option maxRecDepth 100000 in
theorem mX10_be_70_11 (l : Launch) (G : va_G) (k : Nat → ClassId) (ar : Nat → Nat) (fi : Nat → Int) (fa : Nat → Int → Int) (fl : Nat → Int64) (sz : Nat) (hR : ∀ j, inR (fi j)) (hRa : ∀ j t, inR (fa j t)) : CNv l G k (EZ k) yX10_be wzX10_be ({ frames := 0, cells := 0, slots := 0, locals := 0 }) [.ref (ar 70), .ref (ar 11)] sz (wM k ar fi fa fl) (fun (u : (Int → Int)) => (∀ t, inR (u t)) ∧ (∀ t, 0 ≤ t → t < 3 → u t = fa 11 t)) (fun (u : (Int → Int)) => (wM k ar fi (uF fa 70 (u)) fl)) := by
  refine Met.ofW (cc := cX10_be) (maxL := 3) (ret := none) (by decide) rfl ?_
  intro p e s m args below meth c s₁ B hml hv
  obtain ⟨rfl, hsz, hP, hX, hD0, hZ0⟩ := hv
  have hx := B.exec
  have hb := B.bytes
  have hr := B.returns
  have hts := atoms_spec (ws := wzX10_be) B.pre
  have hown : s.vm.findClass RX10 = some m.cls := findClass_of_methodNamed B.named
  subst hsz
  have hD := hD0.self (sz := s.heap.size)
  have hZ := hZ0
  generalize hAe : va_A (wM k ar fi fa fl) s.heap.size = A at hD hZ ⊢
  have hA : ∀ q : Nat, s.heap.size ≤ q → A q := fun q h => by rw [← hAe]; exact Or.inr h
  have hS : va_S A s.heap s.heap [] := va_S.rf
  have hl := lv_entry ([.ref (ar 70), .ref (ar 11)]) (n := 3) (Nat.le_of_ble_eq_true rfl)
  rw [lg_entry_eq]
  generalize (lg_sl ([.ref (ar 70), .ref (ar 11)]) ++ List.replicate (3 - (lg_sl ([.ref (ar 70), .ref (ar 11)])).length) Slot.unset).toArray = ls at hl ⊢
  have hl : lv_has ls 3 [(0, .ref (ar 70)), (1, .ref (ar 11))] := hl
  obtain ⟨H, eH⟩ : ∃ H, H = s.heap := ⟨_, rfl⟩
  rw [← eH] at hP
  have hS : va_S A s.heap H [] := by rw [eH]; exact hS
  have gW : s.heap = H := eH.symm
  refine iv_heap gW ?_
  refine lv_iconst (v := Int32.ofInt 0) hx hb dX10_be_0 (by decide +kernel) ?_
  refine lv_istore_n (lv' := [(2, .int (Int32.ofInt (0))), (0, .ref (ar 70)), (1, .ref (ar 11))]) hx hb dX10_be_1 rfl hl (by decide) rfl (fun ls hl => ?_)
  refine iv_loop (α := Int × (Int → Int)) (nL := 3) (fun b9 => (wM k ar fi (uF fa 70 (b9.2)) fl)) (fun b9 => [(2, .int (Int32.ofInt (b9.1))), (0, .ref (ar 70)), (1, .ref (ar 11))]) (fun b9 => (3 - b9.1).toNat) (fun b9 => inR b9.1 ∧ (∀ t, inR (b9.2 t)) ∧ (0 ≤ b9.1 ∧ b9.1 ≤ 3 ∧ ∀ t, 0 ≤ t → t < b9.1 → b9.2 t = fa 11 t)) ?_ (0, fa 70) (show inR 0 ∧ (∀ t, inR ((fa 70) t)) ∧ (0 ≤ 0 ∧ 0 ≤ 3 ∧ ∀ t, 0 ≤ t → t < 0 → (fa 70) t = fa 11 t) from ⟨(by omega), (hRa 70), (by exact ⟨by omega, by omega, fun t h1 h2 => by omega⟩)⟩) hP hD hS hl
  rintro ⟨x2_1, g70_2⟩ ih hi9 H locs ls hP hD hS hl
  obtain ⟨r_x2_1, r_g70_2, hinv⟩ : inR x2_1 ∧ (∀ t, inR (g70_2 t)) ∧ (0 ≤ x2_1 ∧ x2_1 ≤ 3 ∧ ∀ t, 0 ≤ t → t < x2_1 → g70_2 t = fa 11 t) := hi9
  have hb9 := hinv.2.2
  obtain ⟨hP, hD⟩ : va_P G vwCl (wM k ar fi (uF fa 70 (g70_2)) fl) H ∧ va_D A (wM k ar fi (uF fa 70 (g70_2)) fl) := ⟨hP, hD⟩
  have hl : lv_has ls 3 [(2, .int (Int32.ofInt (x2_1))), (0, .ref (ar 70)), (1, .ref (ar 11))] := hl
  refine lv_iload_n hx hb dX10_be_2 rfl (lv_at hl 0 rfl) ?_
  refine lv_aload_n hx hb dX10_be_3 rfl (lv_at hl 1 rfl) ?_
  refine va_alen (v := Int32.ofInt 3) hx hb hX.1 hP 36 0 rfl rfl (show Int32.ofNat 3 = Int32.ofInt 3 from by decide) dX10_be_4 ?_
  refine iv_icmp_ge (tgt := 20) hx hb (by omega) (by omega) dX10_be_5 (by decide) (fun q3 => ?_) (fun q3 => ?_)
  · exact W.vret hx hb hr (fun t ht hW => ⟨⟨(g70_2), rfl, (show (∀ t, inR (g70_2 t)) ∧ (∀ t, 0 ≤ t → t < 3 → g70_2 t = fa 11 t) from ⟨r_g70_2, (by exact fun t h1 h2 => hb9 t h1 (by omega))⟩), by rw [ht]; exact hP, hD⟩, hS.F ht⟩) hS.2.2 dX10_be_20
  · refine lv_aload_n hx hb dX10_be_8 rfl (lv_at hl 1 rfl) ?_
    refine lv_iload_n hx hb dX10_be_9 rfl (lv_at hl 0 rfl) ?_
    refine lv_aload_n hx hb dX10_be_10 rfl (lv_at hl 2 rfl) ?_
    refine lv_iload_n hx hb dX10_be_11 rfl (lv_at hl 0 rfl) ?_
    refine iv_iald hx hb hX.1 hP 9 0 rfl rfl (by omega) (by omega) (by decide) dX10_be_12 ?_
    refine iv_top (fun z4 ez4 => ?_)
    have rz4 : inR z4 := ez4 ▸ (hRa 11) _
    have ez4 : z4 = (fa 11) x2_1 := ez4
    refine iv_iast hx hb hX.1 hP hD hS 36 0 rfl rfl (wM_A70 _ _ _ _ _) (by omega) (by omega) (by decide) dX10_be_13 (fun H locs hP hD hS => ?_)
    obtain ⟨hP, hD⟩ : va_P G vwCl (wM k ar fi (uF fa 70 (uA (g70_2) (x2_1) (z4))) fl) H ∧ va_D A (wM k ar fi (uF fa 70 (uA (g70_2) (x2_1) (z4))) fl) := ⟨hP, hD⟩
    obtain ⟨g5, eg5, rg5⟩ : ∃ z, z = uA (g70_2) (x2_1) (z4) ∧ ∀ t, inR (z t) := ⟨_, rfl, iU r_g70_2 (by omega)⟩
    rw [← eg5] at hP hD
    refine lv_iinc (v := Int32.ofInt (x2_1 + 1)) (lv' := [(2, .int (Int32.ofInt ((x2_1 + 1)))), (0, .ref (ar 70)), (1, .ref (ar 11))]) hx hb dX10_be_14 hl (k := 0) rfl (Int32.ofInt_add _ _).symm (by decide) rfl (fun ls hl => ?_)
    refine lv_goto (tgt := 2) hx hb dX10_be_17 (by decide) ?_
    have hl : lv_has ls 3 [(2, .int (Int32.ofInt ((x2_1 + 1)))), (0, .ref (ar 70)), (1, .ref (ar 11))] := lv_sub hl [0, 1, 2] rfl
    exact ih ((x2_1 + 1), g5) (show (3 - (x2_1 + 1)).toNat < (3 - x2_1).toNat from by omega) (show inR (x2_1 + 1) ∧ (∀ t, inR (g5 t)) ∧ (0 ≤ (x2_1 + 1) ∧ (x2_1 + 1) ≤ 3 ∧ ∀ t, 0 ≤ t → t < (x2_1 + 1) → g5 t = fa 11 t) from ⟨(by omega), rg5, (by exact ⟨by omega, by omega, be_step hb9 (by assumption) eg5⟩)⟩) _ _ _ hP hD hS hl

set_option maxHeartbeats 4000000 in
set_option maxRecDepth 100000 in
theorem mX10_be_32_63 (l : Launch) (G : va_G) (k : Nat → ClassId) (ar : Nat → Nat) (fi : Nat → Int) (fa : Nat → Int → Int) (fl : Nat → Int64) (sz : Nat) (hR : ∀ j, inR (fi j)) (hRa : ∀ j t, inR (fa j t)) : CNv l G k (EZ k) yX10_be wzX10_be ({ frames := 0, cells := 0, slots := 0, locals := 0 }) [.ref (ar 32), .ref (ar 63)] sz (wM k ar fi fa fl) (fun (u : (Int → Int)) => (∀ t, inR (u t)) ∧ (∀ t, 0 ≤ t → t < 7 → u t = fa 63 t)) (fun (u : (Int → Int)) => (wM k ar fi (uF fa 32 (u)) fl)) := by
  refine Met.ofW (cc := cX10_be) (maxL := 3) (ret := none) (by decide) rfl ?_
  intro p e s m args below meth c s₁ B hml hv
  obtain ⟨rfl, hsz, hP, hX, hD0, hZ0⟩ := hv
  have hx := B.exec
  have hb := B.bytes
  have hr := B.returns
  have hts := atoms_spec (ws := wzX10_be) B.pre
  have hown : s.vm.findClass RX10 = some m.cls := findClass_of_methodNamed B.named
  subst hsz
  have hD := hD0.self (sz := s.heap.size)
  have hZ := hZ0
  generalize hAe : va_A (wM k ar fi fa fl) s.heap.size = A at hD hZ ⊢
  have hA : ∀ q : Nat, s.heap.size ≤ q → A q := fun q h => by rw [← hAe]; exact Or.inr h
  have hS : va_S A s.heap s.heap [] := va_S.rf
  have hl := lv_entry ([.ref (ar 32), .ref (ar 63)]) (n := 3) (Nat.le_of_ble_eq_true rfl)
  rw [lg_entry_eq]
  generalize (lg_sl ([.ref (ar 32), .ref (ar 63)]) ++ List.replicate (3 - (lg_sl ([.ref (ar 32), .ref (ar 63)])).length) Slot.unset).toArray = ls at hl ⊢
  have hl : lv_has ls 3 [(0, .ref (ar 32)), (1, .ref (ar 63))] := hl
  obtain ⟨H, eH⟩ : ∃ H, H = s.heap := ⟨_, rfl⟩
  rw [← eH] at hP
  have hS : va_S A s.heap H [] := by rw [eH]; exact hS
  have gW : s.heap = H := eH.symm
  refine iv_heap gW ?_
  refine lv_iconst (v := Int32.ofInt 0) hx hb dX10_be_0 (by decide +kernel) ?_
  refine lv_istore_n (lv' := [(2, .int (Int32.ofInt (0))), (0, .ref (ar 32)), (1, .ref (ar 63))]) hx hb dX10_be_1 rfl hl (by decide) rfl (fun ls hl => ?_)
  refine iv_loop (α := Int × (Int → Int)) (nL := 3) (fun b9 => (wM k ar fi (uF fa 32 (b9.2)) fl)) (fun b9 => [(2, .int (Int32.ofInt (b9.1))), (0, .ref (ar 32)), (1, .ref (ar 63))]) (fun b9 => (7 - b9.1).toNat) (fun b9 => inR b9.1 ∧ (∀ t, inR (b9.2 t)) ∧ (0 ≤ b9.1 ∧ b9.1 ≤ 7 ∧ ∀ t, 0 ≤ t → t < b9.1 → b9.2 t = fa 63 t)) ?_ (0, fa 32) (show inR 0 ∧ (∀ t, inR ((fa 32) t)) ∧ (0 ≤ 0 ∧ 0 ≤ 7 ∧ ∀ t, 0 ≤ t → t < 0 → (fa 32) t = fa 63 t) from ⟨(by omega), (hRa 32), (by exact ⟨by omega, by omega, fun t h1 h2 => by omega⟩)⟩) hP hD hS hl
  rintro ⟨x2_1, g32_2⟩ ih hi9 H locs ls hP hD hS hl
  obtain ⟨r_x2_1, r_g32_2, hinv⟩ : inR x2_1 ∧ (∀ t, inR (g32_2 t)) ∧ (0 ≤ x2_1 ∧ x2_1 ≤ 7 ∧ ∀ t, 0 ≤ t → t < x2_1 → g32_2 t = fa 63 t) := hi9
  have hb9 := hinv.2.2
  obtain ⟨hP, hD⟩ : va_P G vwCl (wM k ar fi (uF fa 32 (g32_2)) fl) H ∧ va_D A (wM k ar fi (uF fa 32 (g32_2)) fl) := ⟨hP, hD⟩
  have hl : lv_has ls 3 [(2, .int (Int32.ofInt (x2_1))), (0, .ref (ar 32)), (1, .ref (ar 63))] := hl
  refine lv_iload_n hx hb dX10_be_2 rfl (lv_at hl 0 rfl) ?_
  refine lv_aload_n hx hb dX10_be_3 rfl (lv_at hl 1 rfl) ?_
  refine va_alen (v := Int32.ofInt 7) hx hb hX.1 hP 11 0 rfl rfl (show Int32.ofNat 7 = Int32.ofInt 7 from by decide) dX10_be_4 ?_
  refine iv_icmp_ge (tgt := 20) hx hb (by omega) (by omega) dX10_be_5 (by decide) (fun q3 => ?_) (fun q3 => ?_)
  · exact W.vret hx hb hr (fun t ht hW => ⟨⟨(g32_2), rfl, (show (∀ t, inR (g32_2 t)) ∧ (∀ t, 0 ≤ t → t < 7 → g32_2 t = fa 63 t) from ⟨r_g32_2, (by exact fun t h1 h2 => hb9 t h1 (by omega))⟩), by rw [ht]; exact hP, hD⟩, hS.F ht⟩) hS.2.2 dX10_be_20
  · refine lv_aload_n hx hb dX10_be_8 rfl (lv_at hl 1 rfl) ?_
    refine lv_iload_n hx hb dX10_be_9 rfl (lv_at hl 0 rfl) ?_
    refine lv_aload_n hx hb dX10_be_10 rfl (lv_at hl 2 rfl) ?_
    refine lv_iload_n hx hb dX10_be_11 rfl (lv_at hl 0 rfl) ?_
    refine iv_iald hx hb hX.1 hP 29 0 rfl rfl (by omega) (by omega) (by decide) dX10_be_12 ?_
    refine iv_top (fun z4 ez4 => ?_)
    have rz4 : inR z4 := ez4 ▸ (hRa 63) _
    have ez4 : z4 = (fa 63) x2_1 := ez4
    refine iv_iast hx hb hX.1 hP hD hS 11 0 rfl rfl (wM_A32 _ _ _ _ _) (by omega) (by omega) (by decide) dX10_be_13 (fun H locs hP hD hS => ?_)
    obtain ⟨hP, hD⟩ : va_P G vwCl (wM k ar fi (uF fa 32 (uA (g32_2) (x2_1) (z4))) fl) H ∧ va_D A (wM k ar fi (uF fa 32 (uA (g32_2) (x2_1) (z4))) fl) := ⟨hP, hD⟩
    obtain ⟨g5, eg5, rg5⟩ : ∃ z, z = uA (g32_2) (x2_1) (z4) ∧ ∀ t, inR (z t) := ⟨_, rfl, iU r_g32_2 (by omega)⟩
    rw [← eg5] at hP hD
    refine lv_iinc (v := Int32.ofInt (x2_1 + 1)) (lv' := [(2, .int (Int32.ofInt ((x2_1 + 1)))), (0, .ref (ar 32)), (1, .ref (ar 63))]) hx hb dX10_be_14 hl (k := 0) rfl (Int32.ofInt_add _ _).symm (by decide) rfl (fun ls hl => ?_)
    refine lv_goto (tgt := 2) hx hb dX10_be_17 (by decide) ?_
    have hl : lv_has ls 3 [(2, .int (Int32.ofInt ((x2_1 + 1)))), (0, .ref (ar 32)), (1, .ref (ar 63))] := lv_sub hl [0, 1, 2] rfl
    exact ih ((x2_1 + 1), g5) (show (7 - (x2_1 + 1)).toNat < (7 - x2_1).toNat from by omega) (show inR (x2_1 + 1) ∧ (∀ t, inR (g5 t)) ∧ (0 ≤ (x2_1 + 1) ∧ (x2_1 + 1) ≤ 7 ∧ ∀ t, 0 ≤ t → t < (x2_1 + 1) → g5 t = fa 63 t) from ⟨(by omega), rg5, (by exact ⟨by omega, by omega, be_step hb9 (by assumption) eg5⟩)⟩) _ _ _ hP hD hS hl

set_option maxHeartbeats 4000000 in
set_option maxRecDepth 100000 in
theorem mX10_be_33_64 (l : Launch) (G : va_G) (k : Nat → ClassId) (ar : Nat → Nat) (fi : Nat → Int) (fa : Nat → Int → Int) (fl : Nat → Int64) (sz : Nat) (hR : ∀ j, inR (fi j)) (hRa : ∀ j t, inR (fa j t)) : CNv l G k (EZ k) yX10_be wzX10_be ({ frames := 0, cells := 0, slots := 0, locals := 0 }) [.ref (ar 33), .ref (ar 64)] sz (wM k ar fi fa fl) (fun (u : (Int → Int)) => (∀ t, inR (u t)) ∧ (∀ t, 0 ≤ t → t < 6 → u t = fa 64 t)) (fun (u : (Int → Int)) => (wM k ar fi (uF fa 33 (u)) fl)) := by
  refine Met.ofW (cc := cX10_be) (maxL := 3) (ret := none) (by decide) rfl ?_
  intro p e s m args below meth c s₁ B hml hv
  obtain ⟨rfl, hsz, hP, hX, hD0, hZ0⟩ := hv
  have hx := B.exec
  have hb := B.bytes
  have hr := B.returns
  have hts := atoms_spec (ws := wzX10_be) B.pre
  have hown : s.vm.findClass RX10 = some m.cls := findClass_of_methodNamed B.named
  subst hsz
  have hD := hD0.self (sz := s.heap.size)
  have hZ := hZ0
  generalize hAe : va_A (wM k ar fi fa fl) s.heap.size = A at hD hZ ⊢
  have hA : ∀ q : Nat, s.heap.size ≤ q → A q := fun q h => by rw [← hAe]; exact Or.inr h
  have hS : va_S A s.heap s.heap [] := va_S.rf
  have hl := lv_entry ([.ref (ar 33), .ref (ar 64)]) (n := 3) (Nat.le_of_ble_eq_true rfl)
  rw [lg_entry_eq]
  generalize (lg_sl ([.ref (ar 33), .ref (ar 64)]) ++ List.replicate (3 - (lg_sl ([.ref (ar 33), .ref (ar 64)])).length) Slot.unset).toArray = ls at hl ⊢
  have hl : lv_has ls 3 [(0, .ref (ar 33)), (1, .ref (ar 64))] := hl
  obtain ⟨H, eH⟩ : ∃ H, H = s.heap := ⟨_, rfl⟩
  rw [← eH] at hP
  have hS : va_S A s.heap H [] := by rw [eH]; exact hS
  have gW : s.heap = H := eH.symm
  refine iv_heap gW ?_
  refine lv_iconst (v := Int32.ofInt 0) hx hb dX10_be_0 (by decide +kernel) ?_
  refine lv_istore_n (lv' := [(2, .int (Int32.ofInt (0))), (0, .ref (ar 33)), (1, .ref (ar 64))]) hx hb dX10_be_1 rfl hl (by decide) rfl (fun ls hl => ?_)
  refine iv_loop (α := Int × (Int → Int)) (nL := 3) (fun b9 => (wM k ar fi (uF fa 33 (b9.2)) fl)) (fun b9 => [(2, .int (Int32.ofInt (b9.1))), (0, .ref (ar 33)), (1, .ref (ar 64))]) (fun b9 => (6 - b9.1).toNat) (fun b9 => inR b9.1 ∧ (∀ t, inR (b9.2 t)) ∧ (0 ≤ b9.1 ∧ b9.1 ≤ 6 ∧ ∀ t, 0 ≤ t → t < b9.1 → b9.2 t = fa 64 t)) ?_ (0, fa 33) (show inR 0 ∧ (∀ t, inR ((fa 33) t)) ∧ (0 ≤ 0 ∧ 0 ≤ 6 ∧ ∀ t, 0 ≤ t → t < 0 → (fa 33) t = fa 64 t) from ⟨(by omega), (hRa 33), (by exact ⟨by omega, by omega, fun t h1 h2 => by omega⟩)⟩) hP hD hS hl
  rintro ⟨x2_1, g33_2⟩ ih hi9 H locs ls hP hD hS hl
  obtain ⟨r_x2_1, r_g33_2, hinv⟩ : inR x2_1 ∧ (∀ t, inR (g33_2 t)) ∧ (0 ≤ x2_1 ∧ x2_1 ≤ 6 ∧ ∀ t, 0 ≤ t → t < x2_1 → g33_2 t = fa 64 t) := hi9
  have hb9 := hinv.2.2
  obtain ⟨hP, hD⟩ : va_P G vwCl (wM k ar fi (uF fa 33 (g33_2)) fl) H ∧ va_D A (wM k ar fi (uF fa 33 (g33_2)) fl) := ⟨hP, hD⟩
  have hl : lv_has ls 3 [(2, .int (Int32.ofInt (x2_1))), (0, .ref (ar 33)), (1, .ref (ar 64))] := hl
  refine lv_iload_n hx hb dX10_be_2 rfl (lv_at hl 0 rfl) ?_
  refine lv_aload_n hx hb dX10_be_3 rfl (lv_at hl 1 rfl) ?_
  refine va_alen (v := Int32.ofInt 6) hx hb hX.1 hP 12 0 rfl rfl (show Int32.ofNat 6 = Int32.ofInt 6 from by decide) dX10_be_4 ?_
  refine iv_icmp_ge (tgt := 20) hx hb (by omega) (by omega) dX10_be_5 (by decide) (fun q3 => ?_) (fun q3 => ?_)
  · exact W.vret hx hb hr (fun t ht hW => ⟨⟨(g33_2), rfl, (show (∀ t, inR (g33_2 t)) ∧ (∀ t, 0 ≤ t → t < 6 → g33_2 t = fa 64 t) from ⟨r_g33_2, (by exact fun t h1 h2 => hb9 t h1 (by omega))⟩), by rw [ht]; exact hP, hD⟩, hS.F ht⟩) hS.2.2 dX10_be_20
  · refine lv_aload_n hx hb dX10_be_8 rfl (lv_at hl 1 rfl) ?_
    refine lv_iload_n hx hb dX10_be_9 rfl (lv_at hl 0 rfl) ?_
    refine lv_aload_n hx hb dX10_be_10 rfl (lv_at hl 2 rfl) ?_
    refine lv_iload_n hx hb dX10_be_11 rfl (lv_at hl 0 rfl) ?_
    refine iv_iald hx hb hX.1 hP 30 0 rfl rfl (by omega) (by omega) (by decide) dX10_be_12 ?_
    refine iv_top (fun z4 ez4 => ?_)
    have rz4 : inR z4 := ez4 ▸ (hRa 64) _
    have ez4 : z4 = (fa 64) x2_1 := ez4
    refine iv_iast hx hb hX.1 hP hD hS 12 0 rfl rfl (wM_A33 _ _ _ _ _) (by omega) (by omega) (by decide) dX10_be_13 (fun H locs hP hD hS => ?_)
    obtain ⟨hP, hD⟩ : va_P G vwCl (wM k ar fi (uF fa 33 (uA (g33_2) (x2_1) (z4))) fl) H ∧ va_D A (wM k ar fi (uF fa 33 (uA (g33_2) (x2_1) (z4))) fl) := ⟨hP, hD⟩
    obtain ⟨g5, eg5, rg5⟩ : ∃ z, z = uA (g33_2) (x2_1) (z4) ∧ ∀ t, inR (z t) := ⟨_, rfl, iU r_g33_2 (by omega)⟩
    rw [← eg5] at hP hD
    refine lv_iinc (v := Int32.ofInt (x2_1 + 1)) (lv' := [(2, .int (Int32.ofInt ((x2_1 + 1)))), (0, .ref (ar 33)), (1, .ref (ar 64))]) hx hb dX10_be_14 hl (k := 0) rfl (Int32.ofInt_add _ _).symm (by decide) rfl (fun ls hl => ?_)
    refine lv_goto (tgt := 2) hx hb dX10_be_17 (by decide) ?_
    have hl : lv_has ls 3 [(2, .int (Int32.ofInt ((x2_1 + 1)))), (0, .ref (ar 33)), (1, .ref (ar 64))] := lv_sub hl [0, 1, 2] rfl
    exact ih ((x2_1 + 1), g5) (show (6 - (x2_1 + 1)).toNat < (6 - x2_1).toNat from by omega) (show inR (x2_1 + 1) ∧ (∀ t, inR (g5 t)) ∧ (0 ≤ (x2_1 + 1) ∧ (x2_1 + 1) ≤ 6 ∧ ∀ t, 0 ≤ t → t < (x2_1 + 1) → g5 t = fa 64 t) from ⟨(by omega), rg5, (by exact ⟨by omega, by omega, be_step hb9 (by assumption) eg5⟩)⟩) _ _ _ hP hD hS hl

set_option maxHeartbeats 4000000 in
set_option maxRecDepth 100000 in
theorem mX10_be_34_65 (l : Launch) (G : va_G) (k : Nat → ClassId) (ar : Nat → Nat) (fi : Nat → Int) (fa : Nat → Int → Int) (fl : Nat → Int64) (sz : Nat) (hR : ∀ j, inR (fi j)) (hRa : ∀ j t, inR (fa j t)) : CNv l G k (EZ k) yX10_be wzX10_be ({ frames := 0, cells := 0, slots := 0, locals := 0 }) [.ref (ar 34), .ref (ar 65)] sz (wM k ar fi fa fl) (fun (u : (Int → Int)) => (∀ t, inR (u t)) ∧ (∀ t, 0 ≤ t → t < 60 → u t = fa 65 t)) (fun (u : (Int → Int)) => (wM k ar fi (uF fa 34 (u)) fl)) := by
  refine Met.ofW (cc := cX10_be) (maxL := 3) (ret := none) (by decide) rfl ?_
  intro p e s m args below meth c s₁ B hml hv
  obtain ⟨rfl, hsz, hP, hX, hD0, hZ0⟩ := hv
  have hx := B.exec
  have hb := B.bytes
  have hr := B.returns
  have hts := atoms_spec (ws := wzX10_be) B.pre
  have hown : s.vm.findClass RX10 = some m.cls := findClass_of_methodNamed B.named
  subst hsz
  have hD := hD0.self (sz := s.heap.size)
  have hZ := hZ0
  generalize hAe : va_A (wM k ar fi fa fl) s.heap.size = A at hD hZ ⊢
  have hA : ∀ q : Nat, s.heap.size ≤ q → A q := fun q h => by rw [← hAe]; exact Or.inr h
  have hS : va_S A s.heap s.heap [] := va_S.rf
  have hl := lv_entry ([.ref (ar 34), .ref (ar 65)]) (n := 3) (Nat.le_of_ble_eq_true rfl)
  rw [lg_entry_eq]
  generalize (lg_sl ([.ref (ar 34), .ref (ar 65)]) ++ List.replicate (3 - (lg_sl ([.ref (ar 34), .ref (ar 65)])).length) Slot.unset).toArray = ls at hl ⊢
  have hl : lv_has ls 3 [(0, .ref (ar 34)), (1, .ref (ar 65))] := hl
  obtain ⟨H, eH⟩ : ∃ H, H = s.heap := ⟨_, rfl⟩
  rw [← eH] at hP
  have hS : va_S A s.heap H [] := by rw [eH]; exact hS
  have gW : s.heap = H := eH.symm
  refine iv_heap gW ?_
  refine lv_iconst (v := Int32.ofInt 0) hx hb dX10_be_0 (by decide +kernel) ?_
  refine lv_istore_n (lv' := [(2, .int (Int32.ofInt (0))), (0, .ref (ar 34)), (1, .ref (ar 65))]) hx hb dX10_be_1 rfl hl (by decide) rfl (fun ls hl => ?_)
  refine iv_loop (α := Int × (Int → Int)) (nL := 3) (fun b9 => (wM k ar fi (uF fa 34 (b9.2)) fl)) (fun b9 => [(2, .int (Int32.ofInt (b9.1))), (0, .ref (ar 34)), (1, .ref (ar 65))]) (fun b9 => (60 - b9.1).toNat) (fun b9 => inR b9.1 ∧ (∀ t, inR (b9.2 t)) ∧ (0 ≤ b9.1 ∧ b9.1 ≤ 60 ∧ ∀ t, 0 ≤ t → t < b9.1 → b9.2 t = fa 65 t)) ?_ (0, fa 34) (show inR 0 ∧ (∀ t, inR ((fa 34) t)) ∧ (0 ≤ 0 ∧ 0 ≤ 60 ∧ ∀ t, 0 ≤ t → t < 0 → (fa 34) t = fa 65 t) from ⟨(by omega), (hRa 34), (by exact ⟨by omega, by omega, fun t h1 h2 => by omega⟩)⟩) hP hD hS hl
  rintro ⟨x2_1, g34_2⟩ ih hi9 H locs ls hP hD hS hl
  obtain ⟨r_x2_1, r_g34_2, hinv⟩ : inR x2_1 ∧ (∀ t, inR (g34_2 t)) ∧ (0 ≤ x2_1 ∧ x2_1 ≤ 60 ∧ ∀ t, 0 ≤ t → t < x2_1 → g34_2 t = fa 65 t) := hi9
  have hb9 := hinv.2.2
  obtain ⟨hP, hD⟩ : va_P G vwCl (wM k ar fi (uF fa 34 (g34_2)) fl) H ∧ va_D A (wM k ar fi (uF fa 34 (g34_2)) fl) := ⟨hP, hD⟩
  have hl : lv_has ls 3 [(2, .int (Int32.ofInt (x2_1))), (0, .ref (ar 34)), (1, .ref (ar 65))] := hl
  refine lv_iload_n hx hb dX10_be_2 rfl (lv_at hl 0 rfl) ?_
  refine lv_aload_n hx hb dX10_be_3 rfl (lv_at hl 1 rfl) ?_
  refine va_alen (v := Int32.ofInt 60) hx hb hX.1 hP 13 0 rfl rfl (show Int32.ofNat 60 = Int32.ofInt 60 from by decide) dX10_be_4 ?_
  refine iv_icmp_ge (tgt := 20) hx hb (by omega) (by omega) dX10_be_5 (by decide) (fun q3 => ?_) (fun q3 => ?_)
  · exact W.vret hx hb hr (fun t ht hW => ⟨⟨(g34_2), rfl, (show (∀ t, inR (g34_2 t)) ∧ (∀ t, 0 ≤ t → t < 60 → g34_2 t = fa 65 t) from ⟨r_g34_2, (by exact fun t h1 h2 => hb9 t h1 (by omega))⟩), by rw [ht]; exact hP, hD⟩, hS.F ht⟩) hS.2.2 dX10_be_20
  · refine lv_aload_n hx hb dX10_be_8 rfl (lv_at hl 1 rfl) ?_
    refine lv_iload_n hx hb dX10_be_9 rfl (lv_at hl 0 rfl) ?_
    refine lv_aload_n hx hb dX10_be_10 rfl (lv_at hl 2 rfl) ?_
    refine lv_iload_n hx hb dX10_be_11 rfl (lv_at hl 0 rfl) ?_
    refine iv_iald hx hb hX.1 hP 31 0 rfl rfl (by omega) (by omega) (by decide) dX10_be_12 ?_
    refine iv_top (fun z4 ez4 => ?_)
    have rz4 : inR z4 := ez4 ▸ (hRa 65) _
    have ez4 : z4 = (fa 65) x2_1 := ez4
    refine iv_iast hx hb hX.1 hP hD hS 13 0 rfl rfl (wM_A34 _ _ _ _ _) (by omega) (by omega) (by decide) dX10_be_13 (fun H locs hP hD hS => ?_)
    obtain ⟨hP, hD⟩ : va_P G vwCl (wM k ar fi (uF fa 34 (uA (g34_2) (x2_1) (z4))) fl) H ∧ va_D A (wM k ar fi (uF fa 34 (uA (g34_2) (x2_1) (z4))) fl) := ⟨hP, hD⟩
    obtain ⟨g5, eg5, rg5⟩ : ∃ z, z = uA (g34_2) (x2_1) (z4) ∧ ∀ t, inR (z t) := ⟨_, rfl, iU r_g34_2 (by omega)⟩
    rw [← eg5] at hP hD
    refine lv_iinc (v := Int32.ofInt (x2_1 + 1)) (lv' := [(2, .int (Int32.ofInt ((x2_1 + 1)))), (0, .ref (ar 34)), (1, .ref (ar 65))]) hx hb dX10_be_14 hl (k := 0) rfl (Int32.ofInt_add _ _).symm (by decide) rfl (fun ls hl => ?_)
    refine lv_goto (tgt := 2) hx hb dX10_be_17 (by decide) ?_
    have hl : lv_has ls 3 [(2, .int (Int32.ofInt ((x2_1 + 1)))), (0, .ref (ar 34)), (1, .ref (ar 65))] := lv_sub hl [0, 1, 2] rfl
    exact ih ((x2_1 + 1), g5) (show (60 - (x2_1 + 1)).toNat < (60 - x2_1).toNat from by omega) (show inR (x2_1 + 1) ∧ (∀ t, inR (g5 t)) ∧ (0 ≤ (x2_1 + 1) ∧ (x2_1 + 1) ≤ 60 ∧ ∀ t, 0 ≤ t → t < (x2_1 + 1) → g5 t = fa 65 t) from ⟨(by omega), rg5, (by exact ⟨by omega, by omega, be_step hb9 (by assumption) eg5⟩)⟩) _ _ _ hP hD hS hl

set_option maxHeartbeats 4000000 in
set_option maxRecDepth 100000 in
theorem mX10_be_35_66 (l : Launch) (G : va_G) (k : Nat → ClassId) (ar : Nat → Nat) (fi : Nat → Int) (fa : Nat → Int → Int) (fl : Nat → Int64) (sz : Nat) (hR : ∀ j, inR (fi j)) (hRa : ∀ j t, inR (fa j t)) : CNv l G k (EZ k) yX10_be wzX10_be ({ frames := 0, cells := 0, slots := 0, locals := 0 }) [.ref (ar 35), .ref (ar 66)] sz (wM k ar fi fa fl) (fun (u : (Int → Int)) => (∀ t, inR (u t)) ∧ (∀ t, 0 ≤ t → t < 60 → u t = fa 66 t)) (fun (u : (Int → Int)) => (wM k ar fi (uF fa 35 (u)) fl)) := by
  refine Met.ofW (cc := cX10_be) (maxL := 3) (ret := none) (by decide) rfl ?_
  intro p e s m args below meth c s₁ B hml hv
  obtain ⟨rfl, hsz, hP, hX, hD0, hZ0⟩ := hv
  have hx := B.exec
  have hb := B.bytes
  have hr := B.returns
  have hts := atoms_spec (ws := wzX10_be) B.pre
  have hown : s.vm.findClass RX10 = some m.cls := findClass_of_methodNamed B.named
  subst hsz
  have hD := hD0.self (sz := s.heap.size)
  have hZ := hZ0
  generalize hAe : va_A (wM k ar fi fa fl) s.heap.size = A at hD hZ ⊢
  have hA : ∀ q : Nat, s.heap.size ≤ q → A q := fun q h => by rw [← hAe]; exact Or.inr h
  have hS : va_S A s.heap s.heap [] := va_S.rf
  have hl := lv_entry ([.ref (ar 35), .ref (ar 66)]) (n := 3) (Nat.le_of_ble_eq_true rfl)
  rw [lg_entry_eq]
  generalize (lg_sl ([.ref (ar 35), .ref (ar 66)]) ++ List.replicate (3 - (lg_sl ([.ref (ar 35), .ref (ar 66)])).length) Slot.unset).toArray = ls at hl ⊢
  have hl : lv_has ls 3 [(0, .ref (ar 35)), (1, .ref (ar 66))] := hl
  obtain ⟨H, eH⟩ : ∃ H, H = s.heap := ⟨_, rfl⟩
  rw [← eH] at hP
  have hS : va_S A s.heap H [] := by rw [eH]; exact hS
  have gW : s.heap = H := eH.symm
  refine iv_heap gW ?_
  refine lv_iconst (v := Int32.ofInt 0) hx hb dX10_be_0 (by decide +kernel) ?_
  refine lv_istore_n (lv' := [(2, .int (Int32.ofInt (0))), (0, .ref (ar 35)), (1, .ref (ar 66))]) hx hb dX10_be_1 rfl hl (by decide) rfl (fun ls hl => ?_)
  refine iv_loop (α := Int × (Int → Int)) (nL := 3) (fun b9 => (wM k ar fi (uF fa 35 (b9.2)) fl)) (fun b9 => [(2, .int (Int32.ofInt (b9.1))), (0, .ref (ar 35)), (1, .ref (ar 66))]) (fun b9 => (60 - b9.1).toNat) (fun b9 => inR b9.1 ∧ (∀ t, inR (b9.2 t)) ∧ (0 ≤ b9.1 ∧ b9.1 ≤ 60 ∧ ∀ t, 0 ≤ t → t < b9.1 → b9.2 t = fa 66 t)) ?_ (0, fa 35) (show inR 0 ∧ (∀ t, inR ((fa 35) t)) ∧ (0 ≤ 0 ∧ 0 ≤ 60 ∧ ∀ t, 0 ≤ t → t < 0 → (fa 35) t = fa 66 t) from ⟨(by omega), (hRa 35), (by exact ⟨by omega, by omega, fun t h1 h2 => by omega⟩)⟩) hP hD hS hl
  rintro ⟨x2_1, g35_2⟩ ih hi9 H locs ls hP hD hS hl
  obtain ⟨r_x2_1, r_g35_2, hinv⟩ : inR x2_1 ∧ (∀ t, inR (g35_2 t)) ∧ (0 ≤ x2_1 ∧ x2_1 ≤ 60 ∧ ∀ t, 0 ≤ t → t < x2_1 → g35_2 t = fa 66 t) := hi9
  have hb9 := hinv.2.2
  obtain ⟨hP, hD⟩ : va_P G vwCl (wM k ar fi (uF fa 35 (g35_2)) fl) H ∧ va_D A (wM k ar fi (uF fa 35 (g35_2)) fl) := ⟨hP, hD⟩
  have hl : lv_has ls 3 [(2, .int (Int32.ofInt (x2_1))), (0, .ref (ar 35)), (1, .ref (ar 66))] := hl
  refine lv_iload_n hx hb dX10_be_2 rfl (lv_at hl 0 rfl) ?_
  refine lv_aload_n hx hb dX10_be_3 rfl (lv_at hl 1 rfl) ?_
  refine va_alen (v := Int32.ofInt 60) hx hb hX.1 hP 14 0 rfl rfl (show Int32.ofNat 60 = Int32.ofInt 60 from by decide) dX10_be_4 ?_
  refine iv_icmp_ge (tgt := 20) hx hb (by omega) (by omega) dX10_be_5 (by decide) (fun q3 => ?_) (fun q3 => ?_)
  · exact W.vret hx hb hr (fun t ht hW => ⟨⟨(g35_2), rfl, (show (∀ t, inR (g35_2 t)) ∧ (∀ t, 0 ≤ t → t < 60 → g35_2 t = fa 66 t) from ⟨r_g35_2, (by exact fun t h1 h2 => hb9 t h1 (by omega))⟩), by rw [ht]; exact hP, hD⟩, hS.F ht⟩) hS.2.2 dX10_be_20
  · refine lv_aload_n hx hb dX10_be_8 rfl (lv_at hl 1 rfl) ?_
    refine lv_iload_n hx hb dX10_be_9 rfl (lv_at hl 0 rfl) ?_
    refine lv_aload_n hx hb dX10_be_10 rfl (lv_at hl 2 rfl) ?_
    refine lv_iload_n hx hb dX10_be_11 rfl (lv_at hl 0 rfl) ?_
    refine iv_iald hx hb hX.1 hP 32 0 rfl rfl (by omega) (by omega) (by decide) dX10_be_12 ?_
    refine iv_top (fun z4 ez4 => ?_)
    have rz4 : inR z4 := ez4 ▸ (hRa 66) _
    have ez4 : z4 = (fa 66) x2_1 := ez4
    refine iv_iast hx hb hX.1 hP hD hS 14 0 rfl rfl (wM_A35 _ _ _ _ _) (by omega) (by omega) (by decide) dX10_be_13 (fun H locs hP hD hS => ?_)
    obtain ⟨hP, hD⟩ : va_P G vwCl (wM k ar fi (uF fa 35 (uA (g35_2) (x2_1) (z4))) fl) H ∧ va_D A (wM k ar fi (uF fa 35 (uA (g35_2) (x2_1) (z4))) fl) := ⟨hP, hD⟩
    obtain ⟨g5, eg5, rg5⟩ : ∃ z, z = uA (g35_2) (x2_1) (z4) ∧ ∀ t, inR (z t) := ⟨_, rfl, iU r_g35_2 (by omega)⟩
    rw [← eg5] at hP hD
    refine lv_iinc (v := Int32.ofInt (x2_1 + 1)) (lv' := [(2, .int (Int32.ofInt ((x2_1 + 1)))), (0, .ref (ar 35)), (1, .ref (ar 66))]) hx hb dX10_be_14 hl (k := 0) rfl (Int32.ofInt_add _ _).symm (by decide) rfl (fun ls hl => ?_)
    refine lv_goto (tgt := 2) hx hb dX10_be_17 (by decide) ?_
    have hl : lv_has ls 3 [(2, .int (Int32.ofInt ((x2_1 + 1)))), (0, .ref (ar 35)), (1, .ref (ar 66))] := lv_sub hl [0, 1, 2] rfl
    exact ih ((x2_1 + 1), g5) (show (60 - (x2_1 + 1)).toNat < (60 - x2_1).toNat from by omega) (show inR (x2_1 + 1) ∧ (∀ t, inR (g5 t)) ∧ (0 ≤ (x2_1 + 1) ∧ (x2_1 + 1) ≤ 60 ∧ ∀ t, 0 ≤ t → t < (x2_1 + 1) → g5 t = fa 66 t) from ⟨(by omega), rg5, (by exact ⟨by omega, by omega, be_step hb9 (by assumption) eg5⟩)⟩) _ _ _ hP hD hS hl

set_option maxHeartbeats 4000000 in
set_option maxRecDepth 100000 in
theorem mX10_be_36_67 (l : Launch) (G : va_G) (k : Nat → ClassId) (ar : Nat → Nat) (fi : Nat → Int) (fa : Nat → Int → Int) (fl : Nat → Int64) (sz : Nat) (hR : ∀ j, inR (fi j)) (hRa : ∀ j t, inR (fa j t)) : CNv l G k (EZ k) yX10_be wzX10_be ({ frames := 0, cells := 0, slots := 0, locals := 0 }) [.ref (ar 36), .ref (ar 67)] sz (wM k ar fi fa fl) (fun (u : (Int → Int)) => (∀ t, inR (u t)) ∧ (∀ t, 0 ≤ t → t < 60 → u t = fa 67 t)) (fun (u : (Int → Int)) => (wM k ar fi (uF fa 36 (u)) fl)) := by
  refine Met.ofW (cc := cX10_be) (maxL := 3) (ret := none) (by decide) rfl ?_
  intro p e s m args below meth c s₁ B hml hv
  obtain ⟨rfl, hsz, hP, hX, hD0, hZ0⟩ := hv
  have hx := B.exec
  have hb := B.bytes
  have hr := B.returns
  have hts := atoms_spec (ws := wzX10_be) B.pre
  have hown : s.vm.findClass RX10 = some m.cls := findClass_of_methodNamed B.named
  subst hsz
  have hD := hD0.self (sz := s.heap.size)
  have hZ := hZ0
  generalize hAe : va_A (wM k ar fi fa fl) s.heap.size = A at hD hZ ⊢
  have hA : ∀ q : Nat, s.heap.size ≤ q → A q := fun q h => by rw [← hAe]; exact Or.inr h
  have hS : va_S A s.heap s.heap [] := va_S.rf
  have hl := lv_entry ([.ref (ar 36), .ref (ar 67)]) (n := 3) (Nat.le_of_ble_eq_true rfl)
  rw [lg_entry_eq]
  generalize (lg_sl ([.ref (ar 36), .ref (ar 67)]) ++ List.replicate (3 - (lg_sl ([.ref (ar 36), .ref (ar 67)])).length) Slot.unset).toArray = ls at hl ⊢
  have hl : lv_has ls 3 [(0, .ref (ar 36)), (1, .ref (ar 67))] := hl
  obtain ⟨H, eH⟩ : ∃ H, H = s.heap := ⟨_, rfl⟩
  rw [← eH] at hP
  have hS : va_S A s.heap H [] := by rw [eH]; exact hS
  have gW : s.heap = H := eH.symm
  refine iv_heap gW ?_
  refine lv_iconst (v := Int32.ofInt 0) hx hb dX10_be_0 (by decide +kernel) ?_
  refine lv_istore_n (lv' := [(2, .int (Int32.ofInt (0))), (0, .ref (ar 36)), (1, .ref (ar 67))]) hx hb dX10_be_1 rfl hl (by decide) rfl (fun ls hl => ?_)
  refine iv_loop (α := Int × (Int → Int)) (nL := 3) (fun b9 => (wM k ar fi (uF fa 36 (b9.2)) fl)) (fun b9 => [(2, .int (Int32.ofInt (b9.1))), (0, .ref (ar 36)), (1, .ref (ar 67))]) (fun b9 => (60 - b9.1).toNat) (fun b9 => inR b9.1 ∧ (∀ t, inR (b9.2 t)) ∧ (0 ≤ b9.1 ∧ b9.1 ≤ 60 ∧ ∀ t, 0 ≤ t → t < b9.1 → b9.2 t = fa 67 t)) ?_ (0, fa 36) (show inR 0 ∧ (∀ t, inR ((fa 36) t)) ∧ (0 ≤ 0 ∧ 0 ≤ 60 ∧ ∀ t, 0 ≤ t → t < 0 → (fa 36) t = fa 67 t) from ⟨(by omega), (hRa 36), (by exact ⟨by omega, by omega, fun t h1 h2 => by omega⟩)⟩) hP hD hS hl
  rintro ⟨x2_1, g36_2⟩ ih hi9 H locs ls hP hD hS hl
  obtain ⟨r_x2_1, r_g36_2, hinv⟩ : inR x2_1 ∧ (∀ t, inR (g36_2 t)) ∧ (0 ≤ x2_1 ∧ x2_1 ≤ 60 ∧ ∀ t, 0 ≤ t → t < x2_1 → g36_2 t = fa 67 t) := hi9
  have hb9 := hinv.2.2
  obtain ⟨hP, hD⟩ : va_P G vwCl (wM k ar fi (uF fa 36 (g36_2)) fl) H ∧ va_D A (wM k ar fi (uF fa 36 (g36_2)) fl) := ⟨hP, hD⟩
  have hl : lv_has ls 3 [(2, .int (Int32.ofInt (x2_1))), (0, .ref (ar 36)), (1, .ref (ar 67))] := hl
  refine lv_iload_n hx hb dX10_be_2 rfl (lv_at hl 0 rfl) ?_
  refine lv_aload_n hx hb dX10_be_3 rfl (lv_at hl 1 rfl) ?_
  refine va_alen (v := Int32.ofInt 60) hx hb hX.1 hP 15 0 rfl rfl (show Int32.ofNat 60 = Int32.ofInt 60 from by decide) dX10_be_4 ?_
  refine iv_icmp_ge (tgt := 20) hx hb (by omega) (by omega) dX10_be_5 (by decide) (fun q3 => ?_) (fun q3 => ?_)
  · exact W.vret hx hb hr (fun t ht hW => ⟨⟨(g36_2), rfl, (show (∀ t, inR (g36_2 t)) ∧ (∀ t, 0 ≤ t → t < 60 → g36_2 t = fa 67 t) from ⟨r_g36_2, (by exact fun t h1 h2 => hb9 t h1 (by omega))⟩), by rw [ht]; exact hP, hD⟩, hS.F ht⟩) hS.2.2 dX10_be_20
  · refine lv_aload_n hx hb dX10_be_8 rfl (lv_at hl 1 rfl) ?_
    refine lv_iload_n hx hb dX10_be_9 rfl (lv_at hl 0 rfl) ?_
    refine lv_aload_n hx hb dX10_be_10 rfl (lv_at hl 2 rfl) ?_
    refine lv_iload_n hx hb dX10_be_11 rfl (lv_at hl 0 rfl) ?_
    refine iv_iald hx hb hX.1 hP 33 0 rfl rfl (by omega) (by omega) (by decide) dX10_be_12 ?_
    refine iv_top (fun z4 ez4 => ?_)
    have rz4 : inR z4 := ez4 ▸ (hRa 67) _
    have ez4 : z4 = (fa 67) x2_1 := ez4
    refine iv_iast hx hb hX.1 hP hD hS 15 0 rfl rfl (wM_A36 _ _ _ _ _) (by omega) (by omega) (by decide) dX10_be_13 (fun H locs hP hD hS => ?_)
    obtain ⟨hP, hD⟩ : va_P G vwCl (wM k ar fi (uF fa 36 (uA (g36_2) (x2_1) (z4))) fl) H ∧ va_D A (wM k ar fi (uF fa 36 (uA (g36_2) (x2_1) (z4))) fl) := ⟨hP, hD⟩
    obtain ⟨g5, eg5, rg5⟩ : ∃ z, z = uA (g36_2) (x2_1) (z4) ∧ ∀ t, inR (z t) := ⟨_, rfl, iU r_g36_2 (by omega)⟩
    rw [← eg5] at hP hD
    refine lv_iinc (v := Int32.ofInt (x2_1 + 1)) (lv' := [(2, .int (Int32.ofInt ((x2_1 + 1)))), (0, .ref (ar 36)), (1, .ref (ar 67))]) hx hb dX10_be_14 hl (k := 0) rfl (Int32.ofInt_add _ _).symm (by decide) rfl (fun ls hl => ?_)
    refine lv_goto (tgt := 2) hx hb dX10_be_17 (by decide) ?_
    have hl : lv_has ls 3 [(2, .int (Int32.ofInt ((x2_1 + 1)))), (0, .ref (ar 36)), (1, .ref (ar 67))] := lv_sub hl [0, 1, 2] rfl
    exact ih ((x2_1 + 1), g5) (show (60 - (x2_1 + 1)).toNat < (60 - x2_1).toNat from by omega) (show inR (x2_1 + 1) ∧ (∀ t, inR (g5 t)) ∧ (0 ≤ (x2_1 + 1) ∧ (x2_1 + 1) ≤ 60 ∧ ∀ t, 0 ≤ t → t < (x2_1 + 1) → g5 t = fa 67 t) from ⟨(by omega), rg5, (by exact ⟨by omega, by omega, be_step hb9 (by assumption) eg5⟩)⟩) _ _ _ hP hD hS hl

set_option maxHeartbeats 4000000 in
set_option maxRecDepth 100000 in
theorem mX10_be_37_68 (l : Launch) (G : va_G) (k : Nat → ClassId) (ar : Nat → Nat) (fi : Nat → Int) (fa : Nat → Int → Int) (fl : Nat → Int64) (sz : Nat) (hR : ∀ j, inR (fi j)) (hRa : ∀ j t, inR (fa j t)) : CNv l G k (EZ k) yX10_be wzX10_be ({ frames := 0, cells := 0, slots := 0, locals := 0 }) [.ref (ar 37), .ref (ar 68)] sz (wM k ar fi fa fl) (fun (u : (Int → Int)) => (∀ t, inR (u t)) ∧ (∀ t, 0 ≤ t → t < 60 → u t = fa 68 t)) (fun (u : (Int → Int)) => (wM k ar fi (uF fa 37 (u)) fl)) := by
  refine Met.ofW (cc := cX10_be) (maxL := 3) (ret := none) (by decide) rfl ?_
  intro p e s m args below meth c s₁ B hml hv
  obtain ⟨rfl, hsz, hP, hX, hD0, hZ0⟩ := hv
  have hx := B.exec
  have hb := B.bytes
  have hr := B.returns
  have hts := atoms_spec (ws := wzX10_be) B.pre
  have hown : s.vm.findClass RX10 = some m.cls := findClass_of_methodNamed B.named
  subst hsz
  have hD := hD0.self (sz := s.heap.size)
  have hZ := hZ0
  generalize hAe : va_A (wM k ar fi fa fl) s.heap.size = A at hD hZ ⊢
  have hA : ∀ q : Nat, s.heap.size ≤ q → A q := fun q h => by rw [← hAe]; exact Or.inr h
  have hS : va_S A s.heap s.heap [] := va_S.rf
  have hl := lv_entry ([.ref (ar 37), .ref (ar 68)]) (n := 3) (Nat.le_of_ble_eq_true rfl)
  rw [lg_entry_eq]
  generalize (lg_sl ([.ref (ar 37), .ref (ar 68)]) ++ List.replicate (3 - (lg_sl ([.ref (ar 37), .ref (ar 68)])).length) Slot.unset).toArray = ls at hl ⊢
  have hl : lv_has ls 3 [(0, .ref (ar 37)), (1, .ref (ar 68))] := hl
  obtain ⟨H, eH⟩ : ∃ H, H = s.heap := ⟨_, rfl⟩
  rw [← eH] at hP
  have hS : va_S A s.heap H [] := by rw [eH]; exact hS
  have gW : s.heap = H := eH.symm
  refine iv_heap gW ?_
  refine lv_iconst (v := Int32.ofInt 0) hx hb dX10_be_0 (by decide +kernel) ?_
  refine lv_istore_n (lv' := [(2, .int (Int32.ofInt (0))), (0, .ref (ar 37)), (1, .ref (ar 68))]) hx hb dX10_be_1 rfl hl (by decide) rfl (fun ls hl => ?_)
  refine iv_loop (α := Int × (Int → Int)) (nL := 3) (fun b9 => (wM k ar fi (uF fa 37 (b9.2)) fl)) (fun b9 => [(2, .int (Int32.ofInt (b9.1))), (0, .ref (ar 37)), (1, .ref (ar 68))]) (fun b9 => (60 - b9.1).toNat) (fun b9 => inR b9.1 ∧ (∀ t, inR (b9.2 t)) ∧ (0 ≤ b9.1 ∧ b9.1 ≤ 60 ∧ ∀ t, 0 ≤ t → t < b9.1 → b9.2 t = fa 68 t)) ?_ (0, fa 37) (show inR 0 ∧ (∀ t, inR ((fa 37) t)) ∧ (0 ≤ 0 ∧ 0 ≤ 60 ∧ ∀ t, 0 ≤ t → t < 0 → (fa 37) t = fa 68 t) from ⟨(by omega), (hRa 37), (by exact ⟨by omega, by omega, fun t h1 h2 => by omega⟩)⟩) hP hD hS hl
  rintro ⟨x2_1, g37_2⟩ ih hi9 H locs ls hP hD hS hl
  obtain ⟨r_x2_1, r_g37_2, hinv⟩ : inR x2_1 ∧ (∀ t, inR (g37_2 t)) ∧ (0 ≤ x2_1 ∧ x2_1 ≤ 60 ∧ ∀ t, 0 ≤ t → t < x2_1 → g37_2 t = fa 68 t) := hi9
  have hb9 := hinv.2.2
  obtain ⟨hP, hD⟩ : va_P G vwCl (wM k ar fi (uF fa 37 (g37_2)) fl) H ∧ va_D A (wM k ar fi (uF fa 37 (g37_2)) fl) := ⟨hP, hD⟩
  have hl : lv_has ls 3 [(2, .int (Int32.ofInt (x2_1))), (0, .ref (ar 37)), (1, .ref (ar 68))] := hl
  refine lv_iload_n hx hb dX10_be_2 rfl (lv_at hl 0 rfl) ?_
  refine lv_aload_n hx hb dX10_be_3 rfl (lv_at hl 1 rfl) ?_
  refine va_alen (v := Int32.ofInt 60) hx hb hX.1 hP 16 0 rfl rfl (show Int32.ofNat 60 = Int32.ofInt 60 from by decide) dX10_be_4 ?_
  refine iv_icmp_ge (tgt := 20) hx hb (by omega) (by omega) dX10_be_5 (by decide) (fun q3 => ?_) (fun q3 => ?_)
  · exact W.vret hx hb hr (fun t ht hW => ⟨⟨(g37_2), rfl, (show (∀ t, inR (g37_2 t)) ∧ (∀ t, 0 ≤ t → t < 60 → g37_2 t = fa 68 t) from ⟨r_g37_2, (by exact fun t h1 h2 => hb9 t h1 (by omega))⟩), by rw [ht]; exact hP, hD⟩, hS.F ht⟩) hS.2.2 dX10_be_20
  · refine lv_aload_n hx hb dX10_be_8 rfl (lv_at hl 1 rfl) ?_
    refine lv_iload_n hx hb dX10_be_9 rfl (lv_at hl 0 rfl) ?_
    refine lv_aload_n hx hb dX10_be_10 rfl (lv_at hl 2 rfl) ?_
    refine lv_iload_n hx hb dX10_be_11 rfl (lv_at hl 0 rfl) ?_
    refine iv_iald hx hb hX.1 hP 34 0 rfl rfl (by omega) (by omega) (by decide) dX10_be_12 ?_
    refine iv_top (fun z4 ez4 => ?_)
    have rz4 : inR z4 := ez4 ▸ (hRa 68) _
    have ez4 : z4 = (fa 68) x2_1 := ez4
    refine iv_iast hx hb hX.1 hP hD hS 16 0 rfl rfl (wM_A37 _ _ _ _ _) (by omega) (by omega) (by decide) dX10_be_13 (fun H locs hP hD hS => ?_)
    obtain ⟨hP, hD⟩ : va_P G vwCl (wM k ar fi (uF fa 37 (uA (g37_2) (x2_1) (z4))) fl) H ∧ va_D A (wM k ar fi (uF fa 37 (uA (g37_2) (x2_1) (z4))) fl) := ⟨hP, hD⟩
    obtain ⟨g5, eg5, rg5⟩ : ∃ z, z = uA (g37_2) (x2_1) (z4) ∧ ∀ t, inR (z t) := ⟨_, rfl, iU r_g37_2 (by omega)⟩
    rw [← eg5] at hP hD
    refine lv_iinc (v := Int32.ofInt (x2_1 + 1)) (lv' := [(2, .int (Int32.ofInt ((x2_1 + 1)))), (0, .ref (ar 37)), (1, .ref (ar 68))]) hx hb dX10_be_14 hl (k := 0) rfl (Int32.ofInt_add _ _).symm (by decide) rfl (fun ls hl => ?_)
    refine lv_goto (tgt := 2) hx hb dX10_be_17 (by decide) ?_
    have hl : lv_has ls 3 [(2, .int (Int32.ofInt ((x2_1 + 1)))), (0, .ref (ar 37)), (1, .ref (ar 68))] := lv_sub hl [0, 1, 2] rfl
    exact ih ((x2_1 + 1), g5) (show (60 - (x2_1 + 1)).toNat < (60 - x2_1).toNat from by omega) (show inR (x2_1 + 1) ∧ (∀ t, inR (g5 t)) ∧ (0 ≤ (x2_1 + 1) ∧ (x2_1 + 1) ≤ 60 ∧ ∀ t, 0 ≤ t → t < (x2_1 + 1) → g5 t = fa 68 t) from ⟨(by omega), rg5, (by exact ⟨by omega, by omega, be_step hb9 (by assumption) eg5⟩)⟩) _ _ _ hP hD hS hl

