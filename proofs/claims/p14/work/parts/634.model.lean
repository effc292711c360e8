set_option maxHeartbeats 4000000 in
set_option maxRecDepth 100000 in
theorem mX10_be_38_69 (l : Launch) (G : va_G) (k : Nat → ClassId) (ar : Nat → Nat) (fi : Nat → Int) (fa : Nat → Int → Int) (fl : Nat → Int64) (sz : Nat) (hR : ∀ j, inR (fi j)) (hRa : ∀ j t, inR (fa j t)) : CNv l G k (EZ k) yX10_be wzX10_be ({ frames := 0, cells := 0, slots := 0, locals := 0 }) [.ref (ar 38), .ref (ar 69)] sz (wM k ar fi fa fl) (fun (u : (Int → Int)) => (∀ t, inR (u t)) ∧ (∀ t, 0 ≤ t → t < 60 → u t = fa 69 t)) (fun (u : (Int → Int)) => (wM k ar fi (uF fa 38 (u)) fl)) := by
  refine Met.ofW (cc := cX10_be) (maxL := 3) (ret := none) (by decide) rfl ?_
  intro p e s m args below meth c s₁ B hml hv
  obtain ⟨rfl, hsz, hP, hX, hD0, hZ0⟩ := hv
  have hx := B.exec
  have hb := B.bytes
  have hr := B.returns
  have hts := atoms_spec (ws := wzX10_be) B.pre
  have hown : s.vm.findClass RX10 = some m.cls := findClass_of_methodNamed B.named
  subst hsz
  have hD := hD0.self (sz := s.heap.size)
  have hZ := hZ0
  generalize hAe : va_A (wM k ar fi fa fl) s.heap.size = A at hD hZ ⊢
  have hA : ∀ q : Nat, s.heap.size ≤ q → A q := fun q h => by rw [← hAe]; exact Or.inr h
  have hS : va_S A s.heap s.heap [] := va_S.rf
  have hl := lv_entry ([.ref (ar 38), .ref (ar 69)]) (n := 3) (Nat.le_of_ble_eq_true rfl)
  rw [lg_entry_eq]
  generalize (lg_sl ([.ref (ar 38), .ref (ar 69)]) ++ List.replicate (3 - (lg_sl ([.ref (ar 38), .ref (ar 69)])).length) Slot.unset).toArray = ls at hl ⊢
  have hl : lv_has ls 3 [(0, .ref (ar 38)), (1, .ref (ar 69))] := hl
  obtain ⟨H, eH⟩ : ∃ H, H = s.heap := ⟨_, rfl⟩
  rw [← eH] at hP
  have hS : va_S A s.heap H [] := by rw [eH]; exact hS
  have gW : s.heap = H := eH.symm
  refine iv_heap gW ?_
  refine lv_iconst (v := Int32.ofInt 0) hx hb dX10_be_0 (by decide +kernel) ?_
  refine lv_istore_n (lv' := [(2, .int (Int32.ofInt (0))), (0, .ref (ar 38)), (1, .ref (ar 69))]) hx hb dX10_be_1 rfl hl (by decide) rfl (fun ls hl => ?_)
  refine iv_loop (α := Int × (Int → Int)) (nL := 3) (fun b9 => (wM k ar fi (uF fa 38 (b9.2)) fl)) (fun b9 => [(2, .int (Int32.ofInt (b9.1))), (0, .ref (ar 38)), (1, .ref (ar 69))]) (fun b9 => (60 - b9.1).toNat) (fun b9 => inR b9.1 ∧ (∀ t, inR (b9.2 t)) ∧ (0 ≤ b9.1 ∧ b9.1 ≤ 60 ∧ ∀ t, 0 ≤ t → t < b9.1 → b9.2 t = fa 69 t)) ?_ (0, fa 38) (show inR 0 ∧ (∀ t, inR ((fa 38) t)) ∧ (0 ≤ 0 ∧ 0 ≤ 60 ∧ ∀ t, 0 ≤ t → t < 0 → (fa 38) t = fa 69 t) from ⟨(by omega), (hRa 38), (by exact ⟨by omega, by omega, fun t h1 h2 => by omega⟩)⟩) hP hD hS hl
  rintro ⟨x2_1, g38_2⟩ ih hi9 H locs ls hP hD hS hl
  obtain ⟨r_x2_1, r_g38_2, hinv⟩ : inR x2_1 ∧ (∀ t, inR (g38_2 t)) ∧ (0 ≤ x2_1 ∧ x2_1 ≤ 60 ∧ ∀ t, 0 ≤ t → t < x2_1 → g38_2 t = fa 69 t) := hi9
  have hb9 := hinv.2.2
  obtain ⟨hP, hD⟩ : va_P G vwCl (wM k ar fi (uF fa 38 (g38_2)) fl) H ∧ va_D A (wM k ar fi (uF fa 38 (g38_2)) fl) := ⟨hP, hD⟩
  have hl : lv_has ls 3 [(2, .int (Int32.ofInt (x2_1))), (0, .ref (ar 38)), (1, .ref (ar 69))] := hl
  refine lv_iload_n hx hb dX10_be_2 rfl (lv_at hl 0 rfl) ?_
  refine lv_aload_n hx hb dX10_be_3 rfl (lv_at hl 1 rfl) ?_
  refine va_alen (v := Int32.ofInt 60) hx hb hX.1 hP 17 0 rfl rfl (show Int32.ofNat 60 = Int32.ofInt 60 from by decide) dX10_be_4 ?_
  refine iv_icmp_ge (tgt := 20) hx hb (by omega) (by omega) dX10_be_5 (by decide) (fun q3 => ?_) (fun q3 => ?_)
  · exact W.vret hx hb hr (fun t ht hW => ⟨⟨(g38_2), rfl, (show (∀ t, inR (g38_2 t)) ∧ (∀ t, 0 ≤ t → t < 60 → g38_2 t = fa 69 t) from ⟨r_g38_2, (by exact fun t h1 h2 => hb9 t h1 (by omega))⟩), by rw [ht]; exact hP, hD⟩, hS.F ht⟩) hS.2.2 dX10_be_20
  · refine lv_aload_n hx hb dX10_be_8 rfl (lv_at hl 1 rfl) ?_
    refine lv_iload_n hx hb dX10_be_9 rfl (lv_at hl 0 rfl) ?_
    refine lv_aload_n hx hb dX10_be_10 rfl (lv_at hl 2 rfl) ?_
    refine lv_iload_n hx hb dX10_be_11 rfl (lv_at hl 0 rfl) ?_
    refine iv_iald hx hb hX.1 hP 35 0 rfl rfl (by omega) (by omega) (by decide) dX10_be_12 ?_
    refine iv_top (fun z4 ez4 => ?_)
    have rz4 : inR z4 := ez4 ▸ (hRa 69) _
    have ez4 : z4 = (fa 69) x2_1 := ez4
    refine iv_iast hx hb hX.1 hP hD hS 17 0 rfl rfl (wM_A38 _ _ _ _ _) (by omega) (by omega) (by decide) dX10_be_13 (fun H locs hP hD hS => ?_)
    obtain ⟨hP, hD⟩ : va_P G vwCl (wM k ar fi (uF fa 38 (uA (g38_2) (x2_1) (z4))) fl) H ∧ va_D A (wM k ar fi (uF fa 38 (uA (g38_2) (x2_1) (z4))) fl) := ⟨hP, hD⟩
    obtain ⟨g5, eg5, rg5⟩ : ∃ z, z = uA (g38_2) (x2_1) (z4) ∧ ∀ t, inR (z t) := ⟨_, rfl, iU r_g38_2 (by omega)⟩
    rw [← eg5] at hP hD
    refine lv_iinc (v := Int32.ofInt (x2_1 + 1)) (lv' := [(2, .int (Int32.ofInt ((x2_1 + 1)))), (0, .ref (ar 38)), (1, .ref (ar 69))]) hx hb dX10_be_14 hl (k := 0) rfl (Int32.ofInt_add _ _).symm (by decide) rfl (fun ls hl => ?_)
    refine lv_goto (tgt := 2) hx hb dX10_be_17 (by decide) ?_
    have hl : lv_has ls 3 [(2, .int (Int32.ofInt ((x2_1 + 1)))), (0, .ref (ar 38)), (1, .ref (ar 69))] := lv_sub hl [0, 1, 2] rfl
    exact ih ((x2_1 + 1), g5) (show (60 - (x2_1 + 1)).toNat < (60 - x2_1).toNat from by omega) (show inR (x2_1 + 1) ∧ (∀ t, inR (g5 t)) ∧ (0 ≤ (x2_1 + 1) ∧ (x2_1 + 1) ≤ 60 ∧ ∀ t, 0 ≤ t → t < (x2_1 + 1) → g5 t = fa 69 t) from ⟨(by omega), rg5, (by exact ⟨by omega, by omega, be_step hb9 (by assumption) eg5⟩)⟩) _ _ _ hP hD hS hl

set_option maxHeartbeats 4000000 in
set_option maxRecDepth 100000 in
theorem mX10_be_11_70 (l : Launch) (G : va_G) (k : Nat → ClassId) (ar : Nat → Nat) (fi : Nat → Int) (fa : Nat → Int → Int) (fl : Nat → Int64) (sz : Nat) (hR : ∀ j, inR (fi j)) (hRa : ∀ j t, inR (fa j t)) : CNv l G k (EZ k) yX10_be wzX10_be ({ frames := 0, cells := 0, slots := 0, locals := 0 }) [.ref (ar 11), .ref (ar 70)] sz (wM k ar fi fa fl) (fun (u : (Int → Int)) => (∀ t, inR (u t)) ∧ (∀ t, 0 ≤ t → t < 3 → u t = fa 70 t)) (fun (u : (Int → Int)) => (wM k ar fi (uF fa 11 (u)) fl)) := by
  refine Met.ofW (cc := cX10_be) (maxL := 3) (ret := none) (by decide) rfl ?_
  intro p e s m args below meth c s₁ B hml hv
  obtain ⟨rfl, hsz, hP, hX, hD0, hZ0⟩ := hv
  have hx := B.exec
  have hb := B.bytes
  have hr := B.returns
  have hts := atoms_spec (ws := wzX10_be) B.pre
  have hown : s.vm.findClass RX10 = some m.cls := findClass_of_methodNamed B.named
  subst hsz
  have hD := hD0.self (sz := s.heap.size)
  have hZ := hZ0
  generalize hAe : va_A (wM k ar fi fa fl) s.heap.size = A at hD hZ ⊢
  have hA : ∀ q : Nat, s.heap.size ≤ q → A q := fun q h => by rw [← hAe]; exact Or.inr h
  have hS : va_S A s.heap s.heap [] := va_S.rf
  have hl := lv_entry ([.ref (ar 11), .ref (ar 70)]) (n := 3) (Nat.le_of_ble_eq_true rfl)
  rw [lg_entry_eq]
  generalize (lg_sl ([.ref (ar 11), .ref (ar 70)]) ++ List.replicate (3 - (lg_sl ([.ref (ar 11), .ref (ar 70)])).length) Slot.unset).toArray = ls at hl ⊢
  have hl : lv_has ls 3 [(0, .ref (ar 11)), (1, .ref (ar 70))] := hl
  obtain ⟨H, eH⟩ : ∃ H, H = s.heap := ⟨_, rfl⟩
  rw [← eH] at hP
  have hS : va_S A s.heap H [] := by rw [eH]; exact hS
  have gW : s.heap = H := eH.symm
  refine iv_heap gW ?_
  refine lv_iconst (v := Int32.ofInt 0) hx hb dX10_be_0 (by decide +kernel) ?_
  refine lv_istore_n (lv' := [(2, .int (Int32.ofInt (0))), (0, .ref (ar 11)), (1, .ref (ar 70))]) hx hb dX10_be_1 rfl hl (by decide) rfl (fun ls hl => ?_)
  refine iv_loop (α := Int × (Int → Int)) (nL := 3) (fun b9 => (wM k ar fi (uF fa 11 (b9.2)) fl)) (fun b9 => [(2, .int (Int32.ofInt (b9.1))), (0, .ref (ar 11)), (1, .ref (ar 70))]) (fun b9 => (3 - b9.1).toNat) (fun b9 => inR b9.1 ∧ (∀ t, inR (b9.2 t)) ∧ (0 ≤ b9.1 ∧ b9.1 ≤ 3 ∧ ∀ t, 0 ≤ t → t < b9.1 → b9.2 t = fa 70 t)) ?_ (0, fa 11) (show inR 0 ∧ (∀ t, inR ((fa 11) t)) ∧ (0 ≤ 0 ∧ 0 ≤ 3 ∧ ∀ t, 0 ≤ t → t < 0 → (fa 11) t = fa 70 t) from ⟨(by omega), (hRa 11), (by exact ⟨by omega, by omega, fun t h1 h2 => by omega⟩)⟩) hP hD hS hl
  rintro ⟨x2_1, g11_2⟩ ih hi9 H locs ls hP hD hS hl
  obtain ⟨r_x2_1, r_g11_2, hinv⟩ : inR x2_1 ∧ (∀ t, inR (g11_2 t)) ∧ (0 ≤ x2_1 ∧ x2_1 ≤ 3 ∧ ∀ t, 0 ≤ t → t < x2_1 → g11_2 t = fa 70 t) := hi9
  have hb9 := hinv.2.2
  obtain ⟨hP, hD⟩ : va_P G vwCl (wM k ar fi (uF fa 11 (g11_2)) fl) H ∧ va_D A (wM k ar fi (uF fa 11 (g11_2)) fl) := ⟨hP, hD⟩
  have hl : lv_has ls 3 [(2, .int (Int32.ofInt (x2_1))), (0, .ref (ar 11)), (1, .ref (ar 70))] := hl
  refine lv_iload_n hx hb dX10_be_2 rfl (lv_at hl 0 rfl) ?_
  refine lv_aload_n hx hb dX10_be_3 rfl (lv_at hl 1 rfl) ?_
  refine va_alen (v := Int32.ofInt 3) hx hb hX.1 hP 9 0 rfl rfl (show Int32.ofNat 3 = Int32.ofInt 3 from by decide) dX10_be_4 ?_
  refine iv_icmp_ge (tgt := 20) hx hb (by omega) (by omega) dX10_be_5 (by decide) (fun q3 => ?_) (fun q3 => ?_)
  · exact W.vret hx hb hr (fun t ht hW => ⟨⟨(g11_2), rfl, (show (∀ t, inR (g11_2 t)) ∧ (∀ t, 0 ≤ t → t < 3 → g11_2 t = fa 70 t) from ⟨r_g11_2, (by exact fun t h1 h2 => hb9 t h1 (by omega))⟩), by rw [ht]; exact hP, hD⟩, hS.F ht⟩) hS.2.2 dX10_be_20
  · refine lv_aload_n hx hb dX10_be_8 rfl (lv_at hl 1 rfl) ?_
    refine lv_iload_n hx hb dX10_be_9 rfl (lv_at hl 0 rfl) ?_
    refine lv_aload_n hx hb dX10_be_10 rfl (lv_at hl 2 rfl) ?_
    refine lv_iload_n hx hb dX10_be_11 rfl (lv_at hl 0 rfl) ?_
    refine iv_iald hx hb hX.1 hP 36 0 rfl rfl (by omega) (by omega) (by decide) dX10_be_12 ?_
    refine iv_top (fun z4 ez4 => ?_)
    have rz4 : inR z4 := ez4 ▸ (hRa 70) _
    have ez4 : z4 = (fa 70) x2_1 := ez4
    refine iv_iast hx hb hX.1 hP hD hS 9 0 rfl rfl (wM_A11 _ _ _ _ _) (by omega) (by omega) (by decide) dX10_be_13 (fun H locs hP hD hS => ?_)
    obtain ⟨hP, hD⟩ : va_P G vwCl (wM k ar fi (uF fa 11 (uA (g11_2) (x2_1) (z4))) fl) H ∧ va_D A (wM k ar fi (uF fa 11 (uA (g11_2) (x2_1) (z4))) fl) := ⟨hP, hD⟩
    obtain ⟨g5, eg5, rg5⟩ : ∃ z, z = uA (g11_2) (x2_1) (z4) ∧ ∀ t, inR (z t) := ⟨_, rfl, iU r_g11_2 (by omega)⟩
    rw [← eg5] at hP hD
    refine lv_iinc (v := Int32.ofInt (x2_1 + 1)) (lv' := [(2, .int (Int32.ofInt ((x2_1 + 1)))), (0, .ref (ar 11)), (1, .ref (ar 70))]) hx hb dX10_be_14 hl (k := 0) rfl (Int32.ofInt_add _ _).symm (by decide) rfl (fun ls hl => ?_)
    refine lv_goto (tgt := 2) hx hb dX10_be_17 (by decide) ?_
    have hl : lv_has ls 3 [(2, .int (Int32.ofInt ((x2_1 + 1)))), (0, .ref (ar 11)), (1, .ref (ar 70))] := lv_sub hl [0, 1, 2] rfl
    exact ih ((x2_1 + 1), g5) (show (3 - (x2_1 + 1)).toNat < (3 - x2_1).toNat from by omega) (show inR (x2_1 + 1) ∧ (∀ t, inR (g5 t)) ∧ (0 ≤ (x2_1 + 1) ∧ (x2_1 + 1) ≤ 3 ∧ ∀ t, 0 ≤ t → t < (x2_1 + 1) → g5 t = fa 70 t) from ⟨(by omega), rg5, (by exact ⟨by omega, by omega, be_step hb9 (by assumption) eg5⟩)⟩) _ _ _ hP hD hS hl

set_option maxHeartbeats 4000000 in
set_option maxRecDepth 100000 in
theorem mX10_image (l : Launch) (G : va_G) (k : Nat → ClassId) (ar : Nat → Nat) (fi : Nat → Int) (fa : Nat → Int → Int) (fl : Nat → Int64) (sz : Nat) (hR : ∀ j, inR (fi j)) (hRa : ∀ j t, inR (fa j t)) (hbi : 0 ≤ fi 29 ∧ fi 29 ≤ 60 ∧ 0 ≤ fi 31 ∧ fi 31 ≤ 6) (hPM : ∀ i, 0 ≤ i → i < fi 29 → ¬ fa 34 i = 2 → 0 ≤ fa 35 i ∧ fa 35 i < 7) : CNv l G k (EZ k) yX10_image wzX10_image ({ frames := 1, cells := 0, slots := 0, locals := 22 }) [.ref (ar 71)] sz (wM k ar fi fa fl) (fun (u : (Int → Int) × (Int → Int) × (Int → Int) × (Int → Int) × (Int → Int) × (Int → Int) × (Int → Int) × (Int → Int) × Int × Int × Int × Int × Int × Int) => (∀ t, inR (u.1 t)) ∧ (∀ t, inR (u.2.1 t)) ∧ (∀ t, inR (u.2.2.1 t)) ∧ (∀ t, inR (u.2.2.2.1 t)) ∧ (∀ t, inR (u.2.2.2.2.1 t)) ∧ (∀ t, inR (u.2.2.2.2.2.1 t)) ∧ (∀ t, inR (u.2.2.2.2.2.2.1 t)) ∧ (∀ t, inR (u.2.2.2.2.2.2.2.1 t)) ∧ (inR u.2.2.2.2.2.2.2.2.1) ∧ (inR u.2.2.2.2.2.2.2.2.2.1) ∧ (inR u.2.2.2.2.2.2.2.2.2.2.1) ∧ (inR u.2.2.2.2.2.2.2.2.2.2.2.1) ∧ (inR u.2.2.2.2.2.2.2.2.2.2.2.2.1) ∧ (inR u.2.2.2.2.2.2.2.2.2.2.2.2.2) ∧ ((0 ≤ u.2.2.2.2.2.2.2.2.2.2.2.1 ∧ u.2.2.2.2.2.2.2.2.2.2.2.1 ≤ 60 ∧ 0 ≤ u.2.2.2.2.2.2.2.2.2.2.2.2.2 ∧ u.2.2.2.2.2.2.2.2.2.2.2.2.2 ≤ 6 ∧ u.2.2.2.2.2.2.2.2.2.1 = 1 ∧ (∀ i, 0 ≤ i → i < u.2.2.2.2.2.2.2.2.2.2.2.1 → ¬ u.2.2.1 i = 2 → 0 ≤ u.2.2.2.1 i ∧ u.2.2.2.1 i < 7)) ∧ (u.2.2.2.2.2.2.2.2.2.2.1 = fi 28 ∧ u.2.2.2.2.2.2.2.2.2.2.2.1 = fi 29 ∧ u.2.2.2.2.2.2.2.2.2.2.2.2.2 = fi 31) ∧ (∀ t, 0 ≤ t → t < 7 → u.1 t = fa 32 t) ∧ (∀ t, 0 ≤ t → t < 6 → u.2.1 t = fa 33 t) ∧ (∀ t, 0 ≤ t → t < 60 → u.2.2.1 t = fa 34 t) ∧ (∀ t, 0 ≤ t → t < 60 → u.2.2.2.1 t = fa 35 t) ∧ (∀ t, 0 ≤ t → t < 60 → u.2.2.2.2.1 t = fa 36 t) ∧ (∀ t, 0 ≤ t → t < 60 → u.2.2.2.2.2.1 t = fa 37 t))) (fun (u : (Int → Int) × (Int → Int) × (Int → Int) × (Int → Int) × (Int → Int) × (Int → Int) × (Int → Int) × (Int → Int) × Int × Int × Int × Int × Int × Int) => (wM k ar (uF (uF (uF (uF (uF (uF fi 2 (u.2.2.2.2.2.2.2.2.1)) 58 (u.2.2.2.2.2.2.2.2.2.1)) 59 (u.2.2.2.2.2.2.2.2.2.2.1)) 60 (u.2.2.2.2.2.2.2.2.2.2.2.1)) 61 (u.2.2.2.2.2.2.2.2.2.2.2.2.1)) 62 (u.2.2.2.2.2.2.2.2.2.2.2.2.2)) (uF (uF (uF (uF (uF (uF (uF (uF fa 63 (u.1)) 64 (u.2.1)) 65 (u.2.2.1)) 66 (u.2.2.2.1)) 67 (u.2.2.2.2.1)) 68 (u.2.2.2.2.2.1)) 69 (u.2.2.2.2.2.2.1)) 70 (u.2.2.2.2.2.2.2.1)) fl)) := by
  refine Met.ofW (cc := cX10_image) (maxL := 1) (ret := none) (by decide) rfl ?_
  intro p e s m args below meth c s₁ B hml hv
  obtain ⟨rfl, hsz, hP, hX, hD0, hZ0⟩ := hv
  have hx := B.exec
  have hb := B.bytes
  have hr := B.returns
  have hts := atoms_spec (ws := wzX10_image) B.pre
  have hown : s.vm.findClass RX10 = some m.cls := findClass_of_methodNamed B.named
  subst hsz
  have hD := hD0.self (sz := s.heap.size)
  have hZ := hZ0
  generalize hAe : va_A (wM k ar fi fa fl) s.heap.size = A at hD hZ ⊢
  have hA : ∀ q : Nat, s.heap.size ≤ q → A q := fun q h => by rw [← hAe]; exact Or.inr h
  have hS : va_S A s.heap s.heap [] := va_S.rf
  have hl := lv_entry ([.ref (ar 71)]) (n := 1) (Nat.le_of_ble_eq_true rfl)
  rw [lg_entry_eq]
  generalize (lg_sl ([.ref (ar 71)]) ++ List.replicate (1 - (lg_sl ([.ref (ar 71)])).length) Slot.unset).toArray = ls at hl ⊢
  have hl : lv_has ls 1 [(0, .ref (ar 71))] := hl
  obtain ⟨H, eH⟩ : ∃ H, H = s.heap := ⟨_, rfl⟩
  rw [← eH] at hP
  have hS : va_S A s.heap H [] := by rw [eH]; exact hS
  have gW : s.heap = H := eH.symm
  refine iv_heap gW ?_
  have h0w := hts (.fieldLink RX10 171 "RopeTownModel" "code" "I") (wz_at 8 12 rfl)
  have h1w : ∀ w ∈ wsX100, w ∈ wzX10_image := fun w h => List.mem_cons_of_mem _ (inlX10 w h)
  have h2w := hts (.fieldLink RX10 339 "RopeTownModel" "hasImage" "Z") (wz_at 21 17 rfl)
  have h3w := hts (.fieldLink RX10 327 "RopeTownModel" "bucket0" "I") (wz_at 21 13 rfl)
  have h4w := hts (.fieldLink RX10 491 "RopeTownModel" "bucketThen" "I") (wz_at 42 1 rfl)
  have h5w := hts (.fieldLink RX10 330 "RopeTownModel" "moves" "I") (wz_at 21 14 rfl)
  have h6w := hts (.fieldLink RX10 494 "RopeTownModel" "movesThen" "I") (wz_at 42 2 rfl)
  have h7w := hts (.fieldLink RX10 333 "RopeTownModel" "cost" "I") (wz_at 21 15 rfl)
  have h8w := hts (.fieldLink RX10 497 "RopeTownModel" "costThen" "I") (wz_at 42 3 rfl)
  have h9w := hts (.fieldLink RX10 336 "RopeTownModel" "days" "I") (wz_at 21 16 rfl)
  have h10w := hts (.fieldLink RX10 500 "RopeTownModel" "daysThen" "I") (wz_at 42 4 rfl)
  have h11w := hts (.fieldLink RX10 143 "RopeTownModel" "placeThen" "[I") (wz_at 7 12 rfl)
  have h12w := hts (.fieldLink RX10 87 "RopeTownModel" "place" "[I") (wz_at 6 17 rfl)
  have h13w := hts (.fieldLink RX10 146 "RopeTownModel" "dayThen" "[I") (wz_at 7 13 rfl)
  have h14w := hts (.fieldLink RX10 90 "RopeTownModel" "day" "[I") (wz_at 6 18 rfl)
  have h15w := hts (.fieldLink RX10 149 "RopeTownModel" "whichThen" "[I") (wz_at 7 14 rfl)
  have h16w := hts (.fieldLink RX10 93 "RopeTownModel" "moveWhich" "[I") (wz_at 6 19 rfl)
  have h17w := hts (.fieldLink RX10 152 "RopeTownModel" "whatThen" "[I") (wz_at 7 15 rfl)
  have h18w := hts (.fieldLink RX10 96 "RopeTownModel" "moveWhat" "[I") (wz_at 6 20 rfl)
  have h19w := hts (.fieldLink RX10 155 "RopeTownModel" "toThen" "[I") (wz_at 7 16 rfl)
  have h20w := hts (.fieldLink RX10 99 "RopeTownModel" "moveTo" "[I") (wz_at 6 21 rfl)
  have h21w := hts (.fieldLink RX10 158 "RopeTownModel" "wasThen" "[I") (wz_at 7 17 rfl)
  have h22w := hts (.fieldLink RX10 102 "RopeTownModel" "moveWas" "[I") (wz_at 6 22 rfl)
  have h23w := hts (.fieldLink RX10 161 "RopeTownModel" "costsThen" "[I") (wz_at 7 18 rfl)
  have h24w := hts (.fieldLink RX10 105 "RopeTownModel" "moveCost" "[I") (wz_at 6 23 rfl)
  have h25w := hts (.fieldLink RX10 164 "RopeTownModel" "statusThen" "[I") (wz_at 7 19 rfl)
  have h26w := hts (.fieldLink RX10 77 "RopeTownModel" "status" "[I") (wz_at 6 14 rfl)
  refine lv_aload_n hx hb dX10_image_0 rfl (lv_at hl 0 rfl) ?_
  refine lv_iconst (v := Int32.ofInt 0) hx hb dX10_image_1 (by decide +kernel) ?_
  refine iv_put (ci := 7) (v := .int (Int32.ofInt (0))) (ty := .int) (C := RX10) (T := TX10) (N := 71) (ref := RX10) hx hb hts h1w tyX10 tyX10_ok nmX10 hown hX.1 hP hD hS 0 rfl rfl 2 (by decide) h0w (fun _ h9 => h9) rfl (by decide +kernel) rfl rfl (Nat.le_of_ble_eq_true rfl) (wM_F2 _ _ _ _ _) dX10_image_2 (fun H locs hP hD hS => ?_)
  refine lv_aload_n hx hb dX10_image_5 rfl (lv_at hl 0 rfl) ?_
  refine lv_iconst (v := Int32.ofInt 1) hx hb dX10_image_6 (by decide +kernel) ?_
  refine iv_put (ci := 7) (v := .int (Int32.ofInt (1))) (ty := .boolean) (C := RX10) (T := TX10) (N := 71) (ref := RX10) hx hb hts h1w tyX10 tyX10_ok nmX10 hown hX.1 hP hD hS 0 rfl rfl 58 (by decide) h2w (fun _ h9 => h9) rfl (by decide +kernel) (nz_bool (by omega)) (fz_bool (by omega)) (Nat.le_of_ble_eq_true rfl) (wM_F58 _ _ _ _ _) dX10_image_7 (fun H locs hP hD hS => ?_)
  refine lv_aload_n hx hb dX10_image_10 rfl (lv_at hl 0 rfl) ?_
  refine lv_aload_n hx hb dX10_image_11 rfl (lv_at hl 0 rfl) ?_
  refine va_get (D := G) (ci := 7) (v := .int (Int32.ofInt (fi 28))) (C := RX10) (T := TX10) (N := 71) (ref := RX10) hx hb hts h1w hown hX.1 hP 0 rfl rfl 28 (by decide) h3w (fun _ h9 => h9) rfl dX10_image_12 ?_
  have rf28 := hR 28
  refine iv_put (ci := 7) (v := .int (Int32.ofInt (fi 28))) (ty := .int) (C := RX10) (T := TX10) (N := 71) (ref := RX10) hx hb hts h1w tyX10 tyX10_ok nmX10 hown hX.1 hP hD hS 0 rfl rfl 59 (by decide) h4w (fun _ h9 => h9) rfl (by decide +kernel) rfl rfl (Nat.le_of_ble_eq_true rfl) (wM_F59 _ _ _ _ _) dX10_image_15 (fun H locs hP hD hS => ?_)
  refine lv_aload_n hx hb dX10_image_18 rfl (lv_at hl 0 rfl) ?_
  refine lv_aload_n hx hb dX10_image_19 rfl (lv_at hl 0 rfl) ?_
  refine va_get (D := G) (ci := 7) (v := .int (Int32.ofInt (fi 29))) (C := RX10) (T := TX10) (N := 71) (ref := RX10) hx hb hts h1w hown hX.1 hP 0 rfl rfl 29 (by decide) h5w (fun _ h9 => h9) rfl dX10_image_20 ?_
  have rf29 := hR 29
  refine iv_put (ci := 7) (v := .int (Int32.ofInt (fi 29))) (ty := .int) (C := RX10) (T := TX10) (N := 71) (ref := RX10) hx hb hts h1w tyX10 tyX10_ok nmX10 hown hX.1 hP hD hS 0 rfl rfl 60 (by decide) h6w (fun _ h9 => h9) rfl (by decide +kernel) rfl rfl (Nat.le_of_ble_eq_true rfl) (wM_F60 _ _ _ _ _) dX10_image_23 (fun H locs hP hD hS => ?_)
  refine lv_aload_n hx hb dX10_image_26 rfl (lv_at hl 0 rfl) ?_
  refine lv_aload_n hx hb dX10_image_27 rfl (lv_at hl 0 rfl) ?_
  refine va_get (D := G) (ci := 7) (v := .int (Int32.ofInt (fi 30))) (C := RX10) (T := TX10) (N := 71) (ref := RX10) hx hb hts h1w hown hX.1 hP 0 rfl rfl 30 (by decide) h7w (fun _ h9 => h9) rfl dX10_image_28 ?_
  have rf30 := hR 30
  refine iv_put (ci := 7) (v := .int (Int32.ofInt (fi 30))) (ty := .int) (C := RX10) (T := TX10) (N := 71) (ref := RX10) hx hb hts h1w tyX10 tyX10_ok nmX10 hown hX.1 hP hD hS 0 rfl rfl 61 (by decide) h8w (fun _ h9 => h9) rfl (by decide +kernel) rfl rfl (Nat.le_of_ble_eq_true rfl) (wM_F61 _ _ _ _ _) dX10_image_31 (fun H locs hP hD hS => ?_)
  refine lv_aload_n hx hb dX10_image_34 rfl (lv_at hl 0 rfl) ?_
  refine lv_aload_n hx hb dX10_image_35 rfl (lv_at hl 0 rfl) ?_
  refine va_get (D := G) (ci := 7) (v := .int (Int32.ofInt (fi 31))) (C := RX10) (T := TX10) (N := 71) (ref := RX10) hx hb hts h1w hown hX.1 hP 0 rfl rfl 31 (by decide) h9w (fun _ h9 => h9) rfl dX10_image_36 ?_
  have rf31 := hR 31
  refine iv_put (ci := 7) (v := .int (Int32.ofInt (fi 31))) (ty := .int) (C := RX10) (T := TX10) (N := 71) (ref := RX10) hx hb hts h1w tyX10 tyX10_ok nmX10 hown hX.1 hP hD hS 0 rfl rfl 62 (by decide) h10w (fun _ h9 => h9) rfl (by decide +kernel) rfl rfl (Nat.le_of_ble_eq_true rfl) (wM_F62 _ _ _ _ _) dX10_image_39 (fun H locs hP hD hS => ?_)
  refine lv_aload_n hx hb dX10_image_42 rfl (lv_at hl 0 rfl) ?_
  refine va_get (D := G) (ci := 7) (v := .ref (ar 63)) (C := RX10) (T := TX10) (N := 71) (ref := RX10) hx hb hts h1w hown hX.1 hP 0 rfl rfl 63 (by decide) h11w (fun _ h9 => h9) rfl dX10_image_43 ?_
  refine lv_aload_n hx hb dX10_image_46 rfl (lv_at hl 0 rfl) ?_
  refine va_get (D := G) (ci := 7) (v := .ref (ar 32)) (C := RX10) (T := TX10) (N := 71) (ref := RX10) hx hb hts h1w hown hX.1 hP 0 rfl rfl 32 (by decide) h12w (fun _ h9 => h9) rfl dX10_image_47 ?_
  refine cr_v (va_runS (As := [.ref (ar 63), .ref (ar 32)]) (rest := []) ⟨hx, hb, hml, hown, hts⟩ (mX10_be_63_32 l G k ar (uF (uF (uF (uF (uF (uF fi 2 (0)) 58 (1)) 59 (fi 28)) 60 (fi 29)) 61 (fi 30)) 62 (fi 31)) fa fl H.size (iF (iF (iF (iF (iF (iF hR (by omega)) (by omega)) (hR 28)) (hR 29)) (hR 30)) (hR 31)) hRa) (cwS 2 hts (gz [.methodLink RX10 503 yX10_be, .static yX10_be, .initialized RX10] (.code yX10_be cX10_be 3 none) [(42, 5), (42, 6), (0, 5), (42, 7)] rfl) rfl rfl rfl (by decide +kernel) ⟨Nat.le_of_ble_eq_true rfl, Nat.le_of_ble_eq_true rfl⟩) (cr_preS (EZ_ok k) hZ hS hX hP hD hA) rfl rfl hl.1 rfl (lv_room (Nat.le_of_ble_eq_true rfl)) dX10_image_50 ⟨Nat.le_of_ble_eq_true rfl, Nat.le_of_ble_eq_true rfl⟩) hD hS hA (fun u H locs hp hP hD hS => ?_)
  obtain ⟨c1, rfl⟩ : ∃ z, z = u := ⟨_, rfl⟩
  obtain ⟨hP, hD⟩ : va_P G vwCl (wM k ar (uF (uF (uF (uF (uF (uF fi 2 (0)) 58 (1)) 59 (fi 28)) 60 (fi 29)) 61 (fi 30)) 62 (fi 31)) (uF fa 63 (c1)) fl) H ∧ va_D A (wM k ar (uF (uF (uF (uF (uF (uF fi 2 (0)) 58 (1)) 59 (fi 28)) 60 (fi 29)) 61 (fi 30)) 62 (fi 31)) (uF fa 63 (c1)) fl) := ⟨hP, hD⟩
  obtain ⟨rc1, hp1⟩ : (∀ t, inR (c1 t)) ∧ (∀ t, 0 ≤ t → t < 7 → c1 t = (fa 32) t) := hp
  have hc63 := hp1
  refine lv_aload_n hx hb dX10_image_53 rfl (lv_at hl 0 rfl) ?_
  refine va_get (D := G) (ci := 7) (v := .ref (ar 64)) (C := RX10) (T := TX10) (N := 71) (ref := RX10) hx hb hts h1w hown hX.1 hP 0 rfl rfl 64 (by decide) h13w (fun _ h9 => h9) rfl dX10_image_54 ?_
  refine lv_aload_n hx hb dX10_image_57 rfl (lv_at hl 0 rfl) ?_
  refine va_get (D := G) (ci := 7) (v := .ref (ar 33)) (C := RX10) (T := TX10) (N := 71) (ref := RX10) hx hb hts h1w hown hX.1 hP 0 rfl rfl 33 (by decide) h14w (fun _ h9 => h9) rfl dX10_image_58 ?_
  refine cr_v (va_runS (As := [.ref (ar 64), .ref (ar 33)]) (rest := []) ⟨hx, hb, hml, hown, hts⟩ (mX10_be_64_33 l G k ar (uF (uF (uF (uF (uF (uF fi 2 (0)) 58 (1)) 59 (fi 28)) 60 (fi 29)) 61 (fi 30)) 62 (fi 31)) (uF fa 63 (c1)) fl H.size (iF (iF (iF (iF (iF (iF hR (by omega)) (by omega)) (hR 28)) (hR 29)) (hR 30)) (hR 31)) (iG hRa rc1)) (cwS 2 hts (gz [.methodLink RX10 503 yX10_be, .static yX10_be, .initialized RX10] (.code yX10_be cX10_be 3 none) [(42, 5), (42, 6), (0, 5), (42, 7)] rfl) rfl rfl rfl (by decide +kernel) ⟨Nat.le_of_ble_eq_true rfl, Nat.le_of_ble_eq_true rfl⟩) (cr_preS (EZ_ok k) hZ hS hX hP hD hA) rfl rfl hl.1 rfl (lv_room (Nat.le_of_ble_eq_true rfl)) dX10_image_61 ⟨Nat.le_of_ble_eq_true rfl, Nat.le_of_ble_eq_true rfl⟩) hD hS hA (fun u H locs hp hP hD hS => ?_)
  obtain ⟨c2, rfl⟩ : ∃ z, z = u := ⟨_, rfl⟩
  obtain ⟨hP, hD⟩ : va_P G vwCl (wM k ar (uF (uF (uF (uF (uF (uF fi 2 (0)) 58 (1)) 59 (fi 28)) 60 (fi 29)) 61 (fi 30)) 62 (fi 31)) (uF (uF fa 63 (c1)) 64 (c2)) fl) H ∧ va_D A (wM k ar (uF (uF (uF (uF (uF (uF fi 2 (0)) 58 (1)) 59 (fi 28)) 60 (fi 29)) 61 (fi 30)) 62 (fi 31)) (uF (uF fa 63 (c1)) 64 (c2)) fl) := ⟨hP, hD⟩
  obtain ⟨rc2, hp2⟩ : (∀ t, inR (c2 t)) ∧ (∀ t, 0 ≤ t → t < 6 → c2 t = (fa 33) t) := hp
  have hc64 := hp2
  refine lv_aload_n hx hb dX10_image_64 rfl (lv_at hl 0 rfl) ?_
  refine va_get (D := G) (ci := 7) (v := .ref (ar 65)) (C := RX10) (T := TX10) (N := 71) (ref := RX10) hx hb hts h1w hown hX.1 hP 0 rfl rfl 65 (by decide) h15w (fun _ h9 => h9) rfl dX10_image_65 ?_
  refine lv_aload_n hx hb dX10_image_68 rfl (lv_at hl 0 rfl) ?_
  refine va_get (D := G) (ci := 7) (v := .ref (ar 34)) (C := RX10) (T := TX10) (N := 71) (ref := RX10) hx hb hts h1w hown hX.1 hP 0 rfl rfl 34 (by decide) h16w (fun _ h9 => h9) rfl dX10_image_69 ?_
  refine cr_v (va_runS (As := [.ref (ar 65), .ref (ar 34)]) (rest := []) ⟨hx, hb, hml, hown, hts⟩ (mX10_be_65_34 l G k ar (uF (uF (uF (uF (uF (uF fi 2 (0)) 58 (1)) 59 (fi 28)) 60 (fi 29)) 61 (fi 30)) 62 (fi 31)) (uF (uF fa 63 (c1)) 64 (c2)) fl H.size (iF (iF (iF (iF (iF (iF hR (by omega)) (by omega)) (hR 28)) (hR 29)) (hR 30)) (hR 31)) (iG (iG hRa rc1) rc2)) (cwS 2 hts (gz [.methodLink RX10 503 yX10_be, .static yX10_be, .initialized RX10] (.code yX10_be cX10_be 3 none) [(42, 5), (42, 6), (0, 5), (42, 7)] rfl) rfl rfl rfl (by decide +kernel) ⟨Nat.le_of_ble_eq_true rfl, Nat.le_of_ble_eq_true rfl⟩) (cr_preS (EZ_ok k) hZ hS hX hP hD hA) rfl rfl hl.1 rfl (lv_room (Nat.le_of_ble_eq_true rfl)) dX10_image_72 ⟨Nat.le_of_ble_eq_true rfl, Nat.le_of_ble_eq_true rfl⟩) hD hS hA (fun u H locs hp hP hD hS => ?_)
  obtain ⟨c3, rfl⟩ : ∃ z, z = u := ⟨_, rfl⟩
  obtain ⟨hP, hD⟩ : va_P G vwCl (wM k ar (uF (uF (uF (uF (uF (uF fi 2 (0)) 58 (1)) 59 (fi 28)) 60 (fi 29)) 61 (fi 30)) 62 (fi 31)) (uF (uF (uF fa 63 (c1)) 64 (c2)) 65 (c3)) fl) H ∧ va_D A (wM k ar (uF (uF (uF (uF (uF (uF fi 2 (0)) 58 (1)) 59 (fi 28)) 60 (fi 29)) 61 (fi 30)) 62 (fi 31)) (uF (uF (uF fa 63 (c1)) 64 (c2)) 65 (c3)) fl) := ⟨hP, hD⟩
  obtain ⟨rc3, hp3⟩ : (∀ t, inR (c3 t)) ∧ (∀ t, 0 ≤ t → t < 60 → c3 t = (fa 34) t) := hp
  have hc65 := hp3
  refine lv_aload_n hx hb dX10_image_75 rfl (lv_at hl 0 rfl) ?_
  refine va_get (D := G) (ci := 7) (v := .ref (ar 66)) (C := RX10) (T := TX10) (N := 71) (ref := RX10) hx hb hts h1w hown hX.1 hP 0 rfl rfl 66 (by decide) h17w (fun _ h9 => h9) rfl dX10_image_76 ?_
  refine lv_aload_n hx hb dX10_image_79 rfl (lv_at hl 0 rfl) ?_
  refine va_get (D := G) (ci := 7) (v := .ref (ar 35)) (C := RX10) (T := TX10) (N := 71) (ref := RX10) hx hb hts h1w hown hX.1 hP 0 rfl rfl 35 (by decide) h18w (fun _ h9 => h9) rfl dX10_image_80 ?_
  refine cr_v (va_runS (As := [.ref (ar 66), .ref (ar 35)]) (rest := []) ⟨hx, hb, hml, hown, hts⟩ (mX10_be_66_35 l G k ar (uF (uF (uF (uF (uF (uF fi 2 (0)) 58 (1)) 59 (fi 28)) 60 (fi 29)) 61 (fi 30)) 62 (fi 31)) (uF (uF (uF fa 63 (c1)) 64 (c2)) 65 (c3)) fl H.size (iF (iF (iF (iF (iF (iF hR (by omega)) (by omega)) (hR 28)) (hR 29)) (hR 30)) (hR 31)) (iG (iG (iG hRa rc1) rc2) rc3)) (cwS 2 hts (gz [.methodLink RX10 503 yX10_be, .static yX10_be, .initialized RX10] (.code yX10_be cX10_be 3 none) [(42, 5), (42, 6), (0, 5), (42, 7)] rfl) rfl rfl rfl (by decide +kernel) ⟨Nat.le_of_ble_eq_true rfl, Nat.le_of_ble_eq_true rfl⟩) (cr_preS (EZ_ok k) hZ hS hX hP hD hA) rfl rfl hl.1 rfl (lv_room (Nat.le_of_ble_eq_true rfl)) dX10_image_83 ⟨Nat.le_of_ble_eq_true rfl, Nat.le_of_ble_eq_true rfl⟩) hD hS hA (fun u H locs hp hP hD hS => ?_)
  obtain ⟨c4, rfl⟩ : ∃ z, z = u := ⟨_, rfl⟩
  obtain ⟨hP, hD⟩ : va_P G vwCl (wM k ar (uF (uF (uF (uF (uF (uF fi 2 (0)) 58 (1)) 59 (fi 28)) 60 (fi 29)) 61 (fi 30)) 62 (fi 31)) (uF (uF (uF (uF fa 63 (c1)) 64 (c2)) 65 (c3)) 66 (c4)) fl) H ∧ va_D A (wM k ar (uF (uF (uF (uF (uF (uF fi 2 (0)) 58 (1)) 59 (fi 28)) 60 (fi 29)) 61 (fi 30)) 62 (fi 31)) (uF (uF (uF (uF fa 63 (c1)) 64 (c2)) 65 (c3)) 66 (c4)) fl) := ⟨hP, hD⟩
  obtain ⟨rc4, hp4⟩ : (∀ t, inR (c4 t)) ∧ (∀ t, 0 ≤ t → t < 60 → c4 t = (fa 35) t) := hp
  have hc66 := hp4
  refine lv_aload_n hx hb dX10_image_86 rfl (lv_at hl 0 rfl) ?_
  refine va_get (D := G) (ci := 7) (v := .ref (ar 67)) (C := RX10) (T := TX10) (N := 71) (ref := RX10) hx hb hts h1w hown hX.1 hP 0 rfl rfl 67 (by decide) h19w (fun _ h9 => h9) rfl dX10_image_87 ?_
  refine lv_aload_n hx hb dX10_image_90 rfl (lv_at hl 0 rfl) ?_
  refine va_get (D := G) (ci := 7) (v := .ref (ar 36)) (C := RX10) (T := TX10) (N := 71) (ref := RX10) hx hb hts h1w hown hX.1 hP 0 rfl rfl 36 (by decide) h20w (fun _ h9 => h9) rfl dX10_image_91 ?_
  refine cr_v (va_runS (As := [.ref (ar 67), .ref (ar 36)]) (rest := []) ⟨hx, hb, hml, hown, hts⟩ (mX10_be_67_36 l G k ar (uF (uF (uF (uF (uF (uF fi 2 (0)) 58 (1)) 59 (fi 28)) 60 (fi 29)) 61 (fi 30)) 62 (fi 31)) (uF (uF (uF (uF fa 63 (c1)) 64 (c2)) 65 (c3)) 66 (c4)) fl H.size (iF (iF (iF (iF (iF (iF hR (by omega)) (by omega)) (hR 28)) (hR 29)) (hR 30)) (hR 31)) (iG (iG (iG (iG hRa rc1) rc2) rc3) rc4)) (cwS 2 hts (gz [.methodLink RX10 503 yX10_be, .static yX10_be, .initialized RX10] (.code yX10_be cX10_be 3 none) [(42, 5), (42, 6), (0, 5), (42, 7)] rfl) rfl rfl rfl (by decide +kernel) ⟨Nat.le_of_ble_eq_true rfl, Nat.le_of_ble_eq_true rfl⟩) (cr_preS (EZ_ok k) hZ hS hX hP hD hA) rfl rfl hl.1 rfl (lv_room (Nat.le_of_ble_eq_true rfl)) dX10_image_94 ⟨Nat.le_of_ble_eq_true rfl, Nat.le_of_ble_eq_true rfl⟩) hD hS hA (fun u H locs hp hP hD hS => ?_)
  obtain ⟨c5, rfl⟩ : ∃ z, z = u := ⟨_, rfl⟩
  obtain ⟨hP, hD⟩ : va_P G vwCl (wM k ar (uF (uF (uF (uF (uF (uF fi 2 (0)) 58 (1)) 59 (fi 28)) 60 (fi 29)) 61 (fi 30)) 62 (fi 31)) (uF (uF (uF (uF (uF fa 63 (c1)) 64 (c2)) 65 (c3)) 66 (c4)) 67 (c5)) fl) H ∧ va_D A (wM k ar (uF (uF (uF (uF (uF (uF fi 2 (0)) 58 (1)) 59 (fi 28)) 60 (fi 29)) 61 (fi 30)) 62 (fi 31)) (uF (uF (uF (uF (uF fa 63 (c1)) 64 (c2)) 65 (c3)) 66 (c4)) 67 (c5)) fl) := ⟨hP, hD⟩
  obtain ⟨rc5, hp5⟩ : (∀ t, inR (c5 t)) ∧ (∀ t, 0 ≤ t → t < 60 → c5 t = (fa 36) t) := hp
  have hc67 := hp5
  refine lv_aload_n hx hb dX10_image_97 rfl (lv_at hl 0 rfl) ?_
  refine va_get (D := G) (ci := 7) (v := .ref (ar 68)) (C := RX10) (T := TX10) (N := 71) (ref := RX10) hx hb hts h1w hown hX.1 hP 0 rfl rfl 68 (by decide) h21w (fun _ h9 => h9) rfl dX10_image_98 ?_
  refine lv_aload_n hx hb dX10_image_101 rfl (lv_at hl 0 rfl) ?_
  refine va_get (D := G) (ci := 7) (v := .ref (ar 37)) (C := RX10) (T := TX10) (N := 71) (ref := RX10) hx hb hts h1w hown hX.1 hP 0 rfl rfl 37 (by decide) h22w (fun _ h9 => h9) rfl dX10_image_102 ?_
  refine cr_v (va_runS (As := [.ref (ar 68), .ref (ar 37)]) (rest := []) ⟨hx, hb, hml, hown, hts⟩ (mX10_be_68_37 l G k ar (uF (uF (uF (uF (uF (uF fi 2 (0)) 58 (1)) 59 (fi 28)) 60 (fi 29)) 61 (fi 30)) 62 (fi 31)) (uF (uF (uF (uF (uF fa 63 (c1)) 64 (c2)) 65 (c3)) 66 (c4)) 67 (c5)) fl H.size (iF (iF (iF (iF (iF (iF hR (by omega)) (by omega)) (hR 28)) (hR 29)) (hR 30)) (hR 31)) (iG (iG (iG (iG (iG hRa rc1) rc2) rc3) rc4) rc5)) (cwS 2 hts (gz [.methodLink RX10 503 yX10_be, .static yX10_be, .initialized RX10] (.code yX10_be cX10_be 3 none) [(42, 5), (42, 6), (0, 5), (42, 7)] rfl) rfl rfl rfl (by decide +kernel) ⟨Nat.le_of_ble_eq_true rfl, Nat.le_of_ble_eq_true rfl⟩) (cr_preS (EZ_ok k) hZ hS hX hP hD hA) rfl rfl hl.1 rfl (lv_room (Nat.le_of_ble_eq_true rfl)) dX10_image_105 ⟨Nat.le_of_ble_eq_true rfl, Nat.le_of_ble_eq_true rfl⟩) hD hS hA (fun u H locs hp hP hD hS => ?_)
  obtain ⟨c6, rfl⟩ : ∃ z, z = u := ⟨_, rfl⟩
  obtain ⟨hP, hD⟩ : va_P G vwCl (wM k ar (uF (uF (uF (uF (uF (uF fi 2 (0)) 58 (1)) 59 (fi 28)) 60 (fi 29)) 61 (fi 30)) 62 (fi 31)) (uF (uF (uF (uF (uF (uF fa 63 (c1)) 64 (c2)) 65 (c3)) 66 (c4)) 67 (c5)) 68 (c6)) fl) H ∧ va_D A (wM k ar (uF (uF (uF (uF (uF (uF fi 2 (0)) 58 (1)) 59 (fi 28)) 60 (fi 29)) 61 (fi 30)) 62 (fi 31)) (uF (uF (uF (uF (uF (uF fa 63 (c1)) 64 (c2)) 65 (c3)) 66 (c4)) 67 (c5)) 68 (c6)) fl) := ⟨hP, hD⟩
  obtain ⟨rc6, hp6⟩ : (∀ t, inR (c6 t)) ∧ (∀ t, 0 ≤ t → t < 60 → c6 t = (fa 37) t) := hp
  have hc68 := hp6
  refine lv_aload_n hx hb dX10_image_108 rfl (lv_at hl 0 rfl) ?_
  refine va_get (D := G) (ci := 7) (v := .ref (ar 69)) (C := RX10) (T := TX10) (N := 71) (ref := RX10) hx hb hts h1w hown hX.1 hP 0 rfl rfl 69 (by decide) h23w (fun _ h9 => h9) rfl dX10_image_109 ?_
  refine lv_aload_n hx hb dX10_image_112 rfl (lv_at hl 0 rfl) ?_
  refine va_get (D := G) (ci := 7) (v := .ref (ar 38)) (C := RX10) (T := TX10) (N := 71) (ref := RX10) hx hb hts h1w hown hX.1 hP 0 rfl rfl 38 (by decide) h24w (fun _ h9 => h9) rfl dX10_image_113 ?_
  refine cr_v (va_runS (As := [.ref (ar 69), .ref (ar 38)]) (rest := []) ⟨hx, hb, hml, hown, hts⟩ (mX10_be_69_38 l G k ar (uF (uF (uF (uF (uF (uF fi 2 (0)) 58 (1)) 59 (fi 28)) 60 (fi 29)) 61 (fi 30)) 62 (fi 31)) (uF (uF (uF (uF (uF (uF fa 63 (c1)) 64 (c2)) 65 (c3)) 66 (c4)) 67 (c5)) 68 (c6)) fl H.size (iF (iF (iF (iF (iF (iF hR (by omega)) (by omega)) (hR 28)) (hR 29)) (hR 30)) (hR 31)) (iG (iG (iG (iG (iG (iG hRa rc1) rc2) rc3) rc4) rc5) rc6)) (cwS 2 hts (gz [.methodLink RX10 503 yX10_be, .static yX10_be, .initialized RX10] (.code yX10_be cX10_be 3 none) [(42, 5), (42, 6), (0, 5), (42, 7)] rfl) rfl rfl rfl (by decide +kernel) ⟨Nat.le_of_ble_eq_true rfl, Nat.le_of_ble_eq_true rfl⟩) (cr_preS (EZ_ok k) hZ hS hX hP hD hA) rfl rfl hl.1 rfl (lv_room (Nat.le_of_ble_eq_true rfl)) dX10_image_116 ⟨Nat.le_of_ble_eq_true rfl, Nat.le_of_ble_eq_true rfl⟩) hD hS hA (fun u H locs hp hP hD hS => ?_)
  obtain ⟨c7, rfl⟩ : ∃ z, z = u := ⟨_, rfl⟩
  obtain ⟨hP, hD⟩ : va_P G vwCl (wM k ar (uF (uF (uF (uF (uF (uF fi 2 (0)) 58 (1)) 59 (fi 28)) 60 (fi 29)) 61 (fi 30)) 62 (fi 31)) (uF (uF (uF (uF (uF (uF (uF fa 63 (c1)) 64 (c2)) 65 (c3)) 66 (c4)) 67 (c5)) 68 (c6)) 69 (c7)) fl) H ∧ va_D A (wM k ar (uF (uF (uF (uF (uF (uF fi 2 (0)) 58 (1)) 59 (fi 28)) 60 (fi 29)) 61 (fi 30)) 62 (fi 31)) (uF (uF (uF (uF (uF (uF (uF fa 63 (c1)) 64 (c2)) 65 (c3)) 66 (c4)) 67 (c5)) 68 (c6)) 69 (c7)) fl) := ⟨hP, hD⟩
  obtain ⟨rc7, hp7⟩ : (∀ t, inR (c7 t)) ∧ (∀ t, 0 ≤ t → t < 60 → c7 t = (fa 38) t) := hp
  have hc69 := hp7
  refine lv_aload_n hx hb dX10_image_119 rfl (lv_at hl 0 rfl) ?_
  refine va_get (D := G) (ci := 7) (v := .ref (ar 70)) (C := RX10) (T := TX10) (N := 71) (ref := RX10) hx hb hts h1w hown hX.1 hP 0 rfl rfl 70 (by decide) h25w (fun _ h9 => h9) rfl dX10_image_120 ?_
  refine lv_aload_n hx hb dX10_image_123 rfl (lv_at hl 0 rfl) ?_
  refine va_get (D := G) (ci := 7) (v := .ref (ar 11)) (C := RX10) (T := TX10) (N := 71) (ref := RX10) hx hb hts h1w hown hX.1 hP 0 rfl rfl 11 (by decide) h26w (fun _ h9 => h9) rfl dX10_image_124 ?_
  refine cr_v (va_runS (As := [.ref (ar 70), .ref (ar 11)]) (rest := []) ⟨hx, hb, hml, hown, hts⟩ (mX10_be_70_11 l G k ar (uF (uF (uF (uF (uF (uF fi 2 (0)) 58 (1)) 59 (fi 28)) 60 (fi 29)) 61 (fi 30)) 62 (fi 31)) (uF (uF (uF (uF (uF (uF (uF fa 63 (c1)) 64 (c2)) 65 (c3)) 66 (c4)) 67 (c5)) 68 (c6)) 69 (c7)) fl H.size (iF (iF (iF (iF (iF (iF hR (by omega)) (by omega)) (hR 28)) (hR 29)) (hR 30)) (hR 31)) (iG (iG (iG (iG (iG (iG (iG hRa rc1) rc2) rc3) rc4) rc5) rc6) rc7)) (cwS 2 hts (gz [.methodLink RX10 503 yX10_be, .static yX10_be, .initialized RX10] (.code yX10_be cX10_be 3 none) [(42, 5), (42, 6), (0, 5), (42, 7)] rfl) rfl rfl rfl (by decide +kernel) ⟨Nat.le_of_ble_eq_true rfl, Nat.le_of_ble_eq_true rfl⟩) (cr_preS (EZ_ok k) hZ hS hX hP hD hA) rfl rfl hl.1 rfl (lv_room (Nat.le_of_ble_eq_true rfl)) dX10_image_127 ⟨Nat.le_of_ble_eq_true rfl, Nat.le_of_ble_eq_true rfl⟩) hD hS hA (fun u H locs hp hP hD hS => ?_)
  obtain ⟨c8, rfl⟩ : ∃ z, z = u := ⟨_, rfl⟩
  obtain ⟨hP, hD⟩ : va_P G vwCl (wM k ar (uF (uF (uF (uF (uF (uF fi 2 (0)) 58 (1)) 59 (fi 28)) 60 (fi 29)) 61 (fi 30)) 62 (fi 31)) (uF (uF (uF (uF (uF (uF (uF (uF fa 63 (c1)) 64 (c2)) 65 (c3)) 66 (c4)) 67 (c5)) 68 (c6)) 69 (c7)) 70 (c8)) fl) H ∧ va_D A (wM k ar (uF (uF (uF (uF (uF (uF fi 2 (0)) 58 (1)) 59 (fi 28)) 60 (fi 29)) 61 (fi 30)) 62 (fi 31)) (uF (uF (uF (uF (uF (uF (uF (uF fa 63 (c1)) 64 (c2)) 65 (c3)) 66 (c4)) 67 (c5)) 68 (c6)) 69 (c7)) 70 (c8)) fl) := ⟨hP, hD⟩
  obtain ⟨rc8, hp8⟩ : (∀ t, inR (c8 t)) ∧ (∀ t, 0 ≤ t → t < 3 → c8 t = (fa 11) t) := hp
  have hc70 := hp8
  exact W.vret hx hb hr (fun t ht hW => ⟨⟨(c1, c2, c3, c4, c5, c6, c7, c8, 0, 1, fi 28, fi 29, fi 30, fi 31), rfl, (show (∀ t, inR (c1 t)) ∧ (∀ t, inR (c2 t)) ∧ (∀ t, inR (c3 t)) ∧ (∀ t, inR (c4 t)) ∧ (∀ t, inR (c5 t)) ∧ (∀ t, inR (c6 t)) ∧ (∀ t, inR (c7 t)) ∧ (∀ t, inR (c8 t)) ∧ (inR 0) ∧ (inR 1) ∧ (inR (fi 28)) ∧ (inR (fi 29)) ∧ (inR (fi 30)) ∧ (inR (fi 31)) ∧ ((0 ≤ (fi 29) ∧ (fi 29) ≤ 60 ∧ 0 ≤ (fi 31) ∧ (fi 31) ≤ 6 ∧ 1 = 1 ∧ (∀ i, 0 ≤ i → i < (fi 29) → ¬ c3 i = 2 → 0 ≤ c4 i ∧ c4 i < 7)) ∧ ((fi 28) = fi 28 ∧ (fi 29) = fi 29 ∧ (fi 31) = fi 31) ∧ (∀ t, 0 ≤ t → t < 7 → c1 t = fa 32 t) ∧ (∀ t, 0 ≤ t → t < 6 → c2 t = fa 33 t) ∧ (∀ t, 0 ≤ t → t < 60 → c3 t = fa 34 t) ∧ (∀ t, 0 ≤ t → t < 60 → c4 t = fa 35 t) ∧ (∀ t, 0 ≤ t → t < 60 → c5 t = fa 36 t) ∧ (∀ t, 0 ≤ t → t < 60 → c6 t = fa 37 t)) from ⟨rc1, rc2, rc3, rc4, rc5, rc6, rc7, rc8, (by omega), (by omega), (hR 28), (hR 29), (hR 30), (hR 31), (by exact ⟨⟨by omega, by omega, by omega, by omega, by omega, fun i h1 h2 h3 => by have c1 := hc65 i h1 (by omega); have c2 := hc66 i h1 (by omega); have c3 := hPM i h1 h2 (by omega); omega⟩, by omega, hc63, hc64, hc65, hc66, hc67, hc68⟩)⟩), by rw [ht]; exact hP, hD⟩, hS.F ht⟩) hS.2.2 dX10_image_130

