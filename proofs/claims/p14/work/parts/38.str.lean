/-- Enum.ordinal of a word -/
theorem mE_ordinal (l : Launch) (G : va_G) (k : Nat → ClassId) (o : Int) (sz : Nat) (ho : 0 ≤ o ∧ o ≤ 23) : CNi l G k (EZ k) yJx29ce0_ordinal_8abf5 wzJx29ce0_ordinal_8abf5 ({ frames := 0, cells := 0, slots := 0, locals := 0 }) [.ref (k (400 + o.toNat))] sz [] (fun (r0 : Int32) (u : Int) => r0 = Int32.ofInt u ∧ inR u ∧ u = o) (fun (u : Int) => []) := by
  refine Met.ofW (cc := cJx29ce0_ordinal_8abf5) (maxL := 1) (ret := (some .int)) (by decide) rfl ?_
  intro p e s m args below meth c s₁ B hml hv
  obtain ⟨rfl, hsz, hP, hX, hD0, hZ0⟩ := hv
  have hx := B.exec
  have hb := B.bytes
  have hr := B.returns
  have hts := atoms_spec (ws := wzJx29ce0_ordinal_8abf5) B.pre
  have hown : s.vm.findClass RJx29ce0 = some m.cls := findClass_of_methodNamed B.named
  subst hsz
  have hD := hD0.self (sz := s.heap.size)
  have hZ := hZ0
  generalize hAe : va_A [] s.heap.size = A at hD hZ ⊢
  have hS : va_S A s.heap s.heap [] := va_S.rf
  have hl := lv_entry ([.ref (k (400 + o.toNat))]) (n := 1) (Nat.le_of_ble_eq_true rfl)
  rw [lg_entry_eq]
  generalize (lg_sl ([.ref (k (400 + o.toNat))]) ++ List.replicate (1 - (lg_sl ([.ref (k (400 + o.toNat))])).length) Slot.unset).toArray = ls at hl ⊢
  have hl : lv_has ls 1 [(0, .ref (k (400 + o.toNat)))] := hl
  have h0w := hts (.fieldLink RJx29ce0 7 "java/lang/Enum" "ordinal" "I") (wz_at 12 20 rfl)
  refine lv_aload_n hx hb dJx29ce0_ordinal_8abf5_0 rfl (lv_at hl 0 rfl) ?_
  refine va_getX (o := "java/lang/Enum") (n := "ordinal") (d := "I") (ref := "java/lang/Enum") (i := o.toNat) hx hb (ez_ord hZ) (by omega) hS hown h0w (fun _ h9 => h9) dJx29ce0_ordinal_8abf5_1 ?_
  have e9 : ((o.toNat : Nat) : Int) = o := by omega
  exact W.iret (v := Int32.ofInt ((o.toNat : Nat) : Int)) hx hb hr (fun t ht hW => ⟨⟨Int32.ofInt ((o.toNat : Nat) : Int), o, rfl, ⟨by rw [e9], ⟨by omega, by omega⟩, rfl⟩, by rw [ht]; exact hP, hD⟩, hS.F ht⟩) hS.2.2 dJx29ce0_ordinal_8abf5_4
set_option maxHeartbeats 4000000 in
set_option maxRecDepth 100000 in
theorem mJ0_coder_7d493 (l : Launch) (G : va_G) (k : Nat → ClassId) (sx : Nat) (sz : Nat) (hsx : sx < 47) : CNi l G k (EZ k) yJ0_coder_7d493 wzJ0_coder_7d493 ({ frames := 0, cells := 0, slots := 0, locals := 0 }) [.ref (k (111 + sx))] sz [] (fun (r0 : Int32) (u : Int) => r0 = Int32.ofInt (u) ∧ (inR u) ∧ (u = 0)) (fun (u : Int) => []) := by
  refine Met.ofW (cc := cJ0_coder_7d493) (maxL := 1) (ret := (some .byte)) (by decide) rfl ?_
  intro p e s m args below meth c s₁ B hml hv
  obtain ⟨rfl, hsz, hP, hX, hD0, hZ0⟩ := hv
  have hx := B.exec
  have hb := B.bytes
  have hr := B.returns
  have hts := atoms_spec (ws := wzJ0_coder_7d493) B.pre
  have hown : s.vm.findClass RJ0 = some m.cls := findClass_of_methodNamed B.named
  subst hsz
  have hD := hD0.self (sz := s.heap.size)
  have hZ := hZ0
  generalize hAe : va_A [] s.heap.size = A at hD hZ ⊢
  have hA : ∀ q : Nat, s.heap.size ≤ q → A q := fun q h => by rw [← hAe]; exact Or.inr h
  have hS : va_S A s.heap s.heap [] := va_S.rf
  have hl := lv_entry ([.ref (k (111 + sx))]) (n := 1) (Nat.le_of_ble_eq_true rfl)
  rw [lg_entry_eq]
  generalize (lg_sl ([.ref (k (111 + sx))]) ++ List.replicate (1 - (lg_sl ([.ref (k (111 + sx))])).length) Slot.unset).toArray = ls at hl ⊢
  have hl : lv_has ls 1 [(0, .ref (k (111 + sx)))] := hl
  obtain ⟨H, eH⟩ : ∃ H, H = s.heap := ⟨_, rfl⟩
  rw [← eH] at hP
  have hS : va_S A s.heap H [] := by rw [eH]; exact hS
  have gW : s.heap = H := eH.symm
  refine iv_heap gW ?_
  have h0w := hts (.fieldLink RJ0 38 "java/lang/String" "COMPACT_STRINGS" "Z") (wz_at 10 10 rfl)
  have h1w := hts (.fieldLink RJ0 15 "java/lang/String" "coder" "B") (wz_at 10 11 rfl)
  refine va_gets (C := "java/lang/String") (n := "COMPACT_STRINGS") (d := "Z") (ref := "java/lang/String") (v := .int (Int32.ofInt (1))) hx hb (ez_cs hZ) hS hown h0w (fun _ h9 => h9) dJ0_coder_7d493_0 ?_
  refine iv_if_eq (tgt := 13) hx hb (by omega) dJ0_coder_7d493_3 (by decide) (fun q => absurd q (by omega)) (fun _ => ?_)
  refine lv_aload_n hx hb dJ0_coder_7d493_6 rfl (lv_at hl 0 rfl) ?_
  refine vk_getf (o := sS) (n := "coder") (d := "B") (ref := sS) (v := .int (Int32.ofInt (0))) hx hb ((ez_str hZ (i := sx) (by omega)).2.1) hS hown h1w (fun _ h9 => h9) dJ0_coder_7d493_7 ?_
  refine lv_goto (tgt := 14) hx hb dJ0_coder_7d493_10 (by decide) ?_
  exact W.zret (v := Int32.ofInt (0)) hx hb hr (nz_byte (by omega)) (fun t ht hW => ⟨⟨Int32.ofInt (0), (0), rfl, ⟨rfl, (show (inR 0) ∧ (0 = 0) from ⟨(by omega), (by omega)⟩)⟩, by rw [ht]; exact hP, hD⟩, hS.F ht⟩) hS.2.2 dJ0_coder_7d493_14

set_option maxHeartbeats 4000000 in
set_option maxRecDepth 100000 in
theorem mJ0_isLatin1_aae02 (l : Launch) (G : va_G) (k : Nat → ClassId) (sx : Nat) (sz : Nat) (hsx : sx < 47) : CNi l G k (EZ k) yJ0_isLatin1_aae02 wzJ0_isLatin1_aae02 ({ frames := 0, cells := 0, slots := 0, locals := 0 }) [.ref (k (111 + sx))] sz [] (fun (r0 : Int32) (u : Int) => r0 = Int32.ofInt (u) ∧ (inR u) ∧ (u = 1)) (fun (u : Int) => []) := by
  refine Met.ofW (cc := cJ0_isLatin1_aae02) (maxL := 1) (ret := (some .boolean)) (by decide) rfl ?_
  intro p e s m args below meth c s₁ B hml hv
  obtain ⟨rfl, hsz, hP, hX, hD0, hZ0⟩ := hv
  have hx := B.exec
  have hb := B.bytes
  have hr := B.returns
  have hts := atoms_spec (ws := wzJ0_isLatin1_aae02) B.pre
  have hown : s.vm.findClass RJ0 = some m.cls := findClass_of_methodNamed B.named
  subst hsz
  have hD := hD0.self (sz := s.heap.size)
  have hZ := hZ0
  generalize hAe : va_A [] s.heap.size = A at hD hZ ⊢
  have hA : ∀ q : Nat, s.heap.size ≤ q → A q := fun q h => by rw [← hAe]; exact Or.inr h
  have hS : va_S A s.heap s.heap [] := va_S.rf
  have hl := lv_entry ([.ref (k (111 + sx))]) (n := 1) (Nat.le_of_ble_eq_true rfl)
  rw [lg_entry_eq]
  generalize (lg_sl ([.ref (k (111 + sx))]) ++ List.replicate (1 - (lg_sl ([.ref (k (111 + sx))])).length) Slot.unset).toArray = ls at hl ⊢
  have hl : lv_has ls 1 [(0, .ref (k (111 + sx)))] := hl
  obtain ⟨H, eH⟩ : ∃ H, H = s.heap := ⟨_, rfl⟩
  rw [← eH] at hP
  have hS : va_S A s.heap H [] := by rw [eH]; exact hS
  have gW : s.heap = H := eH.symm
  refine iv_heap gW ?_
  have h0w := hts (.fieldLink RJ0 38 "java/lang/String" "COMPACT_STRINGS" "Z") (wz_at 10 10 rfl)
  have h1w := hts (.fieldLink RJ0 15 "java/lang/String" "coder" "B") (wz_at 10 11 rfl)
  refine va_gets (C := "java/lang/String") (n := "COMPACT_STRINGS") (d := "Z") (ref := "java/lang/String") (v := .int (Int32.ofInt (1))) hx hb (ez_cs hZ) hS hown h0w (fun _ h9 => h9) dJ0_isLatin1_aae02_0 ?_
  refine iv_if_eq (tgt := 17) hx hb (by omega) dJ0_isLatin1_aae02_3 (by decide) (fun q => absurd q (by omega)) (fun _ => ?_)
  refine lv_aload_n hx hb dJ0_isLatin1_aae02_6 rfl (lv_at hl 0 rfl) ?_
  refine vk_getf (o := sS) (n := "coder") (d := "B") (ref := sS) (v := .int (Int32.ofInt (0))) hx hb ((ez_str hZ (i := sx) (by omega)).2.1) hS hown h1w (fun _ h9 => h9) dJ0_isLatin1_aae02_7 ?_
  refine iv_if_ne (tgt := 17) hx hb (by omega) dJ0_isLatin1_aae02_10 (by decide) (fun q => absurd q (by omega)) (fun _ => ?_)
  refine lv_iconst (v := Int32.ofInt 1) hx hb dJ0_isLatin1_aae02_13 (by decide +kernel) ?_
  refine lv_goto (tgt := 18) hx hb dJ0_isLatin1_aae02_14 (by decide) ?_
  exact W.zret (v := Int32.ofInt (1)) hx hb hr (nz_bool (by omega)) (fun t ht hW => ⟨⟨Int32.ofInt (1), (1), rfl, ⟨rfl, (show (inR 1) ∧ (1 = 1) from ⟨(by omega), (by omega)⟩)⟩, by rw [ht]; exact hP, hD⟩, hS.F ht⟩) hS.2.2 dJ0_isLatin1_aae02_18

set_option maxHeartbeats 4000000 in
set_option maxRecDepth 100000 in
theorem mJ0_length_8abf5 (l : Launch) (G : va_G) (k : Nat → ClassId) (sx : Nat) (sz : Nat) (hsx : sx < 47) : CNi l G k (EZ k) yJ0_length_8abf5 wzJ0_length_8abf5 ({ frames := 1, cells := 0, slots := 0, locals := 20 }) [.ref (k (111 + sx))] sz [] (fun (r0 : Int32) (u : Int) => r0 = Int32.ofInt (u) ∧ (inR u) ∧ (u = ((lenS.getD sx 0 : Nat) : Int))) (fun (u : Int) => []) := by
  refine Met.ofW (cc := cJ0_length_8abf5) (maxL := 1) (ret := (some .int)) (by decide) rfl ?_
  intro p e s m args below meth c s₁ B hml hv
  obtain ⟨rfl, hsz, hP, hX, hD0, hZ0⟩ := hv
  have hx := B.exec
  have hb := B.bytes
  have hr := B.returns
  have hts := atoms_spec (ws := wzJ0_length_8abf5) B.pre
  have hown : s.vm.findClass RJ0 = some m.cls := findClass_of_methodNamed B.named
  subst hsz
  have hD := hD0.self (sz := s.heap.size)
  have hZ := hZ0
  generalize hAe : va_A [] s.heap.size = A at hD hZ ⊢
  have hA : ∀ q : Nat, s.heap.size ≤ q → A q := fun q h => by rw [← hAe]; exact Or.inr h
  have hS : va_S A s.heap s.heap [] := va_S.rf
  have hl := lv_entry ([.ref (k (111 + sx))]) (n := 1) (Nat.le_of_ble_eq_true rfl)
  rw [lg_entry_eq]
  generalize (lg_sl ([.ref (k (111 + sx))]) ++ List.replicate (1 - (lg_sl ([.ref (k (111 + sx))])).length) Slot.unset).toArray = ls at hl ⊢
  have hl : lv_has ls 1 [(0, .ref (k (111 + sx)))] := hl
  obtain ⟨H, eH⟩ : ∃ H, H = s.heap := ⟨_, rfl⟩
  rw [← eH] at hP
  have hS : va_S A s.heap H [] := by rw [eH]; exact hS
  have gW : s.heap = H := eH.symm
  refine iv_heap gW ?_
  have h0w := hts (.fieldLink RJ0 9 "java/lang/String" "value" "[B") (wz_at 10 5 rfl)
  refine lv_aload_n hx hb dJ0_length_8abf5_0 rfl (lv_at hl 0 rfl) ?_
  refine vk_getf (o := sS) (n := "value") (d := "[B") (ref := sS) (v := .ref (k (600 + sx))) hx hb ((ez_str hZ (i := sx) (by omega)).2.2.1) hS hown h0w (fun _ h9 => h9) dJ0_length_8abf5_1 ?_
  refine va_tlen (v := Int32.ofInt ((lenS.getD sx 0 : Nat) : Int)) hx hb (ez_str hZ (i := sx) (by omega)).2.2.2 hS (ofn_ _) dJ0_length_8abf5_4 ?_
  refine iv_top (fun z1 ez1 => ?_)
  have rz1 : 0 ≤ z1 ∧ z1 ≤ 6 := ez1 ▸ lenS_r sx (by omega)
  refine lv_aload_n hx hb dJ0_length_8abf5_5 rfl (lv_at hl 0 rfl) ?_
  refine c0_i (va_runV (As := []) (rest := [.int (Int32.ofInt (z1))]) ⟨hx, hb, hml, hown, hts⟩ (mJ0_coder_7d493 l G k sx H.size (show sx < 47 from by omega)) (cwV 0 hts (gz [.methodLink RJ0 335 yJ0_coder_7d493, .instanceMethod yJ0_coder_7d493, .selects RJ0 yJ0_coder_7d493 yJ0_coder_7d493, .initialized RJ0] (.code yJ0_coder_7d493 cJ0_coder_7d493 1 (some .byte)) [(10, 6), (10, 7), (10, 8), (10, 3), (10, 9)] rfl) rfl rfl rfl (by decide +kernel) ⟨Nat.le_of_ble_eq_true rfl, Nat.le_of_ble_eq_true rfl⟩) (cs_preV hZ hS hX hP hD hA (ez_str hZ (i := sx) (by omega)).1) rfl rfl hl.1 rfl (lv_room (Nat.le_of_ble_eq_true rfl)) dJ0_length_8abf5_6 ⟨Nat.le_of_ble_eq_true rfl, Nat.le_of_ble_eq_true rfl⟩) hP hD hS hA (fun r u H locs hp hP hD hS => ?_)
  obtain ⟨c2, rfl⟩ : ∃ z, z = u := ⟨_, rfl⟩
  obtain ⟨h9, rc2, hp2⟩ : r = Int32.ofInt c2 ∧ (inR c2) ∧ (c2 = 0) := hp
  subst h9
  refine iv_shr hx hb dJ0_length_8abf5_9 ?_
  refine iv_top (fun z3 ez3 => ?_)
  have rz3 : inR z3 := ez3 ▸ bShr_r _ _
  have q9 := bShr0 (x := ((lenS.getD sx 0 : Nat) : Int)) (by have := lenS_r sx hsx; omega)
  exact W.iret (v := Int32.ofInt (z3)) hx hb hr (fun t ht hW => ⟨⟨Int32.ofInt (z3), (z3), rfl, ⟨rfl, (show (inR z3) ∧ (z3 = ((lenS.getD sx 0 : Nat) : Int)) from ⟨(by omega), (by subst_vars; exact q9)⟩)⟩, by rw [ht]; exact hP, hD⟩, hS.F ht⟩) hS.2.2 dJ0_length_8abf5_10

set_option maxHeartbeats 4000000 in
set_option maxRecDepth 100000 in
theorem mJ3_checkIndex_n (l : Launch) (G : va_G) (k : Nat → ClassId) (i0 : Int) (n0 : Int) (sz : Nat) (hr_i0 : inR i0) (hr_n0 : inR n0) (hi : 0 ≤ i0 ∧ i0 < n0) : CNi l G k (EZ k) yJ3_checkIndex_8e157 wzJ3_checkIndex_8e157 ({ frames := 0, cells := 0, slots := 0, locals := 0 }) [.int (Int32.ofInt (i0)), .int (Int32.ofInt (n0)), .null] sz [] (fun (r0 : Int32) (u : Int) => r0 = Int32.ofInt (u) ∧ (inR u) ∧ (True)) (fun (u : Int) => []) := by
  refine Met.ofW (cc := cJ3_checkIndex_8e157) (maxL := 3) (ret := (some .int)) (by decide) rfl ?_
  intro p e s m args below meth c s₁ B hml hv
  obtain ⟨rfl, hsz, hP, hX, hD0, hZ0⟩ := hv
  have hx := B.exec
  have hb := B.bytes
  have hr := B.returns
  have hts := atoms_spec (ws := wzJ3_checkIndex_8e157) B.pre
  have hown : s.vm.findClass RJ3 = some m.cls := findClass_of_methodNamed B.named
  subst hsz
  have hD := hD0.self (sz := s.heap.size)
  have hZ := hZ0
  generalize hAe : va_A [] s.heap.size = A at hD hZ ⊢
  have hA : ∀ q : Nat, s.heap.size ≤ q → A q := fun q h => by rw [← hAe]; exact Or.inr h
  have hS : va_S A s.heap s.heap [] := va_S.rf
  have hl := lv_entry ([.int (Int32.ofInt (i0)), .int (Int32.ofInt (n0)), .null]) (n := 3) (Nat.le_of_ble_eq_true rfl)
  rw [lg_entry_eq]
  generalize (lg_sl ([.int (Int32.ofInt (i0)), .int (Int32.ofInt (n0)), .null]) ++ List.replicate (3 - (lg_sl ([.int (Int32.ofInt (i0)), .int (Int32.ofInt (n0)), .null])).length) Slot.unset).toArray = ls at hl ⊢
  have hl : lv_has ls 3 [(0, .int (Int32.ofInt (i0))), (1, .int (Int32.ofInt (n0))), (2, .null)] := hl
  obtain ⟨H, eH⟩ : ∃ H, H = s.heap := ⟨_, rfl⟩
  rw [← eH] at hP
  have hS : va_S A s.heap H [] := by rw [eH]; exact hS
  have gW : s.heap = H := eH.symm
  refine iv_heap gW ?_
  refine lv_iload_n hx hb dJ3_checkIndex_8e157_0 rfl (lv_at hl 0 rfl) ?_
  refine iv_if_lt (tgt := 9) hx hb (by omega) dJ3_checkIndex_8e157_1 (by decide) (fun q1 => ?_) (fun q1 => ?_)
  · exfalso; omega
  · refine lv_iload_n hx hb dJ3_checkIndex_8e157_4 rfl (lv_at hl 0 rfl) ?_
    refine lv_iload_n hx hb dJ3_checkIndex_8e157_5 rfl (lv_at hl 1 rfl) ?_
    refine iv_icmp_lt (tgt := 16) hx hb (by omega) (by omega) dJ3_checkIndex_8e157_6 (by decide) (fun q2 => ?_) (fun q2 => ?_)
    · refine lv_iload_n hx hb dJ3_checkIndex_8e157_16 rfl (lv_at hl 0 rfl) ?_
      exact W.iret (v := Int32.ofInt (i0)) hx hb hr (fun t ht hW => ⟨⟨Int32.ofInt (i0), (i0), rfl, ⟨rfl, (show (inR i0) ∧ (True) from ⟨(by omega), trivial⟩)⟩, by rw [ht]; exact hP, hD⟩, hS.F ht⟩) hS.2.2 dJ3_checkIndex_8e157_17
    · exfalso; omega

set_option maxHeartbeats 4000000 in
set_option maxRecDepth 100000 in
theorem mJ3_checkIndex_r (l : Launch) (G : va_G) (k : Nat → ClassId) (i0 : Int) (n0 : Int) (t0 : Nat) (sz : Nat) (hr_i0 : inR i0) (hr_n0 : inR n0) (hi : 0 ≤ i0 ∧ i0 < n0) : CNi l G k (EZ k) yJ3_checkIndex_8e157 wzJ3_checkIndex_8e157 ({ frames := 0, cells := 0, slots := 0, locals := 0 }) [.int (Int32.ofInt (i0)), .int (Int32.ofInt (n0)), .ref (t0)] sz [] (fun (r0 : Int32) (u : Int) => r0 = Int32.ofInt (u) ∧ (inR u) ∧ (True)) (fun (u : Int) => []) := by
  refine Met.ofW (cc := cJ3_checkIndex_8e157) (maxL := 3) (ret := (some .int)) (by decide) rfl ?_
  intro p e s m args below meth c s₁ B hml hv
  obtain ⟨rfl, hsz, hP, hX, hD0, hZ0⟩ := hv
  have hx := B.exec
  have hb := B.bytes
  have hr := B.returns
  have hts := atoms_spec (ws := wzJ3_checkIndex_8e157) B.pre
  have hown : s.vm.findClass RJ3 = some m.cls := findClass_of_methodNamed B.named
  subst hsz
  have hD := hD0.self (sz := s.heap.size)
  have hZ := hZ0
  generalize hAe : va_A [] s.heap.size = A at hD hZ ⊢
  have hA : ∀ q : Nat, s.heap.size ≤ q → A q := fun q h => by rw [← hAe]; exact Or.inr h
  have hS : va_S A s.heap s.heap [] := va_S.rf
  have hl := lv_entry ([.int (Int32.ofInt (i0)), .int (Int32.ofInt (n0)), .ref (t0)]) (n := 3) (Nat.le_of_ble_eq_true rfl)
  rw [lg_entry_eq]
  generalize (lg_sl ([.int (Int32.ofInt (i0)), .int (Int32.ofInt (n0)), .ref (t0)]) ++ List.replicate (3 - (lg_sl ([.int (Int32.ofInt (i0)), .int (Int32.ofInt (n0)), .ref (t0)])).length) Slot.unset).toArray = ls at hl ⊢
  have hl : lv_has ls 3 [(0, .int (Int32.ofInt (i0))), (1, .int (Int32.ofInt (n0))), (2, .ref (t0))] := hl
  obtain ⟨H, eH⟩ : ∃ H, H = s.heap := ⟨_, rfl⟩
  rw [← eH] at hP
  have hS : va_S A s.heap H [] := by rw [eH]; exact hS
  have gW : s.heap = H := eH.symm
  refine iv_heap gW ?_
  refine lv_iload_n hx hb dJ3_checkIndex_8e157_0 rfl (lv_at hl 0 rfl) ?_
  refine iv_if_lt (tgt := 9) hx hb (by omega) dJ3_checkIndex_8e157_1 (by decide) (fun q1 => ?_) (fun q1 => ?_)
  · exfalso; omega
  · refine lv_iload_n hx hb dJ3_checkIndex_8e157_4 rfl (lv_at hl 0 rfl) ?_
    refine lv_iload_n hx hb dJ3_checkIndex_8e157_5 rfl (lv_at hl 1 rfl) ?_
    refine iv_icmp_lt (tgt := 16) hx hb (by omega) (by omega) dJ3_checkIndex_8e157_6 (by decide) (fun q2 => ?_) (fun q2 => ?_)
    · refine lv_iload_n hx hb dJ3_checkIndex_8e157_16 rfl (lv_at hl 0 rfl) ?_
      exact W.iret (v := Int32.ofInt (i0)) hx hb hr (fun t ht hW => ⟨⟨Int32.ofInt (i0), (i0), rfl, ⟨rfl, (show (inR i0) ∧ (True) from ⟨(by omega), trivial⟩)⟩, by rw [ht]; exact hP, hD⟩, hS.F ht⟩) hS.2.2 dJ3_checkIndex_8e157_17
    · exfalso; omega

set_option maxHeartbeats 4000000 in
set_option maxRecDepth 100000 in
theorem mJ0_checkIndex_df160 (l : Launch) (G : va_G) (k : Nat → ClassId) (i0 : Int) (n0 : Int) (sz : Nat) (hr_i0 : inR i0) (hr_n0 : inR n0) (hi : 0 ≤ i0 ∧ i0 < n0) : CNv l G k (EZ k) yJ0_checkIndex_df160 wzJ0_checkIndex_df160 ({ frames := 1, cells := 0, slots := 0, locals := 22 }) [.int (Int32.ofInt (i0)), .int (Int32.ofInt (n0))] sz [] (fun (u : Unit) => (True)) (fun (u : Unit) => []) := by
  refine Met.ofW (cc := cJ0_checkIndex_df160) (maxL := 2) (ret := none) (by decide) rfl ?_
  intro p e s m args below meth c s₁ B hml hv
  obtain ⟨rfl, hsz, hP, hX, hD0, hZ0⟩ := hv
  have hx := B.exec
  have hb := B.bytes
  have hr := B.returns
  have hts := atoms_spec (ws := wzJ0_checkIndex_df160) B.pre
  have hown : s.vm.findClass RJ0 = some m.cls := findClass_of_methodNamed B.named
  subst hsz
  have hD := hD0.self (sz := s.heap.size)
  have hZ := hZ0
  generalize hAe : va_A [] s.heap.size = A at hD hZ ⊢
  have hA : ∀ q : Nat, s.heap.size ≤ q → A q := fun q h => by rw [← hAe]; exact Or.inr h
  have hS : va_S A s.heap s.heap [] := va_S.rf
  have hl := lv_entry ([.int (Int32.ofInt (i0)), .int (Int32.ofInt (n0))]) (n := 2) (Nat.le_of_ble_eq_true rfl)
  rw [lg_entry_eq]
  generalize (lg_sl ([.int (Int32.ofInt (i0)), .int (Int32.ofInt (n0))]) ++ List.replicate (2 - (lg_sl ([.int (Int32.ofInt (i0)), .int (Int32.ofInt (n0))])).length) Slot.unset).toArray = ls at hl ⊢
  have hl : lv_has ls 2 [(0, .int (Int32.ofInt (i0))), (1, .int (Int32.ofInt (n0)))] := hl
  obtain ⟨H, eH⟩ : ∃ H, H = s.heap := ⟨_, rfl⟩
  rw [← eH] at hP
  have hS : va_S A s.heap H [] := by rw [eH]; exact hS
  have gW : s.heap = H := eH.symm
  refine iv_heap gW ?_
  have h0w := hts (.fieldLink RJ0 1053 "jdk/internal/util/Preconditions" "SIOOBE_FORMATTER" "Ljava/util/function/BiFunction;") (wz_at 11 3 rfl)
  refine lv_iload_n hx hb dJ0_checkIndex_df160_0 rfl (lv_at hl 0 rfl) ?_
  refine lv_iload_n hx hb dJ0_checkIndex_df160_1 rfl (lv_at hl 1 rfl) ?_
  rcases ez_pf hZ with z9 | ⟨t9, z9⟩
  · refine va_gets (C := "jdk/internal/util/Preconditions") (n := "SIOOBE_FORMATTER") (d := "Ljava/util/function/BiFunction;") (ref := "jdk/internal/util/Preconditions") (v := .null) hx hb z9 hS hown h0w (fun _ h9 => h9) dJ0_checkIndex_df160_2 ?_
    refine c0_i (va_runS (As := [.int (Int32.ofInt (i0)), .int (Int32.ofInt (n0)), .null]) (rest := []) ⟨hx, hb, hml, hown, hts⟩ (mJ3_checkIndex_n l G k i0 n0 H.size (by omega) (by omega) (show 0 ≤ i0 ∧ i0 < n0 from by omega)) (va_cwS 3 hts (gz [.methodLink RJ0 1059 yJ3_checkIndex_8e157, .static yJ3_checkIndex_8e157, .initialized RJ3] (.code yJ3_checkIndex_8e157 cJ3_checkIndex_8e157 3 (some .int)) [(11, 4), (11, 5), (11, 6), (11, 7)] rfl) rfl rfl rfl (by decide +kernel) ⟨Nat.le_of_ble_eq_true rfl, Nat.le_of_ble_eq_true rfl⟩) (cr_pre0 (EZ_ok k) hZ hS hX hP hD hA) rfl rfl hl.1 rfl (lv_room (Nat.le_of_ble_eq_true rfl)) dJ0_checkIndex_df160_5 ⟨Nat.le_of_ble_eq_true rfl, Nat.le_of_ble_eq_true rfl⟩) hP hD hS hA (fun r u H locs hp hP hD hS => ?_)
    obtain ⟨c1, rfl⟩ : ∃ z, z = u := ⟨_, rfl⟩
    obtain ⟨h9, rc1, hp1⟩ : r = Int32.ofInt c1 ∧ (inR c1) ∧ (True) := hp
    subst h9
    refine lv_pop hx hb dJ0_checkIndex_df160_8 rfl ?_
    exact W.vret hx hb hr (fun t ht hW => ⟨⟨(), rfl, (show (True) from trivial), by rw [ht]; exact hP, hD⟩, hS.F ht⟩) hS.2.2 dJ0_checkIndex_df160_9
  · refine va_gets (C := "jdk/internal/util/Preconditions") (n := "SIOOBE_FORMATTER") (d := "Ljava/util/function/BiFunction;") (ref := "jdk/internal/util/Preconditions") (v := .ref (t9)) hx hb z9 hS hown h0w (fun _ h9 => h9) dJ0_checkIndex_df160_2 ?_
    refine c0_i (va_runS (As := [.int (Int32.ofInt (i0)), .int (Int32.ofInt (n0)), .ref (t9)]) (rest := []) ⟨hx, hb, hml, hown, hts⟩ (mJ3_checkIndex_r l G k i0 n0 t9 H.size (by omega) (by omega) (show 0 ≤ i0 ∧ i0 < n0 from by omega)) (va_cwS 3 hts (gz [.methodLink RJ0 1059 yJ3_checkIndex_8e157, .static yJ3_checkIndex_8e157, .initialized RJ3] (.code yJ3_checkIndex_8e157 cJ3_checkIndex_8e157 3 (some .int)) [(11, 4), (11, 5), (11, 6), (11, 7)] rfl) rfl rfl rfl (by decide +kernel) ⟨Nat.le_of_ble_eq_true rfl, Nat.le_of_ble_eq_true rfl⟩) (cr_pre0 (EZ_ok k) hZ hS hX hP hD hA) rfl rfl hl.1 rfl (lv_room (Nat.le_of_ble_eq_true rfl)) dJ0_checkIndex_df160_5 ⟨Nat.le_of_ble_eq_true rfl, Nat.le_of_ble_eq_true rfl⟩) hP hD hS hA (fun r u H locs hp hP hD hS => ?_)
    obtain ⟨c2, rfl⟩ : ∃ z, z = u := ⟨_, rfl⟩
    obtain ⟨h9, rc2, hp2⟩ : r = Int32.ofInt c2 ∧ (inR c2) ∧ (True) := hp
    subst h9
    refine lv_pop hx hb dJ0_checkIndex_df160_8 rfl ?_
    exact W.vret hx hb hr (fun t ht hW => ⟨⟨(), rfl, (show (True) from trivial), by rw [ht]; exact hP, hD⟩, hS.F ht⟩) hS.2.2 dJ0_checkIndex_df160_9

set_option maxHeartbeats 4000000 in
set_option maxRecDepth 100000 in
theorem mJ1_charAt_3b067 (l : Launch) (G : va_G) (k : Nat → ClassId) (sx : Nat) (i0 : Int) (sz : Nat) (hsx : sx < 47) (hr_i0 : inR i0) (hi : 0 ≤ i0 ∧ i0 < ((lenS.getD sx 0 : Nat) : Int)) : CNi l G k (EZ k) yJ1_charAt_3b067 wzJ1_charAt_3b067 ({ frames := 2, cells := 0, slots := 0, locals := 43 }) [.ref (k (600 + sx)), .int (Int32.ofInt (i0))] sz [] (fun (r0 : Int32) (u : Int) => r0 = Int32.ofInt (u) ∧ (inR u) ∧ (u = bChar (bAnd (chZ sx (i0).toNat) 255) ∧ 0 ≤ u ∧ u < 65536)) (fun (u : Int) => []) := by
  refine Met.ofW (cc := cJ1_charAt_3b067) (maxL := 2) (ret := (some .char)) (by decide) rfl ?_
  intro p e s m args below meth c s₁ B hml hv
  obtain ⟨rfl, hsz, hP, hX, hD0, hZ0⟩ := hv
  have hx := B.exec
  have hb := B.bytes
  have hr := B.returns
  have hts := atoms_spec (ws := wzJ1_charAt_3b067) B.pre
  have hown : s.vm.findClass RJ1 = some m.cls := findClass_of_methodNamed B.named
  subst hsz
  have hD := hD0.self (sz := s.heap.size)
  have hZ := hZ0
  generalize hAe : va_A [] s.heap.size = A at hD hZ ⊢
  have hA : ∀ q : Nat, s.heap.size ≤ q → A q := fun q h => by rw [← hAe]; exact Or.inr h
  have hS : va_S A s.heap s.heap [] := va_S.rf
  have hl := lv_entry ([.ref (k (600 + sx)), .int (Int32.ofInt (i0))]) (n := 2) (Nat.le_of_ble_eq_true rfl)
  rw [lg_entry_eq]
  generalize (lg_sl ([.ref (k (600 + sx)), .int (Int32.ofInt (i0))]) ++ List.replicate (2 - (lg_sl ([.ref (k (600 + sx)), .int (Int32.ofInt (i0))])).length) Slot.unset).toArray = ls at hl ⊢
  have hl : lv_has ls 2 [(0, .ref (k (600 + sx))), (1, .int (Int32.ofInt (i0)))] := hl
  obtain ⟨H, eH⟩ : ∃ H, H = s.heap := ⟨_, rfl⟩
  rw [← eH] at hP
  have hS : va_S A s.heap H [] := by rw [eH]; exact hS
  have gW : s.heap = H := eH.symm
  refine iv_heap gW ?_
  refine lv_iload_n hx hb dJ1_charAt_3b067_0 rfl (lv_at hl 1 rfl) ?_
  refine lv_aload_n hx hb dJ1_charAt_3b067_1 rfl (lv_at hl 0 rfl) ?_
  refine va_tlen (v := Int32.ofInt ((lenS.getD sx 0 : Nat) : Int)) hx hb (ez_str hZ (i := sx) (by omega)).2.2.2 hS (ofn_ _) dJ1_charAt_3b067_2 ?_
  refine iv_top (fun z1 ez1 => ?_)
  have rz1 : 0 ≤ z1 ∧ z1 ≤ 6 := ez1 ▸ lenS_r sx (by omega)
  refine c0_v (va_runS (As := [.int (Int32.ofInt (i0)), .int (Int32.ofInt (z1))]) (rest := []) ⟨hx, hb, hml, hown, hts⟩ (mJ0_checkIndex_df160 l G k i0 z1 H.size (by omega) (by omega) (show 0 ≤ i0 ∧ i0 < z1 from by omega)) (va_cwS 2 hts (gz [.methodLink RJ1 9 yJ0_checkIndex_df160, .static yJ0_checkIndex_df160, .initialized RJ0] (.code yJ0_checkIndex_df160 cJ0_checkIndex_df160 2 none) [(11, 0), (11, 1), (10, 3), (11, 2)] rfl) rfl rfl rfl (by decide +kernel) ⟨Nat.le_of_ble_eq_true rfl, Nat.le_of_ble_eq_true rfl⟩) (cr_pre0 (EZ_ok k) hZ hS hX hP hD hA) rfl rfl hl.1 rfl (lv_room (Nat.le_of_ble_eq_true rfl)) dJ1_charAt_3b067_3 ⟨Nat.le_of_ble_eq_true rfl, Nat.le_of_ble_eq_true rfl⟩) hP hD hS hA (fun u H locs hp hP hD hS => ?_)
  refine lv_aload_n hx hb dJ1_charAt_3b067_6 rfl (lv_at hl 0 rfl) ?_
  refine lv_iload_n hx hb dJ1_charAt_3b067_7 rfl (lv_at hl 1 rfl) ?_
  refine va_tb (v := .int (Int32.ofInt (chZ sx (i0).toNat))) hx hb (ez_str hZ (i := sx) (by omega)).2.2.2 hS (iz_in (by omega) (by omega) (by omega)) (by rw [iz_cl (by omega) (by omega)]; exact (chZ_e _ _)) dJ1_charAt_3b067_8 ?_
  refine iv_top (fun z2 ez2 => ?_)
  have rz2 : inR z2 := ez2 ▸ chZ_r _ _
  refine lv_sipush (v := Int32.ofInt 255) hx hb dJ1_charAt_3b067_9 (by decide +kernel) ?_
  refine iv_and hx hb dJ1_charAt_3b067_12 ?_
  refine iv_top (fun z3 ez3 => ?_)
  have rz3 : inR z3 := ez3 ▸ bAnd_r _ _
  refine iv_i2c hx hb dJ1_charAt_3b067_13 ?_
  refine iv_top (fun z4 ez4 => ?_)
  have rz4 : inR z4 := ez4 ▸ bChar_r _
  have q9 := char_r (chZ sx (i0).toNat)
  have q8 : z4 = bChar (bAnd (chZ sx (i0).toNat) 255) := by subst_vars; rfl
  exact W.zret (v := Int32.ofInt (z4)) hx hb hr (nz_char (by omega)) (fun t ht hW => ⟨⟨Int32.ofInt (z4), (z4), rfl, ⟨rfl, (show (inR z4) ∧ (z4 = bChar (bAnd (chZ sx (i0).toNat) 255) ∧ 0 ≤ z4 ∧ z4 < 65536) from ⟨(by omega), (by omega)⟩)⟩, by rw [ht]; exact hP, hD⟩, hS.F ht⟩) hS.2.2 dJ1_charAt_3b067_14

set_option maxHeartbeats 4000000 in
set_option maxRecDepth 100000 in
theorem mJ0_charAt_5068e (l : Launch) (G : va_G) (k : Nat → ClassId) (sx : Nat) (i0 : Int) (sz : Nat) (hsx : sx < 47) (hr_i0 : inR i0) (hi : 0 ≤ i0 ∧ i0 < ((lenS.getD sx 0 : Nat) : Int)) : CNi l G k (EZ k) yJ0_charAt_5068e wzJ0_charAt_5068e ({ frames := 3, cells := 0, slots := 0, locals := 64 }) [.ref (k (111 + sx)), .int (Int32.ofInt (i0))] sz [] (fun (r0 : Int32) (u : Int) => r0 = Int32.ofInt (u) ∧ (inR u) ∧ (u = bChar (bAnd (chZ sx (i0).toNat) 255) ∧ 0 ≤ u ∧ u < 65536)) (fun (u : Int) => []) := by
  refine Met.ofW (cc := cJ0_charAt_5068e) (maxL := 2) (ret := (some .char)) (by decide) rfl ?_
  intro p e s m args below meth c s₁ B hml hv
  obtain ⟨rfl, hsz, hP, hX, hD0, hZ0⟩ := hv
  have hx := B.exec
  have hb := B.bytes
  have hr := B.returns
  have hts := atoms_spec (ws := wzJ0_charAt_5068e) B.pre
  have hown : s.vm.findClass RJ0 = some m.cls := findClass_of_methodNamed B.named
  subst hsz
  have hD := hD0.self (sz := s.heap.size)
  have hZ := hZ0
  generalize hAe : va_A [] s.heap.size = A at hD hZ ⊢
  have hA : ∀ q : Nat, s.heap.size ≤ q → A q := fun q h => by rw [← hAe]; exact Or.inr h
  have hS : va_S A s.heap s.heap [] := va_S.rf
  have hl := lv_entry ([.ref (k (111 + sx)), .int (Int32.ofInt (i0))]) (n := 2) (Nat.le_of_ble_eq_true rfl)
  rw [lg_entry_eq]
  generalize (lg_sl ([.ref (k (111 + sx)), .int (Int32.ofInt (i0))]) ++ List.replicate (2 - (lg_sl ([.ref (k (111 + sx)), .int (Int32.ofInt (i0))])).length) Slot.unset).toArray = ls at hl ⊢
  have hl : lv_has ls 2 [(0, .ref (k (111 + sx))), (1, .int (Int32.ofInt (i0)))] := hl
  obtain ⟨H, eH⟩ : ∃ H, H = s.heap := ⟨_, rfl⟩
  rw [← eH] at hP
  have hS : va_S A s.heap H [] := by rw [eH]; exact hS
  have gW : s.heap = H := eH.symm
  refine iv_heap gW ?_
  have h0w := hts (.fieldLink RJ0 9 "java/lang/String" "value" "[B") (wz_at 10 5 rfl)
  refine lv_aload_n hx hb dJ0_charAt_5068e_0 rfl (lv_at hl 0 rfl) ?_
  refine c0_i (va_runV (As := []) (rest := []) ⟨hx, hb, hml, hown, hts⟩ (mJ0_isLatin1_aae02 l G k sx H.size (show sx < 47 from by omega)) (cwV 0 hts (gz [.methodLink RJ0 492 yJ0_isLatin1_aae02, .instanceMethod yJ0_isLatin1_aae02, .selects RJ0 yJ0_isLatin1_aae02 yJ0_isLatin1_aae02, .initialized RJ0] (.code yJ0_isLatin1_aae02 cJ0_isLatin1_aae02 1 (some .boolean)) [(10, 16), (10, 17), (10, 18), (10, 3), (10, 19)] rfl) rfl rfl rfl (by decide +kernel) ⟨Nat.le_of_ble_eq_true rfl, Nat.le_of_ble_eq_true rfl⟩) (cs_preV hZ hS hX hP hD hA (ez_str hZ (i := sx) (by omega)).1) rfl rfl hl.1 rfl (lv_room (Nat.le_of_ble_eq_true rfl)) dJ0_charAt_5068e_1 ⟨Nat.le_of_ble_eq_true rfl, Nat.le_of_ble_eq_true rfl⟩) hP hD hS hA (fun r u H locs hp hP hD hS => ?_)
  obtain ⟨c1, rfl⟩ : ∃ z, z = u := ⟨_, rfl⟩
  obtain ⟨h9, rc1, hp1⟩ : r = Int32.ofInt c1 ∧ (inR c1) ∧ (c1 = 1) := hp
  subst h9
  refine iv_if_eq (tgt := 16) hx hb (by omega) dJ0_charAt_5068e_4 (by decide) (fun q2 => ?_) (fun q2 => ?_)
  · exfalso; omega
  · refine lv_aload_n hx hb dJ0_charAt_5068e_7 rfl (lv_at hl 0 rfl) ?_
    refine vk_getf (o := sS) (n := "value") (d := "[B") (ref := sS) (v := .ref (k (600 + sx))) hx hb ((ez_str hZ (i := sx) (by omega)).2.2.1) hS hown h0w (fun _ h9 => h9) dJ0_charAt_5068e_8 ?_
    refine lv_iload_n hx hb dJ0_charAt_5068e_11 rfl (lv_at hl 1 rfl) ?_
    refine c0_i (va_runS (As := [.ref (k (600 + sx)), .int (Int32.ofInt (i0))]) (rest := []) ⟨hx, hb, hml, hown, hts⟩ (mJ1_charAt_3b067 l G k sx i0 H.size (show sx < 47 from by omega) (by omega) (show 0 ≤ i0 ∧ i0 < ((lenS.getD sx 0 : Nat) : Int) from by omega)) (va_cwS 2 hts (gz [.methodLink RJ0 495 yJ1_charAt_3b067, .static yJ1_charAt_3b067, .initialized RJ1] (.code yJ1_charAt_3b067 cJ1_charAt_3b067 2 (some .char)) [(10, 20), (10, 21), (10, 22), (10, 23)] rfl) rfl rfl rfl (by decide +kernel) ⟨Nat.le_of_ble_eq_true rfl, Nat.le_of_ble_eq_true rfl⟩) (cr_pre0 (EZ_ok k) hZ hS hX hP hD hA) rfl rfl hl.1 rfl (lv_room (Nat.le_of_ble_eq_true rfl)) dJ0_charAt_5068e_12 ⟨Nat.le_of_ble_eq_true rfl, Nat.le_of_ble_eq_true rfl⟩) hP hD hS hA (fun r u H locs hp hP hD hS => ?_)
    obtain ⟨c3, rfl⟩ : ∃ z, z = u := ⟨_, rfl⟩
    obtain ⟨h9, rc3, hp3⟩ : r = Int32.ofInt c3 ∧ (inR c3) ∧ (c3 = bChar (bAnd (chZ sx (i0).toNat) 255) ∧ 0 ≤ c3 ∧ c3 < 65536) := hp
    subst h9
    exact W.zret (v := Int32.ofInt (c3)) hx hb hr (nz_char (by omega)) (fun t ht hW => ⟨⟨Int32.ofInt (c3), (c3), rfl, ⟨rfl, (show (inR c3) ∧ (c3 = bChar (bAnd (chZ sx (i0).toNat) 255) ∧ 0 ≤ c3 ∧ c3 < 65536) from ⟨(by omega), (by omega)⟩)⟩, by rw [ht]; exact hP, hD⟩, hS.F ht⟩) hS.2.2 dJ0_charAt_5068e_15

set_option maxHeartbeats 4000000 in
set_option maxRecDepth 100000 in
theorem mJ6_bitCount_0f7a4 (l : Launch) (G : va_G) (k : Nat → ClassId) (i0 : Int) (sz : Nat) (hr_i0 : inR i0) (hi : 0 ≤ i0 ∧ i0 ≤ 127) : CNi l G k (EZ k) yJ6_bitCount_0f7a4 wzJ6_bitCount_0f7a4 ({ frames := 0, cells := 0, slots := 0, locals := 0 }) [.int (Int32.ofInt (i0))] sz [] (fun (r0 : Int32) (u : Int) => r0 = Int32.ofInt (u) ∧ (inR u) ∧ (u = bcZ i0)) (fun (u : Int) => []) := by
  refine Met.ofW (cc := cJ6_bitCount_0f7a4) (maxL := 1) (ret := (some .int)) (by decide) rfl ?_
  intro p e s m args below meth c s₁ B hml hv
  obtain ⟨rfl, hsz, hP, hX, hD0, hZ0⟩ := hv
  have hx := B.exec
  have hb := B.bytes
  have hr := B.returns
  have hts := atoms_spec (ws := wzJ6_bitCount_0f7a4) B.pre
  have hown : s.vm.findClass RJ6 = some m.cls := findClass_of_methodNamed B.named
  subst hsz
  have hD := hD0.self (sz := s.heap.size)
  have hZ := hZ0
  generalize hAe : va_A [] s.heap.size = A at hD hZ ⊢
  have hA : ∀ q : Nat, s.heap.size ≤ q → A q := fun q h => by rw [← hAe]; exact Or.inr h
  have hS : va_S A s.heap s.heap [] := va_S.rf
  have hl := lv_entry ([.int (Int32.ofInt (i0))]) (n := 1) (Nat.le_of_ble_eq_true rfl)
  rw [lg_entry_eq]
  generalize (lg_sl ([.int (Int32.ofInt (i0))]) ++ List.replicate (1 - (lg_sl ([.int (Int32.ofInt (i0))])).length) Slot.unset).toArray = ls at hl ⊢
  have hl : lv_has ls 1 [(0, .int (Int32.ofInt (i0)))] := hl
  obtain ⟨H, eH⟩ : ∃ H, H = s.heap := ⟨_, rfl⟩
  rw [← eH] at hP
  have hS : va_S A s.heap H [] := by rw [eH]; exact hS
  have gW : s.heap = H := eH.symm
  refine iv_heap gW ?_
  have h0w := hts (.constant RJ6 265 (1431655765)) (wz_at 38 19 rfl)
  have h1w := hts (.constant RJ6 266 (858993459)) (wz_at 38 20 rfl)
  have h2w := hts (.constant RJ6 267 (252645135)) (wz_at 38 21 rfl)
  refine lv_iload_n hx hb dJ6_bitCount_0f7a4_0 rfl (lv_at hl 0 rfl) ?_
  refine lv_iload_n hx hb dJ6_bitCount_0f7a4_1 rfl (lv_at hl 0 rfl) ?_
  refine lv_iconst (v := Int32.ofInt 1) hx hb dJ6_bitCount_0f7a4_2 (by decide +kernel) ?_
  refine iv_ushr hx hb dJ6_bitCount_0f7a4_3 ?_
  refine iv_top (fun z1 ez1 => ?_)
  have rz1 : inR z1 := ez1 ▸ bUshr_r _ _
  refine lv_ldcw (v := Int32.ofInt 1431655765) hx hb hown h0w dJ6_bitCount_0f7a4_4 ?_
  refine iv_and hx hb dJ6_bitCount_0f7a4_7 ?_
  refine iv_top (fun z2 ez2 => ?_)
  have rz2 : inR z2 := ez2 ▸ bAnd_r _ _
  refine iv_sub (x := i0) (y := z2) hx hb dJ6_bitCount_0f7a4_8 ?_
  refine lv_istore_n (lv' := [(0, .int (Int32.ofInt ((i0 - z2))))]) hx hb dJ6_bitCount_0f7a4_9 rfl hl (by decide) rfl (fun ls hl => ?_)
  refine lv_iload_n hx hb dJ6_bitCount_0f7a4_10 rfl (lv_at hl 0 rfl) ?_
  refine lv_ldcw (v := Int32.ofInt 858993459) hx hb hown h1w dJ6_bitCount_0f7a4_11 ?_
  refine iv_and hx hb dJ6_bitCount_0f7a4_14 ?_
  refine iv_top (fun z3 ez3 => ?_)
  have rz3 : inR z3 := ez3 ▸ bAnd_r _ _
  refine lv_iload_n hx hb dJ6_bitCount_0f7a4_15 rfl (lv_at hl 0 rfl) ?_
  refine lv_iconst (v := Int32.ofInt 2) hx hb dJ6_bitCount_0f7a4_16 (by decide +kernel) ?_
  refine iv_ushr hx hb dJ6_bitCount_0f7a4_17 ?_
  refine iv_top (fun z4 ez4 => ?_)
  have rz4 : inR z4 := ez4 ▸ bUshr_r _ _
  refine lv_ldcw (v := Int32.ofInt 858993459) hx hb hown h1w dJ6_bitCount_0f7a4_18 ?_
  refine iv_and hx hb dJ6_bitCount_0f7a4_21 ?_
  refine iv_top (fun z5 ez5 => ?_)
  have rz5 : inR z5 := ez5 ▸ bAnd_r _ _
  refine iv_add (x := z3) (y := z5) hx hb dJ6_bitCount_0f7a4_22 ?_
  refine lv_istore_n (lv' := [(0, .int (Int32.ofInt ((z3 + z5))))]) hx hb dJ6_bitCount_0f7a4_23 rfl hl (by decide) rfl (fun ls hl => ?_)
  refine lv_iload_n hx hb dJ6_bitCount_0f7a4_24 rfl (lv_at hl 0 rfl) ?_
  refine lv_iload_n hx hb dJ6_bitCount_0f7a4_25 rfl (lv_at hl 0 rfl) ?_
  refine lv_iconst (v := Int32.ofInt 4) hx hb dJ6_bitCount_0f7a4_26 (by decide +kernel) ?_
  refine iv_ushr hx hb dJ6_bitCount_0f7a4_27 ?_
  refine iv_top (fun z6 ez6 => ?_)
  have rz6 : inR z6 := ez6 ▸ bUshr_r _ _
  refine iv_add (x := (z3 + z5)) (y := z6) hx hb dJ6_bitCount_0f7a4_28 ?_
  refine lv_ldcw (v := Int32.ofInt 252645135) hx hb hown h2w dJ6_bitCount_0f7a4_29 ?_
  refine iv_and hx hb dJ6_bitCount_0f7a4_32 ?_
  refine iv_top (fun z7 ez7 => ?_)
  have rz7 : inR z7 := ez7 ▸ bAnd_r _ _
  refine lv_istore_n (lv' := [(0, .int (Int32.ofInt (z7)))]) hx hb dJ6_bitCount_0f7a4_33 rfl hl (by decide) rfl (fun ls hl => ?_)
  refine lv_iload_n hx hb dJ6_bitCount_0f7a4_34 rfl (lv_at hl 0 rfl) ?_
  refine lv_iload_n hx hb dJ6_bitCount_0f7a4_35 rfl (lv_at hl 0 rfl) ?_
  refine lv_bipush (v := Int32.ofInt 8) hx hb dJ6_bitCount_0f7a4_36 (by decide +kernel) ?_
  refine iv_ushr hx hb dJ6_bitCount_0f7a4_38 ?_
  refine iv_top (fun z8 ez8 => ?_)
  have rz8 : inR z8 := ez8 ▸ bUshr_r _ _
  refine iv_add (x := z7) (y := z8) hx hb dJ6_bitCount_0f7a4_39 ?_
  refine lv_istore_n (lv' := [(0, .int (Int32.ofInt ((z7 + z8))))]) hx hb dJ6_bitCount_0f7a4_40 rfl hl (by decide) rfl (fun ls hl => ?_)
  refine lv_iload_n hx hb dJ6_bitCount_0f7a4_41 rfl (lv_at hl 0 rfl) ?_
  refine lv_iload_n hx hb dJ6_bitCount_0f7a4_42 rfl (lv_at hl 0 rfl) ?_
  refine lv_bipush (v := Int32.ofInt 16) hx hb dJ6_bitCount_0f7a4_43 (by decide +kernel) ?_
  refine iv_ushr hx hb dJ6_bitCount_0f7a4_45 ?_
  refine iv_top (fun z9 ez9 => ?_)
  have rz9 : inR z9 := ez9 ▸ bUshr_r _ _
  refine iv_add (x := (z7 + z8)) (y := z9) hx hb dJ6_bitCount_0f7a4_46 ?_
  refine lv_istore_n (lv' := [(0, .int (Int32.ofInt (((z7 + z8) + z9))))]) hx hb dJ6_bitCount_0f7a4_47 rfl hl (by decide) rfl (fun ls hl => ?_)
  refine lv_iload_n hx hb dJ6_bitCount_0f7a4_48 rfl (lv_at hl 0 rfl) ?_
  refine lv_bipush (v := Int32.ofInt 63) hx hb dJ6_bitCount_0f7a4_49 (by decide +kernel) ?_
  refine iv_and hx hb dJ6_bitCount_0f7a4_51 ?_
  refine iv_top (fun z10 ez10 => ?_)
  have rz10 : inR z10 := ez10 ▸ bAnd_r _ _
  exact W.iret (v := Int32.ofInt (z10)) hx hb hr (fun t ht hW => ⟨⟨Int32.ofInt (z10), (z10), rfl, ⟨rfl, (show (inR z10) ∧ (z10 = bcZ i0) from ⟨(by omega), (by subst_vars; exact bcE_ok hi.1 hi.2)⟩)⟩, by rw [ht]; exact hP, hD⟩, hS.F ht⟩) hS.2.2 dJ6_bitCount_0f7a4_52
