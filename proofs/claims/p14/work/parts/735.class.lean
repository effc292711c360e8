set_option maxHeartbeats 4000000 in
set_option maxRecDepth 100000 in
theorem xX9_town_x (l : Launch) (htr : l.stackTraces = false) (G : va_G) (k : Nat → ClassId) (ar : Nat → Nat) (tp : Nat) (pa : Nat) (pp : Nat) (pd : Nat) (pb : Nat) (pk : Nat) (ps : Nat) (fi : Nat → Int) (fa : Nat → Int → Int) (n0 : Int) (sz : Nat) (hR : ∀ j, inR (fi j)) (hRa : ∀ j t, inR (fa j t)) (hr_n0 : inR n0) (hx0 : n0 < 0 ∨ fi 1 < n0) : CYi l G k yX9_town wzX9_town ({ frames := 6, cells := 1, slots := 6, locals := 100 }) [.ref (ar 99), .int (Int32.ofInt (n0))] sz (wT k ar (tp) (pa) (pp) (pd) (pb) (pk) (ps) fi fa) iaX := by
  refine vx_ofW (cc := cX9_town) (maxL := 4) (ret := (some .int)) (by decide) rfl ?_
  intro p e s m args below meth c s₁ B hml htab hv
  obtain ⟨⟨rfl, hsz, hP, hX, hD0, hZ0⟩, hT9⟩ := hv
  have hlocks := B.notSynchronized
  have hx := B.exec
  have hb := B.bytes
  have hr := B.returns
  have hts := atoms_spec (ws := wzX9_town) B.pre
  have hown : s.vm.findClass RX9 = some m.cls := findClass_of_methodNamed B.named
  subst hsz
  have hD := hD0.self (sz := s.heap.size)
  have hZ := hZ0
  generalize hAe : va_A (wT k ar (tp) (pa) (pp) (pd) (pb) (pk) (ps) fi fa) s.heap.size = A at hD hZ ⊢
  have hA : ∀ q : Nat, s.heap.size ≤ q → A q := fun q h => by rw [← hAe]; exact Or.inr h
  have hS : va_S A s.heap s.heap [] := va_S.rf
  have hl := lv_entry ([.ref (ar 99), .int (Int32.ofInt (n0))]) (n := 4) (Nat.le_of_ble_eq_true rfl)
  rw [lg_entry_eq]
  generalize (lg_sl ([.ref (ar 99), .int (Int32.ofInt (n0))]) ++ List.replicate (4 - (lg_sl ([.ref (ar 99), .int (Int32.ofInt (n0))])).length) Slot.unset).toArray = ls at hl ⊢
  have hl : lv_has ls 4 [(0, .ref (ar 99)), (1, .int (Int32.ofInt (n0)))] := hl
  obtain ⟨H, eH⟩ : ∃ H, H = s.heap := ⟨_, rfl⟩
  rw [← eH] at hP
  have hS : va_S A s.heap H [] := by rw [eH]; exact hS
  have gW : s.heap = H := eH.symm
  refine iv_heap gW ?_
  have h0w := hts (.classLink RX9 75 "java/lang/IllegalArgumentException") (wz_at 8 23 rfl)
  have h1w := hts (.initialized "java/lang/IllegalArgumentException") (wz_at 9 0 rfl)
  have h2w := hts (.fieldLink RX9 13 "RopeTown" "fed" "I") (wz_at 0 15 rfl)
  have h3w : ∀ w ∈ wsX90, w ∈ wzX9_town := fun w h => List.mem_cons_of_mem _ (inlX9 w h)
  refine lv_iload_n hx hb dX9_town_0 rfl (lv_at hl 1 rfl) ?_
  refine iv_if_lt (tgt := 12) hx hb (by omega) dX9_town_1 (by decide) (fun q1 => ?_) (fun q1 => ?_)
  · exact vx_throwS (own := RX9) (ik := 75) (is := 77) (ic := 79) hx hb htr hown (by decide +kernel) (by decide +kernel) h0w h1w (hX.2.2.2.2 0 (RX9, 77, "the tape has not so many bytes") rfl) (tx_ia hT9 (fun w h => hts w (List.mem_cons_of_mem _ (List.mem_append_left _ (List.mem_append_right _ h))))) ia_good hZ.1.1 hZ.1.2 hS (hl.1.trans hml.symm) dX9_town_12 dX9_town_15 dX9_town_16 dX9_town_18 dX9_town_21 (fun x hx9 => (htab x hx9).elim) (Nat.le_of_ble_eq_true rfl) (Nat.le_of_ble_eq_true rfl) (Nat.le_of_ble_eq_true rfl) (Nat.le_of_ble_eq_true rfl) hlocks (fun t ha hz hq => ⟨(), trivial, ⟨rfl, hP.kept (fun i x h8 => hq x.1 ((hP i x h8).lt)), hD⟩, Nat.le_trans hS.1 hz, fun q h3 h4 => (hq q (Nat.lt_of_lt_of_le h3 hS.1)).trans (hS.2.1 q h3 h4)⟩) hS.2.2 (Nat.le_of_ble_eq_true rfl) (Nat.le_of_ble_eq_true rfl)
  · refine lv_iload_n hx hb dX9_town_4 rfl (lv_at hl 1 rfl) ?_
    refine lv_aload_n hx hb dX9_town_5 rfl (lv_at hl 0 rfl) ?_
    refine va_get (D := G) (ci := 6) (v := .int (Int32.ofInt (fi 1))) (C := RX9) (T := TX9) (N := 11) (ref := RX9) hx hb hts h3w hown hX.1 hP 0 rfl rfl 1 (by decide) h2w (fun _ h9 => h9) rfl dX9_town_6 ?_
    have rf1 := hR 1
    refine iv_icmp_le (tgt := 22) hx hb (by omega) (by omega) dX9_town_9 (by decide) (fun q2 => ?_) (fun q2 => ?_)
    · exfalso; omega
    · exact vx_throwS (own := RX9) (ik := 75) (is := 77) (ic := 79) hx hb htr hown (by decide +kernel) (by decide +kernel) h0w h1w (hX.2.2.2.2 0 (RX9, 77, "the tape has not so many bytes") rfl) (tx_ia hT9 (fun w h => hts w (List.mem_cons_of_mem _ (List.mem_append_left _ (List.mem_append_right _ h))))) ia_good hZ.1.1 hZ.1.2 hS (hl.1.trans hml.symm) dX9_town_12 dX9_town_15 dX9_town_16 dX9_town_18 dX9_town_21 (fun x hx9 => (htab x hx9).elim) (Nat.le_of_ble_eq_true rfl) (Nat.le_of_ble_eq_true rfl) (Nat.le_of_ble_eq_true rfl) (Nat.le_of_ble_eq_true rfl) hlocks (fun t ha hz hq => ⟨(), trivial, ⟨rfl, hP.kept (fun i x h8 => hq x.1 ((hP i x h8).lt)), hD⟩, Nat.le_trans hS.1 hz, fun q h3 h4 => (hq q (Nat.lt_of_lt_of_le h3 hS.1)).trans (hS.2.1 q h3 h4)⟩) hS.2.2 (Nat.le_of_ble_eq_true rfl) (Nat.le_of_ble_eq_true rfl)

set_option maxHeartbeats 4000000 in
set_option maxRecDepth 100000 in
theorem xX9_count_x (l : Launch) (htr : l.stackTraces = false) (G : va_G) (k : Nat → ClassId) (ar : Nat → Nat) (tp : Nat) (pa : Nat) (pp : Nat) (pd : Nat) (pb : Nat) (pk : Nat) (ps : Nat) (fi : Nat → Int) (fa : Nat → Int → Int) (w0 : Int) (sz : Nat) (hR : ∀ j, inR (fi j)) (hRa : ∀ j t, inR (fa j t)) (hr_w0 : inR w0) (hx0 : w0 < 0 ∨ 16 < w0) : CYi l G k yX9_count wzX9_count ({ frames := 6, cells := 1, slots := 6, locals := 100 }) [.ref (ar 99), .int (Int32.ofInt (w0))] sz (wT k ar (tp) (pa) (pp) (pd) (pb) (pk) (ps) fi fa) ns_X := by
  refine vx_ofW (cc := cX9_count) (maxL := 2) (ret := (some .int)) (by decide) rfl ?_
  intro p e s m args below meth c s₁ B hml htab hv
  obtain ⟨⟨rfl, hsz, hP, hX, hD0, hZ0⟩, hT9⟩ := hv
  have hlocks := B.notSynchronized
  have hx := B.exec
  have hb := B.bytes
  have hr := B.returns
  have hts := atoms_spec (ws := wzX9_count) B.pre
  have hown : s.vm.findClass RX9 = some m.cls := findClass_of_methodNamed B.named
  subst hsz
  have hD := hD0.self (sz := s.heap.size)
  have hZ := hZ0
  generalize hAe : va_A (wT k ar (tp) (pa) (pp) (pd) (pb) (pk) (ps) fi fa) s.heap.size = A at hD hZ ⊢
  have hA : ∀ q : Nat, s.heap.size ≤ q → A q := fun q h => by rw [← hAe]; exact Or.inr h
  have hS : va_S A s.heap s.heap [] := va_S.rf
  have hl := lv_entry ([.ref (ar 99), .int (Int32.ofInt (w0))]) (n := 2) (Nat.le_of_ble_eq_true rfl)
  rw [lg_entry_eq]
  generalize (lg_sl ([.ref (ar 99), .int (Int32.ofInt (w0))]) ++ List.replicate (2 - (lg_sl ([.ref (ar 99), .int (Int32.ofInt (w0))])).length) Slot.unset).toArray = ls at hl ⊢
  have hl : lv_has ls 2 [(0, .ref (ar 99)), (1, .int (Int32.ofInt (w0)))] := hl
  obtain ⟨H, eH⟩ : ∃ H, H = s.heap := ⟨_, rfl⟩
  rw [← eH] at hP
  have hS : va_S A s.heap H [] := by rw [eH]; exact hS
  have gW : s.heap = H := eH.symm
  refine iv_heap gW ?_
  have h0w := hts (.classLink RX9 144 "java/util/NoSuchElementException") (wz_at 22 10 rfl)
  have h1w := hts (.initialized "java/util/NoSuchElementException") (wz_at 22 11 rfl)
  refine lv_iload_n hx hb dX9_count_0 rfl (lv_at hl 1 rfl) ?_
  obtain q1 | q1 | q1 | q1 | q1 | q1 | q1 | q1 | q1 | q1 | q1 | q1 | q1 | q1 | q1 | q1 | q1 | q1 : (w0 < 0 ∨ 16 < w0) ∨ w0 = 0 ∨ w0 = 1 ∨ w0 = 2 ∨ w0 = 3 ∨ w0 = 4 ∨ w0 = 5 ∨ w0 = 6 ∨ w0 = 7 ∨ w0 = 8 ∨ w0 = 9 ∨ w0 = 10 ∨ w0 = 11 ∨ w0 = 12 ∨ w0 = 13 ∨ w0 = 14 ∨ w0 = 15 ∨ w0 = 16 := by omega
  · refine lv_tableOut (tgt := 229) hx hb dX9_count_1 (by rw [iz_toInt (by omega)]; exact q1) (by decide) ?_
    exact ns_throw (own := RX9) (ik := 144) (is := 146) (ic := 148) hx hb htr hown h0w h1w (hX.2.2.2.2 1 (RX9, 146, "no such count") rfl) (tx_ns hT9 (fun w h => hts w (List.mem_cons_of_mem _ (List.mem_append_right _ h)))) ns_good hZ.1.1 hZ.1.2 hS (hl.1.trans hml.symm) dX9_count_229 dX9_count_232 dX9_count_233 dX9_count_235 dX9_count_238 (fun x hx9 => (htab x hx9).elim) (Nat.le_of_ble_eq_true rfl) (Nat.le_of_ble_eq_true rfl) (Nat.le_of_ble_eq_true rfl) (Nat.le_of_ble_eq_true rfl) hlocks (fun t ha hz hq => ⟨(), trivial, ⟨rfl, hP.kept (fun i x h8 => hq x.1 ((hP i x h8).lt)), hD⟩, Nat.le_trans hS.1 hz, fun q h3 h4 => (hq q (Nat.lt_of_lt_of_le h3 hS.1)).trans (hS.2.1 q h3 h4)⟩) hS.2.2 (Nat.le_of_ble_eq_true rfl) (Nat.le_of_ble_eq_true rfl)
  · refine lv_tableIn (tgt := 84) hx hb dX9_count_1 (by rw [iz_toInt (by omega)]; omega) (by rw [iz_toInt (by omega)]; omega) (off := 83) (by rw [iz_toInt (by omega), q1]; decide +kernel) (by decide) ?_
    exfalso; omega
  · refine lv_tableIn (tgt := 92) hx hb dX9_count_1 (by rw [iz_toInt (by omega)]; omega) (by rw [iz_toInt (by omega)]; omega) (off := 91) (by rw [iz_toInt (by omega), q1]; decide +kernel) (by decide) ?_
    exfalso; omega
  · refine lv_tableIn (tgt := 100) hx hb dX9_count_1 (by rw [iz_toInt (by omega)]; omega) (by rw [iz_toInt (by omega)]; omega) (off := 99) (by rw [iz_toInt (by omega), q1]; decide +kernel) (by decide) ?_
    exfalso; omega
  · refine lv_tableIn (tgt := 108) hx hb dX9_count_1 (by rw [iz_toInt (by omega)]; omega) (by rw [iz_toInt (by omega)]; omega) (off := 107) (by rw [iz_toInt (by omega), q1]; decide +kernel) (by decide) ?_
    exfalso; omega
  · refine lv_tableIn (tgt := 116) hx hb dX9_count_1 (by rw [iz_toInt (by omega)]; omega) (by rw [iz_toInt (by omega)]; omega) (off := 115) (by rw [iz_toInt (by omega), q1]; decide +kernel) (by decide) ?_
    exfalso; omega
  · refine lv_tableIn (tgt := 124) hx hb dX9_count_1 (by rw [iz_toInt (by omega)]; omega) (by rw [iz_toInt (by omega)]; omega) (off := 123) (by rw [iz_toInt (by omega), q1]; decide +kernel) (by decide) ?_
    exfalso; omega
  · refine lv_tableIn (tgt := 132) hx hb dX9_count_1 (by rw [iz_toInt (by omega)]; omega) (by rw [iz_toInt (by omega)]; omega) (off := 131) (by rw [iz_toInt (by omega), q1]; decide +kernel) (by decide) ?_
    exfalso; omega
  · refine lv_tableIn (tgt := 140) hx hb dX9_count_1 (by rw [iz_toInt (by omega)]; omega) (by rw [iz_toInt (by omega)]; omega) (off := 139) (by rw [iz_toInt (by omega), q1]; decide +kernel) (by decide) ?_
    exfalso; omega
  · refine lv_tableIn (tgt := 151) hx hb dX9_count_1 (by rw [iz_toInt (by omega)]; omega) (by rw [iz_toInt (by omega)]; omega) (off := 150) (by rw [iz_toInt (by omega), q1]; decide +kernel) (by decide) ?_
    exfalso; omega
  · refine lv_tableIn (tgt := 162) hx hb dX9_count_1 (by rw [iz_toInt (by omega)]; omega) (by rw [iz_toInt (by omega)]; omega) (off := 161) (by rw [iz_toInt (by omega), q1]; decide +kernel) (by decide) ?_
    exfalso; omega
  · refine lv_tableIn (tgt := 170) hx hb dX9_count_1 (by rw [iz_toInt (by omega)]; omega) (by rw [iz_toInt (by omega)]; omega) (off := 169) (by rw [iz_toInt (by omega), q1]; decide +kernel) (by decide) ?_
    exfalso; omega
  · refine lv_tableIn (tgt := 178) hx hb dX9_count_1 (by rw [iz_toInt (by omega)]; omega) (by rw [iz_toInt (by omega)]; omega) (off := 177) (by rw [iz_toInt (by omega), q1]; decide +kernel) (by decide) ?_
    exfalso; omega
  · refine lv_tableIn (tgt := 186) hx hb dX9_count_1 (by rw [iz_toInt (by omega)]; omega) (by rw [iz_toInt (by omega)]; omega) (off := 185) (by rw [iz_toInt (by omega), q1]; decide +kernel) (by decide) ?_
    exfalso; omega
  · refine lv_tableIn (tgt := 194) hx hb dX9_count_1 (by rw [iz_toInt (by omega)]; omega) (by rw [iz_toInt (by omega)]; omega) (off := 193) (by rw [iz_toInt (by omega), q1]; decide +kernel) (by decide) ?_
    exfalso; omega
  · refine lv_tableIn (tgt := 199) hx hb dX9_count_1 (by rw [iz_toInt (by omega)]; omega) (by rw [iz_toInt (by omega)]; omega) (off := 198) (by rw [iz_toInt (by omega), q1]; decide +kernel) (by decide) ?_
    exfalso; omega
  · refine lv_tableIn (tgt := 209) hx hb dX9_count_1 (by rw [iz_toInt (by omega)]; omega) (by rw [iz_toInt (by omega)]; omega) (off := 208) (by rw [iz_toInt (by omega), q1]; decide +kernel) (by decide) ?_
    exfalso; omega
  · refine lv_tableIn (tgt := 219) hx hb dX9_count_1 (by rw [iz_toInt (by omega)]; omega) (by rw [iz_toInt (by omega)]; omega) (off := 218) (by rw [iz_toInt (by omega), q1]; decide +kernel) (by decide) ?_
    exfalso; omega

set_option maxHeartbeats 4000000 in
set_option maxRecDepth 100000 in
theorem xX9_thing_x (l : Launch) (htr : l.stackTraces = false) (G : va_G) (k : Nat → ClassId) (arT : Nat → Nat) (tpT : Nat) (paT : Nat) (pdT : Nat) (pbT : Nat) (pkT : Nat) (psT : Nat) (fiT : Nat → Int) (faT : Nat → Int → Int) (arP : Nat → Nat) (fiP : Nat → Int) (faP : Nat → Int → Int) (t0 : Int) (w0 : Int) (sz : Nat) (hRT : ∀ j, inR (fiT j)) (hRaT : ∀ j t, inR (faT j t)) (hRP : ∀ j, inR (fiP j)) (hRaP : ∀ j t, inR (faP j t)) (hB8P : bnd (faP 8) 7 0 4) (hB20P : bnd (faP 20) 600 (-1000) 10000) (hB21P : bnd (faP 21) 4 0 601) (hr_t0 : inR t0) (hr_w0 : inR w0) (hx0 : t0 < 0 ∨ fiP 7 ≤ t0 ∨ w0 < 0 ∨ 5 < w0) : CYi l G k yX9_thing wzX9_thing ({ frames := 6, cells := 1, slots := 6, locals := 100 }) [.ref (arT 99), .int (Int32.ofInt (t0)), .int (Int32.ofInt (w0))] sz ((wT k arT (tpT) (paT) (arP 99) (pdT) (pbT) (pkT) (psT) fiT faT) ++ (wP k arP fiP faP)) ns_X := by
  refine vx_ofW (cc := cX9_thing) (maxL := 3) (ret := (some .int)) (by decide) rfl ?_
  intro p e s m args below meth c s₁ B hml htab hv
  obtain ⟨⟨rfl, hsz, hP, hX, hD0, hZ0⟩, hT9⟩ := hv
  have hlocks := B.notSynchronized
  have hx := B.exec
  have hb := B.bytes
  have hr := B.returns
  have hts := atoms_spec (ws := wzX9_thing) B.pre
  have hown : s.vm.findClass RX9 = some m.cls := findClass_of_methodNamed B.named
  subst hsz
  have hD := hD0.self (sz := s.heap.size)
  have hZ := hZ0
  generalize hAe : va_A ((wT k arT (tpT) (paT) (arP 99) (pdT) (pbT) (pkT) (psT) fiT faT) ++ (wP k arP fiP faP)) s.heap.size = A at hD hZ ⊢
  have hA : ∀ q : Nat, s.heap.size ≤ q → A q := fun q h => by rw [← hAe]; exact Or.inr h
  have hS : va_S A s.heap s.heap [] := va_S.rf
  have hl := lv_entry ([.ref (arT 99), .int (Int32.ofInt (t0)), .int (Int32.ofInt (w0))]) (n := 3) (Nat.le_of_ble_eq_true rfl)
  rw [lg_entry_eq]
  generalize (lg_sl ([.ref (arT 99), .int (Int32.ofInt (t0)), .int (Int32.ofInt (w0))]) ++ List.replicate (3 - (lg_sl ([.ref (arT 99), .int (Int32.ofInt (t0)), .int (Int32.ofInt (w0))])).length) Slot.unset).toArray = ls at hl ⊢
  have hl : lv_has ls 3 [(0, .ref (arT 99)), (1, .int (Int32.ofInt (t0))), (2, .int (Int32.ofInt (w0)))] := hl
  obtain ⟨H, eH⟩ : ∃ H, H = s.heap := ⟨_, rfl⟩
  rw [← eH] at hP
  have hS : va_S A s.heap H [] := by rw [eH]; exact hS
  have gW : s.heap = H := eH.symm
  refine iv_heap gW ?_
  have h0w := hts (.fieldLink RX9 23 "RopeTown" "plan" "LRopeTown$Plan;") (wz_at 0 20 rfl)
  have h1w : ∀ w ∈ wsX90, w ∈ wzX9_thing := fun w h => List.mem_cons_of_mem _ (inlX9 w h)
  have h2w := hts (.initialized RX3) (wz_at 0 19 rfl)
  have h3w := hts (.instanceMethod yX3_has) (wz_at 23 5 rfl)
  have h4w := hts (.selects RX3 yX3_has yX3_has) (wz_at 23 6 rfl)
  have h5w := hts (.classLink RX9 144 "java/util/NoSuchElementException") (wz_at 22 10 rfl)
  have h6w := hts (.initialized "java/util/NoSuchElementException") (wz_at 22 11 rfl)
  refine lv_aload_n hx hb dX9_thing_0 rfl (lv_at hl 0 rfl) ?_
  refine va_get (D := G) (ci := 6) (v := .ref (arP 99)) (C := RX9) (T := TX9) (N := 11) (ref := RX9) hx hb hts h1w hown hX.1 hP 0 rfl rfl 4 (by decide) h0w (fun _ h9 => h9) rfl dX9_thing_1 ?_
  refine lv_iload_n hx hb dX9_thing_4 rfl (lv_at hl 1 rfl) ?_
  refine cz_i (wr := (wT k arT (tpT) (paT) (arP 99) (pdT) (pbT) (pkT) (psT) fiT faT)) (va_runVN (As := [.int (Int32.ofInt (t0))]) (rest := []) ⟨hx, hb, hml, hown, hts⟩ (mX3_has l G k arP fiP faP t0 H.size hRP hRaP hB8P hB20P hB21P (by omega)) ⟨va_cnB 1 hts (gz [] (.code yX3_has cX3_has 2 (some .boolean)) [(23, 7)] rfl) rfl rfl rfl (nm_38 hX.2.2.1) h2w (by decide +kernel) ⟨Nat.le_of_ble_eq_true rfl, Nat.le_of_ble_eq_true rfl⟩, h3w, h4w⟩ (cy_preV (EZ_ok k) hZ hS hX hP hD hA [2, 3, 4, 5, 6, 7, 8, 9, 10, 11] rfl rfl (ci := 2) (q0 := 2) rfl rfl) rfl rfl hl.1 rfl (lv_room (Nat.le_of_ble_eq_true rfl)) dX9_thing_5 ⟨Nat.le_of_ble_eq_true rfl, Nat.le_of_ble_eq_true rfl⟩) hP hD hS hA [2, 3, 4, 5, 6, 7, 8, 9, 10, 11] [0, 1] rfl rfl (by decide) (by decide) (fun r u H locs hp hP hD hS => ?_)
  obtain ⟨c1, rfl⟩ : ∃ z, z = u := ⟨_, rfl⟩
  obtain ⟨hP, hD⟩ : va_P G vwCl ((wT k arT (tpT) (paT) (arP 99) (pdT) (pbT) (pkT) (psT) fiT faT) ++ (wP k arP fiP faP)) H ∧ va_D A ((wT k arT (tpT) (paT) (arP 99) (pdT) (pbT) (pkT) (psT) fiT faT) ++ (wP k arP fiP faP)) := ⟨hP, hD⟩
  obtain ⟨h9, rc1, hp1⟩ : r = Int32.ofInt c1 ∧ (inR c1) ∧ ((c1 = 1 ∧ 0 ≤ t0 ∧ t0 < (fiP 7)) ∨ (c1 = 0 ∧ (t0 < 0 ∨ (fiP 7) ≤ t0))) := hp
  subst h9
  refine iv_if_ne (tgt := 21) hx hb (by omega) dX9_thing_8 (by decide) (fun q2 => ?_) (fun q2 => ?_)
  · refine lv_iload_n hx hb dX9_thing_21 rfl (lv_at hl 2 rfl) ?_
    obtain q3 | q3 | q3 | q3 | q3 | q3 | q3 : (w0 < 0 ∨ 5 < w0) ∨ w0 = 0 ∨ w0 = 1 ∨ w0 = 2 ∨ w0 = 3 ∨ w0 = 4 ∨ w0 = 5 := by omega
    · refine lv_tableOut (tgt := 142) hx hb dX9_thing_22 (by rw [iz_toInt (by omega)]; exact q3) (by decide) ?_
      exact ns_throw (own := RX9) (ik := 144) (is := 175) (ic := 148) hx hb htr hown h5w h6w (hX.2.2.2.2 3 (RX9, 175, "no such answer of a thing") rfl) (tx_ns hT9 (fun w h => hts w (List.mem_cons_of_mem _ (List.mem_append_right _ h)))) ns_good hZ.1.1 hZ.1.2 hS (hl.1.trans hml.symm) dX9_thing_142 dX9_thing_145 dX9_thing_146 dX9_thing_148 dX9_thing_151 (fun x hx9 => (htab x hx9).elim) (Nat.le_of_ble_eq_true rfl) (Nat.le_of_ble_eq_true rfl) (Nat.le_of_ble_eq_true rfl) (Nat.le_of_ble_eq_true rfl) hlocks (fun t ha hz hq => ⟨(), trivial, ⟨rfl, hP.kept (fun i x h8 => hq x.1 ((hP i x h8).lt)), hD⟩, Nat.le_trans hS.1 hz, fun q h3 h4 => (hq q (Nat.lt_of_lt_of_le h3 hS.1)).trans (hS.2.1 q h3 h4)⟩) hS.2.2 (Nat.le_of_ble_eq_true rfl) (Nat.le_of_ble_eq_true rfl)
    · refine lv_tableIn (tgt := 60) hx hb dX9_thing_22 (by rw [iz_toInt (by omega)]; omega) (by rw [iz_toInt (by omega)]; omega) (off := 38) (by rw [iz_toInt (by omega), q3]; decide +kernel) (by decide) ?_
      exfalso; omega
    · refine lv_tableIn (tgt := 70) hx hb dX9_thing_22 (by rw [iz_toInt (by omega)]; omega) (by rw [iz_toInt (by omega)]; omega) (off := 48) (by rw [iz_toInt (by omega), q3]; decide +kernel) (by decide) ?_
      exfalso; omega
    · refine lv_tableIn (tgt := 80) hx hb dX9_thing_22 (by rw [iz_toInt (by omega)]; omega) (by rw [iz_toInt (by omega)]; omega) (off := 58) (by rw [iz_toInt (by omega), q3]; decide +kernel) (by decide) ?_
      exfalso; omega
    · refine lv_tableIn (tgt := 90) hx hb dX9_thing_22 (by rw [iz_toInt (by omega)]; omega) (by rw [iz_toInt (by omega)]; omega) (off := 68) (by rw [iz_toInt (by omega), q3]; decide +kernel) (by decide) ?_
      exfalso; omega
    · refine lv_tableIn (tgt := 106) hx hb dX9_thing_22 (by rw [iz_toInt (by omega)]; omega) (by rw [iz_toInt (by omega)]; omega) (off := 84) (by rw [iz_toInt (by omega), q3]; decide +kernel) (by decide) ?_
      exfalso; omega
    · refine lv_tableIn (tgt := 118) hx hb dX9_thing_22 (by rw [iz_toInt (by omega)]; omega) (by rw [iz_toInt (by omega)]; omega) (off := 96) (by rw [iz_toInt (by omega), q3]; decide +kernel) (by decide) ?_
      exfalso; omega
  · exact ns_throw (own := RX9) (ik := 144) (is := 153) (ic := 148) hx hb htr hown h5w h6w (hX.2.2.2.2 2 (RX9, 153, "no such thing") rfl) (tx_ns hT9 (fun w h => hts w (List.mem_cons_of_mem _ (List.mem_append_right _ h)))) ns_good hZ.1.1 hZ.1.2 hS (hl.1.trans hml.symm) dX9_thing_11 dX9_thing_14 dX9_thing_15 dX9_thing_17 dX9_thing_20 (fun x hx9 => (htab x hx9).elim) (Nat.le_of_ble_eq_true rfl) (Nat.le_of_ble_eq_true rfl) (Nat.le_of_ble_eq_true rfl) (Nat.le_of_ble_eq_true rfl) hlocks (fun t ha hz hq => ⟨(), trivial, ⟨rfl, hP.kept (fun i x h8 => hq x.1 ((hP i x h8).lt)), hD⟩, Nat.le_trans hS.1 hz, fun q h3 h4 => (hq q (Nat.lt_of_lt_of_le h3 hS.1)).trans (hS.2.1 q h3 h4)⟩) hS.2.2 (Nat.le_of_ble_eq_true rfl) (Nat.le_of_ble_eq_true rfl)

set_option maxHeartbeats 4000000 in
set_option maxRecDepth 100000 in
theorem xX9_bucket_x (l : Launch) (htr : l.stackTraces = false) (G : va_G) (k : Nat → ClassId) (arT : Nat → Nat) (tpT : Nat) (paT : Nat) (pdT : Nat) (pkT : Nat) (psT : Nat) (fiT : Nat → Int) (faT : Nat → Int → Int) (arP : Nat → Nat) (fiP : Nat → Int) (faP : Nat → Int → Int) (arB : Nat → Nat) (fiB : Nat → Int) (faB : Nat → Int → Int) (b0 : Int) (w0 : Int) (sz : Nat) (hRT : ∀ j, inR (fiT j)) (hRaT : ∀ j t, inR (faT j t)) (hRP : ∀ j, inR (fiP j)) (hRaP : ∀ j t, inR (faP j t)) (hB8P : bnd (faP 8) 7 0 4) (hB20P : bnd (faP 20) 600 (-1000) 10000) (hB21P : bnd (faP 21) 4 0 601) (hRB : ∀ j, inR (fiB j)) (hRaB : ∀ j t, inR (faB j t)) (hr_b0 : inR b0) (hr_w0 : inR w0) (hbt : 0 ≤ fiP 0 ∧ fiP 0 ≤ 11) (hx0 : b0 < 0 ∨ 1 < b0 ∨ w0 < 0 ∨ 4 < w0) : CYi l G k yX9_bucket wzX9_bucket ({ frames := 6, cells := 1, slots := 6, locals := 100 }) [.ref (arT 99), .int (Int32.ofInt (b0)), .int (Int32.ofInt (w0))] sz ((wT k arT (tpT) (paT) (arP 99) (pdT) (arB 99) (pkT) (psT) fiT faT) ++ ((wP k arP fiP faP) ++ (wB k arB fiB faB))) ns_X := by
  refine vx_ofW (cc := cX9_bucket) (maxL := 4) (ret := (some .int)) (by decide) rfl ?_
  intro p e s m args below meth c s₁ B hml htab hv
  obtain ⟨⟨rfl, hsz, hP, hX, hD0, hZ0⟩, hT9⟩ := hv
  have hlocks := B.notSynchronized
  have hx := B.exec
  have hb := B.bytes
  have hr := B.returns
  have hts := atoms_spec (ws := wzX9_bucket) B.pre
  have hown : s.vm.findClass RX9 = some m.cls := findClass_of_methodNamed B.named
  subst hsz
  have hD := hD0.self (sz := s.heap.size)
  have hZ := hZ0
  generalize hAe : va_A ((wT k arT (tpT) (paT) (arP 99) (pdT) (arB 99) (pkT) (psT) fiT faT) ++ ((wP k arP fiP faP) ++ (wB k arB fiB faB))) s.heap.size = A at hD hZ ⊢
  have hA : ∀ q : Nat, s.heap.size ≤ q → A q := fun q h => by rw [← hAe]; exact Or.inr h
  have hS : va_S A s.heap s.heap [] := va_S.rf
  have hl := lv_entry ([.ref (arT 99), .int (Int32.ofInt (b0)), .int (Int32.ofInt (w0))]) (n := 4) (Nat.le_of_ble_eq_true rfl)
  rw [lg_entry_eq]
  generalize (lg_sl ([.ref (arT 99), .int (Int32.ofInt (b0)), .int (Int32.ofInt (w0))]) ++ List.replicate (4 - (lg_sl ([.ref (arT 99), .int (Int32.ofInt (b0)), .int (Int32.ofInt (w0))])).length) Slot.unset).toArray = ls at hl ⊢
  have hl : lv_has ls 4 [(0, .ref (arT 99)), (1, .int (Int32.ofInt (b0))), (2, .int (Int32.ofInt (w0)))] := hl
  obtain ⟨H, eH⟩ : ∃ H, H = s.heap := ⟨_, rfl⟩
  rw [← eH] at hP
  have hS : va_S A s.heap H [] := by rw [eH]; exact hS
  have gW : s.heap = H := eH.symm
  refine iv_heap gW ?_
  have h0w := hts (.classLink RX9 144 "java/util/NoSuchElementException") (wz_at 22 10 rfl)
  have h1w := hts (.initialized "java/util/NoSuchElementException") (wz_at 22 11 rfl)
  have h2w := hts (.fieldLink RX9 23 "RopeTown" "plan" "LRopeTown$Plan;") (wz_at 0 20 rfl)
  have h3w : ∀ w ∈ wsX90, w ∈ wzX9_bucket := fun w h => List.mem_cons_of_mem _ (inlX9 w h)
  have h4w := hts (.fieldLink RX9 42 "RopeTown" "book" "LRopeTown$Book;") (wz_at 1 5 rfl)
  have h5w : ∀ w ∈ wsX10, w ∈ wzX9_bucket := fun w h => List.mem_cons_of_mem _ (inlX1 w h)
  have h6w := hts (.initialized RX3) (wz_at 0 19 rfl)
  have h7w := hts (.instanceMethod yX3_bucketDepth) (wz_at 23 14 rfl)
  have h8w := hts (.selects RX3 yX3_bucketDepth yX3_bucketDepth) (wz_at 23 15 rfl)
  refine lv_iload_n hx hb dX9_bucket_0 rfl (lv_at hl 1 rfl) ?_
  refine iv_if_lt (tgt := 9) hx hb (by omega) dX9_bucket_1 (by decide) (fun q1 => ?_) (fun q1 => ?_)
  · exact ns_throw (own := RX9) (ik := 144) (is := 177) (ic := 148) hx hb htr hown h0w h1w (hX.2.2.2.2 4 (RX9, 177, "no such bucket") rfl) (tx_ns hT9 (fun w h => hts w (List.mem_cons_of_mem _ (List.mem_append_right _ h)))) ns_good hZ.1.1 hZ.1.2 hS (hl.1.trans hml.symm) dX9_bucket_9 dX9_bucket_12 dX9_bucket_13 dX9_bucket_15 dX9_bucket_18 (fun x hx9 => (htab x hx9).elim) (Nat.le_of_ble_eq_true rfl) (Nat.le_of_ble_eq_true rfl) (Nat.le_of_ble_eq_true rfl) (Nat.le_of_ble_eq_true rfl) hlocks (fun t ha hz hq => ⟨(), trivial, ⟨rfl, hP.kept (fun i x h8 => hq x.1 ((hP i x h8).lt)), hD⟩, Nat.le_trans hS.1 hz, fun q h3 h4 => (hq q (Nat.lt_of_lt_of_le h3 hS.1)).trans (hS.2.1 q h3 h4)⟩) hS.2.2 (Nat.le_of_ble_eq_true rfl) (Nat.le_of_ble_eq_true rfl)
  · refine lv_iload_n hx hb dX9_bucket_4 rfl (lv_at hl 1 rfl) ?_
    refine lv_iconst (v := Int32.ofInt 1) hx hb dX9_bucket_5 (by decide +kernel) ?_
    refine iv_icmp_le (tgt := 19) hx hb (by omega) (by omega) dX9_bucket_6 (by decide) (fun q2 => ?_) (fun q2 => ?_)
    · refine lv_aload_n hx hb dX9_bucket_19 rfl (lv_at hl 0 rfl) ?_
      refine va_get (D := G) (ci := 6) (v := .ref (arP 99)) (C := RX9) (T := TX9) (N := 11) (ref := RX9) hx hb hts h3w hown hX.1 hP 0 rfl rfl 4 (by decide) h2w (fun _ h9 => h9) rfl dX9_bucket_20 ?_
      refine lv_aload_n hx hb dX9_bucket_23 rfl (lv_at hl 0 rfl) ?_
      refine va_get (D := G) (ci := 6) (v := .ref (arB 99)) (C := RX9) (T := TX9) (N := 11) (ref := RX9) hx hb hts h3w hown hX.1 hP 0 rfl rfl 6 (by decide) h4w (fun _ h9 => h9) rfl dX9_bucket_24 ?_
      refine va_getN (D := G) (ci := 0) (v := .int (Int32.ofInt (fiB 0))) (C := RX1) (T := TX1) (N := 12) (ref := RX1) (host := RX9) hx hb hts h5w hown hX.1 hP 12 rfl rfl 0 (by decide) (nf_37 hX.2.2.1) (fun _ h9 => h9) rfl dX9_bucket_27 ?_
      have rf0B := hRB 0
      refine lv_iload_n hx hb dX9_bucket_30 rfl (lv_at hl 1 rfl) ?_
      refine cz_i (wr := ((wT k arT (tpT) (paT) (arP 99) (pdT) (arB 99) (pkT) (psT) fiT faT) ++ (wB k arB fiB faB))) (va_runVN (As := [.int (Int32.ofInt (fiB 0)), .int (Int32.ofInt (b0))]) (rest := []) ⟨hx, hb, hml, hown, hts⟩ (mX3_bucketDepth l G k arP fiP faP (fiB 0) b0 H.size hRP hRaP hB8P hB20P hB21P (hRB 0) (by omega) (show 0 ≤ (fiP 0) ∧ (fiP 0) ≤ 11 from by omega)) ⟨va_cnB 2 hts (gz [] (.code yX3_bucketDepth cX3_bucketDepth 3 (some .int)) [(23, 16)] rfl) rfl rfl rfl (nm_42 hX.2.2.1) h6w (by decide +kernel) ⟨Nat.le_of_ble_eq_true rfl, Nat.le_of_ble_eq_true rfl⟩, h7w, h8w⟩ (cy_preV (EZ_ok k) hZ hS hX hP hD hA [2, 3, 4, 5, 6, 7, 8, 9, 10, 11] rfl rfl (ci := 2) (q0 := 2) rfl rfl) rfl rfl hl.1 rfl (lv_room (Nat.le_of_ble_eq_true rfl)) dX9_bucket_31 ⟨Nat.le_of_ble_eq_true rfl, Nat.le_of_ble_eq_true rfl⟩) hP hD hS hA [2, 3, 4, 5, 6, 7, 8, 9, 10, 11] [0, 1, 12, 13, 14, 15, 16, 17, 18, 19] rfl rfl (by decide) (by decide) (fun r u H locs hp hP hD hS => ?_)
      obtain ⟨c3, rfl⟩ : ∃ z, z = u := ⟨_, rfl⟩
      obtain ⟨hP, hD⟩ : va_P G vwCl ((wT k arT (tpT) (paT) (arP 99) (pdT) (arB 99) (pkT) (psT) fiT faT) ++ ((wB k arB fiB faB) ++ (wP k arP fiP faP))) H ∧ va_D A ((wT k arT (tpT) (paT) (arP 99) (pdT) (arB 99) (pkT) (psT) fiT faT) ++ ((wB k arB fiB faB) ++ (wP k arP fiP faP))) := ⟨hP, hD⟩
      obtain ⟨hP, hD⟩ : va_P G vwCl ((wT k arT (tpT) (paT) (arP 99) (pdT) (arB 99) (pkT) (psT) fiT faT) ++ ((wP k arP fiP faP) ++ (wB k arB fiB faB))) H ∧ va_D A ((wT k arT (tpT) (paT) (arP 99) (pdT) (arB 99) (pkT) (psT) fiT faT) ++ ((wP k arP fiP faP) ++ (wB k arB fiB faB))) := re_ord hP hD [0, 1, 10, 11, 12, 13, 14, 15, 16, 17, 18, 19, 2, 3, 4, 5, 6, 7, 8, 9] (by decide) rfl
      obtain ⟨h9, rc3, hp3⟩ : r = Int32.ofInt c3 ∧ (inR c3) ∧ (c3 = buD b0 (dp (fiB 0)) ((fiP 0)) ∧ -15 ≤ c3 ∧ c3 ≤ 15) := hp
      subst h9
      have hBu31 := hp3.1
      refine lv_istore_n (lv' := [(3, .int (Int32.ofInt (c3))), (0, .ref (arT 99)), (1, .int (Int32.ofInt (b0))), (2, .int (Int32.ofInt (w0)))]) hx hb dX9_bucket_34 rfl hl (by decide) rfl (fun ls hl => ?_)
      refine lv_iload_n hx hb dX9_bucket_35 rfl (lv_at hl 3 rfl) ?_
      obtain q4 | q4 | q4 | q4 | q4 | q4 : (w0 < 0 ∨ 4 < w0) ∨ w0 = 0 ∨ w0 = 1 ∨ w0 = 2 ∨ w0 = 3 ∨ w0 = 4 := by omega
      · refine lv_tableOut (tgt := 144) hx hb dX9_bucket_36 (by rw [iz_toInt (by omega)]; exact q4) (by decide) ?_
        exact ns_throw (own := RX9) (ik := 144) (is := 191) (ic := 148) hx hb htr hown h0w h1w (hX.2.2.2.2 5 (RX9, 191, "no such answer of a bucket") rfl) (tx_ns hT9 (fun w h => hts w (List.mem_cons_of_mem _ (List.mem_append_right _ h)))) ns_good hZ.1.1 hZ.1.2 hS (hl.1.trans hml.symm) dX9_bucket_144 dX9_bucket_147 dX9_bucket_148 dX9_bucket_150 dX9_bucket_153 (fun x hx9 => (htab x hx9).elim) (Nat.le_of_ble_eq_true rfl) (Nat.le_of_ble_eq_true rfl) (Nat.le_of_ble_eq_true rfl) (Nat.le_of_ble_eq_true rfl) hlocks (fun t ha hz hq => ⟨(), trivial, ⟨rfl, hP.kept (fun i x h8 => hq x.1 ((hP i x h8).lt)), hD⟩, Nat.le_trans hS.1 hz, fun q h3 h4 => (hq q (Nat.lt_of_lt_of_le h3 hS.1)).trans (hS.2.1 q h3 h4)⟩) hS.2.2 (Nat.le_of_ble_eq_true rfl) (Nat.le_of_ble_eq_true rfl)
      · refine lv_tableIn (tgt := 72) hx hb dX9_bucket_36 (by rw [iz_toInt (by omega)]; omega) (by rw [iz_toInt (by omega)]; omega) (off := 36) (by rw [iz_toInt (by omega), q4]; decide +kernel) (by decide) ?_
        exfalso; omega
      · refine lv_tableIn (tgt := 88) hx hb dX9_bucket_36 (by rw [iz_toInt (by omega)]; omega) (by rw [iz_toInt (by omega)]; omega) (off := 52) (by rw [iz_toInt (by omega), q4]; decide +kernel) (by decide) ?_
        exfalso; omega
      · refine lv_tableIn (tgt := 114) hx hb dX9_bucket_36 (by rw [iz_toInt (by omega)]; omega) (by rw [iz_toInt (by omega)]; omega) (off := 78) (by rw [iz_toInt (by omega), q4]; decide +kernel) (by decide) ?_
        exfalso; omega
      · refine lv_tableIn (tgt := 116) hx hb dX9_bucket_36 (by rw [iz_toInt (by omega)]; omega) (by rw [iz_toInt (by omega)]; omega) (off := 80) (by rw [iz_toInt (by omega), q4]; decide +kernel) (by decide) ?_
        exfalso; omega
      · refine lv_tableIn (tgt := 128) hx hb dX9_bucket_36 (by rw [iz_toInt (by omega)]; omega) (by rw [iz_toInt (by omega)]; omega) (off := 92) (by rw [iz_toInt (by omega), q4]; decide +kernel) (by decide) ?_
        exfalso; omega
    · exact ns_throw (own := RX9) (ik := 144) (is := 177) (ic := 148) hx hb htr hown h0w h1w (hX.2.2.2.2 4 (RX9, 177, "no such bucket") rfl) (tx_ns hT9 (fun w h => hts w (List.mem_cons_of_mem _ (List.mem_append_right _ h)))) ns_good hZ.1.1 hZ.1.2 hS (hl.1.trans hml.symm) dX9_bucket_9 dX9_bucket_12 dX9_bucket_13 dX9_bucket_15 dX9_bucket_18 (fun x hx9 => (htab x hx9).elim) (Nat.le_of_ble_eq_true rfl) (Nat.le_of_ble_eq_true rfl) (Nat.le_of_ble_eq_true rfl) (Nat.le_of_ble_eq_true rfl) hlocks (fun t ha hz hq => ⟨(), trivial, ⟨rfl, hP.kept (fun i x h8 => hq x.1 ((hP i x h8).lt)), hD⟩, Nat.le_trans hS.1 hz, fun q h3 h4 => (hq q (Nat.lt_of_lt_of_le h3 hS.1)).trans (hS.2.1 q h3 h4)⟩) hS.2.2 (Nat.le_of_ble_eq_true rfl) (Nat.le_of_ble_eq_true rfl)

set_option maxHeartbeats 4000000 in
set_option maxRecDepth 100000 in
theorem xX9_moved_x (l : Launch) (htr : l.stackTraces = false) (G : va_G) (k : Nat → ClassId) (arT : Nat → Nat) (tpT : Nat) (paT : Nat) (ppT : Nat) (pdT : Nat) (pkT : Nat) (psT : Nat) (fiT : Nat → Int) (faT : Nat → Int → Int) (arB : Nat → Nat) (fiB : Nat → Int) (faB : Nat → Int → Int) (i0 : Int) (w0 : Int) (sz : Nat) (hRT : ∀ j, inR (fiT j)) (hRaT : ∀ j t, inR (faT j t)) (hRB : ∀ j, inR (fiB j)) (hRaB : ∀ j t, inR (faB j t)) (hr_i0 : inR i0) (hr_w0 : inR w0) (hx0 : i0 < 0 ∨ fiB 1 ≤ i0 ∨ w0 < 0 ∨ 2 < w0) : CYi l G k yX9_moved wzX9_moved ({ frames := 6, cells := 1, slots := 6, locals := 100 }) [.ref (arT 99), .int (Int32.ofInt (i0)), .int (Int32.ofInt (w0))] sz ((wT k arT (tpT) (paT) (ppT) (pdT) (arB 99) (pkT) (psT) fiT faT) ++ (wB k arB fiB faB)) ns_X := by
  refine vx_ofW (cc := cX9_moved) (maxL := 3) (ret := (some .int)) (by decide) rfl ?_
  intro p e s m args below meth c s₁ B hml htab hv
  obtain ⟨⟨rfl, hsz, hP, hX, hD0, hZ0⟩, hT9⟩ := hv
  have hlocks := B.notSynchronized
  have hx := B.exec
  have hb := B.bytes
  have hr := B.returns
  have hts := atoms_spec (ws := wzX9_moved) B.pre
  have hown : s.vm.findClass RX9 = some m.cls := findClass_of_methodNamed B.named
  subst hsz
  have hD := hD0.self (sz := s.heap.size)
  have hZ := hZ0
  generalize hAe : va_A ((wT k arT (tpT) (paT) (ppT) (pdT) (arB 99) (pkT) (psT) fiT faT) ++ (wB k arB fiB faB)) s.heap.size = A at hD hZ ⊢
  have hA : ∀ q : Nat, s.heap.size ≤ q → A q := fun q h => by rw [← hAe]; exact Or.inr h
  have hS : va_S A s.heap s.heap [] := va_S.rf
  have hl := lv_entry ([.ref (arT 99), .int (Int32.ofInt (i0)), .int (Int32.ofInt (w0))]) (n := 3) (Nat.le_of_ble_eq_true rfl)
  rw [lg_entry_eq]
  generalize (lg_sl ([.ref (arT 99), .int (Int32.ofInt (i0)), .int (Int32.ofInt (w0))]) ++ List.replicate (3 - (lg_sl ([.ref (arT 99), .int (Int32.ofInt (i0)), .int (Int32.ofInt (w0))])).length) Slot.unset).toArray = ls at hl ⊢
  have hl : lv_has ls 3 [(0, .ref (arT 99)), (1, .int (Int32.ofInt (i0))), (2, .int (Int32.ofInt (w0)))] := hl
  obtain ⟨H, eH⟩ : ∃ H, H = s.heap := ⟨_, rfl⟩
  rw [← eH] at hP
  have hS : va_S A s.heap H [] := by rw [eH]; exact hS
  have gW : s.heap = H := eH.symm
  refine iv_heap gW ?_
  have h0w := hts (.classLink RX9 144 "java/util/NoSuchElementException") (wz_at 22 10 rfl)
  have h1w := hts (.initialized "java/util/NoSuchElementException") (wz_at 22 11 rfl)
  have h2w := hts (.fieldLink RX9 42 "RopeTown" "book" "LRopeTown$Book;") (wz_at 1 5 rfl)
  have h3w : ∀ w ∈ wsX90, w ∈ wzX9_moved := fun w h => List.mem_cons_of_mem _ (inlX9 w h)
  have h4w : ∀ w ∈ wsX10, w ∈ wzX9_moved := fun w h => List.mem_cons_of_mem _ (inlX1 w h)
  refine lv_iload_n hx hb dX9_moved_0 rfl (lv_at hl 1 rfl) ?_
  refine iv_if_lt (tgt := 15) hx hb (by omega) dX9_moved_1 (by decide) (fun q1 => ?_) (fun q1 => ?_)
  · exact ns_throw (own := RX9) (ik := 144) (is := 228) (ic := 148) hx hb htr hown h0w h1w (hX.2.2.2.2 6 (RX9, 228, "no such move") rfl) (tx_ns hT9 (fun w h => hts w (List.mem_cons_of_mem _ (List.mem_append_right _ h)))) ns_good hZ.1.1 hZ.1.2 hS (hl.1.trans hml.symm) dX9_moved_15 dX9_moved_18 dX9_moved_19 dX9_moved_21 dX9_moved_24 (fun x hx9 => (htab x hx9).elim) (Nat.le_of_ble_eq_true rfl) (Nat.le_of_ble_eq_true rfl) (Nat.le_of_ble_eq_true rfl) (Nat.le_of_ble_eq_true rfl) hlocks (fun t ha hz hq => ⟨(), trivial, ⟨rfl, hP.kept (fun i x h8 => hq x.1 ((hP i x h8).lt)), hD⟩, Nat.le_trans hS.1 hz, fun q h3 h4 => (hq q (Nat.lt_of_lt_of_le h3 hS.1)).trans (hS.2.1 q h3 h4)⟩) hS.2.2 (Nat.le_of_ble_eq_true rfl) (Nat.le_of_ble_eq_true rfl)
  · refine lv_iload_n hx hb dX9_moved_4 rfl (lv_at hl 1 rfl) ?_
    refine lv_aload_n hx hb dX9_moved_5 rfl (lv_at hl 0 rfl) ?_
    refine va_get (D := G) (ci := 6) (v := .ref (arB 99)) (C := RX9) (T := TX9) (N := 11) (ref := RX9) hx hb hts h3w hown hX.1 hP 0 rfl rfl 6 (by decide) h2w (fun _ h9 => h9) rfl dX9_moved_6 ?_
    refine va_getN (D := G) (ci := 0) (v := .int (Int32.ofInt (fiB 1))) (C := RX1) (T := TX1) (N := 12) (ref := RX1) (host := RX9) hx hb hts h4w hown hX.1 hP 2 rfl rfl 1 (by decide) (nf_38 hX.2.2.1) (fun _ h9 => h9) rfl dX9_moved_9 ?_
    have rf1B := hRB 1
    refine iv_icmp_lt (tgt := 25) hx hb (by omega) (by omega) dX9_moved_12 (by decide) (fun q2 => ?_) (fun q2 => ?_)
    · refine lv_iload_n hx hb dX9_moved_25 rfl (lv_at hl 2 rfl) ?_
      obtain q3 | q3 | q3 | q3 : (w0 < 0 ∨ 2 < w0) ∨ w0 = 0 ∨ w0 = 1 ∨ w0 = 2 := by omega
      · refine lv_tableOut (tgt := 82) hx hb dX9_moved_26 (by rw [iz_toInt (by omega)]; exact q3) (by decide) ?_
        exact ns_throw (own := RX9) (ik := 144) (is := 239) (ic := 148) hx hb htr hown h0w h1w (hX.2.2.2.2 7 (RX9, 239, "no such answer of a move") rfl) (tx_ns hT9 (fun w h => hts w (List.mem_cons_of_mem _ (List.mem_append_right _ h)))) ns_good hZ.1.1 hZ.1.2 hS (hl.1.trans hml.symm) dX9_moved_82 dX9_moved_85 dX9_moved_86 dX9_moved_88 dX9_moved_91 (fun x hx9 => (htab x hx9).elim) (Nat.le_of_ble_eq_true rfl) (Nat.le_of_ble_eq_true rfl) (Nat.le_of_ble_eq_true rfl) (Nat.le_of_ble_eq_true rfl) hlocks (fun t ha hz hq => ⟨(), trivial, ⟨rfl, hP.kept (fun i x h8 => hq x.1 ((hP i x h8).lt)), hD⟩, Nat.le_trans hS.1 hz, fun q h3 h4 => (hq q (Nat.lt_of_lt_of_le h3 hS.1)).trans (hS.2.1 q h3 h4)⟩) hS.2.2 (Nat.le_of_ble_eq_true rfl) (Nat.le_of_ble_eq_true rfl)
      · refine lv_tableIn (tgt := 52) hx hb dX9_moved_26 (by rw [iz_toInt (by omega)]; omega) (by rw [iz_toInt (by omega)]; omega) (off := 26) (by rw [iz_toInt (by omega), q3]; decide +kernel) (by decide) ?_
        exfalso; omega
      · refine lv_tableIn (tgt := 62) hx hb dX9_moved_26 (by rw [iz_toInt (by omega)]; omega) (by rw [iz_toInt (by omega)]; omega) (off := 36) (by rw [iz_toInt (by omega), q3]; decide +kernel) (by decide) ?_
        exfalso; omega
      · refine lv_tableIn (tgt := 72) hx hb dX9_moved_26 (by rw [iz_toInt (by omega)]; omega) (by rw [iz_toInt (by omega)]; omega) (off := 46) (by rw [iz_toInt (by omega), q3]; decide +kernel) (by decide) ?_
        exfalso; omega
    · exact ns_throw (own := RX9) (ik := 144) (is := 228) (ic := 148) hx hb htr hown h0w h1w (hX.2.2.2.2 6 (RX9, 228, "no such move") rfl) (tx_ns hT9 (fun w h => hts w (List.mem_cons_of_mem _ (List.mem_append_right _ h)))) ns_good hZ.1.1 hZ.1.2 hS (hl.1.trans hml.symm) dX9_moved_15 dX9_moved_18 dX9_moved_19 dX9_moved_21 dX9_moved_24 (fun x hx9 => (htab x hx9).elim) (Nat.le_of_ble_eq_true rfl) (Nat.le_of_ble_eq_true rfl) (Nat.le_of_ble_eq_true rfl) (Nat.le_of_ble_eq_true rfl) hlocks (fun t ha hz hq => ⟨(), trivial, ⟨rfl, hP.kept (fun i x h8 => hq x.1 ((hP i x h8).lt)), hD⟩, Nat.le_trans hS.1 hz, fun q h3 h4 => (hq q (Nat.lt_of_lt_of_le h3 hS.1)).trans (hS.2.1 q h3 h4)⟩) hS.2.2 (Nat.le_of_ble_eq_true rfl) (Nat.le_of_ble_eq_true rfl)

set_option maxHeartbeats 4000000 in
set_option maxRecDepth 100000 in
theorem xX9_fewest_x (l : Launch) (htr : l.stackTraces = false) (G : va_G) (k : Nat → ClassId) (ar : Nat → Nat) (tp : Nat) (pa : Nat) (pp : Nat) (pd : Nat) (pb : Nat) (pk : Nat) (ps : Nat) (fi : Nat → Int) (fa : Nat → Int → Int) (w0 : Int) (sz : Nat) (hR : ∀ j, inR (fi j)) (hRa : ∀ j t, inR (fa j t)) (hr_w0 : inR w0) (hx0 : ¬ w0 = 0 ∧ ¬ w0 = 1) : CYi l G k yX9_fewest wzX9_fewest ({ frames := 6, cells := 1, slots := 6, locals := 100 }) [.ref (ar 99), .int (Int32.ofInt (w0))] sz (wT k ar (tp) (pa) (pp) (pd) (pb) (pk) (ps) fi fa) ns_X := by
  refine vx_ofW (cc := cX9_fewest) (maxL := 3) (ret := (some .int)) (by decide) rfl ?_
  intro p e s m args below meth c s₁ B hml htab hv
  obtain ⟨⟨rfl, hsz, hP, hX, hD0, hZ0⟩, hT9⟩ := hv
  have hlocks := B.notSynchronized
  have hx := B.exec
  have hb := B.bytes
  have hr := B.returns
  have hts := atoms_spec (ws := wzX9_fewest) B.pre
  have hown : s.vm.findClass RX9 = some m.cls := findClass_of_methodNamed B.named
  subst hsz
  have hD := hD0.self (sz := s.heap.size)
  have hZ := hZ0
  generalize hAe : va_A (wT k ar (tp) (pa) (pp) (pd) (pb) (pk) (ps) fi fa) s.heap.size = A at hD hZ ⊢
  have hA : ∀ q : Nat, s.heap.size ≤ q → A q := fun q h => by rw [← hAe]; exact Or.inr h
  have hS : va_S A s.heap s.heap [] := va_S.rf
  have hl := lv_entry ([.ref (ar 99), .int (Int32.ofInt (w0))]) (n := 3) (Nat.le_of_ble_eq_true rfl)
  rw [lg_entry_eq]
  generalize (lg_sl ([.ref (ar 99), .int (Int32.ofInt (w0))]) ++ List.replicate (3 - (lg_sl ([.ref (ar 99), .int (Int32.ofInt (w0))])).length) Slot.unset).toArray = ls at hl ⊢
  have hl : lv_has ls 3 [(0, .ref (ar 99)), (1, .int (Int32.ofInt (w0)))] := hl
  obtain ⟨H, eH⟩ : ∃ H, H = s.heap := ⟨_, rfl⟩
  rw [← eH] at hP
  have hS : va_S A s.heap H [] := by rw [eH]; exact hS
  have gW : s.heap = H := eH.symm
  refine iv_heap gW ?_
  have h0w := hts (.classLink RX9 144 "java/util/NoSuchElementException") (wz_at 22 10 rfl)
  have h1w := hts (.initialized "java/util/NoSuchElementException") (wz_at 22 11 rfl)
  refine lv_iload_n hx hb dX9_fewest_0 rfl (lv_at hl 1 rfl) ?_
  refine iv_if_eq (tgt := 19) hx hb (by omega) dX9_fewest_1 (by decide) (fun q1 => ?_) (fun q1 => ?_)
  · exfalso; omega
  · refine lv_iload_n hx hb dX9_fewest_4 rfl (lv_at hl 1 rfl) ?_
    refine lv_iconst (v := Int32.ofInt 1) hx hb dX9_fewest_5 (by decide +kernel) ?_
    refine iv_icmp_eq (tgt := 19) hx hb (by omega) (by omega) dX9_fewest_6 (by decide) (fun q2 => ?_) (fun q2 => ?_)
    · exfalso; omega
    · exact ns_throw (own := RX9) (ik := 144) (is := 244) (ic := 148) hx hb htr hown h0w h1w (hX.2.2.2.2 8 (RX9, 244, "no such fewest") rfl) (tx_ns hT9 (fun w h => hts w (List.mem_cons_of_mem _ (List.mem_append_right _ h)))) ns_good hZ.1.1 hZ.1.2 hS (hl.1.trans hml.symm) dX9_fewest_9 dX9_fewest_12 dX9_fewest_13 dX9_fewest_15 dX9_fewest_18 (fun x hx9 => (htab x hx9).elim) (Nat.le_of_ble_eq_true rfl) (Nat.le_of_ble_eq_true rfl) (Nat.le_of_ble_eq_true rfl) (Nat.le_of_ble_eq_true rfl) hlocks (fun t ha hz hq => ⟨(), trivial, ⟨rfl, hP.kept (fun i x h8 => hq x.1 ((hP i x h8).lt)), hD⟩, Nat.le_trans hS.1 hz, fun q h3 h4 => (hq q (Nat.lt_of_lt_of_le h3 hS.1)).trans (hS.2.1 q h3 h4)⟩) hS.2.2 (Nat.le_of_ble_eq_true rfl) (Nat.le_of_ble_eq_true rfl)

set_option maxHeartbeats 4000000 in
set_option maxRecDepth 100000 in
theorem xX9_reach_x (l : Launch) (htr : l.stackTraces = false) (G : va_G) (k : Nat → ClassId) (arT : Nat → Nat) (tpT : Nat) (paT : Nat) (pdT : Nat) (pbT : Nat) (pkT : Nat) (psT : Nat) (fiT : Nat → Int) (faT : Nat → Int → Int) (arP : Nat → Nat) (fiP : Nat → Int) (faP : Nat → Int → Int) (t0 : Int) (sz : Nat) (hRT : ∀ j, inR (fiT j)) (hRaT : ∀ j t, inR (faT j t)) (hRP : ∀ j, inR (fiP j)) (hRaP : ∀ j t, inR (faP j t)) (hB8P : bnd (faP 8) 7 0 4) (hB20P : bnd (faP 20) 600 (-1000) 10000) (hB21P : bnd (faP 21) 4 0 601) (hr_t0 : inR t0) (hx0 : t0 < 0 ∨ fiP 7 ≤ t0) : CYi l G k yX9_reach wzX9_reach ({ frames := 6, cells := 1, slots := 6, locals := 100 }) [.ref (arT 99), .int (Int32.ofInt (t0))] sz ((wT k arT (tpT) (paT) (arP 99) (pdT) (pbT) (pkT) (psT) fiT faT) ++ (wP k arP fiP faP)) ns_X := by
  refine vx_ofW (cc := cX9_reach) (maxL := 3) (ret := (some .int)) (by decide) rfl ?_
  intro p e s m args below meth c s₁ B hml htab hv
  obtain ⟨⟨rfl, hsz, hP, hX, hD0, hZ0⟩, hT9⟩ := hv
  have hlocks := B.notSynchronized
  have hx := B.exec
  have hb := B.bytes
  have hr := B.returns
  have hts := atoms_spec (ws := wzX9_reach) B.pre
  have hown : s.vm.findClass RX9 = some m.cls := findClass_of_methodNamed B.named
  subst hsz
  have hD := hD0.self (sz := s.heap.size)
  have hZ := hZ0
  generalize hAe : va_A ((wT k arT (tpT) (paT) (arP 99) (pdT) (pbT) (pkT) (psT) fiT faT) ++ (wP k arP fiP faP)) s.heap.size = A at hD hZ ⊢
  have hA : ∀ q : Nat, s.heap.size ≤ q → A q := fun q h => by rw [← hAe]; exact Or.inr h
  have hS : va_S A s.heap s.heap [] := va_S.rf
  have hl := lv_entry ([.ref (arT 99), .int (Int32.ofInt (t0))]) (n := 3) (Nat.le_of_ble_eq_true rfl)
  rw [lg_entry_eq]
  generalize (lg_sl ([.ref (arT 99), .int (Int32.ofInt (t0))]) ++ List.replicate (3 - (lg_sl ([.ref (arT 99), .int (Int32.ofInt (t0))])).length) Slot.unset).toArray = ls at hl ⊢
  have hl : lv_has ls 3 [(0, .ref (arT 99)), (1, .int (Int32.ofInt (t0)))] := hl
  obtain ⟨H, eH⟩ : ∃ H, H = s.heap := ⟨_, rfl⟩
  rw [← eH] at hP
  have hS : va_S A s.heap H [] := by rw [eH]; exact hS
  have gW : s.heap = H := eH.symm
  refine iv_heap gW ?_
  have h0w := hts (.fieldLink RX9 23 "RopeTown" "plan" "LRopeTown$Plan;") (wz_at 0 20 rfl)
  have h1w : ∀ w ∈ wsX90, w ∈ wzX9_reach := fun w h => List.mem_cons_of_mem _ (inlX9 w h)
  have h2w := hts (.initialized RX3) (wz_at 0 19 rfl)
  have h3w := hts (.instanceMethod yX3_has) (wz_at 23 5 rfl)
  have h4w := hts (.selects RX3 yX3_has yX3_has) (wz_at 23 6 rfl)
  have h5w := hts (.classLink RX9 144 "java/util/NoSuchElementException") (wz_at 22 10 rfl)
  have h6w := hts (.initialized "java/util/NoSuchElementException") (wz_at 22 11 rfl)
  refine lv_aload_n hx hb dX9_reach_0 rfl (lv_at hl 0 rfl) ?_
  refine va_get (D := G) (ci := 6) (v := .ref (arP 99)) (C := RX9) (T := TX9) (N := 11) (ref := RX9) hx hb hts h1w hown hX.1 hP 0 rfl rfl 4 (by decide) h0w (fun _ h9 => h9) rfl dX9_reach_1 ?_
  refine lv_iload_n hx hb dX9_reach_4 rfl (lv_at hl 1 rfl) ?_
  refine cz_i (wr := (wT k arT (tpT) (paT) (arP 99) (pdT) (pbT) (pkT) (psT) fiT faT)) (va_runVN (As := [.int (Int32.ofInt (t0))]) (rest := []) ⟨hx, hb, hml, hown, hts⟩ (mX3_has l G k arP fiP faP t0 H.size hRP hRaP hB8P hB20P hB21P (by omega)) ⟨va_cnB 1 hts (gz [] (.code yX3_has cX3_has 2 (some .boolean)) [(23, 7)] rfl) rfl rfl rfl (nm_38 hX.2.2.1) h2w (by decide +kernel) ⟨Nat.le_of_ble_eq_true rfl, Nat.le_of_ble_eq_true rfl⟩, h3w, h4w⟩ (cy_preV (EZ_ok k) hZ hS hX hP hD hA [2, 3, 4, 5, 6, 7, 8, 9, 10, 11] rfl rfl (ci := 2) (q0 := 2) rfl rfl) rfl rfl hl.1 rfl (lv_room (Nat.le_of_ble_eq_true rfl)) dX9_reach_5 ⟨Nat.le_of_ble_eq_true rfl, Nat.le_of_ble_eq_true rfl⟩) hP hD hS hA [2, 3, 4, 5, 6, 7, 8, 9, 10, 11] [0, 1] rfl rfl (by decide) (by decide) (fun r u H locs hp hP hD hS => ?_)
  obtain ⟨c1, rfl⟩ : ∃ z, z = u := ⟨_, rfl⟩
  obtain ⟨hP, hD⟩ : va_P G vwCl ((wT k arT (tpT) (paT) (arP 99) (pdT) (pbT) (pkT) (psT) fiT faT) ++ (wP k arP fiP faP)) H ∧ va_D A ((wT k arT (tpT) (paT) (arP 99) (pdT) (pbT) (pkT) (psT) fiT faT) ++ (wP k arP fiP faP)) := ⟨hP, hD⟩
  obtain ⟨h9, rc1, hp1⟩ : r = Int32.ofInt c1 ∧ (inR c1) ∧ ((c1 = 1 ∧ 0 ≤ t0 ∧ t0 < (fiP 7)) ∨ (c1 = 0 ∧ (t0 < 0 ∨ (fiP 7) ≤ t0))) := hp
  subst h9
  refine iv_if_ne (tgt := 21) hx hb (by omega) dX9_reach_8 (by decide) (fun q2 => ?_) (fun q2 => ?_)
  · exfalso; omega
  · exact ns_throw (own := RX9) (ik := 144) (is := 153) (ic := 148) hx hb htr hown h5w h6w (hX.2.2.2.2 2 (RX9, 153, "no such thing") rfl) (tx_ns hT9 (fun w h => hts w (List.mem_cons_of_mem _ (List.mem_append_right _ h)))) ns_good hZ.1.1 hZ.1.2 hS (hl.1.trans hml.symm) dX9_reach_11 dX9_reach_14 dX9_reach_15 dX9_reach_17 dX9_reach_20 (fun x hx9 => (htab x hx9).elim) (Nat.le_of_ble_eq_true rfl) (Nat.le_of_ble_eq_true rfl) (Nat.le_of_ble_eq_true rfl) (Nat.le_of_ble_eq_true rfl) hlocks (fun t ha hz hq => ⟨(), trivial, ⟨rfl, hP.kept (fun i x h8 => hq x.1 ((hP i x h8).lt)), hD⟩, Nat.le_trans hS.1 hz, fun q h3 h4 => (hq q (Nat.lt_of_lt_of_le h3 hS.1)).trans (hS.2.1 q h3 h4)⟩) hS.2.2 (Nat.le_of_ble_eq_true rfl) (Nat.le_of_ble_eq_true rfl)

set_option maxHeartbeats 4000000 in
set_option maxRecDepth 100000 in
theorem xX9_bars_x (l : Launch) (htr : l.stackTraces = false) (G : va_G) (k : Nat → ClassId) (arT : Nat → Nat) (tpT : Nat) (paT : Nat) (pdT : Nat) (pbT : Nat) (pkT : Nat) (psT : Nat) (fiT : Nat → Int) (faT : Nat → Int → Int) (arP : Nat → Nat) (fiP : Nat → Int) (faP : Nat → Int → Int) (t0 : Int) (d0 : Int) (sz : Nat) (hRT : ∀ j, inR (fiT j)) (hRaT : ∀ j t, inR (faT j t)) (hRP : ∀ j, inR (fiP j)) (hRaP : ∀ j t, inR (faP j t)) (hB8P : bnd (faP 8) 7 0 4) (hB20P : bnd (faP 20) 600 (-1000) 10000) (hB21P : bnd (faP 21) 4 0 601) (hr_t0 : inR t0) (hr_d0 : inR d0) (hx0 : t0 < 0 ∨ fiP 7 ≤ t0 ∨ d0 < 0 ∨ fiP 0 < d0) : CYi l G k yX9_bars wzX9_bars ({ frames := 6, cells := 1, slots := 6, locals := 100 }) [.ref (arT 99), .int (Int32.ofInt (t0)), .int (Int32.ofInt (d0))] sz ((wT k arT (tpT) (paT) (arP 99) (pdT) (pbT) (pkT) (psT) fiT faT) ++ (wP k arP fiP faP)) ns_X := by
  refine vx_ofW (cc := cX9_bars) (maxL := 8) (ret := (some .int)) (by decide) rfl ?_
  intro p e s m args below meth c s₁ B hml htab hv
  obtain ⟨⟨rfl, hsz, hP, hX, hD0, hZ0⟩, hT9⟩ := hv
  have hlocks := B.notSynchronized
  have hx := B.exec
  have hb := B.bytes
  have hr := B.returns
  have hts := atoms_spec (ws := wzX9_bars) B.pre
  have hown : s.vm.findClass RX9 = some m.cls := findClass_of_methodNamed B.named
  subst hsz
  have hD := hD0.self (sz := s.heap.size)
  have hZ := hZ0
  generalize hAe : va_A ((wT k arT (tpT) (paT) (arP 99) (pdT) (pbT) (pkT) (psT) fiT faT) ++ (wP k arP fiP faP)) s.heap.size = A at hD hZ ⊢
  have hA : ∀ q : Nat, s.heap.size ≤ q → A q := fun q h => by rw [← hAe]; exact Or.inr h
  have hS : va_S A s.heap s.heap [] := va_S.rf
  have hl := lv_entry ([.ref (arT 99), .int (Int32.ofInt (t0)), .int (Int32.ofInt (d0))]) (n := 8) (Nat.le_of_ble_eq_true rfl)
  rw [lg_entry_eq]
  generalize (lg_sl ([.ref (arT 99), .int (Int32.ofInt (t0)), .int (Int32.ofInt (d0))]) ++ List.replicate (8 - (lg_sl ([.ref (arT 99), .int (Int32.ofInt (t0)), .int (Int32.ofInt (d0))])).length) Slot.unset).toArray = ls at hl ⊢
  have hl : lv_has ls 8 [(0, .ref (arT 99)), (1, .int (Int32.ofInt (t0))), (2, .int (Int32.ofInt (d0)))] := hl
  obtain ⟨H, eH⟩ : ∃ H, H = s.heap := ⟨_, rfl⟩
  rw [← eH] at hP
  have hS : va_S A s.heap H [] := by rw [eH]; exact hS
  have gW : s.heap = H := eH.symm
  refine iv_heap gW ?_
  have h0w := hts (.fieldLink RX9 23 "RopeTown" "plan" "LRopeTown$Plan;") (wz_at 0 20 rfl)
  have h1w : ∀ w ∈ wsX90, w ∈ wzX9_bars := fun w h => List.mem_cons_of_mem _ (inlX9 w h)
  have h2w := hts (.initialized RX3) (wz_at 0 19 rfl)
  have h3w := hts (.instanceMethod yX3_has) (wz_at 23 5 rfl)
  have h4w := hts (.selects RX3 yX3_has yX3_has) (wz_at 23 6 rfl)
  have h5w := hts (.classLink RX9 144 "java/util/NoSuchElementException") (wz_at 22 10 rfl)
  have h6w := hts (.initialized "java/util/NoSuchElementException") (wz_at 22 11 rfl)
  have h7w := hts (.instanceMethod yX3_hasDepth) (wz_at 29 6 rfl)
  have h8w := hts (.selects RX3 yX3_hasDepth yX3_hasDepth) (wz_at 29 7 rfl)
  refine lv_aload_n hx hb dX9_bars_0 rfl (lv_at hl 0 rfl) ?_
  refine va_get (D := G) (ci := 6) (v := .ref (arP 99)) (C := RX9) (T := TX9) (N := 11) (ref := RX9) hx hb hts h1w hown hX.1 hP 0 rfl rfl 4 (by decide) h0w (fun _ h9 => h9) rfl dX9_bars_1 ?_
  refine lv_iload_n hx hb dX9_bars_4 rfl (lv_at hl 1 rfl) ?_
  refine cz_i (wr := (wT k arT (tpT) (paT) (arP 99) (pdT) (pbT) (pkT) (psT) fiT faT)) (va_runVN (As := [.int (Int32.ofInt (t0))]) (rest := []) ⟨hx, hb, hml, hown, hts⟩ (mX3_has l G k arP fiP faP t0 H.size hRP hRaP hB8P hB20P hB21P (by omega)) ⟨va_cnB 1 hts (gz [] (.code yX3_has cX3_has 2 (some .boolean)) [(23, 7)] rfl) rfl rfl rfl (nm_38 hX.2.2.1) h2w (by decide +kernel) ⟨Nat.le_of_ble_eq_true rfl, Nat.le_of_ble_eq_true rfl⟩, h3w, h4w⟩ (cy_preV (EZ_ok k) hZ hS hX hP hD hA [2, 3, 4, 5, 6, 7, 8, 9, 10, 11] rfl rfl (ci := 2) (q0 := 2) rfl rfl) rfl rfl hl.1 rfl (lv_room (Nat.le_of_ble_eq_true rfl)) dX9_bars_5 ⟨Nat.le_of_ble_eq_true rfl, Nat.le_of_ble_eq_true rfl⟩) hP hD hS hA [2, 3, 4, 5, 6, 7, 8, 9, 10, 11] [0, 1] rfl rfl (by decide) (by decide) (fun r u H locs hp hP hD hS => ?_)
  obtain ⟨c1, rfl⟩ : ∃ z, z = u := ⟨_, rfl⟩
  obtain ⟨hP, hD⟩ : va_P G vwCl ((wT k arT (tpT) (paT) (arP 99) (pdT) (pbT) (pkT) (psT) fiT faT) ++ (wP k arP fiP faP)) H ∧ va_D A ((wT k arT (tpT) (paT) (arP 99) (pdT) (pbT) (pkT) (psT) fiT faT) ++ (wP k arP fiP faP)) := ⟨hP, hD⟩
  obtain ⟨h9, rc1, hp1⟩ : r = Int32.ofInt c1 ∧ (inR c1) ∧ ((c1 = 1 ∧ 0 ≤ t0 ∧ t0 < (fiP 7)) ∨ (c1 = 0 ∧ (t0 < 0 ∨ (fiP 7) ≤ t0))) := hp
  subst h9
  refine iv_if_eq (tgt := 22) hx hb (by omega) dX9_bars_8 (by decide) (fun q2 => ?_) (fun q2 => ?_)
  · exact ns_throwW (own := RX9) (ik := 144) (is := 256) (ic := 148) hx hb htr hown h5w h6w (hX.2.2.2.2 9 (RX9, 256, "no such thing or depth") rfl) (tx_ns hT9 (fun w h => hts w (List.mem_cons_of_mem _ (List.mem_append_right _ h)))) ns_good hZ.1.1 hZ.1.2 hS (hl.1.trans hml.symm) dX9_bars_22 dX9_bars_25 dX9_bars_26 dX9_bars_29 dX9_bars_32 (fun x hx9 => (htab x hx9).elim) (Nat.le_of_ble_eq_true rfl) (Nat.le_of_ble_eq_true rfl) (Nat.le_of_ble_eq_true rfl) (Nat.le_of_ble_eq_true rfl) hlocks (fun t ha hz hq => ⟨(), trivial, ⟨rfl, hP.kept (fun i x h8 => hq x.1 ((hP i x h8).lt)), hD⟩, Nat.le_trans hS.1 hz, fun q h3 h4 => (hq q (Nat.lt_of_lt_of_le h3 hS.1)).trans (hS.2.1 q h3 h4)⟩) hS.2.2 (Nat.le_of_ble_eq_true rfl) (Nat.le_of_ble_eq_true rfl)
  · refine lv_aload_n hx hb dX9_bars_11 rfl (lv_at hl 0 rfl) ?_
    refine va_get (D := G) (ci := 6) (v := .ref (arP 99)) (C := RX9) (T := TX9) (N := 11) (ref := RX9) hx hb hts h1w hown hX.1 hP 0 rfl rfl 4 (by decide) h0w (fun _ h9 => h9) rfl dX9_bars_12 ?_
    refine lv_iload_n hx hb dX9_bars_15 rfl (lv_at hl 2 rfl) ?_
    refine cz_i (wr := (wT k arT (tpT) (paT) (arP 99) (pdT) (pbT) (pkT) (psT) fiT faT)) (va_runVN (As := [.int (Int32.ofInt (d0))]) (rest := []) ⟨hx, hb, hml, hown, hts⟩ (mX3_hasDepth l G k arP fiP faP d0 H.size hRP hRaP hB8P hB20P hB21P (by omega)) ⟨va_cnB 1 hts (gz [] (.code yX3_hasDepth cX3_hasDepth 2 (some .boolean)) [(29, 8)] rfl) rfl rfl rfl (nm_23 hX.2.2.1) h2w (by decide +kernel) ⟨Nat.le_of_ble_eq_true rfl, Nat.le_of_ble_eq_true rfl⟩, h7w, h8w⟩ (cy_preV (EZ_ok k) hZ hS hX hP hD hA [2, 3, 4, 5, 6, 7, 8, 9, 10, 11] rfl rfl (ci := 2) (q0 := 2) rfl rfl) rfl rfl hl.1 rfl (lv_room (Nat.le_of_ble_eq_true rfl)) dX9_bars_16 ⟨Nat.le_of_ble_eq_true rfl, Nat.le_of_ble_eq_true rfl⟩) hP hD hS hA [2, 3, 4, 5, 6, 7, 8, 9, 10, 11] [0, 1] rfl rfl (by decide) (by decide) (fun r u H locs hp hP hD hS => ?_)
    obtain ⟨c3, rfl⟩ : ∃ z, z = u := ⟨_, rfl⟩
    obtain ⟨hP, hD⟩ : va_P G vwCl ((wT k arT (tpT) (paT) (arP 99) (pdT) (pbT) (pkT) (psT) fiT faT) ++ (wP k arP fiP faP)) H ∧ va_D A ((wT k arT (tpT) (paT) (arP 99) (pdT) (pbT) (pkT) (psT) fiT faT) ++ (wP k arP fiP faP)) := ⟨hP, hD⟩
    obtain ⟨h9, rc3, hp3⟩ : r = Int32.ofInt c3 ∧ (inR c3) ∧ ((c3 = 1 ∧ 0 ≤ d0 ∧ d0 ≤ (fiP 0)) ∨ (c3 = 0 ∧ (d0 < 0 ∨ (fiP 0) < d0))) := hp
    subst h9
    refine iv_if_ne (tgt := 33) hx hb (by omega) dX9_bars_19 (by decide) (fun q4 => ?_) (fun q4 => ?_)
    · exfalso; omega
    · exact ns_throwW (own := RX9) (ik := 144) (is := 256) (ic := 148) hx hb htr hown h5w h6w (hX.2.2.2.2 9 (RX9, 256, "no such thing or depth") rfl) (tx_ns hT9 (fun w h => hts w (List.mem_cons_of_mem _ (List.mem_append_right _ h)))) ns_good hZ.1.1 hZ.1.2 hS (hl.1.trans hml.symm) dX9_bars_22 dX9_bars_25 dX9_bars_26 dX9_bars_29 dX9_bars_32 (fun x hx9 => (htab x hx9).elim) (Nat.le_of_ble_eq_true rfl) (Nat.le_of_ble_eq_true rfl) (Nat.le_of_ble_eq_true rfl) (Nat.le_of_ble_eq_true rfl) hlocks (fun t ha hz hq => ⟨(), trivial, ⟨rfl, hP.kept (fun i x h8 => hq x.1 ((hP i x h8).lt)), hD⟩, Nat.le_trans hS.1 hz, fun q h3 h4 => (hq q (Nat.lt_of_lt_of_le h3 hS.1)).trans (hS.2.1 q h3 h4)⟩) hS.2.2 (Nat.le_of_ble_eq_true rfl) (Nat.le_of_ble_eq_true rfl)

set_option maxHeartbeats 4000000 in
set_option maxRecDepth 100000 in
theorem xX9_enough_x (l : Launch) (htr : l.stackTraces = false) (G : va_G) (k : Nat → ClassId) (ar : Nat → Nat) (tp : Nat) (pa : Nat) (pp : Nat) (pd : Nat) (pb : Nat) (pk : Nat) (ps : Nat) (fi : Nat → Int) (fa : Nat → Int → Int) (w0 : Int) (sz : Nat) (hR : ∀ j, inR (fi j)) (hRa : ∀ j t, inR (fa j t)) (hr_w0 : inR w0) (hx0 : ¬ w0 = 0 ∧ ¬ w0 = 1) : CYi l G k yX9_enough wzX9_enough ({ frames := 6, cells := 1, slots := 6, locals := 100 }) [.ref (ar 99), .int (Int32.ofInt (w0))] sz (wT k ar (tp) (pa) (pp) (pd) (pb) (pk) (ps) fi fa) ns_X := by
  refine vx_ofW (cc := cX9_enough) (maxL := 6) (ret := (some .int)) (by decide) rfl ?_
  intro p e s m args below meth c s₁ B hml htab hv
  obtain ⟨⟨rfl, hsz, hP, hX, hD0, hZ0⟩, hT9⟩ := hv
  have hlocks := B.notSynchronized
  have hx := B.exec
  have hb := B.bytes
  have hr := B.returns
  have hts := atoms_spec (ws := wzX9_enough) B.pre
  have hown : s.vm.findClass RX9 = some m.cls := findClass_of_methodNamed B.named
  subst hsz
  have hD := hD0.self (sz := s.heap.size)
  have hZ := hZ0
  generalize hAe : va_A (wT k ar (tp) (pa) (pp) (pd) (pb) (pk) (ps) fi fa) s.heap.size = A at hD hZ ⊢
  have hA : ∀ q : Nat, s.heap.size ≤ q → A q := fun q h => by rw [← hAe]; exact Or.inr h
  have hS : va_S A s.heap s.heap [] := va_S.rf
  have hl := lv_entry ([.ref (ar 99), .int (Int32.ofInt (w0))]) (n := 6) (Nat.le_of_ble_eq_true rfl)
  rw [lg_entry_eq]
  generalize (lg_sl ([.ref (ar 99), .int (Int32.ofInt (w0))]) ++ List.replicate (6 - (lg_sl ([.ref (ar 99), .int (Int32.ofInt (w0))])).length) Slot.unset).toArray = ls at hl ⊢
  have hl : lv_has ls 6 [(0, .ref (ar 99)), (1, .int (Int32.ofInt (w0)))] := hl
  obtain ⟨H, eH⟩ : ∃ H, H = s.heap := ⟨_, rfl⟩
  rw [← eH] at hP
  have hS : va_S A s.heap H [] := by rw [eH]; exact hS
  have gW : s.heap = H := eH.symm
  refine iv_heap gW ?_
  have h0w := hts (.classLink RX9 144 "java/util/NoSuchElementException") (wz_at 22 10 rfl)
  have h1w := hts (.initialized "java/util/NoSuchElementException") (wz_at 22 11 rfl)
  refine lv_iload_n hx hb dX9_enough_0 rfl (lv_at hl 1 rfl) ?_
  refine iv_if_eq (tgt := 20) hx hb (by omega) dX9_enough_1 (by decide) (fun q1 => ?_) (fun q1 => ?_)
  · exfalso; omega
  · refine lv_iload_n hx hb dX9_enough_4 rfl (lv_at hl 1 rfl) ?_
    refine lv_iconst (v := Int32.ofInt 1) hx hb dX9_enough_5 (by decide +kernel) ?_
    refine iv_icmp_eq (tgt := 20) hx hb (by omega) (by omega) dX9_enough_6 (by decide) (fun q2 => ?_) (fun q2 => ?_)
    · exfalso; omega
    · exact ns_throwW (own := RX9) (ik := 144) (is := 281) (ic := 148) hx hb htr hown h0w h1w (hX.2.2.2.2 10 (RX9, 281, "no such enough") rfl) (tx_ns hT9 (fun w h => hts w (List.mem_cons_of_mem _ (List.mem_append_right _ h)))) ns_good hZ.1.1 hZ.1.2 hS (hl.1.trans hml.symm) dX9_enough_9 dX9_enough_12 dX9_enough_13 dX9_enough_16 dX9_enough_19 (fun x hx9 => (htab x hx9).elim) (Nat.le_of_ble_eq_true rfl) (Nat.le_of_ble_eq_true rfl) (Nat.le_of_ble_eq_true rfl) (Nat.le_of_ble_eq_true rfl) hlocks (fun t ha hz hq => ⟨(), trivial, ⟨rfl, hP.kept (fun i x h8 => hq x.1 ((hP i x h8).lt)), hD⟩, Nat.le_trans hS.1 hz, fun q h3 h4 => (hq q (Nat.lt_of_lt_of_le h3 hS.1)).trans (hS.2.1 q h3 h4)⟩) hS.2.2 (Nat.le_of_ble_eq_true rfl) (Nat.le_of_ble_eq_true rfl)

