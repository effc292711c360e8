set_option maxHeartbeats 4000000 in
set_option maxRecDepth 100000 in
theorem mX9_count (l : Launch) (G : va_G) (k : Nat → ClassId) (arT : Nat → Nat) (tpT : Nat) (paT : Nat) (pdT : Nat) (pkT : Nat) (psT : Nat) (fiT : Nat → Int) (faT : Nat → Int → Int) (arP : Nat → Nat) (fiP : Nat → Int) (faP : Nat → Int → Int) (arB : Nat → Nat) (fiB : Nat → Int) (faB : Nat → Int → Int) (w0 : Int) (sz : Nat) (hRT : ∀ j, inR (fiT j)) (hRaT : ∀ j t, inR (faT j t)) (hRP : ∀ j, inR (fiP j)) (hRaP : ∀ j t, inR (faP j t)) (hB8P : bnd (faP 8) 7 0 4) (hB20P : bnd (faP 20) 600 (-1000) 10000) (hB21P : bnd (faP 21) 4 0 601) (hRB : ∀ j, inR (fiB j)) (hRaB : ∀ j t, inR (faB j t)) (hr_w0 : inR w0) (hw : 0 ≤ w0 ∧ w0 ≤ 16) : CNi l G k (EZ k) yX9_count wzX9_count ({ frames := 1, cells := 0, slots := 0, locals := 20 }) [.ref (arT 99), .int (Int32.ofInt (w0))] sz ((wT k arT (tpT) (paT) (arP 99) (pdT) (arB 99) (pkT) (psT) fiT faT) ++ ((wP k arP fiP faP) ++ (wB k arB fiB faB))) (fun (r0 : Int32) (u : Int) => r0 = Int32.ofInt (u) ∧ (inR u) ∧ (True)) (fun (u : Int) => ((wT k arT (tpT) (paT) (arP 99) (pdT) (arB 99) (pkT) (psT) fiT faT) ++ ((wP k arP fiP faP) ++ (wB k arB fiB faB)))) := by
  refine Met.ofW (cc := cX9_count) (maxL := 2) (ret := (some .int)) (by decide) rfl ?_
  intro p e s m args below meth c s₁ B hml hv
  obtain ⟨rfl, hsz, hP, hX, hD0, hZ0⟩ := hv
  have hx := B.exec
  have hb := B.bytes
  have hr := B.returns
  have hts := atoms_spec (ws := wzX9_count) B.pre
  have hown : s.vm.findClass RX9 = some m.cls := findClass_of_methodNamed B.named
  subst hsz
  have hD := hD0.self (sz := s.heap.size)
  have hZ := hZ0
  generalize hAe : va_A ((wT k arT (tpT) (paT) (arP 99) (pdT) (arB 99) (pkT) (psT) fiT faT) ++ ((wP k arP fiP faP) ++ (wB k arB fiB faB))) s.heap.size = A at hD hZ ⊢
  have hA : ∀ q : Nat, s.heap.size ≤ q → A q := fun q h => by rw [← hAe]; exact Or.inr h
  have hS : va_S A s.heap s.heap [] := va_S.rf
  have hl := lv_entry ([.ref (arT 99), .int (Int32.ofInt (w0))]) (n := 2) (Nat.le_of_ble_eq_true rfl)
  rw [lg_entry_eq]
  generalize (lg_sl ([.ref (arT 99), .int (Int32.ofInt (w0))]) ++ List.replicate (2 - (lg_sl ([.ref (arT 99), .int (Int32.ofInt (w0))])).length) Slot.unset).toArray = ls at hl ⊢
  have hl : lv_has ls 2 [(0, .ref (arT 99)), (1, .int (Int32.ofInt (w0)))] := hl
  obtain ⟨H, eH⟩ : ∃ H, H = s.heap := ⟨_, rfl⟩
  rw [← eH] at hP
  have hS : va_S A s.heap H [] := by rw [eH]; exact hS
  have gW : s.heap = H := eH.symm
  refine iv_heap gW ?_
  have h0w := hts (.fieldLink RX9 23 "RopeTown" "plan" "LRopeTown$Plan;") (wz_at 0 20 rfl)
  have h1w : ∀ w ∈ wsX90, w ∈ wzX9_count := fun w h => List.mem_cons_of_mem _ (inlX9 w h)
  have h2w : ∀ w ∈ wsX30, w ∈ wzX9_count := fun w h => List.mem_cons_of_mem _ (inlX3 w h)
  have h3w : ∀ w ∈ wsX50, w ∈ wzX9_count := fun w h => List.mem_cons_of_mem _ (inlX5 w h)
  have h4w := hts (.fieldLink RX9 42 "RopeTown" "book" "LRopeTown$Book;") (wz_at 1 5 rfl)
  have h5w : ∀ w ∈ wsX10, w ∈ wzX9_count := fun w h => List.mem_cons_of_mem _ (inlX1 w h)
  have h6w := hts (.initialized RX7) (wz_at 5 10 rfl)
  have h7w := hts (.static yX7_depth) (wz_at 22 12 rfl)
  have h8w := hts (.fieldLink RX9 13 "RopeTown" "fed" "I") (wz_at 0 15 rfl)
  refine lv_iload_n hx hb dX9_count_0 rfl (lv_at hl 1 rfl) ?_
  obtain q1 | q1 | q1 | q1 | q1 | q1 | q1 | q1 | q1 | q1 | q1 | q1 | q1 | q1 | q1 | q1 | q1 | q1 : (w0 < 0 ∨ 16 < w0) ∨ w0 = 0 ∨ w0 = 1 ∨ w0 = 2 ∨ w0 = 3 ∨ w0 = 4 ∨ w0 = 5 ∨ w0 = 6 ∨ w0 = 7 ∨ w0 = 8 ∨ w0 = 9 ∨ w0 = 10 ∨ w0 = 11 ∨ w0 = 12 ∨ w0 = 13 ∨ w0 = 14 ∨ w0 = 15 ∨ w0 = 16 := by omega
  · refine lv_tableOut (tgt := 229) hx hb dX9_count_1 (by rw [iz_toInt (by omega)]; exact q1) (by decide) ?_
    exfalso; omega
  · refine lv_tableIn (tgt := 84) hx hb dX9_count_1 (by rw [iz_toInt (by omega)]; omega) (by rw [iz_toInt (by omega)]; omega) (off := 83) (by rw [iz_toInt (by omega), q1]; decide +kernel) (by decide) ?_
    refine lv_aload_n hx hb dX9_count_84 rfl (lv_at hl 0 rfl) ?_
    refine va_get (D := G) (ci := 6) (v := .ref (arP 99)) (C := RX9) (T := TX9) (N := 11) (ref := RX9) hx hb hts h1w hown hX.1 hP 0 rfl rfl 4 (by decide) h0w (fun _ h9 => h9) rfl dX9_count_85 ?_
    refine va_getN (D := G) (ci := 2) (v := .int (Int32.ofInt (fiP 0))) (C := RX3) (T := TX3) (N := 14) (ref := RX3) (host := RX9) hx hb hts h2w hown hX.1 hP 2 rfl rfl 0 (by decide) (nf_4 hX.2.2.1) (fun _ h9 => h9) rfl dX9_count_88 ?_
    have rf0P := hRP 0
    exact W.iret (v := Int32.ofInt (fiP 0)) hx hb hr (fun t ht hW => ⟨⟨Int32.ofInt (fiP 0), (fiP 0), rfl, ⟨rfl, (show (inR (fiP 0)) ∧ (True) from ⟨(hRP 0), trivial⟩)⟩, by rw [ht]; exact hP, hD⟩, hS.F ht⟩) hS.2.2 dX9_count_91
  · refine lv_tableIn (tgt := 92) hx hb dX9_count_1 (by rw [iz_toInt (by omega)]; omega) (by rw [iz_toInt (by omega)]; omega) (off := 91) (by rw [iz_toInt (by omega), q1]; decide +kernel) (by decide) ?_
    refine lv_aload_n hx hb dX9_count_92 rfl (lv_at hl 0 rfl) ?_
    refine va_get (D := G) (ci := 6) (v := .ref (arP 99)) (C := RX9) (T := TX9) (N := 11) (ref := RX9) hx hb hts h1w hown hX.1 hP 0 rfl rfl 4 (by decide) h0w (fun _ h9 => h9) rfl dX9_count_93 ?_
    refine va_getN (D := G) (ci := 2) (v := .int (Int32.ofInt (fiP 7))) (C := RX3) (T := TX3) (N := 14) (ref := RX3) (host := RX9) hx hb hts h2w hown hX.1 hP 2 rfl rfl 7 (by decide) (nf_18 hX.2.2.1) (fun _ h9 => h9) rfl dX9_count_96 ?_
    have rf7P := hRP 7
    exact W.iret (v := Int32.ofInt (fiP 7)) hx hb hr (fun t ht hW => ⟨⟨Int32.ofInt (fiP 7), (fiP 7), rfl, ⟨rfl, (show (inR (fiP 7)) ∧ (True) from ⟨(hRP 7), trivial⟩)⟩, by rw [ht]; exact hP, hD⟩, hS.F ht⟩) hS.2.2 dX9_count_99
  · refine lv_tableIn (tgt := 100) hx hb dX9_count_1 (by rw [iz_toInt (by omega)]; omega) (by rw [iz_toInt (by omega)]; omega) (off := 99) (by rw [iz_toInt (by omega), q1]; decide +kernel) (by decide) ?_
    refine lv_aload_n hx hb dX9_count_100 rfl (lv_at hl 0 rfl) ?_
    refine va_get (D := G) (ci := 6) (v := .ref (arP 99)) (C := RX9) (T := TX9) (N := 11) (ref := RX9) hx hb hts h1w hown hX.1 hP 0 rfl rfl 4 (by decide) h0w (fun _ h9 => h9) rfl dX9_count_101 ?_
    refine va_getN (D := G) (ci := 2) (v := .int (Int32.ofInt (fiP 2))) (C := RX3) (T := TX3) (N := 14) (ref := RX3) (host := RX9) hx hb hts h2w hown hX.1 hP 2 rfl rfl 2 (by decide) (nf_8 hX.2.2.1) (fun _ h9 => h9) rfl dX9_count_104 ?_
    have rf2P := hRP 2
    exact W.iret (v := Int32.ofInt (fiP 2)) hx hb hr (fun t ht hW => ⟨⟨Int32.ofInt (fiP 2), (fiP 2), rfl, ⟨rfl, (show (inR (fiP 2)) ∧ (True) from ⟨(hRP 2), trivial⟩)⟩, by rw [ht]; exact hP, hD⟩, hS.F ht⟩) hS.2.2 dX9_count_107
  · refine lv_tableIn (tgt := 108) hx hb dX9_count_1 (by rw [iz_toInt (by omega)]; omega) (by rw [iz_toInt (by omega)]; omega) (off := 107) (by rw [iz_toInt (by omega), q1]; decide +kernel) (by decide) ?_
    refine lv_aload_n hx hb dX9_count_108 rfl (lv_at hl 0 rfl) ?_
    refine va_get (D := G) (ci := 6) (v := .ref (arP 99)) (C := RX9) (T := TX9) (N := 11) (ref := RX9) hx hb hts h1w hown hX.1 hP 0 rfl rfl 4 (by decide) h0w (fun _ h9 => h9) rfl dX9_count_109 ?_
    refine va_getN (D := G) (ci := 2) (v := .int (Int32.ofInt (fiP 3))) (C := RX3) (T := TX3) (N := 14) (ref := RX3) (host := RX9) hx hb hts h2w hown hX.1 hP 2 rfl rfl 3 (by decide) (nf_10 hX.2.2.1) (fun _ h9 => h9) rfl dX9_count_112 ?_
    have rf3P := hRP 3
    exact W.iret (v := Int32.ofInt (fiP 3)) hx hb hr (fun t ht hW => ⟨⟨Int32.ofInt (fiP 3), (fiP 3), rfl, ⟨rfl, (show (inR (fiP 3)) ∧ (True) from ⟨(hRP 3), trivial⟩)⟩, by rw [ht]; exact hP, hD⟩, hS.F ht⟩) hS.2.2 dX9_count_115
  · refine lv_tableIn (tgt := 116) hx hb dX9_count_1 (by rw [iz_toInt (by omega)]; omega) (by rw [iz_toInt (by omega)]; omega) (off := 115) (by rw [iz_toInt (by omega), q1]; decide +kernel) (by decide) ?_
    refine lv_aload_n hx hb dX9_count_116 rfl (lv_at hl 0 rfl) ?_
    refine va_get (D := G) (ci := 6) (v := .ref (arP 99)) (C := RX9) (T := TX9) (N := 11) (ref := RX9) hx hb hts h1w hown hX.1 hP 0 rfl rfl 4 (by decide) h0w (fun _ h9 => h9) rfl dX9_count_117 ?_
    refine va_getN (D := G) (ci := 2) (v := .int (Int32.ofInt (fiP 4))) (C := RX3) (T := TX3) (N := 14) (ref := RX3) (host := RX9) hx hb hts h2w hown hX.1 hP 2 rfl rfl 4 (by decide) (nf_12 hX.2.2.1) (fun _ h9 => h9) rfl dX9_count_120 ?_
    have rf4P := hRP 4
    exact W.iret (v := Int32.ofInt (fiP 4)) hx hb hr (fun t ht hW => ⟨⟨Int32.ofInt (fiP 4), (fiP 4), rfl, ⟨rfl, (show (inR (fiP 4)) ∧ (True) from ⟨(hRP 4), trivial⟩)⟩, by rw [ht]; exact hP, hD⟩, hS.F ht⟩) hS.2.2 dX9_count_123
  · refine lv_tableIn (tgt := 124) hx hb dX9_count_1 (by rw [iz_toInt (by omega)]; omega) (by rw [iz_toInt (by omega)]; omega) (off := 123) (by rw [iz_toInt (by omega), q1]; decide +kernel) (by decide) ?_
    refine lv_aload_n hx hb dX9_count_124 rfl (lv_at hl 0 rfl) ?_
    refine va_get (D := G) (ci := 6) (v := .ref (arP 99)) (C := RX9) (T := TX9) (N := 11) (ref := RX9) hx hb hts h1w hown hX.1 hP 0 rfl rfl 4 (by decide) h0w (fun _ h9 => h9) rfl dX9_count_125 ?_
    refine va_getN (D := G) (ci := 2) (v := .int (Int32.ofInt (fiP 5))) (C := RX3) (T := TX3) (N := 14) (ref := RX3) (host := RX9) hx hb hts h2w hown hX.1 hP 2 rfl rfl 5 (by decide) (nf_14 hX.2.2.1) (fun _ h9 => h9) rfl dX9_count_128 ?_
    have rf5P := hRP 5
    exact W.iret (v := Int32.ofInt (fiP 5)) hx hb hr (fun t ht hW => ⟨⟨Int32.ofInt (fiP 5), (fiP 5), rfl, ⟨rfl, (show (inR (fiP 5)) ∧ (True) from ⟨(hRP 5), trivial⟩)⟩, by rw [ht]; exact hP, hD⟩, hS.F ht⟩) hS.2.2 dX9_count_131
  · refine lv_tableIn (tgt := 132) hx hb dX9_count_1 (by rw [iz_toInt (by omega)]; omega) (by rw [iz_toInt (by omega)]; omega) (off := 131) (by rw [iz_toInt (by omega), q1]; decide +kernel) (by decide) ?_
    refine lv_aload_n hx hb dX9_count_132 rfl (lv_at hl 0 rfl) ?_
    refine va_get (D := G) (ci := 6) (v := .ref (arP 99)) (C := RX9) (T := TX9) (N := 11) (ref := RX9) hx hb hts h1w hown hX.1 hP 0 rfl rfl 4 (by decide) h0w (fun _ h9 => h9) rfl dX9_count_133 ?_
    refine va_getN (D := G) (ci := 2) (v := .int (Int32.ofInt (fiP 6))) (C := RX3) (T := TX3) (N := 14) (ref := RX3) (host := RX9) hx hb hts h2w hown hX.1 hP 2 rfl rfl 6 (by decide) (nf_16 hX.2.2.1) (fun _ h9 => h9) rfl dX9_count_136 ?_
    have rf6P := hRP 6
    exact W.iret (v := Int32.ofInt (fiP 6)) hx hb hr (fun t ht hW => ⟨⟨Int32.ofInt (fiP 6), (fiP 6), rfl, ⟨rfl, (show (inR (fiP 6)) ∧ (True) from ⟨(hRP 6), trivial⟩)⟩, by rw [ht]; exact hP, hD⟩, hS.F ht⟩) hS.2.2 dX9_count_139
  · refine lv_tableIn (tgt := 140) hx hb dX9_count_1 (by rw [iz_toInt (by omega)]; omega) (by rw [iz_toInt (by omega)]; omega) (off := 139) (by rw [iz_toInt (by omega), q1]; decide +kernel) (by decide) ?_
    refine lv_aload_n hx hb dX9_count_140 rfl (lv_at hl 0 rfl) ?_
    refine va_get (D := G) (ci := 6) (v := .ref (arP 99)) (C := RX9) (T := TX9) (N := 11) (ref := RX9) hx hb hts h1w hown hX.1 hP 0 rfl rfl 4 (by decide) h0w (fun _ h9 => h9) rfl dX9_count_141 ?_
    refine va_getN (D := G) (ci := 2) (v := .ref (arP 98)) (C := RX3) (T := TX3) (N := 14) (ref := RX3) (host := RX9) hx hb hts h2w hown hX.1 hP 2 rfl rfl 12 (by decide) (nf_29 hX.2.2.1) (fun _ h9 => h9) rfl dX9_count_144 ?_
    refine va_getN (D := G) (ci := 4) (v := .int (Int32.ofInt (fiP 24))) (C := RX5) (T := TX5) (N := 5) (ref := RX5) (host := RX9) hx hb hts h3w hown hX.1 hP 3 rfl rfl 4 (by decide) (nf_0 hX.2.2.1) (fun _ h9 => h9) rfl dX9_count_147 ?_
    have rf24P := hRP 24
    exact W.iret (v := Int32.ofInt (fiP 24)) hx hb hr (fun t ht hW => ⟨⟨Int32.ofInt (fiP 24), (fiP 24), rfl, ⟨rfl, (show (inR (fiP 24)) ∧ (True) from ⟨(hRP 24), trivial⟩)⟩, by rw [ht]; exact hP, hD⟩, hS.F ht⟩) hS.2.2 dX9_count_150
  · refine lv_tableIn (tgt := 151) hx hb dX9_count_1 (by rw [iz_toInt (by omega)]; omega) (by rw [iz_toInt (by omega)]; omega) (off := 150) (by rw [iz_toInt (by omega), q1]; decide +kernel) (by decide) ?_
    refine lv_aload_n hx hb dX9_count_151 rfl (lv_at hl 0 rfl) ?_
    refine va_get (D := G) (ci := 6) (v := .ref (arB 99)) (C := RX9) (T := TX9) (N := 11) (ref := RX9) hx hb hts h1w hown hX.1 hP 0 rfl rfl 6 (by decide) h4w (fun _ h9 => h9) rfl dX9_count_152 ?_
    refine va_getN (D := G) (ci := 0) (v := .int (Int32.ofInt (fiB 0))) (C := RX1) (T := TX1) (N := 12) (ref := RX1) (host := RX9) hx hb hts h5w hown hX.1 hP 12 rfl rfl 0 (by decide) (nf_37 hX.2.2.1) (fun _ h9 => h9) rfl dX9_count_155 ?_
    have rf0B := hRB 0
    refine c0_i (va_runSN (As := [.int (Int32.ofInt (fiB 0))]) (rest := []) ⟨hx, hb, hml, hown, hts⟩ (mX7_depth l G k (fiB 0) H.size (hRB 0)) ⟨va_cnB 1 hts (gz [] (.code yX7_depth cX7_depth 1 (some .int)) [(22, 13)] rfl) rfl rfl rfl (nm_24 hX.2.2.1) h6w (by decide +kernel) ⟨Nat.le_of_ble_eq_true rfl, Nat.le_of_ble_eq_true rfl⟩, h7w, trivial⟩ (cr_pre0 (EZ_ok k) hZ hS hX hP hD hA) rfl rfl hl.1 rfl (lv_room (Nat.le_of_ble_eq_true rfl)) dX9_count_158 ⟨Nat.le_of_ble_eq_true rfl, Nat.le_of_ble_eq_true rfl⟩) hP hD hS hA (fun r u H locs hp hP hD hS => ?_)
    obtain ⟨c2, rfl⟩ : ∃ z, z = u := ⟨_, rfl⟩
    obtain ⟨h9, rc2, hp2⟩ : r = Int32.ofInt c2 ∧ (inR c2) ∧ (c2 = dp (fiB 0) ∧ 0 ≤ c2 ∧ c2 ≤ 15) := hp
    subst h9
    have hDp158 := hp2.1
    exact W.iret (v := Int32.ofInt (c2)) hx hb hr (fun t ht hW => ⟨⟨Int32.ofInt (c2), (c2), rfl, ⟨rfl, (show (inR c2) ∧ (True) from ⟨(by omega), trivial⟩)⟩, by rw [ht]; exact hP, hD⟩, hS.F ht⟩) hS.2.2 dX9_count_161
  · refine lv_tableIn (tgt := 162) hx hb dX9_count_1 (by rw [iz_toInt (by omega)]; omega) (by rw [iz_toInt (by omega)]; omega) (off := 161) (by rw [iz_toInt (by omega), q1]; decide +kernel) (by decide) ?_
    refine lv_aload_n hx hb dX9_count_162 rfl (lv_at hl 0 rfl) ?_
    refine va_get (D := G) (ci := 6) (v := .ref (arB 99)) (C := RX9) (T := TX9) (N := 11) (ref := RX9) hx hb hts h1w hown hX.1 hP 0 rfl rfl 6 (by decide) h4w (fun _ h9 => h9) rfl dX9_count_163 ?_
    refine va_getN (D := G) (ci := 0) (v := .int (Int32.ofInt (fiB 1))) (C := RX1) (T := TX1) (N := 12) (ref := RX1) (host := RX9) hx hb hts h5w hown hX.1 hP 12 rfl rfl 1 (by decide) (nf_38 hX.2.2.1) (fun _ h9 => h9) rfl dX9_count_166 ?_
    have rf1B := hRB 1
    exact W.iret (v := Int32.ofInt (fiB 1)) hx hb hr (fun t ht hW => ⟨⟨Int32.ofInt (fiB 1), (fiB 1), rfl, ⟨rfl, (show (inR (fiB 1)) ∧ (True) from ⟨(hRB 1), trivial⟩)⟩, by rw [ht]; exact hP, hD⟩, hS.F ht⟩) hS.2.2 dX9_count_169
  · refine lv_tableIn (tgt := 170) hx hb dX9_count_1 (by rw [iz_toInt (by omega)]; omega) (by rw [iz_toInt (by omega)]; omega) (off := 169) (by rw [iz_toInt (by omega), q1]; decide +kernel) (by decide) ?_
    refine lv_aload_n hx hb dX9_count_170 rfl (lv_at hl 0 rfl) ?_
    refine va_get (D := G) (ci := 6) (v := .ref (arB 99)) (C := RX9) (T := TX9) (N := 11) (ref := RX9) hx hb hts h1w hown hX.1 hP 0 rfl rfl 6 (by decide) h4w (fun _ h9 => h9) rfl dX9_count_171 ?_
    refine va_getN (D := G) (ci := 0) (v := .int (Int32.ofInt (fiB 2))) (C := RX1) (T := TX1) (N := 12) (ref := RX1) (host := RX9) hx hb hts h5w hown hX.1 hP 12 rfl rfl 2 (by decide) (nf_39 hX.2.2.1) (fun _ h9 => h9) rfl dX9_count_174 ?_
    have rf2B := hRB 2
    exact W.iret (v := Int32.ofInt (fiB 2)) hx hb hr (fun t ht hW => ⟨⟨Int32.ofInt (fiB 2), (fiB 2), rfl, ⟨rfl, (show (inR (fiB 2)) ∧ (True) from ⟨(hRB 2), trivial⟩)⟩, by rw [ht]; exact hP, hD⟩, hS.F ht⟩) hS.2.2 dX9_count_177
  · refine lv_tableIn (tgt := 178) hx hb dX9_count_1 (by rw [iz_toInt (by omega)]; omega) (by rw [iz_toInt (by omega)]; omega) (off := 177) (by rw [iz_toInt (by omega), q1]; decide +kernel) (by decide) ?_
    refine lv_aload_n hx hb dX9_count_178 rfl (lv_at hl 0 rfl) ?_
    refine va_get (D := G) (ci := 6) (v := .ref (arB 99)) (C := RX9) (T := TX9) (N := 11) (ref := RX9) hx hb hts h1w hown hX.1 hP 0 rfl rfl 6 (by decide) h4w (fun _ h9 => h9) rfl dX9_count_179 ?_
    refine va_getN (D := G) (ci := 0) (v := .int (Int32.ofInt (fiB 3))) (C := RX1) (T := TX1) (N := 12) (ref := RX1) (host := RX9) hx hb hts h5w hown hX.1 hP 12 rfl rfl 3 (by decide) (nf_40 hX.2.2.1) (fun _ h9 => h9) rfl dX9_count_182 ?_
    have rf3B := hRB 3
    exact W.iret (v := Int32.ofInt (fiB 3)) hx hb hr (fun t ht hW => ⟨⟨Int32.ofInt (fiB 3), (fiB 3), rfl, ⟨rfl, (show (inR (fiB 3)) ∧ (True) from ⟨(hRB 3), trivial⟩)⟩, by rw [ht]; exact hP, hD⟩, hS.F ht⟩) hS.2.2 dX9_count_185
  · refine lv_tableIn (tgt := 186) hx hb dX9_count_1 (by rw [iz_toInt (by omega)]; omega) (by rw [iz_toInt (by omega)]; omega) (off := 185) (by rw [iz_toInt (by omega), q1]; decide +kernel) (by decide) ?_
    refine lv_aload_n hx hb dX9_count_186 rfl (lv_at hl 0 rfl) ?_
    refine va_get (D := G) (ci := 6) (v := .ref (arB 99)) (C := RX9) (T := TX9) (N := 11) (ref := RX9) hx hb hts h1w hown hX.1 hP 0 rfl rfl 6 (by decide) h4w (fun _ h9 => h9) rfl dX9_count_187 ?_
    refine va_getN (D := G) (ci := 0) (v := .int (Int32.ofInt (fiB 4))) (C := RX1) (T := TX1) (N := 12) (ref := RX1) (host := RX9) hx hb hts h5w hown hX.1 hP 12 rfl rfl 4 (by decide) (nf_41 hX.2.2.1) (fun _ h9 => h9) rfl dX9_count_190 ?_
    have rf4B := hRB 4
    exact W.iret (v := Int32.ofInt (fiB 4)) hx hb hr (fun t ht hW => ⟨⟨Int32.ofInt (fiB 4), (fiB 4), rfl, ⟨rfl, (show (inR (fiB 4)) ∧ (True) from ⟨(hRB 4), trivial⟩)⟩, by rw [ht]; exact hP, hD⟩, hS.F ht⟩) hS.2.2 dX9_count_193
  · refine lv_tableIn (tgt := 194) hx hb dX9_count_1 (by rw [iz_toInt (by omega)]; omega) (by rw [iz_toInt (by omega)]; omega) (off := 193) (by rw [iz_toInt (by omega), q1]; decide +kernel) (by decide) ?_
    refine lv_aload_n hx hb dX9_count_194 rfl (lv_at hl 0 rfl) ?_
    refine va_get (D := G) (ci := 6) (v := .int (Int32.ofInt (fiT 1))) (C := RX9) (T := TX9) (N := 11) (ref := RX9) hx hb hts h1w hown hX.1 hP 0 rfl rfl 1 (by decide) h8w (fun _ h9 => h9) rfl dX9_count_195 ?_
    have rf1T := hRT 1
    exact W.iret (v := Int32.ofInt (fiT 1)) hx hb hr (fun t ht hW => ⟨⟨Int32.ofInt (fiT 1), (fiT 1), rfl, ⟨rfl, (show (inR (fiT 1)) ∧ (True) from ⟨(hRT 1), trivial⟩)⟩, by rw [ht]; exact hP, hD⟩, hS.F ht⟩) hS.2.2 dX9_count_198
  · refine lv_tableIn (tgt := 199) hx hb dX9_count_1 (by rw [iz_toInt (by omega)]; omega) (by rw [iz_toInt (by omega)]; omega) (off := 198) (by rw [iz_toInt (by omega), q1]; decide +kernel) (by decide) ?_
    refine lv_aload_n hx hb dX9_count_199 rfl (lv_at hl 0 rfl) ?_
    refine va_get (D := G) (ci := 6) (v := .ref (arB 99)) (C := RX9) (T := TX9) (N := 11) (ref := RX9) hx hb hts h1w hown hX.1 hP 0 rfl rfl 6 (by decide) h4w (fun _ h9 => h9) rfl dX9_count_200 ?_
    refine va_getN (D := G) (ci := 0) (v := .ref (arB 11)) (C := RX1) (T := TX1) (N := 12) (ref := RX1) (host := RX9) hx hb hts h5w hown hX.1 hP 12 rfl rfl 11 (by decide) (nf_47 hX.2.2.1) (fun _ h9 => h9) rfl dX9_count_203 ?_
    refine lv_iconst (v := Int32.ofInt 0) hx hb dX9_count_206 (by decide +kernel) ?_
    refine iv_iald hx hb hX.1 hP 19 0 rfl rfl (by omega) (by omega) (by decide) dX9_count_207 ?_
    refine iv_top (fun z3 ez3 => ?_)
    have rz3 : inR z3 := ez3 ▸ (hRaB 11) _
    have ez3 : z3 = (faB 11) 0 := ez3
    exact W.iret (v := Int32.ofInt (z3)) hx hb hr (fun t ht hW => ⟨⟨Int32.ofInt (z3), (z3), rfl, ⟨rfl, (show (inR z3) ∧ (True) from ⟨(by omega), trivial⟩)⟩, by rw [ht]; exact hP, hD⟩, hS.F ht⟩) hS.2.2 dX9_count_208
  · refine lv_tableIn (tgt := 209) hx hb dX9_count_1 (by rw [iz_toInt (by omega)]; omega) (by rw [iz_toInt (by omega)]; omega) (off := 208) (by rw [iz_toInt (by omega), q1]; decide +kernel) (by decide) ?_
    refine lv_aload_n hx hb dX9_count_209 rfl (lv_at hl 0 rfl) ?_
    refine va_get (D := G) (ci := 6) (v := .ref (arB 99)) (C := RX9) (T := TX9) (N := 11) (ref := RX9) hx hb hts h1w hown hX.1 hP 0 rfl rfl 6 (by decide) h4w (fun _ h9 => h9) rfl dX9_count_210 ?_
    refine va_getN (D := G) (ci := 0) (v := .ref (arB 11)) (C := RX1) (T := TX1) (N := 12) (ref := RX1) (host := RX9) hx hb hts h5w hown hX.1 hP 12 rfl rfl 11 (by decide) (nf_47 hX.2.2.1) (fun _ h9 => h9) rfl dX9_count_213 ?_
    refine lv_iconst (v := Int32.ofInt 1) hx hb dX9_count_216 (by decide +kernel) ?_
    refine iv_iald hx hb hX.1 hP 19 0 rfl rfl (by omega) (by omega) (by decide) dX9_count_217 ?_
    refine iv_top (fun z4 ez4 => ?_)
    have rz4 : inR z4 := ez4 ▸ (hRaB 11) _
    have ez4 : z4 = (faB 11) 1 := ez4
    exact W.iret (v := Int32.ofInt (z4)) hx hb hr (fun t ht hW => ⟨⟨Int32.ofInt (z4), (z4), rfl, ⟨rfl, (show (inR z4) ∧ (True) from ⟨(by omega), trivial⟩)⟩, by rw [ht]; exact hP, hD⟩, hS.F ht⟩) hS.2.2 dX9_count_218
  · refine lv_tableIn (tgt := 219) hx hb dX9_count_1 (by rw [iz_toInt (by omega)]; omega) (by rw [iz_toInt (by omega)]; omega) (off := 218) (by rw [iz_toInt (by omega), q1]; decide +kernel) (by decide) ?_
    refine lv_aload_n hx hb dX9_count_219 rfl (lv_at hl 0 rfl) ?_
    refine va_get (D := G) (ci := 6) (v := .ref (arB 99)) (C := RX9) (T := TX9) (N := 11) (ref := RX9) hx hb hts h1w hown hX.1 hP 0 rfl rfl 6 (by decide) h4w (fun _ h9 => h9) rfl dX9_count_220 ?_
    refine va_getN (D := G) (ci := 0) (v := .ref (arB 11)) (C := RX1) (T := TX1) (N := 12) (ref := RX1) (host := RX9) hx hb hts h5w hown hX.1 hP 12 rfl rfl 11 (by decide) (nf_47 hX.2.2.1) (fun _ h9 => h9) rfl dX9_count_223 ?_
    refine lv_iconst (v := Int32.ofInt 2) hx hb dX9_count_226 (by decide +kernel) ?_
    refine iv_iald hx hb hX.1 hP 19 0 rfl rfl (by omega) (by omega) (by decide) dX9_count_227 ?_
    refine iv_top (fun z5 ez5 => ?_)
    have rz5 : inR z5 := ez5 ▸ (hRaB 11) _
    have ez5 : z5 = (faB 11) 2 := ez5
    exact W.iret (v := Int32.ofInt (z5)) hx hb hr (fun t ht hW => ⟨⟨Int32.ofInt (z5), (z5), rfl, ⟨rfl, (show (inR z5) ∧ (True) from ⟨(by omega), trivial⟩)⟩, by rw [ht]; exact hP, hD⟩, hS.F ht⟩) hS.2.2 dX9_count_228

set_option maxHeartbeats 4000000 in
set_option maxRecDepth 100000 in
theorem mX9_thing (l : Launch) (G : va_G) (k : Nat → ClassId) (arT : Nat → Nat) (tpT : Nat) (paT : Nat) (pdT : Nat) (pkT : Nat) (psT : Nat) (fiT : Nat → Int) (faT : Nat → Int → Int) (arP : Nat → Nat) (fiP : Nat → Int) (faP : Nat → Int → Int) (arB : Nat → Nat) (fiB : Nat → Int) (faB : Nat → Int → Int) (t0 : Int) (w0 : Int) (sz : Nat) (hRT : ∀ j, inR (fiT j)) (hRaT : ∀ j t, inR (faT j t)) (hRP : ∀ j, inR (fiP j)) (hRaP : ∀ j t, inR (faP j t)) (hB8P : bnd (faP 8) 7 0 4) (hB20P : bnd (faP 20) 600 (-1000) 10000) (hB21P : bnd (faP 21) 4 0 601) (hRB : ∀ j, inR (fiB j)) (hRaB : ∀ j t, inR (faB j t)) (hr_t0 : inR t0) (hr_w0 : inR w0) (hpi : 0 ≤ fiP 7 ∧ fiP 7 ≤ 7 ∧ 0 ≤ fiP 0 ∧ fiP 0 ≤ 11 ∧ 0 ≤ fiP 24 ∧ fiP 24 ≤ 4 ∧ 0 ≤ fiP 23 ∧ fiP 23 ≤ 600) (ht : 0 ≤ t0 ∧ t0 < fiP 7 ∧ 0 ≤ w0 ∧ w0 ≤ 5) : CNi l G k (EZ k) yX9_thing wzX9_thing ({ frames := 3, cells := 0, slots := 0, locals := 65 }) [.ref (arT 99), .int (Int32.ofInt (t0)), .int (Int32.ofInt (w0))] sz ((wT k arT (tpT) (paT) (arP 99) (pdT) (arB 99) (pkT) (psT) fiT faT) ++ ((wP k arP fiP faP) ++ (wB k arB fiB faB))) (fun (r0 : Int32) (u : Int) => r0 = Int32.ofInt (u) ∧ (inR u) ∧ (u = thC w0 (faP 8 t0) (faP 9 t0) (faP 11 t0) (nb (fiB 0) t0) (dp (fiB 0)) (fiP 0))) (fun (u : Int) => ((wT k arT (tpT) (paT) (arP 99) (pdT) (arB 99) (pkT) (psT) fiT faT) ++ ((wP k arP fiP faP) ++ (wB k arB fiB faB)))) := by
  refine Met.ofW (cc := cX9_thing) (maxL := 3) (ret := (some .int)) (by decide) rfl ?_
  intro p e s m args below meth c s₁ B hml hv
  obtain ⟨rfl, hsz, hP, hX, hD0, hZ0⟩ := hv
  have hx := B.exec
  have hb := B.bytes
  have hr := B.returns
  have hts := atoms_spec (ws := wzX9_thing) B.pre
  have hown : s.vm.findClass RX9 = some m.cls := findClass_of_methodNamed B.named
  subst hsz
  have hD := hD0.self (sz := s.heap.size)
  have hZ := hZ0
  generalize hAe : va_A ((wT k arT (tpT) (paT) (arP 99) (pdT) (arB 99) (pkT) (psT) fiT faT) ++ ((wP k arP fiP faP) ++ (wB k arB fiB faB))) s.heap.size = A at hD hZ ⊢
  have hA : ∀ q : Nat, s.heap.size ≤ q → A q := fun q h => by rw [← hAe]; exact Or.inr h
  have hS : va_S A s.heap s.heap [] := va_S.rf
  have hl := lv_entry ([.ref (arT 99), .int (Int32.ofInt (t0)), .int (Int32.ofInt (w0))]) (n := 3) (Nat.le_of_ble_eq_true rfl)
  rw [lg_entry_eq]
  generalize (lg_sl ([.ref (arT 99), .int (Int32.ofInt (t0)), .int (Int32.ofInt (w0))]) ++ List.replicate (3 - (lg_sl ([.ref (arT 99), .int (Int32.ofInt (t0)), .int (Int32.ofInt (w0))])).length) Slot.unset).toArray = ls at hl ⊢
  have hl : lv_has ls 3 [(0, .ref (arT 99)), (1, .int (Int32.ofInt (t0))), (2, .int (Int32.ofInt (w0)))] := hl
  obtain ⟨H, eH⟩ : ∃ H, H = s.heap := ⟨_, rfl⟩
  rw [← eH] at hP
  have hS : va_S A s.heap H [] := by rw [eH]; exact hS
  have gW : s.heap = H := eH.symm
  refine iv_heap gW ?_
  have h0w := hts (.fieldLink RX9 23 "RopeTown" "plan" "LRopeTown$Plan;") (wz_at 0 20 rfl)
  have h1w : ∀ w ∈ wsX90, w ∈ wzX9_thing := fun w h => List.mem_cons_of_mem _ (inlX9 w h)
  have h2w := hts (.initialized RX3) (wz_at 0 19 rfl)
  have h3w := hts (.instanceMethod yX3_has) (wz_at 23 5 rfl)
  have h4w := hts (.selects RX3 yX3_has yX3_has) (wz_at 23 6 rfl)
  have h5w : ∀ w ∈ wsX30, w ∈ wzX9_thing := fun w h => List.mem_cons_of_mem _ (inlX3 w h)
  have h6w := hts (.fieldLink RX9 42 "RopeTown" "book" "LRopeTown$Book;") (wz_at 1 5 rfl)
  have h7w : ∀ w ∈ wsX10, w ∈ wzX9_thing := fun w h => List.mem_cons_of_mem _ (inlX1 w h)
  have h8w := hts (.instanceMethod yX3_thingDepth) (wz_at 23 8 rfl)
  have h9w := hts (.selects RX3 yX3_thingDepth yX3_thingDepth) (wz_at 23 9 rfl)
  have h10w := hts (.initialized RX7) (wz_at 5 10 rfl)
  have h11w := hts (.static yX7_bucketOf) (wz_at 23 17 rfl)
  have h12w := hts (.instanceMethod yX3_isServed) (wz_at 23 20 rfl)
  have h13w := hts (.selects RX3 yX3_isServed yX3_isServed) (wz_at 23 21 rfl)
  refine lv_aload_n hx hb dX9_thing_0 rfl (lv_at hl 0 rfl) ?_
  refine va_get (D := G) (ci := 6) (v := .ref (arP 99)) (C := RX9) (T := TX9) (N := 11) (ref := RX9) hx hb hts h1w hown hX.1 hP 0 rfl rfl 4 (by decide) h0w (fun _ h9 => h9) rfl dX9_thing_1 ?_
  refine lv_iload_n hx hb dX9_thing_4 rfl (lv_at hl 1 rfl) ?_
  refine cz_i (wr := ((wT k arT (tpT) (paT) (arP 99) (pdT) (arB 99) (pkT) (psT) fiT faT) ++ (wB k arB fiB faB))) (va_runVN (As := [.int (Int32.ofInt (t0))]) (rest := []) ⟨hx, hb, hml, hown, hts⟩ (mX3_has l G k arP fiP faP t0 H.size hRP hRaP hB8P hB20P hB21P (by omega)) ⟨va_cnB 1 hts (gz [] (.code yX3_has cX3_has 2 (some .boolean)) [(23, 7)] rfl) rfl rfl rfl (nm_38 hX.2.2.1) h2w (by decide +kernel) ⟨Nat.le_of_ble_eq_true rfl, Nat.le_of_ble_eq_true rfl⟩, h3w, h4w⟩ (cy_preV (EZ_ok k) hZ hS hX hP hD hA [2, 3, 4, 5, 6, 7, 8, 9, 10, 11] rfl rfl (ci := 2) (q0 := 2) rfl rfl) rfl rfl hl.1 rfl (lv_room (Nat.le_of_ble_eq_true rfl)) dX9_thing_5 ⟨Nat.le_of_ble_eq_true rfl, Nat.le_of_ble_eq_true rfl⟩) hP hD hS hA [2, 3, 4, 5, 6, 7, 8, 9, 10, 11] [0, 1, 12, 13, 14, 15, 16, 17, 18, 19] rfl rfl (by decide) (by decide) (fun r u H locs hp hP hD hS => ?_)
  obtain ⟨c1, rfl⟩ : ∃ z, z = u := ⟨_, rfl⟩
  obtain ⟨hP, hD⟩ : va_P G vwCl ((wT k arT (tpT) (paT) (arP 99) (pdT) (arB 99) (pkT) (psT) fiT faT) ++ ((wB k arB fiB faB) ++ (wP k arP fiP faP))) H ∧ va_D A ((wT k arT (tpT) (paT) (arP 99) (pdT) (arB 99) (pkT) (psT) fiT faT) ++ ((wB k arB fiB faB) ++ (wP k arP fiP faP))) := ⟨hP, hD⟩
  obtain ⟨hP, hD⟩ : va_P G vwCl ((wT k arT (tpT) (paT) (arP 99) (pdT) (arB 99) (pkT) (psT) fiT faT) ++ ((wP k arP fiP faP) ++ (wB k arB fiB faB))) H ∧ va_D A ((wT k arT (tpT) (paT) (arP 99) (pdT) (arB 99) (pkT) (psT) fiT faT) ++ ((wP k arP fiP faP) ++ (wB k arB fiB faB))) := re_ord hP hD [0, 1, 10, 11, 12, 13, 14, 15, 16, 17, 18, 19, 2, 3, 4, 5, 6, 7, 8, 9] (by decide) rfl
  obtain ⟨h9, rc1, hp1⟩ : r = Int32.ofInt c1 ∧ (inR c1) ∧ ((c1 = 1 ∧ 0 ≤ t0 ∧ t0 < (fiP 7)) ∨ (c1 = 0 ∧ (t0 < 0 ∨ (fiP 7) ≤ t0))) := hp
  subst h9
  refine iv_if_ne (tgt := 21) hx hb (by omega) dX9_thing_8 (by decide) (fun q2 => ?_) (fun q2 => ?_)
  · refine lv_iload_n hx hb dX9_thing_21 rfl (lv_at hl 2 rfl) ?_
    obtain q3 | q3 | q3 | q3 | q3 | q3 | q3 : (w0 < 0 ∨ 5 < w0) ∨ w0 = 0 ∨ w0 = 1 ∨ w0 = 2 ∨ w0 = 3 ∨ w0 = 4 ∨ w0 = 5 := by omega
    · refine lv_tableOut (tgt := 142) hx hb dX9_thing_22 (by rw [iz_toInt (by omega)]; exact q3) (by decide) ?_
      exfalso; omega
    · refine lv_tableIn (tgt := 60) hx hb dX9_thing_22 (by rw [iz_toInt (by omega)]; omega) (by rw [iz_toInt (by omega)]; omega) (off := 38) (by rw [iz_toInt (by omega), q3]; decide +kernel) (by decide) ?_
      refine lv_aload_n hx hb dX9_thing_60 rfl (lv_at hl 0 rfl) ?_
      refine va_get (D := G) (ci := 6) (v := .ref (arP 99)) (C := RX9) (T := TX9) (N := 11) (ref := RX9) hx hb hts h1w hown hX.1 hP 0 rfl rfl 4 (by decide) h0w (fun _ h9 => h9) rfl dX9_thing_61 ?_
      refine va_getN (D := G) (ci := 2) (v := .ref (arP 8)) (C := RX3) (T := TX3) (N := 14) (ref := RX3) (host := RX9) hx hb hts h5w hown hX.1 hP 2 rfl rfl 8 (by decide) (nf_21 hX.2.2.1) (fun _ h9 => h9) rfl dX9_thing_64 ?_
      refine lv_iload_n hx hb dX9_thing_67 rfl (lv_at hl 1 rfl) ?_
      refine iv_iald hx hb hX.1 hP 4 0 rfl rfl (by omega) (by omega) (by decide) dX9_thing_68 ?_
      refine iv_top (fun z4 ez4 => ?_)
      have rz4 : inR z4 := ez4 ▸ (hRaP 8) _
      have ez4 : z4 = (faP 8) t0 := ez4
      have bz4 : 0 ≤ z4 ∧ z4 < 4 := by rw [ez4]; exact bnd_at hB8P (by omega) (by omega)
      exact W.iret (v := Int32.ofInt (z4)) hx hb hr (fun t ht hW => ⟨⟨Int32.ofInt (z4), (z4), rfl, ⟨rfl, (show (inR z4) ∧ (z4 = thC w0 (faP 8 t0) (faP 9 t0) (faP 11 t0) (nb (fiB 0) t0) (dp (fiB 0)) (fiP 0)) from ⟨(by omega), (by unfold thC; omega)⟩)⟩, by rw [ht]; exact hP, hD⟩, hS.F ht⟩) hS.2.2 dX9_thing_69
    · refine lv_tableIn (tgt := 70) hx hb dX9_thing_22 (by rw [iz_toInt (by omega)]; omega) (by rw [iz_toInt (by omega)]; omega) (off := 48) (by rw [iz_toInt (by omega), q3]; decide +kernel) (by decide) ?_
      refine lv_aload_n hx hb dX9_thing_70 rfl (lv_at hl 0 rfl) ?_
      refine va_get (D := G) (ci := 6) (v := .ref (arP 99)) (C := RX9) (T := TX9) (N := 11) (ref := RX9) hx hb hts h1w hown hX.1 hP 0 rfl rfl 4 (by decide) h0w (fun _ h9 => h9) rfl dX9_thing_71 ?_
      refine va_getN (D := G) (ci := 2) (v := .ref (arP 9)) (C := RX3) (T := TX3) (N := 14) (ref := RX3) (host := RX9) hx hb hts h5w hown hX.1 hP 2 rfl rfl 9 (by decide) (nf_24 hX.2.2.1) (fun _ h9 => h9) rfl dX9_thing_74 ?_
      refine lv_iload_n hx hb dX9_thing_77 rfl (lv_at hl 1 rfl) ?_
      refine iv_iald hx hb hX.1 hP 5 0 rfl rfl (by omega) (by omega) (by decide) dX9_thing_78 ?_
      refine iv_top (fun z5 ez5 => ?_)
      have rz5 : inR z5 := ez5 ▸ (hRaP 9) _
      have ez5 : z5 = (faP 9) t0 := ez5
      exact W.iret (v := Int32.ofInt (z5)) hx hb hr (fun t ht hW => ⟨⟨Int32.ofInt (z5), (z5), rfl, ⟨rfl, (show (inR z5) ∧ (z5 = thC w0 (faP 8 t0) (faP 9 t0) (faP 11 t0) (nb (fiB 0) t0) (dp (fiB 0)) (fiP 0)) from ⟨(by omega), (by unfold thC; omega)⟩)⟩, by rw [ht]; exact hP, hD⟩, hS.F ht⟩) hS.2.2 dX9_thing_79
    · refine lv_tableIn (tgt := 80) hx hb dX9_thing_22 (by rw [iz_toInt (by omega)]; omega) (by rw [iz_toInt (by omega)]; omega) (off := 58) (by rw [iz_toInt (by omega), q3]; decide +kernel) (by decide) ?_
      refine lv_aload_n hx hb dX9_thing_80 rfl (lv_at hl 0 rfl) ?_
      refine va_get (D := G) (ci := 6) (v := .ref (arP 99)) (C := RX9) (T := TX9) (N := 11) (ref := RX9) hx hb hts h1w hown hX.1 hP 0 rfl rfl 4 (by decide) h0w (fun _ h9 => h9) rfl dX9_thing_81 ?_
      refine va_getN (D := G) (ci := 2) (v := .ref (arP 11)) (C := RX3) (T := TX3) (N := 14) (ref := RX3) (host := RX9) hx hb hts h5w hown hX.1 hP 2 rfl rfl 11 (by decide) (nf_27 hX.2.2.1) (fun _ h9 => h9) rfl dX9_thing_84 ?_
      refine lv_iload_n hx hb dX9_thing_87 rfl (lv_at hl 1 rfl) ?_
      refine iv_iald hx hb hX.1 hP 7 0 rfl rfl (by omega) (by omega) (by decide) dX9_thing_88 ?_
      refine iv_top (fun z6 ez6 => ?_)
      have rz6 : inR z6 := ez6 ▸ (hRaP 11) _
      have ez6 : z6 = (faP 11) t0 := ez6
      exact W.iret (v := Int32.ofInt (z6)) hx hb hr (fun t ht hW => ⟨⟨Int32.ofInt (z6), (z6), rfl, ⟨rfl, (show (inR z6) ∧ (z6 = thC w0 (faP 8 t0) (faP 9 t0) (faP 11 t0) (nb (fiB 0) t0) (dp (fiB 0)) (fiP 0)) from ⟨(by omega), (by unfold thC; omega)⟩)⟩, by rw [ht]; exact hP, hD⟩, hS.F ht⟩) hS.2.2 dX9_thing_89
    · refine lv_tableIn (tgt := 90) hx hb dX9_thing_22 (by rw [iz_toInt (by omega)]; omega) (by rw [iz_toInt (by omega)]; omega) (off := 68) (by rw [iz_toInt (by omega), q3]; decide +kernel) (by decide) ?_
      refine lv_aload_n hx hb dX9_thing_90 rfl (lv_at hl 0 rfl) ?_
      refine va_get (D := G) (ci := 6) (v := .ref (arP 99)) (C := RX9) (T := TX9) (N := 11) (ref := RX9) hx hb hts h1w hown hX.1 hP 0 rfl rfl 4 (by decide) h0w (fun _ h9 => h9) rfl dX9_thing_91 ?_
      refine lv_aload_n hx hb dX9_thing_94 rfl (lv_at hl 0 rfl) ?_
      refine va_get (D := G) (ci := 6) (v := .ref (arB 99)) (C := RX9) (T := TX9) (N := 11) (ref := RX9) hx hb hts h1w hown hX.1 hP 0 rfl rfl 6 (by decide) h6w (fun _ h9 => h9) rfl dX9_thing_95 ?_
      refine va_getN (D := G) (ci := 0) (v := .int (Int32.ofInt (fiB 0))) (C := RX1) (T := TX1) (N := 12) (ref := RX1) (host := RX9) hx hb hts h7w hown hX.1 hP 12 rfl rfl 0 (by decide) (nf_37 hX.2.2.1) (fun _ h9 => h9) rfl dX9_thing_98 ?_
      have rf0B := hRB 0
      refine lv_iload_n hx hb dX9_thing_101 rfl (lv_at hl 1 rfl) ?_
      refine cz_i (wr := ((wT k arT (tpT) (paT) (arP 99) (pdT) (arB 99) (pkT) (psT) fiT faT) ++ (wB k arB fiB faB))) (va_runVN (As := [.int (Int32.ofInt (fiB 0)), .int (Int32.ofInt (t0))]) (rest := []) ⟨hx, hb, hml, hown, hts⟩ (mX3_thingDepth l G k arP fiP faP (fiB 0) t0 H.size hRP hRaP hB8P hB20P hB21P (hRB 0) (by omega) (show 0 ≤ (fiP 0) ∧ (fiP 0) ≤ 11 from by omega)) ⟨va_cnB 2 hts (gz [] (.code yX3_thingDepth cX3_thingDepth 4 (some .int)) [(23, 10)] rfl) rfl rfl rfl (nm_39 hX.2.2.1) h2w (by decide +kernel) ⟨Nat.le_of_ble_eq_true rfl, Nat.le_of_ble_eq_true rfl⟩, h8w, h9w⟩ (cy_preV (EZ_ok k) hZ hS hX hP hD hA [2, 3, 4, 5, 6, 7, 8, 9, 10, 11] rfl rfl (ci := 2) (q0 := 2) rfl rfl) rfl rfl hl.1 rfl (lv_room (Nat.le_of_ble_eq_true rfl)) dX9_thing_102 ⟨Nat.le_of_ble_eq_true rfl, Nat.le_of_ble_eq_true rfl⟩) hP hD hS hA [2, 3, 4, 5, 6, 7, 8, 9, 10, 11] [0, 1, 12, 13, 14, 15, 16, 17, 18, 19] rfl rfl (by decide) (by decide) (fun r u H locs hp hP hD hS => ?_)
      obtain ⟨c7, rfl⟩ : ∃ z, z = u := ⟨_, rfl⟩
      obtain ⟨hP, hD⟩ : va_P G vwCl ((wT k arT (tpT) (paT) (arP 99) (pdT) (arB 99) (pkT) (psT) fiT faT) ++ ((wB k arB fiB faB) ++ (wP k arP fiP faP))) H ∧ va_D A ((wT k arT (tpT) (paT) (arP 99) (pdT) (arB 99) (pkT) (psT) fiT faT) ++ ((wB k arB fiB faB) ++ (wP k arP fiP faP))) := ⟨hP, hD⟩
      obtain ⟨hP, hD⟩ : va_P G vwCl ((wT k arT (tpT) (paT) (arP 99) (pdT) (arB 99) (pkT) (psT) fiT faT) ++ ((wP k arP fiP faP) ++ (wB k arB fiB faB))) H ∧ va_D A ((wT k arT (tpT) (paT) (arP 99) (pdT) (arB 99) (pkT) (psT) fiT faT) ++ ((wP k arP fiP faP) ++ (wB k arB fiB faB))) := re_ord hP hD [0, 1, 10, 11, 12, 13, 14, 15, 16, 17, 18, 19, 2, 3, 4, 5, 6, 7, 8, 9] (by decide) rfl
      obtain ⟨h9, rc7, hp7⟩ : r = Int32.ofInt c7 ∧ (inR c7) ∧ (c7 = thD (nb (fiB 0) t0) (dp (fiB 0)) ((fiP 0)) ∧ -15 ≤ c7 ∧ c7 ≤ 15) := hp
      subst h9
      have hTd102 := hp7.1
      exact W.iret (v := Int32.ofInt (c7)) hx hb hr (fun t ht hW => ⟨⟨Int32.ofInt (c7), (c7), rfl, ⟨rfl, (show (inR c7) ∧ (c7 = thC w0 (faP 8 t0) (faP 9 t0) (faP 11 t0) (nb (fiB 0) t0) (dp (fiB 0)) (fiP 0)) from ⟨(by omega), (by unfold thC; omega)⟩)⟩, by rw [ht]; exact hP, hD⟩, hS.F ht⟩) hS.2.2 dX9_thing_105
    · refine lv_tableIn (tgt := 106) hx hb dX9_thing_22 (by rw [iz_toInt (by omega)]; omega) (by rw [iz_toInt (by omega)]; omega) (off := 84) (by rw [iz_toInt (by omega), q3]; decide +kernel) (by decide) ?_
      refine lv_aload_n hx hb dX9_thing_106 rfl (lv_at hl 0 rfl) ?_
      refine va_get (D := G) (ci := 6) (v := .ref (arB 99)) (C := RX9) (T := TX9) (N := 11) (ref := RX9) hx hb hts h1w hown hX.1 hP 0 rfl rfl 6 (by decide) h6w (fun _ h9 => h9) rfl dX9_thing_107 ?_
      refine va_getN (D := G) (ci := 0) (v := .int (Int32.ofInt (fiB 0))) (C := RX1) (T := TX1) (N := 12) (ref := RX1) (host := RX9) hx hb hts h7w hown hX.1 hP 12 rfl rfl 0 (by decide) (nf_37 hX.2.2.1) (fun _ h9 => h9) rfl dX9_thing_110 ?_
      have rf0B := hRB 0
      refine lv_iload_n hx hb dX9_thing_113 rfl (lv_at hl 1 rfl) ?_
      refine c0_i (va_runSN (As := [.int (Int32.ofInt (fiB 0)), .int (Int32.ofInt (t0))]) (rest := []) ⟨hx, hb, hml, hown, hts⟩ (mX7_bucketOf l G k (fiB 0) t0 H.size (hRB 0) (by omega)) ⟨va_cnB 2 hts (gz [] (.code yX7_bucketOf cX7_bucketOf 3 (some .int)) [(23, 18)] rfl) rfl rfl rfl (nm_40 hX.2.2.1) h10w (by decide +kernel) ⟨Nat.le_of_ble_eq_true rfl, Nat.le_of_ble_eq_true rfl⟩, h11w, trivial⟩ (cr_pre0 (EZ_ok k) hZ hS hX hP hD hA) rfl rfl hl.1 rfl (lv_room (Nat.le_of_ble_eq_true rfl)) dX9_thing_114 ⟨Nat.le_of_ble_eq_true rfl, Nat.le_of_ble_eq_true rfl⟩) hP hD hS hA (fun r u H locs hp hP hD hS => ?_)
      obtain ⟨c8, rfl⟩ : ∃ z, z = u := ⟨_, rfl⟩
      obtain ⟨h9, rc8, hp8⟩ : r = Int32.ofInt c8 ∧ (inR c8) ∧ (c8 = bkO (nb (fiB 0) t0) ∧ -1 ≤ c8 ∧ c8 ≤ 1) := hp
      subst h9
      exact W.iret (v := Int32.ofInt (c8)) hx hb hr (fun t ht hW => ⟨⟨Int32.ofInt (c8), (c8), rfl, ⟨rfl, (show (inR c8) ∧ (c8 = thC w0 (faP 8 t0) (faP 9 t0) (faP 11 t0) (nb (fiB 0) t0) (dp (fiB 0)) (fiP 0)) from ⟨(by omega), (by unfold thC; omega)⟩)⟩, by rw [ht]; exact hP, hD⟩, hS.F ht⟩) hS.2.2 dX9_thing_117
    · refine lv_tableIn (tgt := 118) hx hb dX9_thing_22 (by rw [iz_toInt (by omega)]; omega) (by rw [iz_toInt (by omega)]; omega) (off := 96) (by rw [iz_toInt (by omega), q3]; decide +kernel) (by decide) ?_
      refine lv_aload_n hx hb dX9_thing_118 rfl (lv_at hl 0 rfl) ?_
      refine va_get (D := G) (ci := 6) (v := .ref (arP 99)) (C := RX9) (T := TX9) (N := 11) (ref := RX9) hx hb hts h1w hown hX.1 hP 0 rfl rfl 4 (by decide) h0w (fun _ h9 => h9) rfl dX9_thing_119 ?_
      refine lv_aload_n hx hb dX9_thing_122 rfl (lv_at hl 0 rfl) ?_
      refine va_get (D := G) (ci := 6) (v := .ref (arB 99)) (C := RX9) (T := TX9) (N := 11) (ref := RX9) hx hb hts h1w hown hX.1 hP 0 rfl rfl 6 (by decide) h6w (fun _ h9 => h9) rfl dX9_thing_123 ?_
      refine va_getN (D := G) (ci := 0) (v := .int (Int32.ofInt (fiB 0))) (C := RX1) (T := TX1) (N := 12) (ref := RX1) (host := RX9) hx hb hts h7w hown hX.1 hP 12 rfl rfl 0 (by decide) (nf_37 hX.2.2.1) (fun _ h9 => h9) rfl dX9_thing_126 ?_
      have rf0B := hRB 0
      refine lv_iload_n hx hb dX9_thing_129 rfl (lv_at hl 1 rfl) ?_
      refine cz_i (wr := ((wT k arT (tpT) (paT) (arP 99) (pdT) (arB 99) (pkT) (psT) fiT faT) ++ (wB k arB fiB faB))) (va_runVN (As := [.int (Int32.ofInt (fiB 0)), .int (Int32.ofInt (t0))]) (rest := []) ⟨hx, hb, hml, hown, hts⟩ (mX3_isServed l G k arP fiP faP (fiB 0) t0 H.size hRP hRaP hB8P hB20P hB21P (hRB 0) (by omega) (show 0 ≤ t0 ∧ t0 < 7 from by omega)) ⟨va_cnB 2 hts (gz [] (.code yX3_isServed cX3_isServed 4 (some .boolean)) [(23, 22)] rfl) rfl rfl rfl (nm_41 hX.2.2.1) h2w (by decide +kernel) ⟨Nat.le_of_ble_eq_true rfl, Nat.le_of_ble_eq_true rfl⟩, h12w, h13w⟩ (cy_preV (EZ_ok k) hZ hS hX hP hD hA [2, 3, 4, 5, 6, 7, 8, 9, 10, 11] rfl rfl (ci := 2) (q0 := 2) rfl rfl) rfl rfl hl.1 rfl (lv_room (Nat.le_of_ble_eq_true rfl)) dX9_thing_130 ⟨Nat.le_of_ble_eq_true rfl, Nat.le_of_ble_eq_true rfl⟩) hP hD hS hA [2, 3, 4, 5, 6, 7, 8, 9, 10, 11] [0, 1, 12, 13, 14, 15, 16, 17, 18, 19] rfl rfl (by decide) (by decide) (fun r u H locs hp hP hD hS => ?_)
      obtain ⟨c9, rfl⟩ : ∃ z, z = u := ⟨_, rfl⟩
      obtain ⟨hP, hD⟩ : va_P G vwCl ((wT k arT (tpT) (paT) (arP 99) (pdT) (arB 99) (pkT) (psT) fiT faT) ++ ((wB k arB fiB faB) ++ (wP k arP fiP faP))) H ∧ va_D A ((wT k arT (tpT) (paT) (arP 99) (pdT) (arB 99) (pkT) (psT) fiT faT) ++ ((wB k arB fiB faB) ++ (wP k arP fiP faP))) := ⟨hP, hD⟩
      obtain ⟨hP, hD⟩ : va_P G vwCl ((wT k arT (tpT) (paT) (arP 99) (pdT) (arB 99) (pkT) (psT) fiT faT) ++ ((wP k arP fiP faP) ++ (wB k arB fiB faB))) H ∧ va_D A ((wT k arT (tpT) (paT) (arP 99) (pdT) (arB 99) (pkT) (psT) fiT faT) ++ ((wP k arP fiP faP) ++ (wB k arB fiB faB))) := re_ord hP hD [0, 1, 10, 11, 12, 13, 14, 15, 16, 17, 18, 19, 2, 3, 4, 5, 6, 7, 8, 9] (by decide) rfl
      obtain ⟨h9, rc9, hp9⟩ : r = Int32.ofInt c9 ∧ (inR c9) ∧ ((c9 = 1 ∧ sv (nb (fiB 0) t0) ((faP 11) t0)) ∨ (c9 = 0 ∧ ¬ sv (nb (fiB 0) t0) ((faP 11) t0))) := hp
      subst h9
      refine iv_if_eq (tgt := 140) hx hb (by omega) dX9_thing_133 (by decide) (fun q10 => ?_) (fun q10 => ?_)
      · refine lv_iconst (v := Int32.ofInt 0) hx hb dX9_thing_140 (by decide +kernel) ?_
        exact W.iret (v := Int32.ofInt (0)) hx hb hr (fun t ht hW => ⟨⟨Int32.ofInt (0), (0), rfl, ⟨rfl, (show (inR 0) ∧ (0 = thC w0 (faP 8 t0) (faP 9 t0) (faP 11 t0) (nb (fiB 0) t0) (dp (fiB 0)) (fiP 0)) from ⟨(by omega), (by unfold thC; omega)⟩)⟩, by rw [ht]; exact hP, hD⟩, hS.F ht⟩) hS.2.2 dX9_thing_141
      · refine lv_iconst (v := Int32.ofInt 1) hx hb dX9_thing_136 (by decide +kernel) ?_
        refine lv_goto (tgt := 141) hx hb dX9_thing_137 (by decide) ?_
        exact W.iret (v := Int32.ofInt (1)) hx hb hr (fun t ht hW => ⟨⟨Int32.ofInt (1), (1), rfl, ⟨rfl, (show (inR 1) ∧ (1 = thC w0 (faP 8 t0) (faP 9 t0) (faP 11 t0) (nb (fiB 0) t0) (dp (fiB 0)) (fiP 0)) from ⟨(by omega), (by unfold thC; omega)⟩)⟩, by rw [ht]; exact hP, hD⟩, hS.F ht⟩) hS.2.2 dX9_thing_141
  · exfalso; omega

