set_option maxHeartbeats 4000000 in
set_option maxRecDepth 100000 in
theorem mX9_image (l : Launch) (G : va_G) (k : Nat → ClassId) (arT : Nat → Nat) (tpT : Nat) (paT : Nat) (ppT : Nat) (pdT : Nat) (psT : Nat) (fiT : Nat → Int) (faT : Nat → Int → Int) (arB : Nat → Nat) (fiB : Nat → Int) (faB : Nat → Int → Int) (arK : Nat → Nat) (fiK : Nat → Int) (faK : Nat → Int → Int) (sz : Nat) (hRT : ∀ j, inR (fiT j)) (hRaT : ∀ j t, inR (faT j t)) (hRB : ∀ j, inR (fiB j)) (hRaB : ∀ j t, inR (faB j t)) (hRK : ∀ j, inR (fiK j)) (hRaK : ∀ j t, inR (faK j t)) (hbi : 0 ≤ fiB 1 ∧ fiB 1 ≤ 60 ∧ 0 ≤ fiB 4 ∧ fiB 4 ≤ 6) : CNv l G k (EZ k) yX9_image wzX9_image ({ frames := 2, cells := 0, slots := 0, locals := 85 }) [.ref (arT 99)] sz ((wT k arT (tpT) (paT) (ppT) (pdT) (arB 99) (arK 99) (psT) fiT faT) ++ ((wB k arB fiB faB) ++ (wB k arK fiK faK))) (fun (u : Int × (Int → Int) × (Int → Int) × (Int → Int) × (Int → Int) × (Int → Int) × (Int → Int) × (Int → Int) × Int × Int × Int × Int × Int) => (inR u.1) ∧ (∀ t, inR (u.2.1 t)) ∧ (∀ t, inR (u.2.2.1 t)) ∧ (∀ t, inR (u.2.2.2.1 t)) ∧ (∀ t, inR (u.2.2.2.2.1 t)) ∧ (∀ t, inR (u.2.2.2.2.2.1 t)) ∧ (∀ t, inR (u.2.2.2.2.2.2.1 t)) ∧ (∀ t, inR (u.2.2.2.2.2.2.2.1 t)) ∧ (inR u.2.2.2.2.2.2.2.2.1) ∧ (inR u.2.2.2.2.2.2.2.2.2.1) ∧ (inR u.2.2.2.2.2.2.2.2.2.2.1) ∧ (inR u.2.2.2.2.2.2.2.2.2.2.2.1) ∧ (inR u.2.2.2.2.2.2.2.2.2.2.2.2) ∧ ((0 ≤ u.2.2.2.2.2.2.2.2.2.1 ∧ u.2.2.2.2.2.2.2.2.2.1 ≤ 60 ∧ 0 ≤ u.2.2.2.2.2.2.2.2.2.2.2.2 ∧ u.2.2.2.2.2.2.2.2.2.2.2.2 ≤ 6 ∧ u.1 = 1) ∧ (u.2.2.2.2.2.2.2.2.1 = fiB 0 ∧ u.2.2.2.2.2.2.2.2.2.1 = fiB 1 ∧ u.2.2.2.2.2.2.2.2.2.2.2.2 = fiB 4) ∧ u.2.1 = cpZ (faB 5) (faK 5) 60 ∧ u.2.2.1 = cpZ (faB 6) (faK 6) 60 ∧ u.2.2.2.1 = cpZ (faB 7) (faK 7) 60 ∧ u.2.2.2.2.1 = cpZ (faB 8) (faK 8) 60 ∧ u.2.2.2.2.2.2.1 = cpZ (faB 10) (faK 10) 6)) (fun (u : Int × (Int → Int) × (Int → Int) × (Int → Int) × (Int → Int) × (Int → Int) × (Int → Int) × (Int → Int) × Int × Int × Int × Int × Int) => ((wT k arT (tpT) (paT) (ppT) (pdT) (arB 99) (arK 99) (psT) (uF fiT 8 (u.1)) faT) ++ ((wB k arB fiB faB) ++ (wB k arK (uF (uF (uF (uF (uF fiK 0 (u.2.2.2.2.2.2.2.2.1)) 1 (u.2.2.2.2.2.2.2.2.2.1)) 2 (u.2.2.2.2.2.2.2.2.2.2.1)) 3 (u.2.2.2.2.2.2.2.2.2.2.2.1)) 4 (u.2.2.2.2.2.2.2.2.2.2.2.2)) (uF (uF (uF (uF (uF (uF (uF faK 5 (u.2.1)) 6 (u.2.2.1)) 7 (u.2.2.2.1)) 8 (u.2.2.2.2.1)) 9 (u.2.2.2.2.2.1)) 10 (u.2.2.2.2.2.2.1)) 11 (u.2.2.2.2.2.2.2.1)))))) := by
  refine Met.ofW (cc := cX9_image) (maxL := 1) (ret := none) (by decide) rfl ?_
  intro p e s m args below meth c s₁ B hml hv
  obtain ⟨rfl, hsz, hP, hX, hD0, hZ0⟩ := hv
  have hx := B.exec
  have hb := B.bytes
  have hr := B.returns
  have hts := atoms_spec (ws := wzX9_image) B.pre
  have hown : s.vm.findClass RX9 = some m.cls := findClass_of_methodNamed B.named
  subst hsz
  have hD := hD0.self (sz := s.heap.size)
  have hZ := hZ0
  generalize hAe : va_A ((wT k arT (tpT) (paT) (ppT) (pdT) (arB 99) (arK 99) (psT) fiT faT) ++ ((wB k arB fiB faB) ++ (wB k arK fiK faK))) s.heap.size = A at hD hZ ⊢
  have hA : ∀ q : Nat, s.heap.size ≤ q → A q := fun q h => by rw [← hAe]; exact Or.inr h
  have hS : va_S A s.heap s.heap [] := va_S.rf
  have hl := lv_entry ([.ref (arT 99)]) (n := 1) (Nat.le_of_ble_eq_true rfl)
  rw [lg_entry_eq]
  generalize (lg_sl ([.ref (arT 99)]) ++ List.replicate (1 - (lg_sl ([.ref (arT 99)])).length) Slot.unset).toArray = ls at hl ⊢
  have hl : lv_has ls 1 [(0, .ref (arT 99))] := hl
  obtain ⟨H, eH⟩ : ∃ H, H = s.heap := ⟨_, rfl⟩
  rw [← eH] at hP
  have hS : va_S A s.heap H [] := by rw [eH]; exact hS
  have gW : s.heap = H := eH.symm
  refine iv_heap gW ?_
  have h0w := hts (.fieldLink RX9 46 "RopeTown" "kept" "LRopeTown$Book;") (wz_at 1 6 rfl)
  have h1w : ∀ w ∈ wsX90, w ∈ wzX9_image := fun w h => List.mem_cons_of_mem _ (inlX9 w h)
  have h2w := hts (.fieldLink RX9 42 "RopeTown" "book" "LRopeTown$Book;") (wz_at 1 5 rfl)
  have h3w := hts (.initialized RX1) (wz_at 1 4 rfl)
  have h4w := hts (.instanceMethod yX1_copy) (wz_at 41 14 rfl)
  have h5w := hts (.selects RX1 yX1_copy yX1_copy) (wz_at 41 15 rfl)
  have h6w := hts (.fieldLink RX9 49 "RopeTown" "isKept" "Z") (wz_at 1 7 rfl)
  refine lv_aload_n hx hb dX9_image_0 rfl (lv_at hl 0 rfl) ?_
  refine va_get (D := G) (ci := 6) (v := .ref (arK 99)) (C := RX9) (T := TX9) (N := 11) (ref := RX9) hx hb hts h1w hown hX.1 hP 0 rfl rfl 7 (by decide) h0w (fun _ h9 => h9) rfl dX9_image_1 ?_
  refine lv_aload_n hx hb dX9_image_4 rfl (lv_at hl 0 rfl) ?_
  refine va_get (D := G) (ci := 6) (v := .ref (arB 99)) (C := RX9) (T := TX9) (N := 11) (ref := RX9) hx hb hts h1w hown hX.1 hP 0 rfl rfl 6 (by decide) h2w (fun _ h9 => h9) rfl dX9_image_5 ?_
  refine cz_v (wr := (wT k arT (tpT) (paT) (ppT) (pdT) (arB 99) (arK 99) (psT) fiT faT)) (va_runVN (As := [.ref (arB 99)]) (rest := []) ⟨hx, hb, hml, hown, hts⟩ (mX1_copy l G k arK fiK faK arB fiB faB H.size hRK hRaK hRB hRaB) ⟨va_cnB 1 hts (gz [] (.code yX1_copy cX1_copy 2 none) [(41, 16)] rfl) rfl rfl rfl (nm_27 hX.2.2.1) h3w (by decide +kernel) ⟨Nat.le_of_ble_eq_true rfl, Nat.le_of_ble_eq_true rfl⟩, h4w, h5w⟩ (cy_preV (EZ_ok k) hZ hS hX hP hD hA [10, 11, 12, 13, 14, 15, 16, 17, 2, 3, 4, 5, 6, 7, 8, 9] rfl rfl (ci := 0) (q0 := 10) rfl rfl) rfl rfl hl.1 rfl (lv_room (Nat.le_of_ble_eq_true rfl)) dX9_image_8 ⟨Nat.le_of_ble_eq_true rfl, Nat.le_of_ble_eq_true rfl⟩) hP hD hS hA [10, 11, 12, 13, 14, 15, 16, 17, 2, 3, 4, 5, 6, 7, 8, 9] [0, 1] rfl rfl (by decide) (by decide) (fun u H locs hp hP hD hS => ?_)
  obtain ⟨c1, c2, c3, c4, c5, c6, c7, c8, c9, c10, c11, c12⟩ := u
  obtain ⟨hP, hD⟩ : va_P G vwCl ((wT k arT (tpT) (paT) (ppT) (pdT) (arB 99) (arK 99) (psT) fiT faT) ++ ((wB k arK (uF (uF (uF (uF (uF fiK 0 (c8)) 1 (c9)) 2 (c10)) 3 (c11)) 4 (c12)) (uF (uF (uF (uF (uF (uF (uF faK 5 (c1)) 6 (c2)) 7 (c3)) 8 (c4)) 9 (c5)) 10 (c6)) 11 (c7))) ++ (wB k arB fiB faB))) H ∧ va_D A ((wT k arT (tpT) (paT) (ppT) (pdT) (arB 99) (arK 99) (psT) fiT faT) ++ ((wB k arK (uF (uF (uF (uF (uF fiK 0 (c8)) 1 (c9)) 2 (c10)) 3 (c11)) 4 (c12)) (uF (uF (uF (uF (uF (uF (uF faK 5 (c1)) 6 (c2)) 7 (c3)) 8 (c4)) 9 (c5)) 10 (c6)) 11 (c7))) ++ (wB k arB fiB faB))) := ⟨hP, hD⟩
  obtain ⟨hP, hD⟩ : va_P G vwCl ((wT k arT (tpT) (paT) (ppT) (pdT) (arB 99) (arK 99) (psT) fiT faT) ++ ((wB k arB fiB faB) ++ (wB k arK (uF (uF (uF (uF (uF fiK 0 (c8)) 1 (c9)) 2 (c10)) 3 (c11)) 4 (c12)) (uF (uF (uF (uF (uF (uF (uF faK 5 (c1)) 6 (c2)) 7 (c3)) 8 (c4)) 9 (c5)) 10 (c6)) 11 (c7))))) H ∧ va_D A ((wT k arT (tpT) (paT) (ppT) (pdT) (arB 99) (arK 99) (psT) fiT faT) ++ ((wB k arB fiB faB) ++ (wB k arK (uF (uF (uF (uF (uF fiK 0 (c8)) 1 (c9)) 2 (c10)) 3 (c11)) 4 (c12)) (uF (uF (uF (uF (uF (uF (uF faK 5 (c1)) 6 (c2)) 7 (c3)) 8 (c4)) 9 (c5)) 10 (c6)) 11 (c7))))) := re_ord hP hD [0, 1, 10, 11, 12, 13, 14, 15, 16, 17, 2, 3, 4, 5, 6, 7, 8, 9] (by decide) rfl
  obtain ⟨rc1, rc2, rc3, rc4, rc5, rc6, rc7, rc8, rc9, rc10, rc11, rc12, hp12⟩ : (∀ t, inR (c1 t)) ∧ (∀ t, inR (c2 t)) ∧ (∀ t, inR (c3 t)) ∧ (∀ t, inR (c4 t)) ∧ (∀ t, inR (c5 t)) ∧ (∀ t, inR (c6 t)) ∧ (∀ t, inR (c7 t)) ∧ (inR c8) ∧ (inR c9) ∧ (inR c10) ∧ (inR c11) ∧ (inR c12) ∧ ((c8 = (fiB 0) ∧ c9 = (fiB 1) ∧ c12 = (fiB 4)) ∧ c1 = cpZ ((faB 5)) ((faK 5)) 60 ∧ c2 = cpZ ((faB 6)) ((faK 6)) 60 ∧ c3 = cpZ ((faB 7)) ((faK 7)) 60 ∧ c4 = cpZ ((faB 8)) ((faK 8)) 60 ∧ c6 = cpZ ((faB 10)) ((faK 10)) 6) := hp
  obtain ⟨hp12, hC5, hC6, hC7, hC8, hC10⟩ := hp12
  refine lv_aload_n hx hb dX9_image_11 rfl (lv_at hl 0 rfl) ?_
  refine lv_iconst (v := Int32.ofInt 1) hx hb dX9_image_12 (by decide +kernel) ?_
  refine iv_put (ci := 6) (v := .int (Int32.ofInt (1))) (ty := .boolean) (C := RX9) (T := TX9) (N := 11) (ref := RX9) hx hb hts h1w tyX9 tyX9_ok nmX9 hown hX.1 hP hD hS 0 rfl rfl 8 (by decide) h6w (fun _ h9 => h9) rfl (by decide +kernel) (nz_bool (by omega)) (fz_bool (by omega)) (Nat.le_of_ble_eq_true rfl) (show _ = ((wT k arT (tpT) (paT) (ppT) (pdT) (arB 99) (arK 99) (psT) (uF fiT 8 (1)) faT) ++ ((wB k arB fiB faB) ++ (wB k arK (uF (uF (uF (uF (uF fiK 0 (c8)) 1 (c9)) 2 (c10)) 3 (c11)) 4 (c12)) (uF (uF (uF (uF (uF (uF (uF faK 5 (c1)) 6 (c2)) 7 (c3)) 8 (c4)) 9 (c5)) 10 (c6)) 11 (c7))))) from rfl) dX9_image_13 (fun H locs hP hD hS => ?_)
  exact W.vret hx hb hr (fun t ht hW => ⟨⟨(1, c1, c2, c3, c4, c5, c6, c7, c8, c9, c10, c11, c12), rfl, (show (inR 1) ∧ (∀ t, inR (c1 t)) ∧ (∀ t, inR (c2 t)) ∧ (∀ t, inR (c3 t)) ∧ (∀ t, inR (c4 t)) ∧ (∀ t, inR (c5 t)) ∧ (∀ t, inR (c6 t)) ∧ (∀ t, inR (c7 t)) ∧ (inR c8) ∧ (inR c9) ∧ (inR c10) ∧ (inR c11) ∧ (inR c12) ∧ ((0 ≤ c9 ∧ c9 ≤ 60 ∧ 0 ≤ c12 ∧ c12 ≤ 6 ∧ 1 = 1) ∧ (c8 = fiB 0 ∧ c9 = fiB 1 ∧ c12 = fiB 4) ∧ c1 = cpZ (faB 5) (faK 5) 60 ∧ c2 = cpZ (faB 6) (faK 6) 60 ∧ c3 = cpZ (faB 7) (faK 7) 60 ∧ c4 = cpZ (faB 8) (faK 8) 60 ∧ c6 = cpZ (faB 10) (faK 10) 6) from ⟨(by omega), rc1, rc2, rc3, rc4, rc5, rc6, rc7, (by omega), (by omega), (by omega), (by omega), (by omega), (by exact ⟨by omega, by omega, hC5, hC6, hC7, hC8, hC10⟩)⟩), by rw [ht]; exact hP, hD⟩, hS.F ht⟩) hS.2.2 dX9_image_16

set_option maxHeartbeats 4000000 in
set_option maxRecDepth 100000 in
theorem mX9_restore (l : Launch) (G : va_G) (k : Nat → ClassId) (arT : Nat → Nat) (tpT : Nat) (paT : Nat) (ppT : Nat) (pdT : Nat) (psT : Nat) (fiT : Nat → Int) (faT : Nat → Int → Int) (arB : Nat → Nat) (fiB : Nat → Int) (faB : Nat → Int → Int) (arK : Nat → Nat) (fiK : Nat → Int) (faK : Nat → Int → Int) (sz : Nat) (hRT : ∀ j, inR (fiT j)) (hRaT : ∀ j t, inR (faT j t)) (hRB : ∀ j, inR (fiB j)) (hRaB : ∀ j t, inR (faB j t)) (hRK : ∀ j, inR (fiK j)) (hRaK : ∀ j t, inR (faK j t)) (hbi : 0 ≤ fiB 1 ∧ fiB 1 ≤ 60 ∧ 0 ≤ fiB 4 ∧ fiB 4 ≤ 6) (hki : 0 ≤ fiK 1 ∧ fiK 1 ≤ 60 ∧ 0 ≤ fiK 4 ∧ fiK 4 ≤ 6) (hk8 : fiT 8 = 0 ∨ fiT 8 = 1) : CNi l G k (EZ k) yX9_restore wzX9_restore ({ frames := 2, cells := 0, slots := 0, locals := 85 }) [.ref (arT 99)] sz ((wT k arT (tpT) (paT) (ppT) (pdT) (arB 99) (arK 99) (psT) fiT faT) ++ ((wB k arB fiB faB) ++ (wB k arK fiK faK))) (fun (r0 : Int32) (u : Int × (Int → Int) × (Int → Int) × (Int → Int) × (Int → Int) × (Int → Int) × (Int → Int) × (Int → Int) × Int × Int × Int × Int × Int) => r0 = Int32.ofInt (u.1) ∧ (inR u.1) ∧ (∀ t, inR (u.2.1 t)) ∧ (∀ t, inR (u.2.2.1 t)) ∧ (∀ t, inR (u.2.2.2.1 t)) ∧ (∀ t, inR (u.2.2.2.2.1 t)) ∧ (∀ t, inR (u.2.2.2.2.2.1 t)) ∧ (∀ t, inR (u.2.2.2.2.2.2.1 t)) ∧ (∀ t, inR (u.2.2.2.2.2.2.2.1 t)) ∧ (inR u.2.2.2.2.2.2.2.2.1) ∧ (inR u.2.2.2.2.2.2.2.2.2.1) ∧ (inR u.2.2.2.2.2.2.2.2.2.2.1) ∧ (inR u.2.2.2.2.2.2.2.2.2.2.2.1) ∧ (inR u.2.2.2.2.2.2.2.2.2.2.2.2) ∧ ((0 ≤ u.2.2.2.2.2.2.2.2.2.1 ∧ u.2.2.2.2.2.2.2.2.2.1 ≤ 60 ∧ 0 ≤ u.2.2.2.2.2.2.2.2.2.2.2.2 ∧ u.2.2.2.2.2.2.2.2.2.2.2.2 ≤ 6 ∧ u.1 = fiT 8) ∧ (¬ fiT 8 = 0 → (u.2.2.2.2.2.2.2.2.1 = fiK 0 ∧ u.2.2.2.2.2.2.2.2.2.1 = fiK 1 ∧ u.2.2.2.2.2.2.2.2.2.2.2.2 = fiK 4) ∧ u.2.1 = cpZ (faK 5) (faB 5) 60 ∧ u.2.2.1 = cpZ (faK 6) (faB 6) 60 ∧ u.2.2.2.1 = cpZ (faK 7) (faB 7) 60 ∧ u.2.2.2.2.1 = cpZ (faK 8) (faB 8) 60 ∧ u.2.2.2.2.2.2.1 = cpZ (faK 10) (faB 10) 6) ∧ (fiT 8 = 0 → u.2.2.2.2.2.2.2.2.1 = fiB 0 ∧ u.2.2.2.2.2.2.2.2.2.1 = fiB 1 ∧ u.2.2.2.2.2.2.2.2.2.2.2.2 = fiB 4 ∧ u.2.1 = faB 5 ∧ u.2.2.1 = faB 6 ∧ u.2.2.2.1 = faB 7 ∧ u.2.2.2.2.1 = faB 8 ∧ u.2.2.2.2.2.2.1 = faB 10))) (fun (u : Int × (Int → Int) × (Int → Int) × (Int → Int) × (Int → Int) × (Int → Int) × (Int → Int) × (Int → Int) × Int × Int × Int × Int × Int) => ((wT k arT (tpT) (paT) (ppT) (pdT) (arB 99) (arK 99) (psT) fiT faT) ++ ((wB k arB (uF (uF (uF (uF (uF fiB 0 (u.2.2.2.2.2.2.2.2.1)) 1 (u.2.2.2.2.2.2.2.2.2.1)) 2 (u.2.2.2.2.2.2.2.2.2.2.1)) 3 (u.2.2.2.2.2.2.2.2.2.2.2.1)) 4 (u.2.2.2.2.2.2.2.2.2.2.2.2)) (uF (uF (uF (uF (uF (uF (uF faB 5 (u.2.1)) 6 (u.2.2.1)) 7 (u.2.2.2.1)) 8 (u.2.2.2.2.1)) 9 (u.2.2.2.2.2.1)) 10 (u.2.2.2.2.2.2.1)) 11 (u.2.2.2.2.2.2.2.1))) ++ (wB k arK fiK faK)))) := by
  refine Met.ofW (cc := cX9_restore) (maxL := 1) (ret := (some .boolean)) (by decide) rfl ?_
  intro p e s m args below meth c s₁ B hml hv
  obtain ⟨rfl, hsz, hP, hX, hD0, hZ0⟩ := hv
  have hx := B.exec
  have hb := B.bytes
  have hr := B.returns
  have hts := atoms_spec (ws := wzX9_restore) B.pre
  have hown : s.vm.findClass RX9 = some m.cls := findClass_of_methodNamed B.named
  subst hsz
  have hD := hD0.self (sz := s.heap.size)
  have hZ := hZ0
  generalize hAe : va_A ((wT k arT (tpT) (paT) (ppT) (pdT) (arB 99) (arK 99) (psT) fiT faT) ++ ((wB k arB fiB faB) ++ (wB k arK fiK faK))) s.heap.size = A at hD hZ ⊢
  have hA : ∀ q : Nat, s.heap.size ≤ q → A q := fun q h => by rw [← hAe]; exact Or.inr h
  have hS : va_S A s.heap s.heap [] := va_S.rf
  have hl := lv_entry ([.ref (arT 99)]) (n := 1) (Nat.le_of_ble_eq_true rfl)
  rw [lg_entry_eq]
  generalize (lg_sl ([.ref (arT 99)]) ++ List.replicate (1 - (lg_sl ([.ref (arT 99)])).length) Slot.unset).toArray = ls at hl ⊢
  have hl : lv_has ls 1 [(0, .ref (arT 99))] := hl
  obtain ⟨H, eH⟩ : ∃ H, H = s.heap := ⟨_, rfl⟩
  rw [← eH] at hP
  have hS : va_S A s.heap H [] := by rw [eH]; exact hS
  have gW : s.heap = H := eH.symm
  refine iv_heap gW ?_
  have h0w := hts (.fieldLink RX9 49 "RopeTown" "isKept" "Z") (wz_at 1 7 rfl)
  have h1w : ∀ w ∈ wsX90, w ∈ wzX9_restore := fun w h => List.mem_cons_of_mem _ (inlX9 w h)
  have h2w := hts (.fieldLink RX9 42 "RopeTown" "book" "LRopeTown$Book;") (wz_at 1 5 rfl)
  have h3w := hts (.fieldLink RX9 46 "RopeTown" "kept" "LRopeTown$Book;") (wz_at 1 6 rfl)
  have h4w := hts (.initialized RX1) (wz_at 1 4 rfl)
  have h5w := hts (.instanceMethod yX1_copy) (wz_at 41 14 rfl)
  have h6w := hts (.selects RX1 yX1_copy yX1_copy) (wz_at 41 15 rfl)
  refine lv_aload_n hx hb dX9_restore_0 rfl (lv_at hl 0 rfl) ?_
  refine va_get (D := G) (ci := 6) (v := .int (Int32.ofInt (fiT 8))) (C := RX9) (T := TX9) (N := 11) (ref := RX9) hx hb hts h1w hown hX.1 hP 0 rfl rfl 8 (by decide) h0w (fun _ h9 => h9) rfl dX9_restore_1 ?_
  have rf8T := hRT 8
  refine iv_if_eq (tgt := 18) hx hb (by omega) dX9_restore_4 (by decide) (fun q1 => ?_) (fun q1 => ?_)
  · refine lv_aload_n hx hb dX9_restore_18 rfl (lv_at hl 0 rfl) ?_
    refine va_get (D := G) (ci := 6) (v := .int (Int32.ofInt (fiT 8))) (C := RX9) (T := TX9) (N := 11) (ref := RX9) hx hb hts h1w hown hX.1 hP 0 rfl rfl 8 (by decide) h0w (fun _ h9 => h9) rfl dX9_restore_19 ?_
    have rf8T := hRT 8
    exact W.zret (v := Int32.ofInt (fiT 8)) hx hb hr (nz_bool (by omega)) (fun t ht hW => ⟨⟨Int32.ofInt (fiT 8), (fiT 8, faB 5, faB 6, faB 7, faB 8, faB 9, faB 10, faB 11, fiB 0, fiB 1, fiB 2, fiB 3, fiB 4), rfl, ⟨rfl, (show (inR (fiT 8)) ∧ (∀ t, inR ((faB 5) t)) ∧ (∀ t, inR ((faB 6) t)) ∧ (∀ t, inR ((faB 7) t)) ∧ (∀ t, inR ((faB 8) t)) ∧ (∀ t, inR ((faB 9) t)) ∧ (∀ t, inR ((faB 10) t)) ∧ (∀ t, inR ((faB 11) t)) ∧ (inR (fiB 0)) ∧ (inR (fiB 1)) ∧ (inR (fiB 2)) ∧ (inR (fiB 3)) ∧ (inR (fiB 4)) ∧ ((0 ≤ (fiB 1) ∧ (fiB 1) ≤ 60 ∧ 0 ≤ (fiB 4) ∧ (fiB 4) ≤ 6 ∧ (fiT 8) = fiT 8) ∧ (¬ fiT 8 = 0 → ((fiB 0) = fiK 0 ∧ (fiB 1) = fiK 1 ∧ (fiB 4) = fiK 4) ∧ (faB 5) = cpZ (faK 5) (faB 5) 60 ∧ (faB 6) = cpZ (faK 6) (faB 6) 60 ∧ (faB 7) = cpZ (faK 7) (faB 7) 60 ∧ (faB 8) = cpZ (faK 8) (faB 8) 60 ∧ (faB 10) = cpZ (faK 10) (faB 10) 6) ∧ (fiT 8 = 0 → (fiB 0) = fiB 0 ∧ (fiB 1) = fiB 1 ∧ (fiB 4) = fiB 4 ∧ (faB 5) = faB 5 ∧ (faB 6) = faB 6 ∧ (faB 7) = faB 7 ∧ (faB 8) = faB 8 ∧ (faB 10) = faB 10)) from ⟨(hRT 8), (hRaB 5), (hRaB 6), (hRaB 7), (hRaB 8), (hRaB 9), (hRaB 10), (hRaB 11), (hRB 0), (hRB 1), (hRB 2), (hRB 3), (hRB 4), (by first | exact ⟨by omega, fun z => absurd z (by omega), fun _ => ⟨rfl, rfl, rfl, rfl, rfl, rfl, rfl, rfl⟩⟩ | exact ⟨by omega, fun _ => ⟨by omega, hC5, hC6, hC7, hC8, hC10⟩, fun z => absurd z (by omega)⟩)⟩)⟩, by rw [ht]; exact hP, hD⟩, hS.F ht⟩) hS.2.2 dX9_restore_22
  · refine lv_aload_n hx hb dX9_restore_7 rfl (lv_at hl 0 rfl) ?_
    refine va_get (D := G) (ci := 6) (v := .ref (arB 99)) (C := RX9) (T := TX9) (N := 11) (ref := RX9) hx hb hts h1w hown hX.1 hP 0 rfl rfl 6 (by decide) h2w (fun _ h9 => h9) rfl dX9_restore_8 ?_
    refine lv_aload_n hx hb dX9_restore_11 rfl (lv_at hl 0 rfl) ?_
    refine va_get (D := G) (ci := 6) (v := .ref (arK 99)) (C := RX9) (T := TX9) (N := 11) (ref := RX9) hx hb hts h1w hown hX.1 hP 0 rfl rfl 7 (by decide) h3w (fun _ h9 => h9) rfl dX9_restore_12 ?_
    refine cz_v (wr := (wT k arT (tpT) (paT) (ppT) (pdT) (arB 99) (arK 99) (psT) fiT faT)) (va_runVN (As := [.ref (arK 99)]) (rest := []) ⟨hx, hb, hml, hown, hts⟩ (mX1_copy l G k arB fiB faB arK fiK faK H.size hRB hRaB hRK hRaK) ⟨va_cnB 1 hts (gz [] (.code yX1_copy cX1_copy 2 none) [(41, 16)] rfl) rfl rfl rfl (nm_27 hX.2.2.1) h4w (by decide +kernel) ⟨Nat.le_of_ble_eq_true rfl, Nat.le_of_ble_eq_true rfl⟩, h5w, h6w⟩ (cy_preV (EZ_ok k) hZ hS hX hP hD hA [2, 3, 4, 5, 6, 7, 8, 9, 10, 11, 12, 13, 14, 15, 16, 17] rfl rfl (ci := 0) (q0 := 2) rfl rfl) rfl rfl hl.1 rfl (lv_room (Nat.le_of_ble_eq_true rfl)) dX9_restore_15 ⟨Nat.le_of_ble_eq_true rfl, Nat.le_of_ble_eq_true rfl⟩) hP hD hS hA [2, 3, 4, 5, 6, 7, 8, 9, 10, 11, 12, 13, 14, 15, 16, 17] [0, 1] rfl rfl (by decide) (by decide) (fun u H locs hp hP hD hS => ?_)
    obtain ⟨c2, c3, c4, c5, c6, c7, c8, c9, c10, c11, c12, c13⟩ := u
    obtain ⟨hP, hD⟩ : va_P G vwCl ((wT k arT (tpT) (paT) (ppT) (pdT) (arB 99) (arK 99) (psT) fiT faT) ++ ((wB k arB (uF (uF (uF (uF (uF fiB 0 (c9)) 1 (c10)) 2 (c11)) 3 (c12)) 4 (c13)) (uF (uF (uF (uF (uF (uF (uF faB 5 (c2)) 6 (c3)) 7 (c4)) 8 (c5)) 9 (c6)) 10 (c7)) 11 (c8))) ++ (wB k arK fiK faK))) H ∧ va_D A ((wT k arT (tpT) (paT) (ppT) (pdT) (arB 99) (arK 99) (psT) fiT faT) ++ ((wB k arB (uF (uF (uF (uF (uF fiB 0 (c9)) 1 (c10)) 2 (c11)) 3 (c12)) 4 (c13)) (uF (uF (uF (uF (uF (uF (uF faB 5 (c2)) 6 (c3)) 7 (c4)) 8 (c5)) 9 (c6)) 10 (c7)) 11 (c8))) ++ (wB k arK fiK faK))) := ⟨hP, hD⟩
    obtain ⟨rc2, rc3, rc4, rc5, rc6, rc7, rc8, rc9, rc10, rc11, rc12, rc13, hp13⟩ : (∀ t, inR (c2 t)) ∧ (∀ t, inR (c3 t)) ∧ (∀ t, inR (c4 t)) ∧ (∀ t, inR (c5 t)) ∧ (∀ t, inR (c6 t)) ∧ (∀ t, inR (c7 t)) ∧ (∀ t, inR (c8 t)) ∧ (inR c9) ∧ (inR c10) ∧ (inR c11) ∧ (inR c12) ∧ (inR c13) ∧ ((c9 = (fiK 0) ∧ c10 = (fiK 1) ∧ c13 = (fiK 4)) ∧ c2 = cpZ ((faK 5)) ((faB 5)) 60 ∧ c3 = cpZ ((faK 6)) ((faB 6)) 60 ∧ c4 = cpZ ((faK 7)) ((faB 7)) 60 ∧ c5 = cpZ ((faK 8)) ((faB 8)) 60 ∧ c7 = cpZ ((faK 10)) ((faB 10)) 6) := hp
    obtain ⟨hp13, hC5, hC6, hC7, hC8, hC10⟩ := hp13
    refine lv_aload_n hx hb dX9_restore_18 rfl (lv_at hl 0 rfl) ?_
    refine va_get (D := G) (ci := 6) (v := .int (Int32.ofInt (fiT 8))) (C := RX9) (T := TX9) (N := 11) (ref := RX9) hx hb hts h1w hown hX.1 hP 0 rfl rfl 8 (by decide) h0w (fun _ h9 => h9) rfl dX9_restore_19 ?_
    have rf8T := hRT 8
    exact W.zret (v := Int32.ofInt (fiT 8)) hx hb hr (nz_bool (by omega)) (fun t ht hW => ⟨⟨Int32.ofInt (fiT 8), (fiT 8, c2, c3, c4, c5, c6, c7, c8, c9, c10, c11, c12, c13), rfl, ⟨rfl, (show (inR (fiT 8)) ∧ (∀ t, inR (c2 t)) ∧ (∀ t, inR (c3 t)) ∧ (∀ t, inR (c4 t)) ∧ (∀ t, inR (c5 t)) ∧ (∀ t, inR (c6 t)) ∧ (∀ t, inR (c7 t)) ∧ (∀ t, inR (c8 t)) ∧ (inR c9) ∧ (inR c10) ∧ (inR c11) ∧ (inR c12) ∧ (inR c13) ∧ ((0 ≤ c10 ∧ c10 ≤ 60 ∧ 0 ≤ c13 ∧ c13 ≤ 6 ∧ (fiT 8) = fiT 8) ∧ (¬ fiT 8 = 0 → (c9 = fiK 0 ∧ c10 = fiK 1 ∧ c13 = fiK 4) ∧ c2 = cpZ (faK 5) (faB 5) 60 ∧ c3 = cpZ (faK 6) (faB 6) 60 ∧ c4 = cpZ (faK 7) (faB 7) 60 ∧ c5 = cpZ (faK 8) (faB 8) 60 ∧ c7 = cpZ (faK 10) (faB 10) 6) ∧ (fiT 8 = 0 → c9 = fiB 0 ∧ c10 = fiB 1 ∧ c13 = fiB 4 ∧ c2 = faB 5 ∧ c3 = faB 6 ∧ c4 = faB 7 ∧ c5 = faB 8 ∧ c7 = faB 10)) from ⟨(hRT 8), rc2, rc3, rc4, rc5, rc6, rc7, rc8, (by omega), (by omega), (by omega), (by omega), (by omega), (by first | exact ⟨by omega, fun z => absurd z (by omega), fun _ => ⟨rfl, rfl, rfl, rfl, rfl, rfl, rfl, rfl⟩⟩ | exact ⟨by omega, fun _ => ⟨by omega, hC5, hC6, hC7, hC8, hC10⟩, fun z => absurd z (by omega)⟩)⟩)⟩, by rw [ht]; exact hP, hD⟩, hS.F ht⟩) hS.2.2 dX9_restore_22

