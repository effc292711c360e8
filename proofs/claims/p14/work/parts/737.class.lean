set_option maxHeartbeats 4000000 in
set_option maxRecDepth 100000 in
theorem hL_bucket_x (l : Launch) (htr : l.stackTraces = false) (G : va_G) (k : Nat → ClassId) (arT : Nat → Nat) (tpT : Nat) (paT : Nat) (pdT : Nat) (pkT : Nat) (psT : Nat) (fiT : Nat → Int) (faT : Nat → Int → Int) (arP : Nat → Nat) (fiP : Nat → Int) (faP : Nat → Int → Int) (arB : Nat → Nat) (fiB : Nat → Int) (faB : Nat → Int → Int) (arO : Nat → Nat) (fiO : Nat → Int) (faO : Nat → Int → Int) (flO : Nat → Int64) (b0 : Int) (w0 : Int) (sz : Nat) (hRT : ∀ j, inR (fiT j)) (hRaT : ∀ j t, inR (faT j t)) (hRP : ∀ j, inR (fiP j)) (hRaP : ∀ j t, inR (faP j t)) (hB8P : bnd (faP 8) 7 0 4) (hB20P : bnd (faP 20) 600 (-1000) 10000) (hB21P : bnd (faP 21) 4 0 601) (hRB : ∀ j, inR (fiB j)) (hRaB : ∀ j t, inR (faB j t)) (hRO : ∀ j, inR (fiO j)) (hRaO : ∀ j t, inR (faO j t)) (hr_b0 : inR b0) (hr_w0 : inR w0) (hbt : 0 ≤ fiP 0 ∧ fiP 0 ≤ 11) (hx0 : b0 < 0 ∨ 1 < b0 ∨ w0 < 0 ∨ 4 < w0) : CHi l G k yL_bucket wzL_bucket ({ frames := 7, cells := 1, slots := 6, locals := 123 }) [.ref (arT 99), .int (Int32.ofInt (b0)), .int (Int32.ofInt (w0)), .ref (arO 0)] sz ((wT k arT (tpT) (paT) (arP 99) (pdT) (arB 99) (pkT) (psT) fiT faT) ++ ((wP k arP fiP faP) ++ ((wB k arB fiB faB) ++ (wO k arO fiO faO flO)))) (fun (r0 : Int32) (u : Int) => r0 = Int32.ofInt (u) ∧ (inR u) ∧ (u = 1)) (fun (u : Int) => ((wT k arT (tpT) (paT) (arP 99) (pdT) (arB 99) (pkT) (psT) fiT faT) ++ ((wP k arP fiP faP) ++ ((wB k arB fiB faB) ++ (wO k arO fiO faO flO))))) := by
  refine va_MetW (cc := cL_bucket) (maxL := 5) (ret := (some .int)) (by decide) rfl ?_
  intro p e s m args below meth c s₁ B hml hv
  obtain ⟨⟨rfl, hsz, hP, hX, hD0, hZ0⟩, hT9⟩ := hv
  have hlocks := B.notSynchronized
  have hx := B.exec
  have hb := B.bytes
  have hr := B.returns
  have hts := atoms_spec (ws := wzL_bucket) B.pre
  have hown : s.vm.findClass RL = some m.cls := findClass_of_methodNamed B.named
  subst hsz
  have hD := hD0.self (sz := s.heap.size)
  have hZ := hZ0
  generalize hAe : va_A ((wT k arT (tpT) (paT) (arP 99) (pdT) (arB 99) (pkT) (psT) fiT faT) ++ ((wP k arP fiP faP) ++ ((wB k arB fiB faB) ++ (wO k arO fiO faO flO)))) s.heap.size = A at hD hZ ⊢
  have hA : ∀ q : Nat, s.heap.size ≤ q → A q := fun q h => by rw [← hAe]; exact Or.inr h
  have hS : va_S A s.heap s.heap [] := va_S.rf
  have hl := lv_entry ([.ref (arT 99), .int (Int32.ofInt (b0)), .int (Int32.ofInt (w0)), .ref (arO 0)]) (n := 5) (Nat.le_of_ble_eq_true rfl)
  rw [lg_entry_eq]
  generalize (lg_sl ([.ref (arT 99), .int (Int32.ofInt (b0)), .int (Int32.ofInt (w0)), .ref (arO 0)]) ++ List.replicate (5 - (lg_sl ([.ref (arT 99), .int (Int32.ofInt (b0)), .int (Int32.ofInt (w0)), .ref (arO 0)])).length) Slot.unset).toArray = ls at hl ⊢
  have hl : lv_has ls 5 [(0, .ref (arT 99)), (1, .int (Int32.ofInt (b0))), (2, .int (Int32.ofInt (w0))), (3, .ref (arO 0))] := hl
  obtain ⟨H, eH⟩ : ∃ H, H = s.heap := ⟨_, rfl⟩
  rw [← eH] at hP
  have hS : va_S A s.heap H [] := by rw [eH]; exact hS
  have gW : s.heap = H := eH.symm
  refine iv_heap gW ?_
  have h0w := hts (.classLink RL 18 "java/util/NoSuchElementException") (wz_at 22 5 rfl)
  refine lv_aload_n hx hb dL_bucket_0 rfl (lv_at hl 3 rfl) ?_
  refine lv_iconst (v := Int32.ofInt 0) hx hb dL_bucket_1 (by decide +kernel) ?_
  refine lv_aload_n hx hb dL_bucket_2 rfl (lv_at hl 0 rfl) ?_
  refine lv_iload_n hx hb dL_bucket_3 rfl (lv_at hl 1 rfl) ?_
  refine lv_iload_n hx hb dL_bucket_4 rfl (lv_at hl 2 rfl) ?_
  refine ct_xi (wr := (wO k arO fiO faO flO)) (vx_runV (As := [.int (Int32.ofInt (b0)), .int (Int32.ofInt (w0))]) (rest := [.int (Int32.ofInt (0)), .ref (arO 0)]) ⟨hx, hb, hml, hown, hts⟩ (xX9_bucket_x l htr G k arT tpT paT pdT pkT psT fiT faT arP fiP faP arB fiB faB b0 w0 H.size hRT hRaT hRP hRaP hB8P hB20P hB21P hRB hRaB (by omega) (by omega) (show 0 ≤ (fiP 0) ∧ (fiP 0) ≤ 11 from by omega) (show b0 < 0 ∨ 1 < b0 ∨ w0 < 0 ∨ 4 < w0 from by omega)) (cwV 2 hts (gz [.methodLink RL 24 yX9_bucket, .instanceMethod yX9_bucket, .selects RX9 yX9_bucket yX9_bucket, .initialized RX9] (.code yX9_bucket cX9_bucket 4 (some .int)) [(24, 22), (24, 23), (25, 0), (0, 2), (25, 1)] rfl) rfl rfl rfl (by decide +kernel) ⟨Nat.le_of_ble_eq_true rfl, Nat.le_of_ble_eq_true rfl⟩) (ct_preVT hT9 hZ hS hX hP hD hA [0, 1, 2, 3, 4, 5, 6, 7, 8, 9, 10, 11, 12, 13, 14, 15, 16, 17, 18, 19] rfl rfl (ci := 6) (q0 := 0) rfl rfl) rfl rfl hl.1 rfl (lv_room (Nat.le_of_ble_eq_true rfl)) dL_bucket_5 ⟨Nat.le_of_ble_eq_true rfl, Nat.le_of_ble_eq_true rfl⟩) hP hD hS hA [0, 1, 2, 3, 4, 5, 6, 7, 8, 9, 10, 11, 12, 13, 14, 15, 16, 17, 18, 19] [20] rfl rfl (by decide) (by decide) (fun ce q9 H locs hce hcv hcl hP hD hS => ?_)
  obtain ⟨hP, hD⟩ : va_P G vwCl ((wO k arO fiO faO flO) ++ ((wT k arT (tpT) (paT) (arP 99) (pdT) (arB 99) (pkT) (psT) fiT faT) ++ ((wP k arP fiP faP) ++ (wB k arB fiB faB)))) H ∧ va_D A ((wO k arO fiO faO flO) ++ ((wT k arT (tpT) (paT) (arP 99) (pdT) (arB 99) (pkT) (psT) fiT faT) ++ ((wP k arP fiP faP) ++ (wB k arB fiB faB)))) := ⟨hP, hD⟩
  obtain ⟨hP, hD⟩ : va_P G vwCl ((wT k arT (tpT) (paT) (arP 99) (pdT) (arB 99) (pkT) (psT) fiT faT) ++ ((wP k arP fiP faP) ++ ((wB k arB fiB faB) ++ (wO k arO fiO faO flO)))) H ∧ va_D A ((wT k arT (tpT) (paT) (arP 99) (pdT) (arB 99) (pkT) (psT) fiT faT) ++ ((wP k arP fiP faP) ++ ((wB k arB fiB faB) ++ (wO k arO fiO faO flO)))) := re_ord hP hD [1, 2, 3, 4, 5, 6, 7, 8, 9, 10, 11, 12, 13, 14, 15, 16, 17, 18, 19, 20, 0] (by decide) rfl
  refine cz_catch (name := "java/util/NoSuchElementException") hown ⟨0, 10, 13, 18⟩ (vx_table (x := yL_bucket) B (hts _ List.mem_cons_self)) (by decide +kernel) (by decide) h0w (va_Nw.use rfl (hT9.2 _ List.mem_cons_self)) hce hcv hcl ?_
  refine W.widen (k := 1) (n := 6) (Nat.le_of_ble_eq_true rfl) (Nat.le_of_ble_eq_true rfl) ?_
  refine lv_astore (lv' := [(4, .ref (q9)), (0, .ref (arT 99)), (1, .int (Int32.ofInt (b0))), (2, .int (Int32.ofInt (w0))), (3, .ref (arO 0))]) hx hb dL_bucket_13 hl (by decide) rfl (fun ls hl => ?_)
  refine lv_iconst (v := Int32.ofInt 1) hx hb dL_bucket_15 (by decide +kernel) ?_
  exact W.iret (v := Int32.ofInt (1)) hx hb hr (fun t ht hW => ⟨⟨Int32.ofInt (1), (1), rfl, ⟨rfl, (show (inR 1) ∧ (1 = 1) from ⟨(by omega), (by omega)⟩)⟩, by rw [ht]; exact hP, hD⟩, hS.F ht⟩) hS.2.2 dL_bucket_16

set_option maxHeartbeats 4000000 in
set_option maxRecDepth 100000 in
theorem hL_moved_k (l : Launch) (htr : l.stackTraces = false) (G : va_G) (k : Nat → ClassId) (arT : Nat → Nat) (tpT : Nat) (paT : Nat) (ppT : Nat) (pdT : Nat) (pkT : Nat) (psT : Nat) (fiT : Nat → Int) (faT : Nat → Int → Int) (arB : Nat → Nat) (fiB : Nat → Int) (faB : Nat → Int → Int) (arO : Nat → Nat) (fiO : Nat → Int) (faO : Nat → Int → Int) (flO : Nat → Int64) (i0 : Int) (w0 : Int) (sz : Nat) (hRT : ∀ j, inR (fiT j)) (hRaT : ∀ j t, inR (faT j t)) (hRB : ∀ j, inR (fiB j)) (hRaB : ∀ j t, inR (faB j t)) (hRO : ∀ j, inR (fiO j)) (hRaO : ∀ j t, inR (faO j t)) (hr_i0 : inR i0) (hr_w0 : inR w0) (hbi : 0 ≤ fiB 1 ∧ fiB 1 ≤ 60 ∧ 0 ≤ fiB 4 ∧ fiB 4 ≤ 6) (ht : 0 ≤ i0 ∧ i0 < fiB 1 ∧ 0 ≤ w0 ∧ w0 ≤ 2) : CHi l G k yL_moved wzL_moved ({ frames := 1, cells := 0, slots := 0, locals := 22 }) [.ref (arT 99), .int (Int32.ofInt (i0)), .int (Int32.ofInt (w0)), .ref (arO 0)] sz ((wT k arT (tpT) (paT) (ppT) (pdT) (arB 99) (pkT) (psT) fiT faT) ++ ((wB k arB fiB faB) ++ (wO k arO fiO faO flO))) (fun (r0 : Int32) (u : Int × (Nat → Int64)) => r0 = Int32.ofInt (u.1) ∧ (inR u.1) ∧ (u.1 = 0 ∧ ∃ q, u.2 0 = (Int32.ofInt q).toInt64 ∧ q = if w0 = 0 then faB 5 i0 else if w0 = 1 then faB 6 i0 else faB 7 i0)) (fun (u : Int × (Nat → Int64)) => ((wT k arT (tpT) (paT) (ppT) (pdT) (arB 99) (pkT) (psT) fiT faT) ++ ((wB k arB fiB faB) ++ (wO k arO fiO faO u.2)))) := by
  refine va_MetW (cc := cL_moved) (maxL := 5) (ret := (some .int)) (by decide) rfl ?_
  intro p e s m args below meth c s₁ B hml hv
  obtain ⟨⟨rfl, hsz, hP, hX, hD0, hZ0⟩, hT9⟩ := hv
  have hlocks := B.notSynchronized
  have hx := B.exec
  have hb := B.bytes
  have hr := B.returns
  have hts := atoms_spec (ws := wzL_moved) B.pre
  have hown : s.vm.findClass RL = some m.cls := findClass_of_methodNamed B.named
  subst hsz
  have hD := hD0.self (sz := s.heap.size)
  have hZ := hZ0
  generalize hAe : va_A ((wT k arT (tpT) (paT) (ppT) (pdT) (arB 99) (pkT) (psT) fiT faT) ++ ((wB k arB fiB faB) ++ (wO k arO fiO faO flO))) s.heap.size = A at hD hZ ⊢
  have hA : ∀ q : Nat, s.heap.size ≤ q → A q := fun q h => by rw [← hAe]; exact Or.inr h
  have hS : va_S A s.heap s.heap [] := va_S.rf
  have hl := lv_entry ([.ref (arT 99), .int (Int32.ofInt (i0)), .int (Int32.ofInt (w0)), .ref (arO 0)]) (n := 5) (Nat.le_of_ble_eq_true rfl)
  rw [lg_entry_eq]
  generalize (lg_sl ([.ref (arT 99), .int (Int32.ofInt (i0)), .int (Int32.ofInt (w0)), .ref (arO 0)]) ++ List.replicate (5 - (lg_sl ([.ref (arT 99), .int (Int32.ofInt (i0)), .int (Int32.ofInt (w0)), .ref (arO 0)])).length) Slot.unset).toArray = ls at hl ⊢
  have hl : lv_has ls 5 [(0, .ref (arT 99)), (1, .int (Int32.ofInt (i0))), (2, .int (Int32.ofInt (w0))), (3, .ref (arO 0))] := hl
  obtain ⟨H, eH⟩ : ∃ H, H = s.heap := ⟨_, rfl⟩
  rw [← eH] at hP
  have hS : va_S A s.heap H [] := by rw [eH]; exact hS
  have gW : s.heap = H := eH.symm
  refine iv_heap gW ?_
  refine lv_aload_n hx hb dL_moved_0 rfl (lv_at hl 3 rfl) ?_
  refine lv_iconst (v := Int32.ofInt 0) hx hb dL_moved_1 (by decide +kernel) ?_
  refine lv_aload_n hx hb dL_moved_2 rfl (lv_at hl 0 rfl) ?_
  refine lv_iload_n hx hb dL_moved_3 rfl (lv_at hl 1 rfl) ?_
  refine lv_iload_n hx hb dL_moved_4 rfl (lv_at hl 2 rfl) ?_
  refine cz_i (wr := (wO k arO fiO faO flO)) (va_runV (As := [.int (Int32.ofInt (i0)), .int (Int32.ofInt (w0))]) (rest := [.int (Int32.ofInt (0)), .ref (arO 0)]) ⟨hx, hb, hml, hown, hts⟩ (mX9_moved l G k arT tpT paT ppT pdT pkT psT fiT faT arB fiB faB i0 w0 H.size hRT hRaT hRB hRaB (by omega) (by omega) (show 0 ≤ (fiB 1) ∧ (fiB 1) ≤ 60 ∧ 0 ≤ (fiB 4) ∧ (fiB 4) ≤ 6 from by omega) (show 0 ≤ i0 ∧ i0 < (fiB 1) ∧ 0 ≤ w0 ∧ w0 ≤ 2 from by omega)) (cwV 2 hts (gz [.methodLink RL 27 yX9_moved, .instanceMethod yX9_moved, .selects RX9 yX9_moved yX9_moved, .initialized RX9] (.code yX9_moved cX9_moved 3 (some .int)) [(32, 16), (32, 17), (32, 18), (0, 2), (32, 19)] rfl) rfl rfl rfl (by decide +kernel) ⟨Nat.le_of_ble_eq_true rfl, Nat.le_of_ble_eq_true rfl⟩) (cy_preV (EZ_ok k) hZ hS hX hP hD hA [0, 1, 2, 3, 4, 5, 6, 7, 8, 9] rfl rfl (ci := 6) (q0 := 0) rfl rfl) rfl rfl hl.1 rfl (lv_room (Nat.le_of_ble_eq_true rfl)) dL_moved_5 ⟨Nat.le_of_ble_eq_true rfl, Nat.le_of_ble_eq_true rfl⟩) hP hD hS hA [0, 1, 2, 3, 4, 5, 6, 7, 8, 9] [10] rfl rfl (by decide) (by decide) (fun r u H locs hp hP hD hS => ?_)
  obtain ⟨c1, rfl⟩ : ∃ z, z = u := ⟨_, rfl⟩
  obtain ⟨hP, hD⟩ : va_P G vwCl ((wO k arO fiO faO flO) ++ ((wT k arT (tpT) (paT) (ppT) (pdT) (arB 99) (pkT) (psT) fiT faT) ++ (wB k arB fiB faB))) H ∧ va_D A ((wO k arO fiO faO flO) ++ ((wT k arT (tpT) (paT) (ppT) (pdT) (arB 99) (pkT) (psT) fiT faT) ++ (wB k arB fiB faB))) := ⟨hP, hD⟩
  obtain ⟨hP, hD⟩ : va_P G vwCl ((wT k arT (tpT) (paT) (ppT) (pdT) (arB 99) (pkT) (psT) fiT faT) ++ ((wB k arB fiB faB) ++ (wO k arO fiO faO flO))) H ∧ va_D A ((wT k arT (tpT) (paT) (ppT) (pdT) (arB 99) (pkT) (psT) fiT faT) ++ ((wB k arB fiB faB) ++ (wO k arO fiO faO flO))) := re_ord hP hD [1, 2, 3, 4, 5, 6, 7, 8, 9, 10, 0] (by decide) rfl
  obtain ⟨h9, rc1, hp1⟩ : r = Int32.ofInt c1 ∧ (inR c1) ∧ (c1 = if w0 = 0 then (faB 5) i0 else if w0 = 1 then (faB 6) i0 else (faB 7) i0) := hp
  subst h9
  have hMvc := hp1
  refine iv_i2l hx hb dL_moved_8 ?_
  refine lv_topl (fun z2 ez2 => ?_)
  have hL8 := ez2
  refine iv_last hx hb hX.1 hP hD hS 10 2 rfl rfl (fun g' => show _ = ((wT k arT (tpT) (paT) (ppT) (pdT) (arB 99) (pkT) (psT) fiT faT) ++ ((wB k arB fiB faB) ++ (wO k arO fiO faO g'))) from rfl) (by omega) (by omega) (by decide) dL_moved_9 (fun H locs hP hD hS => ?_)
  obtain ⟨g3, eg3⟩ : ∃ z, z = vp_updL (flO) (0 : Int).toNat (z2) := ⟨_, rfl⟩
  rw [← eg3] at hP hD
  have hG := up_eq eg3 hL8
  refine lv_goto (tgt := 17) hx hb dL_moved_10 (by decide) ?_
  refine lv_iconst (v := Int32.ofInt 0) hx hb dL_moved_17 (by decide +kernel) ?_
  exact W.iret (v := Int32.ofInt (0)) hx hb hr (fun t ht hW => ⟨⟨Int32.ofInt (0), (0, g3), rfl, ⟨rfl, (show (inR 0) ∧ (0 = 0 ∧ ∃ q, g3 0 = (Int32.ofInt q).toInt64 ∧ q = if w0 = 0 then faB 5 i0 else if w0 = 1 then faB 6 i0 else faB 7 i0) from ⟨(by omega), (by exact ⟨rfl, ⟨_, hG, hMvc⟩⟩)⟩)⟩, by rw [ht]; exact hP, hD⟩, hS.F ht⟩) hS.2.2 dL_moved_18

set_option maxHeartbeats 4000000 in
set_option maxRecDepth 100000 in
theorem hL_moved_x (l : Launch) (htr : l.stackTraces = false) (G : va_G) (k : Nat → ClassId) (arT : Nat → Nat) (tpT : Nat) (paT : Nat) (ppT : Nat) (pdT : Nat) (pkT : Nat) (psT : Nat) (fiT : Nat → Int) (faT : Nat → Int → Int) (arB : Nat → Nat) (fiB : Nat → Int) (faB : Nat → Int → Int) (arO : Nat → Nat) (fiO : Nat → Int) (faO : Nat → Int → Int) (flO : Nat → Int64) (i0 : Int) (w0 : Int) (sz : Nat) (hRT : ∀ j, inR (fiT j)) (hRaT : ∀ j t, inR (faT j t)) (hRB : ∀ j, inR (fiB j)) (hRaB : ∀ j t, inR (faB j t)) (hRO : ∀ j, inR (fiO j)) (hRaO : ∀ j t, inR (faO j t)) (hr_i0 : inR i0) (hr_w0 : inR w0) (hx0 : i0 < 0 ∨ fiB 1 ≤ i0 ∨ w0 < 0 ∨ 2 < w0) : CHi l G k yL_moved wzL_moved ({ frames := 7, cells := 1, slots := 6, locals := 122 }) [.ref (arT 99), .int (Int32.ofInt (i0)), .int (Int32.ofInt (w0)), .ref (arO 0)] sz ((wT k arT (tpT) (paT) (ppT) (pdT) (arB 99) (pkT) (psT) fiT faT) ++ ((wB k arB fiB faB) ++ (wO k arO fiO faO flO))) (fun (r0 : Int32) (u : Int) => r0 = Int32.ofInt (u) ∧ (inR u) ∧ (u = 1)) (fun (u : Int) => ((wT k arT (tpT) (paT) (ppT) (pdT) (arB 99) (pkT) (psT) fiT faT) ++ ((wB k arB fiB faB) ++ (wO k arO fiO faO flO)))) := by
  refine va_MetW (cc := cL_moved) (maxL := 5) (ret := (some .int)) (by decide) rfl ?_
  intro p e s m args below meth c s₁ B hml hv
  obtain ⟨⟨rfl, hsz, hP, hX, hD0, hZ0⟩, hT9⟩ := hv
  have hlocks := B.notSynchronized
  have hx := B.exec
  have hb := B.bytes
  have hr := B.returns
  have hts := atoms_spec (ws := wzL_moved) B.pre
  have hown : s.vm.findClass RL = some m.cls := findClass_of_methodNamed B.named
  subst hsz
  have hD := hD0.self (sz := s.heap.size)
  have hZ := hZ0
  generalize hAe : va_A ((wT k arT (tpT) (paT) (ppT) (pdT) (arB 99) (pkT) (psT) fiT faT) ++ ((wB k arB fiB faB) ++ (wO k arO fiO faO flO))) s.heap.size = A at hD hZ ⊢
  have hA : ∀ q : Nat, s.heap.size ≤ q → A q := fun q h => by rw [← hAe]; exact Or.inr h
  have hS : va_S A s.heap s.heap [] := va_S.rf
  have hl := lv_entry ([.ref (arT 99), .int (Int32.ofInt (i0)), .int (Int32.ofInt (w0)), .ref (arO 0)]) (n := 5) (Nat.le_of_ble_eq_true rfl)
  rw [lg_entry_eq]
  generalize (lg_sl ([.ref (arT 99), .int (Int32.ofInt (i0)), .int (Int32.ofInt (w0)), .ref (arO 0)]) ++ List.replicate (5 - (lg_sl ([.ref (arT 99), .int (Int32.ofInt (i0)), .int (Int32.ofInt (w0)), .ref (arO 0)])).length) Slot.unset).toArray = ls at hl ⊢
  have hl : lv_has ls 5 [(0, .ref (arT 99)), (1, .int (Int32.ofInt (i0))), (2, .int (Int32.ofInt (w0))), (3, .ref (arO 0))] := hl
  obtain ⟨H, eH⟩ : ∃ H, H = s.heap := ⟨_, rfl⟩
  rw [← eH] at hP
  have hS : va_S A s.heap H [] := by rw [eH]; exact hS
  have gW : s.heap = H := eH.symm
  refine iv_heap gW ?_
  have h0w := hts (.classLink RL 18 "java/util/NoSuchElementException") (wz_at 22 5 rfl)
  refine lv_aload_n hx hb dL_moved_0 rfl (lv_at hl 3 rfl) ?_
  refine lv_iconst (v := Int32.ofInt 0) hx hb dL_moved_1 (by decide +kernel) ?_
  refine lv_aload_n hx hb dL_moved_2 rfl (lv_at hl 0 rfl) ?_
  refine lv_iload_n hx hb dL_moved_3 rfl (lv_at hl 1 rfl) ?_
  refine lv_iload_n hx hb dL_moved_4 rfl (lv_at hl 2 rfl) ?_
  refine ct_xi (wr := (wO k arO fiO faO flO)) (vx_runV (As := [.int (Int32.ofInt (i0)), .int (Int32.ofInt (w0))]) (rest := [.int (Int32.ofInt (0)), .ref (arO 0)]) ⟨hx, hb, hml, hown, hts⟩ (xX9_moved_x l htr G k arT tpT paT ppT pdT pkT psT fiT faT arB fiB faB i0 w0 H.size hRT hRaT hRB hRaB (by omega) (by omega) (show i0 < 0 ∨ (fiB 1) ≤ i0 ∨ w0 < 0 ∨ 2 < w0 from by omega)) (cwV 2 hts (gz [.methodLink RL 27 yX9_moved, .instanceMethod yX9_moved, .selects RX9 yX9_moved yX9_moved, .initialized RX9] (.code yX9_moved cX9_moved 3 (some .int)) [(32, 16), (32, 17), (32, 18), (0, 2), (32, 19)] rfl) rfl rfl rfl (by decide +kernel) ⟨Nat.le_of_ble_eq_true rfl, Nat.le_of_ble_eq_true rfl⟩) (ct_preVT hT9 hZ hS hX hP hD hA [0, 1, 2, 3, 4, 5, 6, 7, 8, 9] rfl rfl (ci := 6) (q0 := 0) rfl rfl) rfl rfl hl.1 rfl (lv_room (Nat.le_of_ble_eq_true rfl)) dL_moved_5 ⟨Nat.le_of_ble_eq_true rfl, Nat.le_of_ble_eq_true rfl⟩) hP hD hS hA [0, 1, 2, 3, 4, 5, 6, 7, 8, 9] [10] rfl rfl (by decide) (by decide) (fun ce q9 H locs hce hcv hcl hP hD hS => ?_)
  obtain ⟨hP, hD⟩ : va_P G vwCl ((wO k arO fiO faO flO) ++ ((wT k arT (tpT) (paT) (ppT) (pdT) (arB 99) (pkT) (psT) fiT faT) ++ (wB k arB fiB faB))) H ∧ va_D A ((wO k arO fiO faO flO) ++ ((wT k arT (tpT) (paT) (ppT) (pdT) (arB 99) (pkT) (psT) fiT faT) ++ (wB k arB fiB faB))) := ⟨hP, hD⟩
  obtain ⟨hP, hD⟩ : va_P G vwCl ((wT k arT (tpT) (paT) (ppT) (pdT) (arB 99) (pkT) (psT) fiT faT) ++ ((wB k arB fiB faB) ++ (wO k arO fiO faO flO))) H ∧ va_D A ((wT k arT (tpT) (paT) (ppT) (pdT) (arB 99) (pkT) (psT) fiT faT) ++ ((wB k arB fiB faB) ++ (wO k arO fiO faO flO))) := re_ord hP hD [1, 2, 3, 4, 5, 6, 7, 8, 9, 10, 0] (by decide) rfl
  refine cz_catch (name := "java/util/NoSuchElementException") hown ⟨0, 10, 13, 18⟩ (vx_table (x := yL_moved) B (hts _ List.mem_cons_self)) (by decide +kernel) (by decide) h0w (va_Nw.use rfl (hT9.2 _ List.mem_cons_self)) hce hcv hcl ?_
  refine W.widen (k := 1) (n := 6) (Nat.le_of_ble_eq_true rfl) (Nat.le_of_ble_eq_true rfl) ?_
  refine lv_astore (lv' := [(4, .ref (q9)), (0, .ref (arT 99)), (1, .int (Int32.ofInt (i0))), (2, .int (Int32.ofInt (w0))), (3, .ref (arO 0))]) hx hb dL_moved_13 hl (by decide) rfl (fun ls hl => ?_)
  refine lv_iconst (v := Int32.ofInt 1) hx hb dL_moved_15 (by decide +kernel) ?_
  exact W.iret (v := Int32.ofInt (1)) hx hb hr (fun t ht hW => ⟨⟨Int32.ofInt (1), (1), rfl, ⟨rfl, (show (inR 1) ∧ (1 = 1) from ⟨(by omega), (by omega)⟩)⟩, by rw [ht]; exact hP, hD⟩, hS.F ht⟩) hS.2.2 dL_moved_16

set_option maxHeartbeats 4000000 in
set_option maxRecDepth 100000 in
theorem hL_fewest_k (l : Launch) (htr : l.stackTraces = false) (G : va_G) (k : Nat → ClassId) (arT : Nat → Nat) (tpT : Nat) (paT : Nat) (pdT : Nat) (pkT : Nat) (fiT : Nat → Int) (faT : Nat → Int → Int) (arP : Nat → Nat) (fiP : Nat → Int) (faP : Nat → Int → Int) (arB : Nat → Nat) (fiB : Nat → Int) (faB : Nat → Int → Int) (arS : Nat → Nat) (plS : Nat) (fiS : Nat → Int) (faS : Nat → Int → Int) (arO : Nat → Nat) (fiO : Nat → Int) (faO : Nat → Int → Int) (flO : Nat → Int64) (w0 : Int) (sz : Nat) (hRT : ∀ j, inR (fiT j)) (hRaT : ∀ j t, inR (faT j t)) (hRP : ∀ j, inR (fiP j)) (hRaP : ∀ j t, inR (faP j t)) (hB8P : bnd (faP 8) 7 0 4) (hB20P : bnd (faP 20) 600 (-1000) 10000) (hB21P : bnd (faP 21) 4 0 601) (hRB : ∀ j, inR (fiB j)) (hRaB : ∀ j t, inR (faB j t)) (hRS : ∀ j, inR (fiS j)) (hRaS : ∀ j t, inR (faS j t)) (hB5S : bnd (faS 5) 1500 (-1) 1500) (hB7S : bnd (faS 7) 1024 (-1) 1500) (hB8S : bnd (faS 8) 1500 (-1) 1500) (hB9S : bnd (faS 9) 1500 0 1500) (hB10S : bnd (faS 10) 1500 0 1500) (hRO : ∀ j, inR (fiO j)) (hRaO : ∀ j t, inR (faO j t)) (hr_w0 : inR w0) (hpi : 0 ≤ fiP 7 ∧ fiP 7 ≤ 7 ∧ 0 ≤ fiP 0 ∧ fiP 0 ≤ 11 ∧ 0 ≤ fiP 24 ∧ fiP 24 ≤ 4 ∧ 0 ≤ fiP 23 ∧ fiP 23 ≤ 600) (hRC : ∀ q9, 0 ≤ q9 → q9 < fiP 24 → RWf (dcf (faP 20)) (stq (faP 21) q9) (faP 21 q9)) (hsz : 0 ≤ fiS 6 ∧ fiS 6 ≤ 1500) (hpl : 0 < fiS 6 → plS = arP 99) (hw : w0 = 0 ∨ w0 = 1) : CHi l G k yL_fewest wzL_fewest ({ frames := 14, cells := 0, slots := 0, locals := 365 }) [.ref (arT 99), .int (Int32.ofInt (w0)), .ref (arO 0)] sz ((wT k arT (tpT) (paT) (arP 99) (pdT) (arB 99) (pkT) (arS 99) fiT faT) ++ ((wP k arP fiP faP) ++ ((wB k arB fiB faB) ++ ((wS k arS (plS) fiS faS) ++ (wO k arO fiO faO flO))))) (fun (r0 : Int32) (u : Int × (Int → Int) × (Int → Int) × (Int → Int) × (Int → Int) × (Int → Int) × (Int → Int) × (Int → Int) × (Int → Int) × (Int → Int) × (Int → Int) × (Int → Int) × Int × Int × Int × Int × Int × Nat × (Nat → Int64)) => r0 = Int32.ofInt (u.1) ∧ (inR u.1) ∧ (∀ t, inR (u.2.1 t)) ∧ (∀ t, inR (u.2.2.1 t)) ∧ (∀ t, inR (u.2.2.2.1 t)) ∧ (∀ t, inR (u.2.2.2.2.1 t)) ∧ (∀ t, inR (u.2.2.2.2.2.1 t)) ∧ (bnd u.2.2.2.2.2.1 1500 (-1) 1500) ∧ (∀ t, inR (u.2.2.2.2.2.2.1 t)) ∧ (bnd u.2.2.2.2.2.2.1 1024 (-1) 1500) ∧ (∀ t, inR (u.2.2.2.2.2.2.2.1 t)) ∧ (bnd u.2.2.2.2.2.2.2.1 1500 (-1) 1500) ∧ (∀ t, inR (u.2.2.2.2.2.2.2.2.1 t)) ∧ (bnd u.2.2.2.2.2.2.2.2.1 1500 0 1500) ∧ (∀ t, inR (u.2.2.2.2.2.2.2.2.2.1 t)) ∧ (bnd u.2.2.2.2.2.2.2.2.2.1 1500 0 1500) ∧ (∀ t, inR (u.2.2.2.2.2.2.2.2.2.2.1 t)) ∧ (∀ t, inR (u.2.2.2.2.2.2.2.2.2.2.2.1 t)) ∧ (inR u.2.2.2.2.2.2.2.2.2.2.2.2.1) ∧ (inR u.2.2.2.2.2.2.2.2.2.2.2.2.2.1) ∧ (inR u.2.2.2.2.2.2.2.2.2.2.2.2.2.2.1) ∧ (inR u.2.2.2.2.2.2.2.2.2.2.2.2.2.2.2.1) ∧ (inR u.2.2.2.2.2.2.2.2.2.2.2.2.2.2.2.2.1) ∧ (0 ≤ u.2.2.2.2.2.2.2.2.2.2.2.2.2.2.1 ∧ u.2.2.2.2.2.2.2.2.2.2.2.2.2.2.1 ≤ 1500 ∧ (0 < u.2.2.2.2.2.2.2.2.2.2.2.2.2.2.1 → u.2.2.2.2.2.2.2.2.2.2.2.2.2.2.2.2.2.1 = arP 99))) (fun (u : Int × (Int → Int) × (Int → Int) × (Int → Int) × (Int → Int) × (Int → Int) × (Int → Int) × (Int → Int) × (Int → Int) × (Int → Int) × (Int → Int) × (Int → Int) × Int × Int × Int × Int × Int × Nat × (Nat → Int64)) => ((wT k arT (tpT) (paT) (arP 99) (pdT) (arB 99) (pkT) (arS 99) fiT faT) ++ ((wP k arP fiP (uF (uF faP 13 (u.2.1)) 22 (u.2.2.1))) ++ ((wB k arB fiB faB) ++ ((wS k arS (u.2.2.2.2.2.2.2.2.2.2.2.2.2.2.2.2.2.1) (uF (uF (uF (uF (uF fiS 1 (u.2.2.2.2.2.2.2.2.2.2.2.2.1)) 2 (u.2.2.2.2.2.2.2.2.2.2.2.2.2.1)) 6 (u.2.2.2.2.2.2.2.2.2.2.2.2.2.2.1)) 11 (u.2.2.2.2.2.2.2.2.2.2.2.2.2.2.2.1)) 12 (u.2.2.2.2.2.2.2.2.2.2.2.2.2.2.2.2.1)) (uF (uF (uF (uF (uF (uF (uF (uF (uF faS 3 (u.2.2.2.1)) 4 (u.2.2.2.2.1)) 5 (u.2.2.2.2.2.1)) 7 (u.2.2.2.2.2.2.1)) 8 (u.2.2.2.2.2.2.2.1)) 9 (u.2.2.2.2.2.2.2.2.1)) 10 (u.2.2.2.2.2.2.2.2.2.1)) 13 (u.2.2.2.2.2.2.2.2.2.2.1)) 14 (u.2.2.2.2.2.2.2.2.2.2.2.1))) ++ (wO k arO fiO faO u.2.2.2.2.2.2.2.2.2.2.2.2.2.2.2.2.2.2)))))) := by
  refine va_MetW (cc := cL_fewest) (maxL := 4) (ret := (some .int)) (by decide) rfl ?_
  intro p e s m args below meth c s₁ B hml hv
  obtain ⟨⟨rfl, hsz, hP, hX, hD0, hZ0⟩, hT9⟩ := hv
  have hlocks := B.notSynchronized
  have hx := B.exec
  have hb := B.bytes
  have hr := B.returns
  have hts := atoms_spec (ws := wzL_fewest) B.pre
  have hown : s.vm.findClass RL = some m.cls := findClass_of_methodNamed B.named
  subst hsz
  have hD := hD0.self (sz := s.heap.size)
  have hZ := hZ0
  generalize hAe : va_A ((wT k arT (tpT) (paT) (arP 99) (pdT) (arB 99) (pkT) (arS 99) fiT faT) ++ ((wP k arP fiP faP) ++ ((wB k arB fiB faB) ++ ((wS k arS (plS) fiS faS) ++ (wO k arO fiO faO flO))))) s.heap.size = A at hD hZ ⊢
  have hA : ∀ q : Nat, s.heap.size ≤ q → A q := fun q h => by rw [← hAe]; exact Or.inr h
  have hS : va_S A s.heap s.heap [] := va_S.rf
  have hl := lv_entry ([.ref (arT 99), .int (Int32.ofInt (w0)), .ref (arO 0)]) (n := 4) (Nat.le_of_ble_eq_true rfl)
  rw [lg_entry_eq]
  generalize (lg_sl ([.ref (arT 99), .int (Int32.ofInt (w0)), .ref (arO 0)]) ++ List.replicate (4 - (lg_sl ([.ref (arT 99), .int (Int32.ofInt (w0)), .ref (arO 0)])).length) Slot.unset).toArray = ls at hl ⊢
  have hl : lv_has ls 4 [(0, .ref (arT 99)), (1, .int (Int32.ofInt (w0))), (2, .ref (arO 0))] := hl
  obtain ⟨H, eH⟩ : ∃ H, H = s.heap := ⟨_, rfl⟩
  rw [← eH] at hP
  have hS : va_S A s.heap H [] := by rw [eH]; exact hS
  have gW : s.heap = H := eH.symm
  refine iv_heap gW ?_
  refine lv_aload_n hx hb dL_fewest_0 rfl (lv_at hl 2 rfl) ?_
  refine lv_iconst (v := Int32.ofInt 0) hx hb dL_fewest_1 (by decide +kernel) ?_
  refine lv_aload_n hx hb dL_fewest_2 rfl (lv_at hl 0 rfl) ?_
  refine lv_iload_n hx hb dL_fewest_3 rfl (lv_at hl 1 rfl) ?_
  refine cz_i (wr := (wO k arO fiO faO flO)) (va_runV (As := [.int (Int32.ofInt (w0))]) (rest := [.int (Int32.ofInt (0)), .ref (arO 0)]) ⟨hx, hb, hml, hown, hts⟩ (mX9_fewest l G k arT tpT paT pdT pkT fiT faT arP fiP faP arB fiB faB arS plS fiS faS w0 H.size hRT hRaT hRP hRaP hB8P hB20P hB21P hRB hRaB hRS hRaS hB5S hB7S hB8S hB9S hB10S (by omega) (show 0 ≤ (fiP 7) ∧ (fiP 7) ≤ 7 ∧ 0 ≤ (fiP 0) ∧ (fiP 0) ≤ 11 ∧ 0 ≤ (fiP 24) ∧ (fiP 24) ≤ 4 ∧ 0 ≤ (fiP 23) ∧ (fiP 23) ≤ 600 from by omega) (show ∀ q9, 0 ≤ q9 → q9 < (fiP 24) → RWf (dcf ((faP 20))) (stq ((faP 21)) q9) ((faP 21) q9) from by first | exact hRC | omega) (show 0 ≤ (fiS 6) ∧ (fiS 6) ≤ 1500 from by omega) (show 0 < (fiS 6) → plS = arP 99 from by omega) (show w0 = 0 ∨ w0 = 1 from by omega)) (cwV 1 hts (gz [.methodLink RL 30 yX9_fewest, .instanceMethod yX9_fewest, .selects RX9 yX9_fewest yX9_fewest, .initialized RX9] (.code yX9_fewest cX9_fewest 3 (some .int)) [(33, 15), (33, 16), (33, 17), (0, 2), (33, 18)] rfl) rfl rfl rfl (by decide +kernel) ⟨Nat.le_of_ble_eq_true rfl, Nat.le_of_ble_eq_true rfl⟩) (cy_preV (EZ_ok k) hZ hS hX hP hD hA [0, 1, 2, 3, 4, 5, 6, 7, 8, 9, 10, 11, 12, 13, 14, 15, 16, 17, 18, 19, 20, 21, 22, 23, 24, 25, 26, 27, 28, 29] rfl rfl (ci := 6) (q0 := 0) rfl rfl) rfl rfl hl.1 rfl (lv_room (Nat.le_of_ble_eq_true rfl)) dL_fewest_4 ⟨Nat.le_of_ble_eq_true rfl, Nat.le_of_ble_eq_true rfl⟩) hP hD hS hA [0, 1, 2, 3, 4, 5, 6, 7, 8, 9, 10, 11, 12, 13, 14, 15, 16, 17, 18, 19, 20, 21, 22, 23, 24, 25, 26, 27, 28, 29] [30] rfl rfl (by decide) (by decide) (fun r u H locs hp hP hD hS => ?_)
  obtain ⟨c1, c2, c3, c4, c5, c6, c7, c8, c9, c10, c11, c12, c13, c14, c15, c16, c17, c18⟩ := u
  obtain ⟨hP, hD⟩ : va_P G vwCl ((wO k arO fiO faO flO) ++ ((wT k arT (tpT) (paT) (arP 99) (pdT) (arB 99) (pkT) (arS 99) fiT faT) ++ ((wP k arP fiP (uF (uF faP 13 (c2)) 22 (c3))) ++ ((wB k arB fiB faB) ++ (wS k arS (c18) (uF (uF (uF (uF (uF fiS 1 (c13)) 2 (c14)) 6 (c15)) 11 (c16)) 12 (c17)) (uF (uF (uF (uF (uF (uF (uF (uF (uF faS 3 (c4)) 4 (c5)) 5 (c6)) 7 (c7)) 8 (c8)) 9 (c9)) 10 (c10)) 13 (c11)) 14 (c12))))))) H ∧ va_D A ((wO k arO fiO faO flO) ++ ((wT k arT (tpT) (paT) (arP 99) (pdT) (arB 99) (pkT) (arS 99) fiT faT) ++ ((wP k arP fiP (uF (uF faP 13 (c2)) 22 (c3))) ++ ((wB k arB fiB faB) ++ (wS k arS (c18) (uF (uF (uF (uF (uF fiS 1 (c13)) 2 (c14)) 6 (c15)) 11 (c16)) 12 (c17)) (uF (uF (uF (uF (uF (uF (uF (uF (uF faS 3 (c4)) 4 (c5)) 5 (c6)) 7 (c7)) 8 (c8)) 9 (c9)) 10 (c10)) 13 (c11)) 14 (c12))))))) := ⟨hP, hD⟩
  obtain ⟨hP, hD⟩ : va_P G vwCl ((wT k arT (tpT) (paT) (arP 99) (pdT) (arB 99) (pkT) (arS 99) fiT faT) ++ ((wP k arP fiP (uF (uF faP 13 (c2)) 22 (c3))) ++ ((wB k arB fiB faB) ++ ((wS k arS (c18) (uF (uF (uF (uF (uF fiS 1 (c13)) 2 (c14)) 6 (c15)) 11 (c16)) 12 (c17)) (uF (uF (uF (uF (uF (uF (uF (uF (uF faS 3 (c4)) 4 (c5)) 5 (c6)) 7 (c7)) 8 (c8)) 9 (c9)) 10 (c10)) 13 (c11)) 14 (c12))) ++ (wO k arO fiO faO flO))))) H ∧ va_D A ((wT k arT (tpT) (paT) (arP 99) (pdT) (arB 99) (pkT) (arS 99) fiT faT) ++ ((wP k arP fiP (uF (uF faP 13 (c2)) 22 (c3))) ++ ((wB k arB fiB faB) ++ ((wS k arS (c18) (uF (uF (uF (uF (uF fiS 1 (c13)) 2 (c14)) 6 (c15)) 11 (c16)) 12 (c17)) (uF (uF (uF (uF (uF (uF (uF (uF (uF faS 3 (c4)) 4 (c5)) 5 (c6)) 7 (c7)) 8 (c8)) 9 (c9)) 10 (c10)) 13 (c11)) 14 (c12))) ++ (wO k arO fiO faO flO))))) := re_ord hP hD [1, 2, 3, 4, 5, 6, 7, 8, 9, 10, 11, 12, 13, 14, 15, 16, 17, 18, 19, 20, 21, 22, 23, 24, 25, 26, 27, 28, 29, 30, 0] (by decide) rfl
  obtain ⟨h9, rc1, rc2, rc3, rc4, rc5, rc6, bc6, rc7, bc7, rc8, bc8, rc9, bc9, rc10, bc10, rc11, rc12, rc13, rc14, rc15, rc16, rc17, hp18⟩ : r = Int32.ofInt c1 ∧ (inR c1) ∧ (∀ t, inR (c2 t)) ∧ (∀ t, inR (c3 t)) ∧ (∀ t, inR (c4 t)) ∧ (∀ t, inR (c5 t)) ∧ (∀ t, inR (c6 t)) ∧ (bnd c6 1500 (-1) 1500) ∧ (∀ t, inR (c7 t)) ∧ (bnd c7 1024 (-1) 1500) ∧ (∀ t, inR (c8 t)) ∧ (bnd c8 1500 (-1) 1500) ∧ (∀ t, inR (c9 t)) ∧ (bnd c9 1500 0 1500) ∧ (∀ t, inR (c10 t)) ∧ (bnd c10 1500 0 1500) ∧ (∀ t, inR (c11 t)) ∧ (∀ t, inR (c12 t)) ∧ (inR c13) ∧ (inR c14) ∧ (inR c15) ∧ (inR c16) ∧ (inR c17) ∧ (0 ≤ c15 ∧ c15 ≤ 1500 ∧ (0 < c15 → c18 = arP 99)) := hp
  subst h9
  refine iv_i2l hx hb dL_fewest_7 ?_
  refine lv_topl (fun z19 ez19 => ?_)
  refine iv_last hx hb hX.1 hP hD hS 30 2 rfl rfl (fun g' => show _ = ((wT k arT (tpT) (paT) (arP 99) (pdT) (arB 99) (pkT) (arS 99) fiT faT) ++ ((wP k arP fiP (uF (uF faP 13 (c2)) 22 (c3))) ++ ((wB k arB fiB faB) ++ ((wS k arS (c18) (uF (uF (uF (uF (uF fiS 1 (c13)) 2 (c14)) 6 (c15)) 11 (c16)) 12 (c17)) (uF (uF (uF (uF (uF (uF (uF (uF (uF faS 3 (c4)) 4 (c5)) 5 (c6)) 7 (c7)) 8 (c8)) 9 (c9)) 10 (c10)) 13 (c11)) 14 (c12))) ++ (wO k arO fiO faO g'))))) from rfl) (by omega) (by omega) (by decide) dL_fewest_8 (fun H locs hP hD hS => ?_)
  obtain ⟨g20, eg20⟩ : ∃ z, z = vp_updL (flO) (0 : Int).toNat (z19) := ⟨_, rfl⟩
  rw [← eg20] at hP hD
  refine lv_goto (tgt := 15) hx hb dL_fewest_9 (by decide) ?_
  refine lv_iconst (v := Int32.ofInt 0) hx hb dL_fewest_15 (by decide +kernel) ?_
  exact W.iret (v := Int32.ofInt (0)) hx hb hr (fun t ht hW => ⟨⟨Int32.ofInt (0), (0, c2, c3, c4, c5, c6, c7, c8, c9, c10, c11, c12, c13, c14, c15, c16, c17, c18, g20), rfl, ⟨rfl, (show (inR 0) ∧ (∀ t, inR (c2 t)) ∧ (∀ t, inR (c3 t)) ∧ (∀ t, inR (c4 t)) ∧ (∀ t, inR (c5 t)) ∧ (∀ t, inR (c6 t)) ∧ (bnd c6 1500 (-1) 1500) ∧ (∀ t, inR (c7 t)) ∧ (bnd c7 1024 (-1) 1500) ∧ (∀ t, inR (c8 t)) ∧ (bnd c8 1500 (-1) 1500) ∧ (∀ t, inR (c9 t)) ∧ (bnd c9 1500 0 1500) ∧ (∀ t, inR (c10 t)) ∧ (bnd c10 1500 0 1500) ∧ (∀ t, inR (c11 t)) ∧ (∀ t, inR (c12 t)) ∧ (inR c13) ∧ (inR c14) ∧ (inR c15) ∧ (inR c16) ∧ (inR c17) ∧ (0 ≤ c15 ∧ c15 ≤ 1500 ∧ (0 < c15 → c18 = arP 99)) from ⟨(by omega), rc2, rc3, rc4, rc5, rc6, bc6, rc7, bc7, rc8, bc8, rc9, bc9, rc10, bc10, rc11, rc12, (by omega), (by omega), (by omega), (by omega), (by omega), (by omega)⟩)⟩, by rw [ht]; exact hP, hD⟩, hS.F ht⟩) hS.2.2 dL_fewest_16

set_option maxHeartbeats 4000000 in
set_option maxRecDepth 100000 in
theorem hL_fewest_x (l : Launch) (htr : l.stackTraces = false) (G : va_G) (k : Nat → ClassId) (arT : Nat → Nat) (tpT : Nat) (paT : Nat) (ppT : Nat) (pdT : Nat) (pbT : Nat) (pkT : Nat) (psT : Nat) (fiT : Nat → Int) (faT : Nat → Int → Int) (arO : Nat → Nat) (fiO : Nat → Int) (faO : Nat → Int → Int) (flO : Nat → Int64) (w0 : Int) (sz : Nat) (hRT : ∀ j, inR (fiT j)) (hRaT : ∀ j t, inR (faT j t)) (hRO : ∀ j, inR (fiO j)) (hRaO : ∀ j t, inR (faO j t)) (hr_w0 : inR w0) (hx0 : ¬ w0 = 0 ∧ ¬ w0 = 1) : CHi l G k yL_fewest wzL_fewest ({ frames := 7, cells := 1, slots := 6, locals := 122 }) [.ref (arT 99), .int (Int32.ofInt (w0)), .ref (arO 0)] sz ((wT k arT (tpT) (paT) (ppT) (pdT) (pbT) (pkT) (psT) fiT faT) ++ (wO k arO fiO faO flO)) (fun (r0 : Int32) (u : Int) => r0 = Int32.ofInt (u) ∧ (inR u) ∧ (True)) (fun (u : Int) => ((wT k arT (tpT) (paT) (ppT) (pdT) (pbT) (pkT) (psT) fiT faT) ++ (wO k arO fiO faO flO))) := by
  refine va_MetW (cc := cL_fewest) (maxL := 4) (ret := (some .int)) (by decide) rfl ?_
  intro p e s m args below meth c s₁ B hml hv
  obtain ⟨⟨rfl, hsz, hP, hX, hD0, hZ0⟩, hT9⟩ := hv
  have hlocks := B.notSynchronized
  have hx := B.exec
  have hb := B.bytes
  have hr := B.returns
  have hts := atoms_spec (ws := wzL_fewest) B.pre
  have hown : s.vm.findClass RL = some m.cls := findClass_of_methodNamed B.named
  subst hsz
  have hD := hD0.self (sz := s.heap.size)
  have hZ := hZ0
  generalize hAe : va_A ((wT k arT (tpT) (paT) (ppT) (pdT) (pbT) (pkT) (psT) fiT faT) ++ (wO k arO fiO faO flO)) s.heap.size = A at hD hZ ⊢
  have hA : ∀ q : Nat, s.heap.size ≤ q → A q := fun q h => by rw [← hAe]; exact Or.inr h
  have hS : va_S A s.heap s.heap [] := va_S.rf
  have hl := lv_entry ([.ref (arT 99), .int (Int32.ofInt (w0)), .ref (arO 0)]) (n := 4) (Nat.le_of_ble_eq_true rfl)
  rw [lg_entry_eq]
  generalize (lg_sl ([.ref (arT 99), .int (Int32.ofInt (w0)), .ref (arO 0)]) ++ List.replicate (4 - (lg_sl ([.ref (arT 99), .int (Int32.ofInt (w0)), .ref (arO 0)])).length) Slot.unset).toArray = ls at hl ⊢
  have hl : lv_has ls 4 [(0, .ref (arT 99)), (1, .int (Int32.ofInt (w0))), (2, .ref (arO 0))] := hl
  obtain ⟨H, eH⟩ : ∃ H, H = s.heap := ⟨_, rfl⟩
  rw [← eH] at hP
  have hS : va_S A s.heap H [] := by rw [eH]; exact hS
  have gW : s.heap = H := eH.symm
  refine iv_heap gW ?_
  have h0w := hts (.classLink RL 18 "java/util/NoSuchElementException") (wz_at 22 5 rfl)
  refine lv_aload_n hx hb dL_fewest_0 rfl (lv_at hl 2 rfl) ?_
  refine lv_iconst (v := Int32.ofInt 0) hx hb dL_fewest_1 (by decide +kernel) ?_
  refine lv_aload_n hx hb dL_fewest_2 rfl (lv_at hl 0 rfl) ?_
  refine lv_iload_n hx hb dL_fewest_3 rfl (lv_at hl 1 rfl) ?_
  refine ct_xi (wr := (wO k arO fiO faO flO)) (vx_runV (As := [.int (Int32.ofInt (w0))]) (rest := [.int (Int32.ofInt (0)), .ref (arO 0)]) ⟨hx, hb, hml, hown, hts⟩ (xX9_fewest_x l htr G k arT tpT paT ppT pdT pbT pkT psT fiT faT w0 H.size hRT hRaT (by omega) (show ¬ w0 = 0 ∧ ¬ w0 = 1 from by omega)) (cwV 1 hts (gz [.methodLink RL 30 yX9_fewest, .instanceMethod yX9_fewest, .selects RX9 yX9_fewest yX9_fewest, .initialized RX9] (.code yX9_fewest cX9_fewest 3 (some .int)) [(33, 15), (33, 16), (33, 17), (0, 2), (33, 18)] rfl) rfl rfl rfl (by decide +kernel) ⟨Nat.le_of_ble_eq_true rfl, Nat.le_of_ble_eq_true rfl⟩) (ct_preVT hT9 hZ hS hX hP hD hA [0, 1] rfl rfl (ci := 6) (q0 := 0) rfl rfl) rfl rfl hl.1 rfl (lv_room (Nat.le_of_ble_eq_true rfl)) dL_fewest_4 ⟨Nat.le_of_ble_eq_true rfl, Nat.le_of_ble_eq_true rfl⟩) hP hD hS hA [0, 1] [2] rfl rfl (by decide) (by decide) (fun ce q9 H locs hce hcv hcl hP hD hS => ?_)
  obtain ⟨hP, hD⟩ : va_P G vwCl ((wO k arO fiO faO flO) ++ (wT k arT (tpT) (paT) (ppT) (pdT) (pbT) (pkT) (psT) fiT faT)) H ∧ va_D A ((wO k arO fiO faO flO) ++ (wT k arT (tpT) (paT) (ppT) (pdT) (pbT) (pkT) (psT) fiT faT)) := ⟨hP, hD⟩
  obtain ⟨hP, hD⟩ : va_P G vwCl ((wT k arT (tpT) (paT) (ppT) (pdT) (pbT) (pkT) (psT) fiT faT) ++ (wO k arO fiO faO flO)) H ∧ va_D A ((wT k arT (tpT) (paT) (ppT) (pdT) (pbT) (pkT) (psT) fiT faT) ++ (wO k arO fiO faO flO)) := re_ord hP hD [1, 2, 0] (by decide) rfl
  refine cz_catch (name := "java/util/NoSuchElementException") hown ⟨0, 9, 12, 18⟩ (vx_table (x := yL_fewest) B (hts _ List.mem_cons_self)) (by decide +kernel) (by decide) h0w (va_Nw.use rfl (hT9.2 _ List.mem_cons_self)) hce hcv hcl ?_
  refine W.widen (k := 1) (n := 6) (Nat.le_of_ble_eq_true rfl) (Nat.le_of_ble_eq_true rfl) ?_
  refine lv_astore_n (lv' := [(3, .ref (q9)), (0, .ref (arT 99)), (1, .int (Int32.ofInt (w0))), (2, .ref (arO 0))]) hx hb dL_fewest_12 rfl hl (by decide) rfl (fun ls hl => ?_)
  refine lv_iconst (v := Int32.ofInt 1) hx hb dL_fewest_13 (by decide +kernel) ?_
  exact W.iret (v := Int32.ofInt (1)) hx hb hr (fun t ht hW => ⟨⟨Int32.ofInt (1), (1), rfl, ⟨rfl, (show (inR 1) ∧ (True) from ⟨(by omega), trivial⟩)⟩, by rw [ht]; exact hP, hD⟩, hS.F ht⟩) hS.2.2 dL_fewest_14

set_option maxHeartbeats 4000000 in
set_option maxRecDepth 100000 in
theorem hL_reach_k (l : Launch) (htr : l.stackTraces = false) (G : va_G) (k : Nat → ClassId) (arT : Nat → Nat) (tpT : Nat) (paT : Nat) (pdT : Nat) (pkT : Nat) (fiT : Nat → Int) (faT : Nat → Int → Int) (arP : Nat → Nat) (fiP : Nat → Int) (faP : Nat → Int → Int) (arB : Nat → Nat) (fiB : Nat → Int) (faB : Nat → Int → Int) (arS : Nat → Nat) (plS : Nat) (fiS : Nat → Int) (faS : Nat → Int → Int) (arO : Nat → Nat) (fiO : Nat → Int) (faO : Nat → Int → Int) (flO : Nat → Int64) (t0 : Int) (sz : Nat) (hRT : ∀ j, inR (fiT j)) (hRaT : ∀ j t, inR (faT j t)) (hRP : ∀ j, inR (fiP j)) (hRaP : ∀ j t, inR (faP j t)) (hB8P : bnd (faP 8) 7 0 4) (hB20P : bnd (faP 20) 600 (-1000) 10000) (hB21P : bnd (faP 21) 4 0 601) (hRB : ∀ j, inR (fiB j)) (hRaB : ∀ j t, inR (faB j t)) (hRS : ∀ j, inR (fiS j)) (hRaS : ∀ j t, inR (faS j t)) (hB5S : bnd (faS 5) 1500 (-1) 1500) (hB7S : bnd (faS 7) 1024 (-1) 1500) (hB8S : bnd (faS 8) 1500 (-1) 1500) (hB9S : bnd (faS 9) 1500 0 1500) (hB10S : bnd (faS 10) 1500 0 1500) (hRO : ∀ j, inR (fiO j)) (hRaO : ∀ j t, inR (faO j t)) (hr_t0 : inR t0) (hpi : 0 ≤ fiP 7 ∧ fiP 7 ≤ 7 ∧ 0 ≤ fiP 0 ∧ fiP 0 ≤ 11 ∧ 0 ≤ fiP 24 ∧ fiP 24 ≤ 4 ∧ 0 ≤ fiP 23 ∧ fiP 23 ≤ 600) (hRC : ∀ q9, 0 ≤ q9 → q9 < fiP 24 → RWf (dcf (faP 20)) (stq (faP 21) q9) (faP 21 q9)) (hsz : 0 ≤ fiS 6 ∧ fiS 6 ≤ 1500) (hpl : 0 < fiS 6 → plS = arP 99) (ht : 0 ≤ t0 ∧ t0 < fiP 7) : CHi l G k yL_reach wzL_reach ({ frames := 14, cells := 0, slots := 0, locals := 365 }) [.ref (arT 99), .int (Int32.ofInt (t0)), .ref (arO 0)] sz ((wT k arT (tpT) (paT) (arP 99) (pdT) (arB 99) (pkT) (arS 99) fiT faT) ++ ((wP k arP fiP faP) ++ ((wB k arB fiB faB) ++ ((wS k arS (plS) fiS faS) ++ (wO k arO fiO faO flO))))) (fun (r0 : Int32) (u : Int × (Int → Int) × (Int → Int) × (Int → Int) × (Int → Int) × (Int → Int) × (Int → Int) × (Int → Int) × (Int → Int) × (Int → Int) × (Int → Int) × (Int → Int) × Int × Int × Int × Int × Int × Nat × (Nat → Int64)) => r0 = Int32.ofInt (u.1) ∧ (inR u.1) ∧ (∀ t, inR (u.2.1 t)) ∧ (∀ t, inR (u.2.2.1 t)) ∧ (∀ t, inR (u.2.2.2.1 t)) ∧ (∀ t, inR (u.2.2.2.2.1 t)) ∧ (∀ t, inR (u.2.2.2.2.2.1 t)) ∧ (bnd u.2.2.2.2.2.1 1500 (-1) 1500) ∧ (∀ t, inR (u.2.2.2.2.2.2.1 t)) ∧ (bnd u.2.2.2.2.2.2.1 1024 (-1) 1500) ∧ (∀ t, inR (u.2.2.2.2.2.2.2.1 t)) ∧ (bnd u.2.2.2.2.2.2.2.1 1500 (-1) 1500) ∧ (∀ t, inR (u.2.2.2.2.2.2.2.2.1 t)) ∧ (bnd u.2.2.2.2.2.2.2.2.1 1500 0 1500) ∧ (∀ t, inR (u.2.2.2.2.2.2.2.2.2.1 t)) ∧ (bnd u.2.2.2.2.2.2.2.2.2.1 1500 0 1500) ∧ (∀ t, inR (u.2.2.2.2.2.2.2.2.2.2.1 t)) ∧ (∀ t, inR (u.2.2.2.2.2.2.2.2.2.2.2.1 t)) ∧ (inR u.2.2.2.2.2.2.2.2.2.2.2.2.1) ∧ (inR u.2.2.2.2.2.2.2.2.2.2.2.2.2.1) ∧ (inR u.2.2.2.2.2.2.2.2.2.2.2.2.2.2.1) ∧ (inR u.2.2.2.2.2.2.2.2.2.2.2.2.2.2.2.1) ∧ (inR u.2.2.2.2.2.2.2.2.2.2.2.2.2.2.2.2.1) ∧ (0 ≤ u.2.2.2.2.2.2.2.2.2.2.2.2.2.2.1 ∧ u.2.2.2.2.2.2.2.2.2.2.2.2.2.2.1 ≤ 1500 ∧ (0 < u.2.2.2.2.2.2.2.2.2.2.2.2.2.2.1 → u.2.2.2.2.2.2.2.2.2.2.2.2.2.2.2.2.2.1 = arP 99))) (fun (u : Int × (Int → Int) × (Int → Int) × (Int → Int) × (Int → Int) × (Int → Int) × (Int → Int) × (Int → Int) × (Int → Int) × (Int → Int) × (Int → Int) × (Int → Int) × Int × Int × Int × Int × Int × Nat × (Nat → Int64)) => ((wT k arT (tpT) (paT) (arP 99) (pdT) (arB 99) (pkT) (arS 99) fiT faT) ++ ((wP k arP fiP (uF (uF faP 13 (u.2.1)) 22 (u.2.2.1))) ++ ((wB k arB fiB faB) ++ ((wS k arS (u.2.2.2.2.2.2.2.2.2.2.2.2.2.2.2.2.2.1) (uF (uF (uF (uF (uF fiS 1 (u.2.2.2.2.2.2.2.2.2.2.2.2.1)) 2 (u.2.2.2.2.2.2.2.2.2.2.2.2.2.1)) 6 (u.2.2.2.2.2.2.2.2.2.2.2.2.2.2.1)) 11 (u.2.2.2.2.2.2.2.2.2.2.2.2.2.2.2.1)) 12 (u.2.2.2.2.2.2.2.2.2.2.2.2.2.2.2.2.1)) (uF (uF (uF (uF (uF (uF (uF (uF (uF faS 3 (u.2.2.2.1)) 4 (u.2.2.2.2.1)) 5 (u.2.2.2.2.2.1)) 7 (u.2.2.2.2.2.2.1)) 8 (u.2.2.2.2.2.2.2.1)) 9 (u.2.2.2.2.2.2.2.2.1)) 10 (u.2.2.2.2.2.2.2.2.2.1)) 13 (u.2.2.2.2.2.2.2.2.2.2.1)) 14 (u.2.2.2.2.2.2.2.2.2.2.2.1))) ++ (wO k arO fiO faO u.2.2.2.2.2.2.2.2.2.2.2.2.2.2.2.2.2.2)))))) := by
  refine va_MetW (cc := cL_reach) (maxL := 4) (ret := (some .int)) (by decide) rfl ?_
  intro p e s m args below meth c s₁ B hml hv
  obtain ⟨⟨rfl, hsz, hP, hX, hD0, hZ0⟩, hT9⟩ := hv
  have hlocks := B.notSynchronized
  have hx := B.exec
  have hb := B.bytes
  have hr := B.returns
  have hts := atoms_spec (ws := wzL_reach) B.pre
  have hown : s.vm.findClass RL = some m.cls := findClass_of_methodNamed B.named
  subst hsz
  have hD := hD0.self (sz := s.heap.size)
  have hZ := hZ0
  generalize hAe : va_A ((wT k arT (tpT) (paT) (arP 99) (pdT) (arB 99) (pkT) (arS 99) fiT faT) ++ ((wP k arP fiP faP) ++ ((wB k arB fiB faB) ++ ((wS k arS (plS) fiS faS) ++ (wO k arO fiO faO flO))))) s.heap.size = A at hD hZ ⊢
  have hA : ∀ q : Nat, s.heap.size ≤ q → A q := fun q h => by rw [← hAe]; exact Or.inr h
  have hS : va_S A s.heap s.heap [] := va_S.rf
  have hl := lv_entry ([.ref (arT 99), .int (Int32.ofInt (t0)), .ref (arO 0)]) (n := 4) (Nat.le_of_ble_eq_true rfl)
  rw [lg_entry_eq]
  generalize (lg_sl ([.ref (arT 99), .int (Int32.ofInt (t0)), .ref (arO 0)]) ++ List.replicate (4 - (lg_sl ([.ref (arT 99), .int (Int32.ofInt (t0)), .ref (arO 0)])).length) Slot.unset).toArray = ls at hl ⊢
  have hl : lv_has ls 4 [(0, .ref (arT 99)), (1, .int (Int32.ofInt (t0))), (2, .ref (arO 0))] := hl
  obtain ⟨H, eH⟩ : ∃ H, H = s.heap := ⟨_, rfl⟩
  rw [← eH] at hP
  have hS : va_S A s.heap H [] := by rw [eH]; exact hS
  have gW : s.heap = H := eH.symm
  refine iv_heap gW ?_
  refine lv_aload_n hx hb dL_reach_0 rfl (lv_at hl 2 rfl) ?_
  refine lv_iconst (v := Int32.ofInt 0) hx hb dL_reach_1 (by decide +kernel) ?_
  refine lv_aload_n hx hb dL_reach_2 rfl (lv_at hl 0 rfl) ?_
  refine lv_iload_n hx hb dL_reach_3 rfl (lv_at hl 1 rfl) ?_
  refine cz_i (wr := (wO k arO fiO faO flO)) (va_runV (As := [.int (Int32.ofInt (t0))]) (rest := [.int (Int32.ofInt (0)), .ref (arO 0)]) ⟨hx, hb, hml, hown, hts⟩ (mX9_reach l G k arT tpT paT pdT pkT fiT faT arP fiP faP arB fiB faB arS plS fiS faS t0 H.size hRT hRaT hRP hRaP hB8P hB20P hB21P hRB hRaB hRS hRaS hB5S hB7S hB8S hB9S hB10S (by omega) (show 0 ≤ (fiP 7) ∧ (fiP 7) ≤ 7 ∧ 0 ≤ (fiP 0) ∧ (fiP 0) ≤ 11 ∧ 0 ≤ (fiP 24) ∧ (fiP 24) ≤ 4 ∧ 0 ≤ (fiP 23) ∧ (fiP 23) ≤ 600 from by omega) (show ∀ q9, 0 ≤ q9 → q9 < (fiP 24) → RWf (dcf ((faP 20))) (stq ((faP 21)) q9) ((faP 21) q9) from by first | exact hRC | omega) (show 0 ≤ (fiS 6) ∧ (fiS 6) ≤ 1500 from by omega) (show 0 < (fiS 6) → plS = arP 99 from by omega) (show 0 ≤ t0 ∧ t0 < (fiP 7) from by omega)) (cwV 1 hts (gz [.methodLink RL 33 yX9_reach, .instanceMethod yX9_reach, .selects RX9 yX9_reach yX9_reach, .initialized RX9] (.code yX9_reach cX9_reach 3 (some .int)) [(37, 17), (37, 18), (37, 19), (0, 2), (37, 20)] rfl) rfl rfl rfl (by decide +kernel) ⟨Nat.le_of_ble_eq_true rfl, Nat.le_of_ble_eq_true rfl⟩) (cy_preV (EZ_ok k) hZ hS hX hP hD hA [0, 1, 2, 3, 4, 5, 6, 7, 8, 9, 10, 11, 12, 13, 14, 15, 16, 17, 18, 19, 20, 21, 22, 23, 24, 25, 26, 27, 28, 29] rfl rfl (ci := 6) (q0 := 0) rfl rfl) rfl rfl hl.1 rfl (lv_room (Nat.le_of_ble_eq_true rfl)) dL_reach_4 ⟨Nat.le_of_ble_eq_true rfl, Nat.le_of_ble_eq_true rfl⟩) hP hD hS hA [0, 1, 2, 3, 4, 5, 6, 7, 8, 9, 10, 11, 12, 13, 14, 15, 16, 17, 18, 19, 20, 21, 22, 23, 24, 25, 26, 27, 28, 29] [30] rfl rfl (by decide) (by decide) (fun r u H locs hp hP hD hS => ?_)
  obtain ⟨c1, c2, c3, c4, c5, c6, c7, c8, c9, c10, c11, c12, c13, c14, c15, c16, c17, c18⟩ := u
  obtain ⟨hP, hD⟩ : va_P G vwCl ((wO k arO fiO faO flO) ++ ((wT k arT (tpT) (paT) (arP 99) (pdT) (arB 99) (pkT) (arS 99) fiT faT) ++ ((wP k arP fiP (uF (uF faP 13 (c2)) 22 (c3))) ++ ((wB k arB fiB faB) ++ (wS k arS (c18) (uF (uF (uF (uF (uF fiS 1 (c13)) 2 (c14)) 6 (c15)) 11 (c16)) 12 (c17)) (uF (uF (uF (uF (uF (uF (uF (uF (uF faS 3 (c4)) 4 (c5)) 5 (c6)) 7 (c7)) 8 (c8)) 9 (c9)) 10 (c10)) 13 (c11)) 14 (c12))))))) H ∧ va_D A ((wO k arO fiO faO flO) ++ ((wT k arT (tpT) (paT) (arP 99) (pdT) (arB 99) (pkT) (arS 99) fiT faT) ++ ((wP k arP fiP (uF (uF faP 13 (c2)) 22 (c3))) ++ ((wB k arB fiB faB) ++ (wS k arS (c18) (uF (uF (uF (uF (uF fiS 1 (c13)) 2 (c14)) 6 (c15)) 11 (c16)) 12 (c17)) (uF (uF (uF (uF (uF (uF (uF (uF (uF faS 3 (c4)) 4 (c5)) 5 (c6)) 7 (c7)) 8 (c8)) 9 (c9)) 10 (c10)) 13 (c11)) 14 (c12))))))) := ⟨hP, hD⟩
  obtain ⟨hP, hD⟩ : va_P G vwCl ((wT k arT (tpT) (paT) (arP 99) (pdT) (arB 99) (pkT) (arS 99) fiT faT) ++ ((wP k arP fiP (uF (uF faP 13 (c2)) 22 (c3))) ++ ((wB k arB fiB faB) ++ ((wS k arS (c18) (uF (uF (uF (uF (uF fiS 1 (c13)) 2 (c14)) 6 (c15)) 11 (c16)) 12 (c17)) (uF (uF (uF (uF (uF (uF (uF (uF (uF faS 3 (c4)) 4 (c5)) 5 (c6)) 7 (c7)) 8 (c8)) 9 (c9)) 10 (c10)) 13 (c11)) 14 (c12))) ++ (wO k arO fiO faO flO))))) H ∧ va_D A ((wT k arT (tpT) (paT) (arP 99) (pdT) (arB 99) (pkT) (arS 99) fiT faT) ++ ((wP k arP fiP (uF (uF faP 13 (c2)) 22 (c3))) ++ ((wB k arB fiB faB) ++ ((wS k arS (c18) (uF (uF (uF (uF (uF fiS 1 (c13)) 2 (c14)) 6 (c15)) 11 (c16)) 12 (c17)) (uF (uF (uF (uF (uF (uF (uF (uF (uF faS 3 (c4)) 4 (c5)) 5 (c6)) 7 (c7)) 8 (c8)) 9 (c9)) 10 (c10)) 13 (c11)) 14 (c12))) ++ (wO k arO fiO faO flO))))) := re_ord hP hD [1, 2, 3, 4, 5, 6, 7, 8, 9, 10, 11, 12, 13, 14, 15, 16, 17, 18, 19, 20, 21, 22, 23, 24, 25, 26, 27, 28, 29, 30, 0] (by decide) rfl
  obtain ⟨h9, rc1, rc2, rc3, rc4, rc5, rc6, bc6, rc7, bc7, rc8, bc8, rc9, bc9, rc10, bc10, rc11, rc12, rc13, rc14, rc15, rc16, rc17, hp18⟩ : r = Int32.ofInt c1 ∧ (inR c1) ∧ (∀ t, inR (c2 t)) ∧ (∀ t, inR (c3 t)) ∧ (∀ t, inR (c4 t)) ∧ (∀ t, inR (c5 t)) ∧ (∀ t, inR (c6 t)) ∧ (bnd c6 1500 (-1) 1500) ∧ (∀ t, inR (c7 t)) ∧ (bnd c7 1024 (-1) 1500) ∧ (∀ t, inR (c8 t)) ∧ (bnd c8 1500 (-1) 1500) ∧ (∀ t, inR (c9 t)) ∧ (bnd c9 1500 0 1500) ∧ (∀ t, inR (c10 t)) ∧ (bnd c10 1500 0 1500) ∧ (∀ t, inR (c11 t)) ∧ (∀ t, inR (c12 t)) ∧ (inR c13) ∧ (inR c14) ∧ (inR c15) ∧ (inR c16) ∧ (inR c17) ∧ (0 ≤ c15 ∧ c15 ≤ 1500 ∧ (0 < c15 → c18 = arP 99)) := hp
  subst h9
  refine iv_i2l hx hb dL_reach_7 ?_
  refine lv_topl (fun z19 ez19 => ?_)
  refine iv_last hx hb hX.1 hP hD hS 30 2 rfl rfl (fun g' => show _ = ((wT k arT (tpT) (paT) (arP 99) (pdT) (arB 99) (pkT) (arS 99) fiT faT) ++ ((wP k arP fiP (uF (uF faP 13 (c2)) 22 (c3))) ++ ((wB k arB fiB faB) ++ ((wS k arS (c18) (uF (uF (uF (uF (uF fiS 1 (c13)) 2 (c14)) 6 (c15)) 11 (c16)) 12 (c17)) (uF (uF (uF (uF (uF (uF (uF (uF (uF faS 3 (c4)) 4 (c5)) 5 (c6)) 7 (c7)) 8 (c8)) 9 (c9)) 10 (c10)) 13 (c11)) 14 (c12))) ++ (wO k arO fiO faO g'))))) from rfl) (by omega) (by omega) (by decide) dL_reach_8 (fun H locs hP hD hS => ?_)
  obtain ⟨g20, eg20⟩ : ∃ z, z = vp_updL (flO) (0 : Int).toNat (z19) := ⟨_, rfl⟩
  rw [← eg20] at hP hD
  refine lv_goto (tgt := 15) hx hb dL_reach_9 (by decide) ?_
  refine lv_iconst (v := Int32.ofInt 0) hx hb dL_reach_15 (by decide +kernel) ?_
  exact W.iret (v := Int32.ofInt (0)) hx hb hr (fun t ht hW => ⟨⟨Int32.ofInt (0), (0, c2, c3, c4, c5, c6, c7, c8, c9, c10, c11, c12, c13, c14, c15, c16, c17, c18, g20), rfl, ⟨rfl, (show (inR 0) ∧ (∀ t, inR (c2 t)) ∧ (∀ t, inR (c3 t)) ∧ (∀ t, inR (c4 t)) ∧ (∀ t, inR (c5 t)) ∧ (∀ t, inR (c6 t)) ∧ (bnd c6 1500 (-1) 1500) ∧ (∀ t, inR (c7 t)) ∧ (bnd c7 1024 (-1) 1500) ∧ (∀ t, inR (c8 t)) ∧ (bnd c8 1500 (-1) 1500) ∧ (∀ t, inR (c9 t)) ∧ (bnd c9 1500 0 1500) ∧ (∀ t, inR (c10 t)) ∧ (bnd c10 1500 0 1500) ∧ (∀ t, inR (c11 t)) ∧ (∀ t, inR (c12 t)) ∧ (inR c13) ∧ (inR c14) ∧ (inR c15) ∧ (inR c16) ∧ (inR c17) ∧ (0 ≤ c15 ∧ c15 ≤ 1500 ∧ (0 < c15 → c18 = arP 99)) from ⟨(by omega), rc2, rc3, rc4, rc5, rc6, bc6, rc7, bc7, rc8, bc8, rc9, bc9, rc10, bc10, rc11, rc12, (by omega), (by omega), (by omega), (by omega), (by omega), (by omega)⟩)⟩, by rw [ht]; exact hP, hD⟩, hS.F ht⟩) hS.2.2 dL_reach_16

set_option maxHeartbeats 4000000 in
set_option maxRecDepth 100000 in
theorem hL_reach_x (l : Launch) (htr : l.stackTraces = false) (G : va_G) (k : Nat → ClassId) (arT : Nat → Nat) (tpT : Nat) (paT : Nat) (pdT : Nat) (pbT : Nat) (pkT : Nat) (psT : Nat) (fiT : Nat → Int) (faT : Nat → Int → Int) (arP : Nat → Nat) (fiP : Nat → Int) (faP : Nat → Int → Int) (arO : Nat → Nat) (fiO : Nat → Int) (faO : Nat → Int → Int) (flO : Nat → Int64) (t0 : Int) (sz : Nat) (hRT : ∀ j, inR (fiT j)) (hRaT : ∀ j t, inR (faT j t)) (hRP : ∀ j, inR (fiP j)) (hRaP : ∀ j t, inR (faP j t)) (hB8P : bnd (faP 8) 7 0 4) (hB20P : bnd (faP 20) 600 (-1000) 10000) (hB21P : bnd (faP 21) 4 0 601) (hRO : ∀ j, inR (fiO j)) (hRaO : ∀ j t, inR (faO j t)) (hr_t0 : inR t0) (hx0 : t0 < 0 ∨ fiP 7 ≤ t0) : CHi l G k yL_reach wzL_reach ({ frames := 7, cells := 1, slots := 6, locals := 122 }) [.ref (arT 99), .int (Int32.ofInt (t0)), .ref (arO 0)] sz ((wT k arT (tpT) (paT) (arP 99) (pdT) (pbT) (pkT) (psT) fiT faT) ++ ((wP k arP fiP faP) ++ (wO k arO fiO faO flO))) (fun (r0 : Int32) (u : Int) => r0 = Int32.ofInt (u) ∧ (inR u) ∧ (True)) (fun (u : Int) => ((wT k arT (tpT) (paT) (arP 99) (pdT) (pbT) (pkT) (psT) fiT faT) ++ ((wP k arP fiP faP) ++ (wO k arO fiO faO flO)))) := by
  refine va_MetW (cc := cL_reach) (maxL := 4) (ret := (some .int)) (by decide) rfl ?_
  intro p e s m args below meth c s₁ B hml hv
  obtain ⟨⟨rfl, hsz, hP, hX, hD0, hZ0⟩, hT9⟩ := hv
  have hlocks := B.notSynchronized
  have hx := B.exec
  have hb := B.bytes
  have hr := B.returns
  have hts := atoms_spec (ws := wzL_reach) B.pre
  have hown : s.vm.findClass RL = some m.cls := findClass_of_methodNamed B.named
  subst hsz
  have hD := hD0.self (sz := s.heap.size)
  have hZ := hZ0
  generalize hAe : va_A ((wT k arT (tpT) (paT) (arP 99) (pdT) (pbT) (pkT) (psT) fiT faT) ++ ((wP k arP fiP faP) ++ (wO k arO fiO faO flO))) s.heap.size = A at hD hZ ⊢
  have hA : ∀ q : Nat, s.heap.size ≤ q → A q := fun q h => by rw [← hAe]; exact Or.inr h
  have hS : va_S A s.heap s.heap [] := va_S.rf
  have hl := lv_entry ([.ref (arT 99), .int (Int32.ofInt (t0)), .ref (arO 0)]) (n := 4) (Nat.le_of_ble_eq_true rfl)
  rw [lg_entry_eq]
  generalize (lg_sl ([.ref (arT 99), .int (Int32.ofInt (t0)), .ref (arO 0)]) ++ List.replicate (4 - (lg_sl ([.ref (arT 99), .int (Int32.ofInt (t0)), .ref (arO 0)])).length) Slot.unset).toArray = ls at hl ⊢
  have hl : lv_has ls 4 [(0, .ref (arT 99)), (1, .int (Int32.ofInt (t0))), (2, .ref (arO 0))] := hl
  obtain ⟨H, eH⟩ : ∃ H, H = s.heap := ⟨_, rfl⟩
  rw [← eH] at hP
  have hS : va_S A s.heap H [] := by rw [eH]; exact hS
  have gW : s.heap = H := eH.symm
  refine iv_heap gW ?_
  have h0w := hts (.classLink RL 18 "java/util/NoSuchElementException") (wz_at 22 5 rfl)
  refine lv_aload_n hx hb dL_reach_0 rfl (lv_at hl 2 rfl) ?_
  refine lv_iconst (v := Int32.ofInt 0) hx hb dL_reach_1 (by decide +kernel) ?_
  refine lv_aload_n hx hb dL_reach_2 rfl (lv_at hl 0 rfl) ?_
  refine lv_iload_n hx hb dL_reach_3 rfl (lv_at hl 1 rfl) ?_
  refine ct_xi (wr := (wO k arO fiO faO flO)) (vx_runV (As := [.int (Int32.ofInt (t0))]) (rest := [.int (Int32.ofInt (0)), .ref (arO 0)]) ⟨hx, hb, hml, hown, hts⟩ (xX9_reach_x l htr G k arT tpT paT pdT pbT pkT psT fiT faT arP fiP faP t0 H.size hRT hRaT hRP hRaP hB8P hB20P hB21P (by omega) (show t0 < 0 ∨ (fiP 7) ≤ t0 from by omega)) (cwV 1 hts (gz [.methodLink RL 33 yX9_reach, .instanceMethod yX9_reach, .selects RX9 yX9_reach yX9_reach, .initialized RX9] (.code yX9_reach cX9_reach 3 (some .int)) [(37, 17), (37, 18), (37, 19), (0, 2), (37, 20)] rfl) rfl rfl rfl (by decide +kernel) ⟨Nat.le_of_ble_eq_true rfl, Nat.le_of_ble_eq_true rfl⟩) (ct_preVT hT9 hZ hS hX hP hD hA [0, 1, 2, 3, 4, 5, 6, 7, 8, 9, 10, 11] rfl rfl (ci := 6) (q0 := 0) rfl rfl) rfl rfl hl.1 rfl (lv_room (Nat.le_of_ble_eq_true rfl)) dL_reach_4 ⟨Nat.le_of_ble_eq_true rfl, Nat.le_of_ble_eq_true rfl⟩) hP hD hS hA [0, 1, 2, 3, 4, 5, 6, 7, 8, 9, 10, 11] [12] rfl rfl (by decide) (by decide) (fun ce q9 H locs hce hcv hcl hP hD hS => ?_)
  obtain ⟨hP, hD⟩ : va_P G vwCl ((wO k arO fiO faO flO) ++ ((wT k arT (tpT) (paT) (arP 99) (pdT) (pbT) (pkT) (psT) fiT faT) ++ (wP k arP fiP faP))) H ∧ va_D A ((wO k arO fiO faO flO) ++ ((wT k arT (tpT) (paT) (arP 99) (pdT) (pbT) (pkT) (psT) fiT faT) ++ (wP k arP fiP faP))) := ⟨hP, hD⟩
  obtain ⟨hP, hD⟩ : va_P G vwCl ((wT k arT (tpT) (paT) (arP 99) (pdT) (pbT) (pkT) (psT) fiT faT) ++ ((wP k arP fiP faP) ++ (wO k arO fiO faO flO))) H ∧ va_D A ((wT k arT (tpT) (paT) (arP 99) (pdT) (pbT) (pkT) (psT) fiT faT) ++ ((wP k arP fiP faP) ++ (wO k arO fiO faO flO))) := re_ord hP hD [1, 2, 3, 4, 5, 6, 7, 8, 9, 10, 11, 12, 0] (by decide) rfl
  refine cz_catch (name := "java/util/NoSuchElementException") hown ⟨0, 9, 12, 18⟩ (vx_table (x := yL_reach) B (hts _ List.mem_cons_self)) (by decide +kernel) (by decide) h0w (va_Nw.use rfl (hT9.2 _ List.mem_cons_self)) hce hcv hcl ?_
  refine W.widen (k := 1) (n := 6) (Nat.le_of_ble_eq_true rfl) (Nat.le_of_ble_eq_true rfl) ?_
  refine lv_astore_n (lv' := [(3, .ref (q9)), (0, .ref (arT 99)), (1, .int (Int32.ofInt (t0))), (2, .ref (arO 0))]) hx hb dL_reach_12 rfl hl (by decide) rfl (fun ls hl => ?_)
  refine lv_iconst (v := Int32.ofInt 1) hx hb dL_reach_13 (by decide +kernel) ?_
  exact W.iret (v := Int32.ofInt (1)) hx hb hr (fun t ht hW => ⟨⟨Int32.ofInt (1), (1), rfl, ⟨rfl, (show (inR 1) ∧ (True) from ⟨(by omega), trivial⟩)⟩, by rw [ht]; exact hP, hD⟩, hS.F ht⟩) hS.2.2 dL_reach_14

