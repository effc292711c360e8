set_option maxHeartbeats 4000000 in
set_option maxRecDepth 100000 in
theorem mX6_lade_4 (l : Launch) (G : va_G) (k : Nat → ClassId) (arS : Nat → Nat) (fiS : Nat → Int) (faS : Nat → Int → Int) (arP : Nat → Nat) (fiP : Nat → Int) (faP : Nat → Int → Int) (s0 : Int) (g0 : Int) (a0 : Int) (b0 : Int) (sz : Nat) (hRS : ∀ j, inR (fiS j)) (hRaS : ∀ j t, inR (faS j t)) (hB5S : bnd (faS 5) 1500 (-1) 1500) (hB7S : bnd (faS 7) 1024 (-1) 1500) (hB8S : bnd (faS 8) 1500 (-1) 1500) (hB9S : bnd (faS 9) 1500 0 1500) (hB10S : bnd (faS 10) 1500 0 1500) (hRP : ∀ j, inR (fiP j)) (hRaP : ∀ j t, inR (faP j t)) (hB8P : bnd (faP 8) 7 0 4) (hB20P : bnd (faP 20) 600 (-1000) 10000) (hB21P : bnd (faP 21) 4 0 601) (hr_s0 : inR s0) (hr_g0 : inR g0) (hr_a0 : inR a0) (hr_b0 : inR b0) (hsq : 0 ≤ fiS 11 ∧ fiS 11 ≤ fiS 6 ∧ fiS 6 ≤ 1500 ∧ -1 ≤ fiS 12 ∧ fiS 12 < 1500) (hsp : fiS 2 = 0 ∨ fiS 2 = 1) (hth : 0 ≤ fiP 7 ∧ fiP 7 ≤ 7) (hbt : 0 ≤ fiP 0 ∧ fiP 0 ≤ 11) (hsz : 0 ≤ fiP 24 ∧ fiP 24 ≤ 4) (hRC : ∀ q9, 0 ≤ q9 → q9 < fiP 24 → RWf (dcf (faP 20)) (stq (faP 21) q9) (faP 21 q9)) (hg : 0 ≤ g0 ∧ g0 < 81) : CNv l G k (EZ k) yX6_lade wzX6_lade ({ frames := 7, cells := 0, slots := 0, locals := 184 }) [.ref (arS 99), .int (Int32.ofInt (4)), .int (Int32.ofInt (s0)), .int (Int32.ofInt (g0)), .int (Int32.ofInt (a0)), .int (Int32.ofInt (b0))] sz ((wS k arS (arP 99) fiS faS) ++ (wP k arP fiP faP)) (fun (u : (Int → Int) × (Int → Int) × (Int → Int) × (Int → Int) × (Int → Int) × (Int → Int) × (Int → Int) × (Int → Int) × Int × Int × Int × (Int → Int) × (Int → Int)) => (∀ t, inR (u.1 t)) ∧ (∀ t, inR (u.2.1 t)) ∧ (∀ t, inR (u.2.2.1 t)) ∧ (bnd u.2.2.1 1500 (-1) 1500) ∧ (∀ t, inR (u.2.2.2.1 t)) ∧ (bnd u.2.2.2.1 1024 (-1) 1500) ∧ (∀ t, inR (u.2.2.2.2.1 t)) ∧ (bnd u.2.2.2.2.1 1500 (-1) 1500) ∧ (∀ t, inR (u.2.2.2.2.2.1 t)) ∧ (bnd u.2.2.2.2.2.1 1500 0 1500) ∧ (∀ t, inR (u.2.2.2.2.2.2.1 t)) ∧ (bnd u.2.2.2.2.2.2.1 1500 0 1500) ∧ (∀ t, inR (u.2.2.2.2.2.2.2.1 t)) ∧ (inR u.2.2.2.2.2.2.2.2.1) ∧ (inR u.2.2.2.2.2.2.2.2.2.1) ∧ (inR u.2.2.2.2.2.2.2.2.2.2.1) ∧ (∀ t, inR (u.2.2.2.2.2.2.2.2.2.2.2.1 t)) ∧ (∀ t, inR (u.2.2.2.2.2.2.2.2.2.2.2.2 t)) ∧ (0 ≤ u.2.2.2.2.2.2.2.2.2.2.1 ∧ u.2.2.2.2.2.2.2.2.2.2.1 ≤ u.2.2.2.2.2.2.2.2.2.1 ∧ u.2.2.2.2.2.2.2.2.2.1 ≤ 1500 ∧ (u.2.2.2.2.2.2.2.2.1 = 0 ∨ u.2.2.2.2.2.2.2.2.1 = 1))) (fun (u : (Int → Int) × (Int → Int) × (Int → Int) × (Int → Int) × (Int → Int) × (Int → Int) × (Int → Int) × (Int → Int) × Int × Int × Int × (Int → Int) × (Int → Int)) => ((wS k arS (arP 99) (uF (uF (uF fiS 2 (u.2.2.2.2.2.2.2.2.1)) 6 (u.2.2.2.2.2.2.2.2.2.1)) 11 (u.2.2.2.2.2.2.2.2.2.2.1)) (uF (uF (uF (uF (uF (uF (uF (uF faS 3 (u.1)) 4 (u.2.1)) 5 (u.2.2.1)) 7 (u.2.2.2.1)) 8 (u.2.2.2.2.1)) 9 (u.2.2.2.2.2.1)) 10 (u.2.2.2.2.2.2.1)) 14 (u.2.2.2.2.2.2.2.1))) ++ (wP k arP fiP (uF (uF faP 13 (u.2.2.2.2.2.2.2.2.2.2.2.1)) 22 (u.2.2.2.2.2.2.2.2.2.2.2.2))))) := by
  refine Met.ofW (cc := cX6_lade) (maxL := 8) (ret := none) (by decide) rfl ?_
  intro p e s m args below meth c s₁ B hml hv
  obtain ⟨rfl, hsz, hP, hX, hD0, hZ0⟩ := hv
  have hx := B.exec
  have hb := B.bytes
  have hr := B.returns
  have hts := atoms_spec (ws := wzX6_lade) B.pre
  have hown : s.vm.findClass RX6 = some m.cls := findClass_of_methodNamed B.named
  subst hsz
  have hD := hD0.self (sz := s.heap.size)
  have hZ := hZ0
  generalize hAe : va_A ((wS k arS (arP 99) fiS faS) ++ (wP k arP fiP faP)) s.heap.size = A at hD hZ ⊢
  have hA : ∀ q : Nat, s.heap.size ≤ q → A q := fun q h => by rw [← hAe]; exact Or.inr h
  have hS : va_S A s.heap s.heap [] := va_S.rf
  have hl := lv_entry ([.ref (arS 99), .int (Int32.ofInt (4)), .int (Int32.ofInt (s0)), .int (Int32.ofInt (g0)), .int (Int32.ofInt (a0)), .int (Int32.ofInt (b0))]) (n := 8) (Nat.le_of_ble_eq_true rfl)
  rw [lg_entry_eq]
  generalize (lg_sl ([.ref (arS 99), .int (Int32.ofInt (4)), .int (Int32.ofInt (s0)), .int (Int32.ofInt (g0)), .int (Int32.ofInt (a0)), .int (Int32.ofInt (b0))]) ++ List.replicate (8 - (lg_sl ([.ref (arS 99), .int (Int32.ofInt (4)), .int (Int32.ofInt (s0)), .int (Int32.ofInt (g0)), .int (Int32.ofInt (a0)), .int (Int32.ofInt (b0))])).length) Slot.unset).toArray = ls at hl ⊢
  have hl : lv_has ls 8 [(0, .ref (arS 99)), (1, .int (Int32.ofInt (4))), (2, .int (Int32.ofInt (s0))), (3, .int (Int32.ofInt (g0))), (4, .int (Int32.ofInt (a0))), (5, .int (Int32.ofInt (b0)))] := hl
  obtain ⟨H, eH⟩ : ∃ H, H = s.heap := ⟨_, rfl⟩
  rw [← eH] at hP
  have hS : va_S A s.heap H [] := by rw [eH]; exact hS
  have gW : s.heap = H := eH.symm
  refine iv_heap gW ?_
  have h0w := hts (.fieldLink RX6 19 "RopeTown$Search" "isSpent" "Z") (wz_at 4 16 rfl)
  have h1w : ∀ w ∈ wsX60, w ∈ wzX6_lade := fun w h => List.mem_cons_of_mem _ (inlX6 w h)
  have h2w := hts (.fieldLink RX6 9 "RopeTown$Search" "plan" "LRopeTown$Plan;") (wz_at 4 14 rfl)
  have h3w : ∀ w ∈ wsX30, w ∈ wzX6_lade := fun w h => List.mem_cons_of_mem _ (inlX3 w h)
  have h4w := hts (.fieldLink RX6 54 "RopeTown$Search" "doors" "[I") (wz_at 5 3 rfl)
  have h5w := hts (.initialized RX7) (wz_at 5 10 rfl)
  have h6w := hts (.static yX7_put) (wz_at 5 13 rfl)
  have h7w := hts (.fieldLink RX6 119 "RopeTown$Search" "POWERS" "[I") (wz_at 34 19 rfl)
  refine lv_aload_n hx hb dX6_lade_0 rfl (lv_at hl 0 rfl) ?_
  refine va_get (D := G) (ci := 5) (v := .int (Int32.ofInt (fiS 2))) (C := RX6) (T := TX6) (N := 15) (ref := RX6) hx hb hts h1w hown hX.1 hP 0 rfl rfl 2 (by decide) h0w (fun _ h9 => h9) rfl dX6_lade_1 ?_
  have rf2S := hRS 2
  refine iv_if_eq (tgt := 8) hx hb (by omega) dX6_lade_4 (by decide) (fun q1 => ?_) (fun q1 => ?_)
  · refine lv_iload_n hx hb dX6_lade_8 rfl (lv_at hl 1 rfl) ?_
    refine lv_aload_n hx hb dX6_lade_9 rfl (lv_at hl 0 rfl) ?_
    refine va_get (D := G) (ci := 5) (v := .ref (arP 99)) (C := RX6) (T := TX6) (N := 15) (ref := RX6) hx hb hts h1w hown hX.1 hP 0 rfl rfl 0 (by decide) h2w (fun _ h9 => h9) rfl dX6_lade_10 ?_
    refine va_getN (D := G) (ci := 2) (v := .int (Int32.ofInt (fiP 7))) (C := RX3) (T := TX3) (N := 14) (ref := RX3) (host := RX9) hx hb hts h3w hown hX.1 hP 10 rfl rfl 7 (by decide) (nf_17 hX.2.2.1) (fun _ h9 => h9) rfl dX6_lade_13 ?_
    have rf7P := hRP 7
    refine iv_icmp_ge (tgt := 25) hx hb (by omega) (by omega) dX6_lade_16 (by decide) (fun q2 => ?_) (fun q2 => ?_)
    · refine lv_aload_n hx hb dX6_lade_25 rfl (lv_at hl 0 rfl) ?_
      refine lv_iload_n hx hb dX6_lade_26 rfl (lv_at hl 2 rfl) ?_
      refine lv_iload_n hx hb dX6_lade_27 rfl (lv_at hl 3 rfl) ?_
      refine lv_iload hx hb dX6_lade_28 (lv_at hl 4 rfl) ?_
      refine lv_iload hx hb dX6_lade_30 (lv_at hl 5 rfl) ?_
      refine iv_sub (x := a0) (y := b0) hx hb dX6_lade_32 ?_
      refine iv_wr ?_
      refine iv_top (fun z3 ez3 => ?_)
      have rz3 : inR z3 := ez3 ▸ bWr_r _
      refine cr_v (va_runV (As := [.int (Int32.ofInt (s0)), .int (Int32.ofInt (g0)), .int (Int32.ofInt (z3))]) (rest := []) ⟨hx, hb, hml, hown, hts⟩ (mX6_depart l G k arS fiS faS arP fiP faP s0 g0 z3 H.size hRS hRaS hB5S hB7S hB8S hB9S hB10S hRP hRaP hB8P hB20P hB21P (by omega) (by omega) (by omega) (show 0 ≤ (fiS 11) ∧ (fiS 11) ≤ (fiS 6) ∧ (fiS 6) ≤ 1500 ∧ -1 ≤ (fiS 12) ∧ (fiS 12) < 1500 from by omega) (show (fiS 2) = 0 ∨ (fiS 2) = 1 from by omega) (show 0 ≤ (fiP 7) ∧ (fiP 7) ≤ 7 from by omega) (show 0 ≤ (fiP 0) ∧ (fiP 0) ≤ 11 from by omega) (show 0 ≤ (fiP 24) ∧ (fiP 24) ≤ 4 from by omega) (show ∀ q9, 0 ≤ q9 → q9 < (fiP 24) → RWf (dcf ((faP 20))) (stq ((faP 21)) q9) ((faP 21) q9) from by first | exact hRC | omega) (show 0 ≤ g0 ∧ g0 ≤ 2186 from by omega)) (cwV 3 hts (gz [.methodLink RX6 109 yX6_depart, .instanceMethod yX6_depart, .selects RX6 yX6_depart yX6_depart, .initialized RX6] (.code yX6_depart cX6_depart 8 none) [(34, 20), (34, 21), (34, 22), (1, 10), (34, 23)] rfl) rfl rfl rfl (by decide +kernel) ⟨Nat.le_of_ble_eq_true rfl, Nat.le_of_ble_eq_true rfl⟩) (cr_preV (EZ_ok k) hZ hS hX hP hD hA (ci := 5) (q0 := 0) rfl rfl) rfl rfl hl.1 rfl (lv_room (Nat.le_of_ble_eq_true rfl)) dX6_lade_33 ⟨Nat.le_of_ble_eq_true rfl, Nat.le_of_ble_eq_true rfl⟩) hD hS hA (fun u H locs hp hP hD hS => ?_)
      obtain ⟨c4, c5, c6, c7, c8, c9, c10, c11, c12, c13, c14, c15, c16⟩ := u
      obtain ⟨hP, hD⟩ : va_P G vwCl ((wS k arS (arP 99) (uF (uF (uF fiS 2 (c12)) 6 (c13)) 11 (c14)) (uF (uF (uF (uF (uF (uF (uF (uF faS 3 (c4)) 4 (c5)) 5 (c6)) 7 (c7)) 8 (c8)) 9 (c9)) 10 (c10)) 14 (c11))) ++ (wP k arP fiP (uF (uF faP 13 (c15)) 22 (c16)))) H ∧ va_D A ((wS k arS (arP 99) (uF (uF (uF fiS 2 (c12)) 6 (c13)) 11 (c14)) (uF (uF (uF (uF (uF (uF (uF (uF faS 3 (c4)) 4 (c5)) 5 (c6)) 7 (c7)) 8 (c8)) 9 (c9)) 10 (c10)) 14 (c11))) ++ (wP k arP fiP (uF (uF faP 13 (c15)) 22 (c16)))) := ⟨hP, hD⟩
      obtain ⟨rc4, rc5, rc6, bc6, rc7, bc7, rc8, bc8, rc9, bc9, rc10, bc10, rc11, rc12, rc13, rc14, rc15, rc16, hp16⟩ : (∀ t, inR (c4 t)) ∧ (∀ t, inR (c5 t)) ∧ (∀ t, inR (c6 t)) ∧ (bnd c6 1500 (-1) 1500) ∧ (∀ t, inR (c7 t)) ∧ (bnd c7 1024 (-1) 1500) ∧ (∀ t, inR (c8 t)) ∧ (bnd c8 1500 (-1) 1500) ∧ (∀ t, inR (c9 t)) ∧ (bnd c9 1500 0 1500) ∧ (∀ t, inR (c10 t)) ∧ (bnd c10 1500 0 1500) ∧ (∀ t, inR (c11 t)) ∧ (inR c12) ∧ (inR c13) ∧ (inR c14) ∧ (∀ t, inR (c15 t)) ∧ (∀ t, inR (c16 t)) ∧ (0 ≤ c14 ∧ c14 ≤ c13 ∧ c13 ≤ 1500 ∧ (c12 = 0 ∨ c12 = 1)) := hp
      exact W.vret hx hb hr (fun t ht hW => ⟨⟨(c4, c5, c6, c7, c8, c9, c10, c11, c12, c13, c14, c15, c16), rfl, (show (∀ t, inR (c4 t)) ∧ (∀ t, inR (c5 t)) ∧ (∀ t, inR (c6 t)) ∧ (bnd c6 1500 (-1) 1500) ∧ (∀ t, inR (c7 t)) ∧ (bnd c7 1024 (-1) 1500) ∧ (∀ t, inR (c8 t)) ∧ (bnd c8 1500 (-1) 1500) ∧ (∀ t, inR (c9 t)) ∧ (bnd c9 1500 0 1500) ∧ (∀ t, inR (c10 t)) ∧ (bnd c10 1500 0 1500) ∧ (∀ t, inR (c11 t)) ∧ (inR c12) ∧ (inR c13) ∧ (inR c14) ∧ (∀ t, inR (c15 t)) ∧ (∀ t, inR (c16 t)) ∧ (0 ≤ c14 ∧ c14 ≤ c13 ∧ c13 ≤ 1500 ∧ (c12 = 0 ∨ c12 = 1)) from ⟨rc4, rc5, rc6, bc6, rc7, bc7, rc8, bc8, rc9, bc9, rc10, bc10, rc11, (by omega), (by omega), (by omega), rc15, rc16, (by omega)⟩), by rw [ht]; exact hP, hD⟩, hS.F ht⟩) hS.2.2 dX6_lade_36
    · refine lv_iload_n hx hb dX6_lade_19 rfl (lv_at hl 1 rfl) ?_
      refine lv_bipush (v := Int32.ofInt 7) hx hb dX6_lade_20 (by decide +kernel) ?_
      refine iv_icmp_lt (tgt := 37) hx hb (by omega) (by omega) dX6_lade_22 (by decide) (fun _ => ?_) (fun q => absurd q (by omega))
      refine lv_aload_n hx hb dX6_lade_37 rfl (lv_at hl 0 rfl) ?_
      refine lv_iload_n hx hb dX6_lade_38 rfl (lv_at hl 1 rfl) ?_
      refine lv_iconst (v := Int32.ofInt 1) hx hb dX6_lade_39 (by decide +kernel) ?_
      refine iv_add (x := 4) (y := 1) hx hb dX6_lade_40 ?_
      refine iv_is (z := 5) (by decide) ?_
      refine lv_iload_n hx hb dX6_lade_41 rfl (lv_at hl 2 rfl) ?_
      refine lv_iload_n hx hb dX6_lade_42 rfl (lv_at hl 3 rfl) ?_
      refine lv_iload hx hb dX6_lade_43 (lv_at hl 4 rfl) ?_
      refine lv_iload hx hb dX6_lade_45 (lv_at hl 5 rfl) ?_
      refine cr_v (va_runV (As := [.int (Int32.ofInt (5)), .int (Int32.ofInt (s0)), .int (Int32.ofInt (g0)), .int (Int32.ofInt (a0)), .int (Int32.ofInt (b0))]) (rest := []) ⟨hx, hb, hml, hown, hts⟩ (mX6_lade_5 l G k arS fiS faS arP fiP faP s0 g0 a0 b0 H.size hRS hRaS hB5S hB7S hB8S hB9S hB10S hRP hRaP hB8P hB20P hB21P (by omega) (by omega) (by omega) (by omega) (show 0 ≤ (fiS 11) ∧ (fiS 11) ≤ (fiS 6) ∧ (fiS 6) ≤ 1500 ∧ -1 ≤ (fiS 12) ∧ (fiS 12) < 1500 from by omega) (show (fiS 2) = 0 ∨ (fiS 2) = 1 from by omega) (show 0 ≤ (fiP 7) ∧ (fiP 7) ≤ 7 from by omega) (show 0 ≤ (fiP 0) ∧ (fiP 0) ≤ 11 from by omega) (show 0 ≤ (fiP 24) ∧ (fiP 24) ≤ 4 from by omega) (show ∀ q9, 0 ≤ q9 → q9 < (fiP 24) → RWf (dcf ((faP 20))) (stq ((faP 21)) q9) ((faP 21) q9) from by first | exact hRC | omega) (show 0 ≤ g0 ∧ g0 < 243 from by omega)) (cwV 5 hts (gz [.methodLink RX6 78 yX6_lade, .instanceMethod yX6_lade, .selects RX6 yX6_lade yX6_lade, .initialized RX6] (.code yX6_lade cX6_lade 8 none) [(34, 15), (34, 16), (34, 17), (1, 10), (34, 18)] rfl) rfl rfl rfl (by decide +kernel) ⟨Nat.le_of_ble_eq_true rfl, Nat.le_of_ble_eq_true rfl⟩) (cr_preV (EZ_ok k) hZ hS hX hP hD hA (ci := 5) (q0 := 0) rfl rfl) rfl rfl hl.1 rfl (lv_room (Nat.le_of_ble_eq_true rfl)) dX6_lade_47 ⟨Nat.le_of_ble_eq_true rfl, Nat.le_of_ble_eq_true rfl⟩) hD hS hA (fun u H locs hp hP hD hS => ?_)
      obtain ⟨c17, c18, c19, c20, c21, c22, c23, c24, c25, c26, c27, c28, c29⟩ := u
      obtain ⟨hP, hD⟩ : va_P G vwCl ((wS k arS (arP 99) (uF (uF (uF fiS 2 (c25)) 6 (c26)) 11 (c27)) (uF (uF (uF (uF (uF (uF (uF (uF faS 3 (c17)) 4 (c18)) 5 (c19)) 7 (c20)) 8 (c21)) 9 (c22)) 10 (c23)) 14 (c24))) ++ (wP k arP fiP (uF (uF faP 13 (c28)) 22 (c29)))) H ∧ va_D A ((wS k arS (arP 99) (uF (uF (uF fiS 2 (c25)) 6 (c26)) 11 (c27)) (uF (uF (uF (uF (uF (uF (uF (uF faS 3 (c17)) 4 (c18)) 5 (c19)) 7 (c20)) 8 (c21)) 9 (c22)) 10 (c23)) 14 (c24))) ++ (wP k arP fiP (uF (uF faP 13 (c28)) 22 (c29)))) := ⟨hP, hD⟩
      obtain ⟨rc17, rc18, rc19, bc19, rc20, bc20, rc21, bc21, rc22, bc22, rc23, bc23, rc24, rc25, rc26, rc27, rc28, rc29, hp29⟩ : (∀ t, inR (c17 t)) ∧ (∀ t, inR (c18 t)) ∧ (∀ t, inR (c19 t)) ∧ (bnd c19 1500 (-1) 1500) ∧ (∀ t, inR (c20 t)) ∧ (bnd c20 1024 (-1) 1500) ∧ (∀ t, inR (c21 t)) ∧ (bnd c21 1500 (-1) 1500) ∧ (∀ t, inR (c22 t)) ∧ (bnd c22 1500 0 1500) ∧ (∀ t, inR (c23 t)) ∧ (bnd c23 1500 0 1500) ∧ (∀ t, inR (c24 t)) ∧ (inR c25) ∧ (inR c26) ∧ (inR c27) ∧ (∀ t, inR (c28 t)) ∧ (∀ t, inR (c29 t)) ∧ (0 ≤ c27 ∧ c27 ≤ c26 ∧ c26 ≤ 1500 ∧ (c25 = 0 ∨ c25 = 1)) := hp
      refine lv_aload_n hx hb dX6_lade_50 rfl (lv_at hl 0 rfl) ?_
      refine va_get (D := G) (ci := 5) (v := .ref (arP 99)) (C := RX6) (T := TX6) (N := 15) (ref := RX6) hx hb hts h1w hown hX.1 hP 0 rfl rfl 0 (by decide) h2w (fun _ h9 => h9) rfl dX6_lade_51 ?_
      refine va_getN (D := G) (ci := 2) (v := .ref (arP 9)) (C := RX3) (T := TX3) (N := 14) (ref := RX3) (host := RX9) hx hb hts h3w hown hX.1 hP 10 rfl rfl 9 (by decide) (nf_22 hX.2.2.1) (fun _ h9 => h9) rfl dX6_lade_54 ?_
      refine lv_iload_n hx hb dX6_lade_57 rfl (lv_at hl 1 rfl) ?_
      refine iv_iald hx hb hX.1 hP 13 0 rfl rfl (by omega) (by omega) (by decide) dX6_lade_58 ?_
      refine iv_top (fun z30 ez30 => ?_)
      have rz30 : inR z30 := ez30 ▸ (hRaP 9) _
      have ez30 : z30 = (faP 9) 4 := ez30
      refine lv_istore (lv' := [(6, .int (Int32.ofInt (z30))), (0, .ref (arS 99)), (1, .int (Int32.ofInt (4))), (2, .int (Int32.ofInt (s0))), (3, .int (Int32.ofInt (g0))), (4, .int (Int32.ofInt (a0))), (5, .int (Int32.ofInt (b0)))]) hx hb dX6_lade_59 hl (by decide) rfl (fun ls hl => ?_)
      refine iv_join (G := G) (A := A) (H0 := s.heap) (α := Int × Int × Int × (Int → Int) × (Int → Int) × (Int → Int) × (Int → Int) × (Int → Int) × (Int → Int) × (Int → Int) × (Int → Int) × (Int → Int) × (Int → Int)) (nL := 8) 119 (fun b9 => []) (fun b9 => ((wS k arS (arP 99) (uF (uF (uF fiS 2 (b9.1)) 6 (b9.2.1)) 11 (b9.2.2.1)) (uF (uF (uF (uF (uF (uF (uF (uF faS 3 (b9.2.2.2.1)) 4 (b9.2.2.2.2.1)) 5 (b9.2.2.2.2.2.1)) 7 (b9.2.2.2.2.2.2.1)) 8 (b9.2.2.2.2.2.2.2.1)) 9 (b9.2.2.2.2.2.2.2.2.1)) 10 (b9.2.2.2.2.2.2.2.2.2.1)) 14 (b9.2.2.2.2.2.2.2.2.2.2.1))) ++ (wP k arP fiP (uF (uF faP 13 (b9.2.2.2.2.2.2.2.2.2.2.2.1)) 22 (b9.2.2.2.2.2.2.2.2.2.2.2.2))))) (fun b9 => [(6, .int (Int32.ofInt (z30))), (0, .ref (arS 99)), (1, .int (Int32.ofInt (4))), (2, .int (Int32.ofInt (s0))), (3, .int (Int32.ofInt (g0))), (4, .int (Int32.ofInt (a0))), (5, .int (Int32.ofInt (b0)))]) (fun b9 => inR b9.1 ∧ inR b9.2.1 ∧ inR b9.2.2.1 ∧ (∀ t, inR (b9.2.2.2.1 t)) ∧ (∀ t, inR (b9.2.2.2.2.1 t)) ∧ (∀ t, inR (b9.2.2.2.2.2.1 t)) ∧ (∀ t, inR (b9.2.2.2.2.2.2.1 t)) ∧ (∀ t, inR (b9.2.2.2.2.2.2.2.1 t)) ∧ (∀ t, inR (b9.2.2.2.2.2.2.2.2.1 t)) ∧ (∀ t, inR (b9.2.2.2.2.2.2.2.2.2.1 t)) ∧ (∀ t, inR (b9.2.2.2.2.2.2.2.2.2.2.1 t)) ∧ (∀ t, inR (b9.2.2.2.2.2.2.2.2.2.2.2.1 t)) ∧ (∀ t, inR (b9.2.2.2.2.2.2.2.2.2.2.2.2 t)) ∧ (bnd b9.2.2.2.2.2.1 1500 (-1) 1500) ∧ (bnd b9.2.2.2.2.2.2.1 1024 (-1) 1500) ∧ (bnd b9.2.2.2.2.2.2.2.1 1500 (-1) 1500) ∧ (bnd b9.2.2.2.2.2.2.2.2.1 1500 0 1500) ∧ (bnd b9.2.2.2.2.2.2.2.2.2.1 1500 0 1500) ∧ (0 ≤ b9.2.2.1 ∧ b9.2.2.1 ≤ b9.2.1 ∧ b9.2.1 ≤ 1500 ∧ (b9.1 = 0 ∨ b9.1 = 1))) ?_ (fun J119 => ?_)
      · rintro ⟨n2S_31, n6S_32, n11S_33, g3S_34, g4S_35, g5S_36, g7S_37, g8S_38, g9S_39, g10S_40, g14S_41, g13P_42, g22P_43⟩ hi9 H locs ls hP hD hS hl
        obtain ⟨r_n2S_31, r_n6S_32, r_n11S_33, r_g3S_34, r_g4S_35, r_g5S_36, r_g7S_37, r_g8S_38, r_g9S_39, r_g10S_40, r_g14S_41, r_g13P_42, r_g22P_43, b_g5S_36, b_g7S_37, b_g8S_38, b_g9S_39, b_g10S_40, hinv⟩ : inR n2S_31 ∧ inR n6S_32 ∧ inR n11S_33 ∧ (∀ t, inR (g3S_34 t)) ∧ (∀ t, inR (g4S_35 t)) ∧ (∀ t, inR (g5S_36 t)) ∧ (∀ t, inR (g7S_37 t)) ∧ (∀ t, inR (g8S_38 t)) ∧ (∀ t, inR (g9S_39 t)) ∧ (∀ t, inR (g10S_40 t)) ∧ (∀ t, inR (g14S_41 t)) ∧ (∀ t, inR (g13P_42 t)) ∧ (∀ t, inR (g22P_43 t)) ∧ (bnd g5S_36 1500 (-1) 1500) ∧ (bnd g7S_37 1024 (-1) 1500) ∧ (bnd g8S_38 1500 (-1) 1500) ∧ (bnd g9S_39 1500 0 1500) ∧ (bnd g10S_40 1500 0 1500) ∧ (0 ≤ n11S_33 ∧ n11S_33 ≤ n6S_32 ∧ n6S_32 ≤ 1500 ∧ (n2S_31 = 0 ∨ n2S_31 = 1)) := hi9
        obtain ⟨hP, hD⟩ : va_P G vwCl ((wS k arS (arP 99) (uF (uF (uF fiS 2 (n2S_31)) 6 (n6S_32)) 11 (n11S_33)) (uF (uF (uF (uF (uF (uF (uF (uF faS 3 (g3S_34)) 4 (g4S_35)) 5 (g5S_36)) 7 (g7S_37)) 8 (g8S_38)) 9 (g9S_39)) 10 (g10S_40)) 14 (g14S_41))) ++ (wP k arP fiP (uF (uF faP 13 (g13P_42)) 22 (g22P_43)))) H ∧ va_D A ((wS k arS (arP 99) (uF (uF (uF fiS 2 (n2S_31)) 6 (n6S_32)) 11 (n11S_33)) (uF (uF (uF (uF (uF (uF (uF (uF faS 3 (g3S_34)) 4 (g4S_35)) 5 (g5S_36)) 7 (g7S_37)) 8 (g8S_38)) 9 (g9S_39)) 10 (g10S_40)) 14 (g14S_41))) ++ (wP k arP fiP (uF (uF faP 13 (g13P_42)) 22 (g22P_43)))) := ⟨hP, hD⟩
        have hl : lv_has ls 8 [(6, .int (Int32.ofInt (z30))), (0, .ref (arS 99)), (1, .int (Int32.ofInt (4))), (2, .int (Int32.ofInt (s0))), (3, .int (Int32.ofInt (g0))), (4, .int (Int32.ofInt (a0))), (5, .int (Int32.ofInt (b0)))] := hl
        refine lv_aload_n hx hb dX6_lade_119 rfl (lv_at hl 1 rfl) ?_
        refine va_get (D := G) (ci := 5) (v := .ref (arS 13)) (C := RX6) (T := TX6) (N := 15) (ref := RX6) hx hb hts h1w hown hX.1 hP 0 rfl rfl 13 (by decide) h4w (fun _ h9 => h9) rfl dX6_lade_120 ?_
        refine lv_iload_n hx hb dX6_lade_123 rfl (lv_at hl 2 rfl) ?_
        refine iv_iald hx hb hX.1 hP 8 0 rfl rfl (by omega) (by omega) (by decide) dX6_lade_124 ?_
        refine iv_top (fun z44 ez44 => ?_)
        have rz44 : inR z44 := ez44 ▸ (hRaS 13) _
        have ez44 : z44 = (faS 13) 4 := ez44
        refine lv_iconst (v := Int32.ofInt 2) hx hb dX6_lade_125 (by decide +kernel) ?_
        refine iv_and hx hb dX6_lade_126 ?_
        refine iv_top (fun z45 ez45 => ?_)
        have rz45 : inR z45 := ez45 ▸ bAnd_r _ _
        refine iv_if_eq (tgt := 179) hx hb (by omega) dX6_lade_127 (by decide) (fun q46 => ?_) (fun q46 => ?_)
        · exact W.vret hx hb hr (fun t ht hW => ⟨⟨(g3S_34, g4S_35, g5S_36, g7S_37, g8S_38, g9S_39, g10S_40, g14S_41, n2S_31, n6S_32, n11S_33, g13P_42, g22P_43), rfl, (show (∀ t, inR (g3S_34 t)) ∧ (∀ t, inR (g4S_35 t)) ∧ (∀ t, inR (g5S_36 t)) ∧ (bnd g5S_36 1500 (-1) 1500) ∧ (∀ t, inR (g7S_37 t)) ∧ (bnd g7S_37 1024 (-1) 1500) ∧ (∀ t, inR (g8S_38 t)) ∧ (bnd g8S_38 1500 (-1) 1500) ∧ (∀ t, inR (g9S_39 t)) ∧ (bnd g9S_39 1500 0 1500) ∧ (∀ t, inR (g10S_40 t)) ∧ (bnd g10S_40 1500 0 1500) ∧ (∀ t, inR (g14S_41 t)) ∧ (inR n2S_31) ∧ (inR n6S_32) ∧ (inR n11S_33) ∧ (∀ t, inR (g13P_42 t)) ∧ (∀ t, inR (g22P_43 t)) ∧ (0 ≤ n11S_33 ∧ n11S_33 ≤ n6S_32 ∧ n6S_32 ≤ 1500 ∧ (n2S_31 = 0 ∨ n2S_31 = 1)) from ⟨r_g3S_34, r_g4S_35, r_g5S_36, b_g5S_36, r_g7S_37, b_g7S_37, r_g8S_38, b_g8S_38, r_g9S_39, b_g9S_39, r_g10S_40, b_g10S_40, r_g14S_41, (by omega), (by omega), (by omega), r_g13P_42, r_g22P_43, (by omega)⟩), by rw [ht]; exact hP, hD⟩, hS.F ht⟩) hS.2.2 dX6_lade_179
        · refine lv_iload hx hb dX6_lade_130 (lv_at hl 6 rfl) ?_
          refine lv_iload hx hb dX6_lade_132 (lv_at hl 0 rfl) ?_
          refine iv_add (x := b0) (y := z30) hx hb dX6_lade_134 ?_
          refine iv_wr ?_
          refine iv_top (fun z47 ez47 => ?_)
          have rz47 : inR z47 := ez47 ▸ bWr_r _
          refine lv_aload_n hx hb dX6_lade_135 rfl (lv_at hl 1 rfl) ?_
          refine va_get (D := G) (ci := 5) (v := .ref (arP 99)) (C := RX6) (T := TX6) (N := 15) (ref := RX6) hx hb hts h1w hown hX.1 hP 0 rfl rfl 0 (by decide) h2w (fun _ h9 => h9) rfl dX6_lade_136 ?_
          refine va_getN (D := G) (ci := 2) (v := .int (Int32.ofInt (fiP 2))) (C := RX3) (T := TX3) (N := 14) (ref := RX3) (host := RX9) hx hb hts h3w hown hX.1 hP 10 rfl rfl 2 (by decide) (nf_7 hX.2.2.1) (fun _ h9 => h9) rfl dX6_lade_139 ?_
          have rf2P := hRP 2
          refine iv_icmp_gt (tgt := 179) hx hb (by omega) (by omega) dX6_lade_142 (by decide) (fun q48 => ?_) (fun q48 => ?_)
          · exact W.vret hx hb hr (fun t ht hW => ⟨⟨(g3S_34, g4S_35, g5S_36, g7S_37, g8S_38, g9S_39, g10S_40, g14S_41, n2S_31, n6S_32, n11S_33, g13P_42, g22P_43), rfl, (show (∀ t, inR (g3S_34 t)) ∧ (∀ t, inR (g4S_35 t)) ∧ (∀ t, inR (g5S_36 t)) ∧ (bnd g5S_36 1500 (-1) 1500) ∧ (∀ t, inR (g7S_37 t)) ∧ (bnd g7S_37 1024 (-1) 1500) ∧ (∀ t, inR (g8S_38 t)) ∧ (bnd g8S_38 1500 (-1) 1500) ∧ (∀ t, inR (g9S_39 t)) ∧ (bnd g9S_39 1500 0 1500) ∧ (∀ t, inR (g10S_40 t)) ∧ (bnd g10S_40 1500 0 1500) ∧ (∀ t, inR (g14S_41 t)) ∧ (inR n2S_31) ∧ (inR n6S_32) ∧ (inR n11S_33) ∧ (∀ t, inR (g13P_42 t)) ∧ (∀ t, inR (g22P_43 t)) ∧ (0 ≤ n11S_33 ∧ n11S_33 ≤ n6S_32 ∧ n6S_32 ≤ 1500 ∧ (n2S_31 = 0 ∨ n2S_31 = 1)) from ⟨r_g3S_34, r_g4S_35, r_g5S_36, b_g5S_36, r_g7S_37, b_g7S_37, r_g8S_38, b_g8S_38, r_g9S_39, b_g9S_39, r_g10S_40, b_g10S_40, r_g14S_41, (by omega), (by omega), (by omega), r_g13P_42, r_g22P_43, (by omega)⟩), by rw [ht]; exact hP, hD⟩, hS.F ht⟩) hS.2.2 dX6_lade_179
          · refine lv_iload_n hx hb dX6_lade_145 rfl (lv_at hl 3 rfl) ?_
            refine lv_iload_n hx hb dX6_lade_146 rfl (lv_at hl 2 rfl) ?_
            refine lv_bipush (v := Int32.ofInt 13) hx hb dX6_lade_147 (by decide +kernel) ?_
            refine c0_i (va_runSN (As := [.int (Int32.ofInt (s0)), .int (Int32.ofInt (4)), .int (Int32.ofInt (13))]) (rest := []) ⟨hx, hb, hml, hown, hts⟩ (mX7_put l G k s0 4 13 H.size (by omega) (by omega) (by omega)) ⟨va_cnB 3 hts (gz [] (.code yX7_put cX7_put 3 (some .int)) [(5, 14)] rfl) rfl rfl rfl (nm_51 hX.2.2.1) h5w (by decide +kernel) ⟨Nat.le_of_ble_eq_true rfl, Nat.le_of_ble_eq_true rfl⟩, h6w, trivial⟩ (cr_pre0 (EZ_ok k) hZ hS hX hP hD hA) rfl rfl hl.1 rfl (lv_room (Nat.le_of_ble_eq_true rfl)) dX6_lade_149 ⟨Nat.le_of_ble_eq_true rfl, Nat.le_of_ble_eq_true rfl⟩) hP hD hS hA (fun r u H locs hp hP hD hS => ?_)
            obtain ⟨c49, rfl⟩ : ∃ z, z = u := ⟨_, rfl⟩
            obtain ⟨h9, rc49, hp49⟩ : r = Int32.ofInt c49 ∧ (inR c49) ∧ (c49 = putS s0 4 13) := hp
            subst h9
            have hPu149 := hp49
            refine lv_istore (lv' := [(7, .int (Int32.ofInt (c49))), (6, .int (Int32.ofInt (z30))), (0, .ref (arS 99)), (1, .int (Int32.ofInt (4))), (2, .int (Int32.ofInt (s0))), (3, .int (Int32.ofInt (g0))), (4, .int (Int32.ofInt (a0))), (5, .int (Int32.ofInt (b0)))]) hx hb dX6_lade_152 hl (by decide) rfl (fun ls hl => ?_)
            refine lv_aload_n hx hb dX6_lade_154 rfl (lv_at hl 2 rfl) ?_
            refine lv_iload_n hx hb dX6_lade_155 rfl (lv_at hl 3 rfl) ?_
            refine lv_iconst (v := Int32.ofInt 1) hx hb dX6_lade_156 (by decide +kernel) ?_
            refine iv_add (x := 4) (y := 1) hx hb dX6_lade_157 ?_
            refine iv_is (z := 5) (by decide) ?_
            refine lv_iload hx hb dX6_lade_158 (lv_at hl 0 rfl) ?_
            refine lv_iload_n hx hb dX6_lade_160 rfl (lv_at hl 5 rfl) ?_
            refine lv_iconst (v := Int32.ofInt 2) hx hb dX6_lade_161 (by decide +kernel) ?_
            refine va_gets (C := "RopeTown$Search") (n := "POWERS") (d := "[I") (ref := "RopeTown$Search") (v := .ref (k 300)) hx hb (ez_pow hZ) hS hown h7w (fun _ h9 => h9) dX6_lade_162 ?_
            refine lv_iload_n hx hb dX6_lade_165 rfl (lv_at hl 3 rfl) ?_
            refine va_ti (v := .int (Int32.ofInt 81)) hx hb (ez_powT hZ) hS (iz_in (by omega) (by omega) (by decide)) (by decide +kernel) dX6_lade_166 ?_
            refine iv_mul (x := 2) (y := 81) hx hb dX6_lade_167 ?_
            refine iv_is (z := 162) (by decide) ?_
            refine iv_add (x := g0) (y := 162) hx hb dX6_lade_168 ?_
            refine lv_iload hx hb dX6_lade_169 (lv_at hl 6 rfl) ?_
            refine lv_iload hx hb dX6_lade_171 (lv_at hl 7 rfl) ?_
            refine lv_iload hx hb dX6_lade_173 (lv_at hl 1 rfl) ?_
            refine iv_add (x := b0) (y := z30) hx hb dX6_lade_175 ?_
            refine iv_wr ?_
            refine iv_top (fun z50 ez50 => ?_)
            have rz50 : inR z50 := ez50 ▸ bWr_r _
            refine cr_v (va_runV (As := [.int (Int32.ofInt (5)), .int (Int32.ofInt (c49)), .int (Int32.ofInt ((g0 + 162))), .int (Int32.ofInt (a0)), .int (Int32.ofInt (z50))]) (rest := []) ⟨hx, hb, hml, hown, hts⟩ (mX6_lade_5 l G k arS (uF (uF (uF fiS 2 (n2S_31)) 6 (n6S_32)) 11 (n11S_33)) (uF (uF (uF (uF (uF (uF (uF (uF faS 3 (g3S_34)) 4 (g4S_35)) 5 (g5S_36)) 7 (g7S_37)) 8 (g8S_38)) 9 (g9S_39)) 10 (g10S_40)) 14 (g14S_41)) arP fiP (uF (uF faP 13 (g13P_42)) 22 (g22P_43)) c49 (g0 + 162) a0 z50 H.size (iF (iF (iF hRS (by omega)) (by omega)) (by omega)) (iG (iG (iG (iG (iG (iG (iG (iG hRaS r_g3S_34) r_g4S_35) r_g5S_36) r_g7S_37) r_g8S_38) r_g9S_39) r_g10S_40) r_g14S_41) b_g5S_36 b_g7S_37 b_g8S_38 b_g9S_39 b_g10S_40 hRP (iG (iG hRaP r_g13P_42) r_g22P_43) hB8P hB20P hB21P (by omega) (by omega) (by omega) (by omega) (show 0 ≤ n11S_33 ∧ n11S_33 ≤ n6S_32 ∧ n6S_32 ≤ 1500 ∧ -1 ≤ (fiS 12) ∧ (fiS 12) < 1500 from by omega) (show n2S_31 = 0 ∨ n2S_31 = 1 from by omega) (show 0 ≤ (fiP 7) ∧ (fiP 7) ≤ 7 from by omega) (show 0 ≤ (fiP 0) ∧ (fiP 0) ≤ 11 from by omega) (show 0 ≤ (fiP 24) ∧ (fiP 24) ≤ 4 from by omega) (show ∀ q9, 0 ≤ q9 → q9 < (fiP 24) → RWf (dcf ((faP 20))) (stq ((faP 21)) q9) ((faP 21) q9) from by first | exact hRC | omega) (show 0 ≤ (g0 + 162) ∧ (g0 + 162) < 243 from by omega)) (cwV 5 hts (gz [.methodLink RX6 78 yX6_lade, .instanceMethod yX6_lade, .selects RX6 yX6_lade yX6_lade, .initialized RX6] (.code yX6_lade cX6_lade 8 none) [(34, 15), (34, 16), (34, 17), (1, 10), (34, 18)] rfl) rfl rfl rfl (by decide +kernel) ⟨Nat.le_of_ble_eq_true rfl, Nat.le_of_ble_eq_true rfl⟩) (cr_preV (EZ_ok k) hZ hS hX hP hD hA (ci := 5) (q0 := 0) rfl rfl) rfl rfl hl.1 rfl (lv_room (Nat.le_of_ble_eq_true rfl)) dX6_lade_176 ⟨Nat.le_of_ble_eq_true rfl, Nat.le_of_ble_eq_true rfl⟩) hD hS hA (fun u H locs hp hP hD hS => ?_)
            obtain ⟨c51, c52, c53, c54, c55, c56, c57, c58, c59, c60, c61, c62, c63⟩ := u
            obtain ⟨hP, hD⟩ : va_P G vwCl ((wS k arS (arP 99) (uF (uF (uF fiS 2 (c59)) 6 (c60)) 11 (c61)) (uF (uF (uF (uF (uF (uF (uF (uF faS 3 (c51)) 4 (c52)) 5 (c53)) 7 (c54)) 8 (c55)) 9 (c56)) 10 (c57)) 14 (c58))) ++ (wP k arP fiP (uF (uF faP 13 (c62)) 22 (c63)))) H ∧ va_D A ((wS k arS (arP 99) (uF (uF (uF fiS 2 (c59)) 6 (c60)) 11 (c61)) (uF (uF (uF (uF (uF (uF (uF (uF faS 3 (c51)) 4 (c52)) 5 (c53)) 7 (c54)) 8 (c55)) 9 (c56)) 10 (c57)) 14 (c58))) ++ (wP k arP fiP (uF (uF faP 13 (c62)) 22 (c63)))) := ⟨hP, hD⟩
            obtain ⟨rc51, rc52, rc53, bc53, rc54, bc54, rc55, bc55, rc56, bc56, rc57, bc57, rc58, rc59, rc60, rc61, rc62, rc63, hp63⟩ : (∀ t, inR (c51 t)) ∧ (∀ t, inR (c52 t)) ∧ (∀ t, inR (c53 t)) ∧ (bnd c53 1500 (-1) 1500) ∧ (∀ t, inR (c54 t)) ∧ (bnd c54 1024 (-1) 1500) ∧ (∀ t, inR (c55 t)) ∧ (bnd c55 1500 (-1) 1500) ∧ (∀ t, inR (c56 t)) ∧ (bnd c56 1500 0 1500) ∧ (∀ t, inR (c57 t)) ∧ (bnd c57 1500 0 1500) ∧ (∀ t, inR (c58 t)) ∧ (inR c59) ∧ (inR c60) ∧ (inR c61) ∧ (∀ t, inR (c62 t)) ∧ (∀ t, inR (c63 t)) ∧ (0 ≤ c61 ∧ c61 ≤ c60 ∧ c60 ≤ 1500 ∧ (c59 = 0 ∨ c59 = 1)) := hp
            exact W.vret hx hb hr (fun t ht hW => ⟨⟨(c51, c52, c53, c54, c55, c56, c57, c58, c59, c60, c61, c62, c63), rfl, (show (∀ t, inR (c51 t)) ∧ (∀ t, inR (c52 t)) ∧ (∀ t, inR (c53 t)) ∧ (bnd c53 1500 (-1) 1500) ∧ (∀ t, inR (c54 t)) ∧ (bnd c54 1024 (-1) 1500) ∧ (∀ t, inR (c55 t)) ∧ (bnd c55 1500 (-1) 1500) ∧ (∀ t, inR (c56 t)) ∧ (bnd c56 1500 0 1500) ∧ (∀ t, inR (c57 t)) ∧ (bnd c57 1500 0 1500) ∧ (∀ t, inR (c58 t)) ∧ (inR c59) ∧ (inR c60) ∧ (inR c61) ∧ (∀ t, inR (c62 t)) ∧ (∀ t, inR (c63 t)) ∧ (0 ≤ c61 ∧ c61 ≤ c60 ∧ c60 ≤ 1500 ∧ (c59 = 0 ∨ c59 = 1)) from ⟨rc51, rc52, rc53, bc53, rc54, bc54, rc55, bc55, rc56, bc56, rc57, bc57, rc58, (by omega), (by omega), (by omega), rc62, rc63, (by omega)⟩), by rw [ht]; exact hP, hD⟩, hS.F ht⟩) hS.2.2 dX6_lade_179
      · refine lv_aload_n hx hb dX6_lade_61 rfl (lv_at hl 1 rfl) ?_
        refine va_get (D := G) (ci := 5) (v := .ref (arS 13)) (C := RX6) (T := TX6) (N := 15) (ref := RX6) hx hb hts h1w hown hX.1 hP 0 rfl rfl 13 (by decide) h4w (fun _ h9 => h9) rfl dX6_lade_62 ?_
        refine lv_iload_n hx hb dX6_lade_65 rfl (lv_at hl 2 rfl) ?_
        refine iv_iald hx hb hX.1 hP 8 0 rfl rfl (by omega) (by omega) (by decide) dX6_lade_66 ?_
        refine iv_top (fun z64 ez64 => ?_)
        have rz64 : inR z64 := ez64 ▸ (hRaS 13) _
        have ez64 : z64 = (faS 13) 4 := ez64
        refine lv_iconst (v := Int32.ofInt 1) hx hb dX6_lade_67 (by decide +kernel) ?_
        refine iv_and hx hb dX6_lade_68 ?_
        refine iv_top (fun z65 ez65 => ?_)
        have rz65 : inR z65 := ez65 ▸ bAnd_r _ _
        refine iv_if_eq (tgt := 119) hx hb (by omega) dX6_lade_69 (by decide) (fun q66 => ?_) (fun q66 => ?_)
        · have hl : lv_has ls 8 [(6, .int (Int32.ofInt (z30))), (0, .ref (arS 99)), (1, .int (Int32.ofInt (4))), (2, .int (Int32.ofInt (s0))), (3, .int (Int32.ofInt (g0))), (4, .int (Int32.ofInt (a0))), (5, .int (Int32.ofInt (b0)))] := lv_sub hl [0, 1, 2, 3, 4, 5, 6] rfl
          exact J119 (c25, c26, c27, c17, c18, c19, c20, c21, c22, c23, c24, c28, c29) (show inR c25 ∧ inR c26 ∧ inR c27 ∧ (∀ t, inR (c17 t)) ∧ (∀ t, inR (c18 t)) ∧ (∀ t, inR (c19 t)) ∧ (∀ t, inR (c20 t)) ∧ (∀ t, inR (c21 t)) ∧ (∀ t, inR (c22 t)) ∧ (∀ t, inR (c23 t)) ∧ (∀ t, inR (c24 t)) ∧ (∀ t, inR (c28 t)) ∧ (∀ t, inR (c29 t)) ∧ (bnd c19 1500 (-1) 1500) ∧ (bnd c20 1024 (-1) 1500) ∧ (bnd c21 1500 (-1) 1500) ∧ (bnd c22 1500 0 1500) ∧ (bnd c23 1500 0 1500) ∧ (0 ≤ c27 ∧ c27 ≤ c26 ∧ c26 ≤ 1500 ∧ (c25 = 0 ∨ c25 = 1)) from ⟨(by omega), (by omega), (by omega), rc17, rc18, rc19, rc20, rc21, rc22, rc23, rc24, rc28, rc29, bc19, bc20, bc21, bc22, bc23, (by omega)⟩) _ _ _ hP hD hS hl
        · refine lv_iload hx hb dX6_lade_72 (lv_at hl 5 rfl) ?_
          refine lv_iload hx hb dX6_lade_74 (lv_at hl 0 rfl) ?_
          refine iv_add (x := a0) (y := z30) hx hb dX6_lade_76 ?_
          refine iv_wr ?_
          refine iv_top (fun z67 ez67 => ?_)
          have rz67 : inR z67 := ez67 ▸ bWr_r _
          refine lv_aload_n hx hb dX6_lade_77 rfl (lv_at hl 1 rfl) ?_
          refine va_get (D := G) (ci := 5) (v := .ref (arP 99)) (C := RX6) (T := TX6) (N := 15) (ref := RX6) hx hb hts h1w hown hX.1 hP 0 rfl rfl 0 (by decide) h2w (fun _ h9 => h9) rfl dX6_lade_78 ?_
          refine va_getN (D := G) (ci := 2) (v := .int (Int32.ofInt (fiP 2))) (C := RX3) (T := TX3) (N := 14) (ref := RX3) (host := RX9) hx hb hts h3w hown hX.1 hP 10 rfl rfl 2 (by decide) (nf_7 hX.2.2.1) (fun _ h9 => h9) rfl dX6_lade_81 ?_
          have rf2P := hRP 2
          refine iv_icmp_gt (tgt := 119) hx hb (by omega) (by omega) dX6_lade_84 (by decide) (fun q68 => ?_) (fun q68 => ?_)
          · have hl : lv_has ls 8 [(6, .int (Int32.ofInt (z30))), (0, .ref (arS 99)), (1, .int (Int32.ofInt (4))), (2, .int (Int32.ofInt (s0))), (3, .int (Int32.ofInt (g0))), (4, .int (Int32.ofInt (a0))), (5, .int (Int32.ofInt (b0)))] := lv_sub hl [0, 1, 2, 3, 4, 5, 6] rfl
            exact J119 (c25, c26, c27, c17, c18, c19, c20, c21, c22, c23, c24, c28, c29) (show inR c25 ∧ inR c26 ∧ inR c27 ∧ (∀ t, inR (c17 t)) ∧ (∀ t, inR (c18 t)) ∧ (∀ t, inR (c19 t)) ∧ (∀ t, inR (c20 t)) ∧ (∀ t, inR (c21 t)) ∧ (∀ t, inR (c22 t)) ∧ (∀ t, inR (c23 t)) ∧ (∀ t, inR (c24 t)) ∧ (∀ t, inR (c28 t)) ∧ (∀ t, inR (c29 t)) ∧ (bnd c19 1500 (-1) 1500) ∧ (bnd c20 1024 (-1) 1500) ∧ (bnd c21 1500 (-1) 1500) ∧ (bnd c22 1500 0 1500) ∧ (bnd c23 1500 0 1500) ∧ (0 ≤ c27 ∧ c27 ≤ c26 ∧ c26 ≤ 1500 ∧ (c25 = 0 ∨ c25 = 1)) from ⟨(by omega), (by omega), (by omega), rc17, rc18, rc19, rc20, rc21, rc22, rc23, rc24, rc28, rc29, bc19, bc20, bc21, bc22, bc23, (by omega)⟩) _ _ _ hP hD hS hl
          · refine lv_iload_n hx hb dX6_lade_87 rfl (lv_at hl 3 rfl) ?_
            refine lv_iload_n hx hb dX6_lade_88 rfl (lv_at hl 2 rfl) ?_
            refine lv_bipush (v := Int32.ofInt 12) hx hb dX6_lade_89 (by decide +kernel) ?_
            refine c0_i (va_runSN (As := [.int (Int32.ofInt (s0)), .int (Int32.ofInt (4)), .int (Int32.ofInt (12))]) (rest := []) ⟨hx, hb, hml, hown, hts⟩ (mX7_put l G k s0 4 12 H.size (by omega) (by omega) (by omega)) ⟨va_cnB 3 hts (gz [] (.code yX7_put cX7_put 3 (some .int)) [(5, 14)] rfl) rfl rfl rfl (nm_51 hX.2.2.1) h5w (by decide +kernel) ⟨Nat.le_of_ble_eq_true rfl, Nat.le_of_ble_eq_true rfl⟩, h6w, trivial⟩ (cr_pre0 (EZ_ok k) hZ hS hX hP hD hA) rfl rfl hl.1 rfl (lv_room (Nat.le_of_ble_eq_true rfl)) dX6_lade_91 ⟨Nat.le_of_ble_eq_true rfl, Nat.le_of_ble_eq_true rfl⟩) hP hD hS hA (fun r u H locs hp hP hD hS => ?_)
            obtain ⟨c69, rfl⟩ : ∃ z, z = u := ⟨_, rfl⟩
            obtain ⟨h9, rc69, hp69⟩ : r = Int32.ofInt c69 ∧ (inR c69) ∧ (c69 = putS s0 4 12) := hp
            subst h9
            have hPu91 := hp69
            refine lv_istore (lv' := [(7, .int (Int32.ofInt (c69))), (6, .int (Int32.ofInt (z30))), (0, .ref (arS 99)), (1, .int (Int32.ofInt (4))), (2, .int (Int32.ofInt (s0))), (3, .int (Int32.ofInt (g0))), (4, .int (Int32.ofInt (a0))), (5, .int (Int32.ofInt (b0)))]) hx hb dX6_lade_94 hl (by decide) rfl (fun ls hl => ?_)
            refine lv_aload_n hx hb dX6_lade_96 rfl (lv_at hl 2 rfl) ?_
            refine lv_iload_n hx hb dX6_lade_97 rfl (lv_at hl 3 rfl) ?_
            refine lv_iconst (v := Int32.ofInt 1) hx hb dX6_lade_98 (by decide +kernel) ?_
            refine iv_add (x := 4) (y := 1) hx hb dX6_lade_99 ?_
            refine iv_is (z := 5) (by decide) ?_
            refine lv_iload hx hb dX6_lade_100 (lv_at hl 0 rfl) ?_
            refine lv_iload_n hx hb dX6_lade_102 rfl (lv_at hl 5 rfl) ?_
            refine va_gets (C := "RopeTown$Search") (n := "POWERS") (d := "[I") (ref := "RopeTown$Search") (v := .ref (k 300)) hx hb (ez_pow hZ) hS hown h7w (fun _ h9 => h9) dX6_lade_103 ?_
            refine lv_iload_n hx hb dX6_lade_106 rfl (lv_at hl 3 rfl) ?_
            refine va_ti (v := .int (Int32.ofInt 81)) hx hb (ez_powT hZ) hS (iz_in (by omega) (by omega) (by decide)) (by decide +kernel) dX6_lade_107 ?_
            refine iv_add (x := g0) (y := 81) hx hb dX6_lade_108 ?_
            refine lv_iload hx hb dX6_lade_109 (lv_at hl 6 rfl) ?_
            refine lv_iload hx hb dX6_lade_111 (lv_at hl 1 rfl) ?_
            refine iv_add (x := a0) (y := z30) hx hb dX6_lade_113 ?_
            refine iv_wr ?_
            refine iv_top (fun z70 ez70 => ?_)
            have rz70 : inR z70 := ez70 ▸ bWr_r _
            refine lv_iload hx hb dX6_lade_114 (lv_at hl 7 rfl) ?_
            refine cr_v (va_runV (As := [.int (Int32.ofInt (5)), .int (Int32.ofInt (c69)), .int (Int32.ofInt ((g0 + 81))), .int (Int32.ofInt (z70)), .int (Int32.ofInt (b0))]) (rest := []) ⟨hx, hb, hml, hown, hts⟩ (mX6_lade_5 l G k arS (uF (uF (uF fiS 2 (c25)) 6 (c26)) 11 (c27)) (uF (uF (uF (uF (uF (uF (uF (uF faS 3 (c17)) 4 (c18)) 5 (c19)) 7 (c20)) 8 (c21)) 9 (c22)) 10 (c23)) 14 (c24)) arP fiP (uF (uF faP 13 (c28)) 22 (c29)) c69 (g0 + 81) z70 b0 H.size (iF (iF (iF hRS (by omega)) (by omega)) (by omega)) (iG (iG (iG (iG (iG (iG (iG (iG hRaS rc17) rc18) rc19) rc20) rc21) rc22) rc23) rc24) bc19 bc20 bc21 bc22 bc23 hRP (iG (iG hRaP rc28) rc29) hB8P hB20P hB21P (by omega) (by omega) (by omega) (by omega) (show 0 ≤ c27 ∧ c27 ≤ c26 ∧ c26 ≤ 1500 ∧ -1 ≤ (fiS 12) ∧ (fiS 12) < 1500 from by omega) (show c25 = 0 ∨ c25 = 1 from by omega) (show 0 ≤ (fiP 7) ∧ (fiP 7) ≤ 7 from by omega) (show 0 ≤ (fiP 0) ∧ (fiP 0) ≤ 11 from by omega) (show 0 ≤ (fiP 24) ∧ (fiP 24) ≤ 4 from by omega) (show ∀ q9, 0 ≤ q9 → q9 < (fiP 24) → RWf (dcf ((faP 20))) (stq ((faP 21)) q9) ((faP 21) q9) from by first | exact hRC | omega) (show 0 ≤ (g0 + 81) ∧ (g0 + 81) < 243 from by omega)) (cwV 5 hts (gz [.methodLink RX6 78 yX6_lade, .instanceMethod yX6_lade, .selects RX6 yX6_lade yX6_lade, .initialized RX6] (.code yX6_lade cX6_lade 8 none) [(34, 15), (34, 16), (34, 17), (1, 10), (34, 18)] rfl) rfl rfl rfl (by decide +kernel) ⟨Nat.le_of_ble_eq_true rfl, Nat.le_of_ble_eq_true rfl⟩) (cr_preV (EZ_ok k) hZ hS hX hP hD hA (ci := 5) (q0 := 0) rfl rfl) rfl rfl hl.1 rfl (lv_room (Nat.le_of_ble_eq_true rfl)) dX6_lade_116 ⟨Nat.le_of_ble_eq_true rfl, Nat.le_of_ble_eq_true rfl⟩) hD hS hA (fun u H locs hp hP hD hS => ?_)
            obtain ⟨c71, c72, c73, c74, c75, c76, c77, c78, c79, c80, c81, c82, c83⟩ := u
            obtain ⟨hP, hD⟩ : va_P G vwCl ((wS k arS (arP 99) (uF (uF (uF fiS 2 (c79)) 6 (c80)) 11 (c81)) (uF (uF (uF (uF (uF (uF (uF (uF faS 3 (c71)) 4 (c72)) 5 (c73)) 7 (c74)) 8 (c75)) 9 (c76)) 10 (c77)) 14 (c78))) ++ (wP k arP fiP (uF (uF faP 13 (c82)) 22 (c83)))) H ∧ va_D A ((wS k arS (arP 99) (uF (uF (uF fiS 2 (c79)) 6 (c80)) 11 (c81)) (uF (uF (uF (uF (uF (uF (uF (uF faS 3 (c71)) 4 (c72)) 5 (c73)) 7 (c74)) 8 (c75)) 9 (c76)) 10 (c77)) 14 (c78))) ++ (wP k arP fiP (uF (uF faP 13 (c82)) 22 (c83)))) := ⟨hP, hD⟩
            obtain ⟨rc71, rc72, rc73, bc73, rc74, bc74, rc75, bc75, rc76, bc76, rc77, bc77, rc78, rc79, rc80, rc81, rc82, rc83, hp83⟩ : (∀ t, inR (c71 t)) ∧ (∀ t, inR (c72 t)) ∧ (∀ t, inR (c73 t)) ∧ (bnd c73 1500 (-1) 1500) ∧ (∀ t, inR (c74 t)) ∧ (bnd c74 1024 (-1) 1500) ∧ (∀ t, inR (c75 t)) ∧ (bnd c75 1500 (-1) 1500) ∧ (∀ t, inR (c76 t)) ∧ (bnd c76 1500 0 1500) ∧ (∀ t, inR (c77 t)) ∧ (bnd c77 1500 0 1500) ∧ (∀ t, inR (c78 t)) ∧ (inR c79) ∧ (inR c80) ∧ (inR c81) ∧ (∀ t, inR (c82 t)) ∧ (∀ t, inR (c83 t)) ∧ (0 ≤ c81 ∧ c81 ≤ c80 ∧ c80 ≤ 1500 ∧ (c79 = 0 ∨ c79 = 1)) := hp
            have hl : lv_has ls 8 [(6, .int (Int32.ofInt (z30))), (0, .ref (arS 99)), (1, .int (Int32.ofInt (4))), (2, .int (Int32.ofInt (s0))), (3, .int (Int32.ofInt (g0))), (4, .int (Int32.ofInt (a0))), (5, .int (Int32.ofInt (b0)))] := lv_sub hl [1, 2, 3, 4, 5, 6, 7] rfl
            exact J119 (c79, c80, c81, c71, c72, c73, c74, c75, c76, c77, c78, c82, c83) (show inR c79 ∧ inR c80 ∧ inR c81 ∧ (∀ t, inR (c71 t)) ∧ (∀ t, inR (c72 t)) ∧ (∀ t, inR (c73 t)) ∧ (∀ t, inR (c74 t)) ∧ (∀ t, inR (c75 t)) ∧ (∀ t, inR (c76 t)) ∧ (∀ t, inR (c77 t)) ∧ (∀ t, inR (c78 t)) ∧ (∀ t, inR (c82 t)) ∧ (∀ t, inR (c83 t)) ∧ (bnd c73 1500 (-1) 1500) ∧ (bnd c74 1024 (-1) 1500) ∧ (bnd c75 1500 (-1) 1500) ∧ (bnd c76 1500 0 1500) ∧ (bnd c77 1500 0 1500) ∧ (0 ≤ c81 ∧ c81 ≤ c80 ∧ c80 ≤ 1500 ∧ (c79 = 0 ∨ c79 = 1)) from ⟨(by omega), (by omega), (by omega), rc71, rc72, rc73, rc74, rc75, rc76, rc77, rc78, rc82, rc83, bc73, bc74, bc75, bc76, bc77, (by omega)⟩) _ _ _ hP hD hS hl
  · exact W.vret hx hb hr (fun t ht hW => ⟨⟨(faS 3, faS 4, faS 5, faS 7, faS 8, faS 9, faS 10, faS 14, fiS 2, fiS 6, fiS 11, faP 13, faP 22), rfl, (show (∀ t, inR ((faS 3) t)) ∧ (∀ t, inR ((faS 4) t)) ∧ (∀ t, inR ((faS 5) t)) ∧ (bnd (faS 5) 1500 (-1) 1500) ∧ (∀ t, inR ((faS 7) t)) ∧ (bnd (faS 7) 1024 (-1) 1500) ∧ (∀ t, inR ((faS 8) t)) ∧ (bnd (faS 8) 1500 (-1) 1500) ∧ (∀ t, inR ((faS 9) t)) ∧ (bnd (faS 9) 1500 0 1500) ∧ (∀ t, inR ((faS 10) t)) ∧ (bnd (faS 10) 1500 0 1500) ∧ (∀ t, inR ((faS 14) t)) ∧ (inR (fiS 2)) ∧ (inR (fiS 6)) ∧ (inR (fiS 11)) ∧ (∀ t, inR ((faP 13) t)) ∧ (∀ t, inR ((faP 22) t)) ∧ (0 ≤ (fiS 11) ∧ (fiS 11) ≤ (fiS 6) ∧ (fiS 6) ≤ 1500 ∧ ((fiS 2) = 0 ∨ (fiS 2) = 1)) from ⟨(hRaS 3), (hRaS 4), (hRaS 5), hB5S, (hRaS 7), hB7S, (hRaS 8), hB8S, (hRaS 9), hB9S, (hRaS 10), hB10S, (hRaS 14), (hRS 2), (hRS 6), (hRS 11), (hRaP 13), (hRaP 22), (by omega)⟩), by rw [ht]; exact hP, hD⟩, hS.F ht⟩) hS.2.2 dX6_lade_7

