set_option maxHeartbeats 4000000 in
set_option maxRecDepth 100000 in
theorem mX6_depart (l : Launch) (G : va_G) (k : Nat → ClassId) (arS : Nat → Nat) (fiS : Nat → Int) (faS : Nat → Int → Int) (arP : Nat → Nat) (fiP : Nat → Int) (faP : Nat → Int → Int) (s0 : Int) (g0 : Int) (l0 : Int) (sz : Nat) (hRS : ∀ j, inR (fiS j)) (hRaS : ∀ j t, inR (faS j t)) (hB5S : bnd (faS 5) 1500 (-1) 1500) (hB7S : bnd (faS 7) 1024 (-1) 1500) (hB8S : bnd (faS 8) 1500 (-1) 1500) (hB9S : bnd (faS 9) 1500 0 1500) (hB10S : bnd (faS 10) 1500 0 1500) (hRP : ∀ j, inR (fiP j)) (hRaP : ∀ j t, inR (faP j t)) (hB8P : bnd (faP 8) 7 0 4) (hB20P : bnd (faP 20) 600 (-1000) 10000) (hB21P : bnd (faP 21) 4 0 601) (hr_s0 : inR s0) (hr_g0 : inR g0) (hr_l0 : inR l0) (hsq : 0 ≤ fiS 11 ∧ fiS 11 ≤ fiS 6 ∧ fiS 6 ≤ 1500 ∧ -1 ≤ fiS 12 ∧ fiS 12 < 1500) (hsp : fiS 2 = 0 ∨ fiS 2 = 1) (hth : 0 ≤ fiP 7 ∧ fiP 7 ≤ 7) (hbt : 0 ≤ fiP 0 ∧ fiP 0 ≤ 11) (hsz : 0 ≤ fiP 24 ∧ fiP 24 ≤ 4) (hRC : ∀ q9, 0 ≤ q9 → q9 < fiP 24 → RWf (dcf (faP 20)) (stq (faP 21) q9) (faP 21 q9)) (hg : 0 ≤ g0 ∧ g0 ≤ 2186) : CNv l G k (EZ k) yX6_depart wzX6_depart ({ frames := 3, cells := 0, slots := 0, locals := 76 }) [.ref (arS 99), .int (Int32.ofInt (s0)), .int (Int32.ofInt (g0)), .int (Int32.ofInt (l0))] sz ((wS k arS (arP 99) fiS faS) ++ (wP k arP fiP faP)) (fun (u : (Int → Int) × (Int → Int) × (Int → Int) × (Int → Int) × (Int → Int) × (Int → Int) × (Int → Int) × (Int → Int) × Int × Int × Int × (Int → Int) × (Int → Int)) => (∀ t, inR (u.1 t)) ∧ (∀ t, inR (u.2.1 t)) ∧ (∀ t, inR (u.2.2.1 t)) ∧ (bnd u.2.2.1 1500 (-1) 1500) ∧ (∀ t, inR (u.2.2.2.1 t)) ∧ (bnd u.2.2.2.1 1024 (-1) 1500) ∧ (∀ t, inR (u.2.2.2.2.1 t)) ∧ (bnd u.2.2.2.2.1 1500 (-1) 1500) ∧ (∀ t, inR (u.2.2.2.2.2.1 t)) ∧ (bnd u.2.2.2.2.2.1 1500 0 1500) ∧ (∀ t, inR (u.2.2.2.2.2.2.1 t)) ∧ (bnd u.2.2.2.2.2.2.1 1500 0 1500) ∧ (∀ t, inR (u.2.2.2.2.2.2.2.1 t)) ∧ (inR u.2.2.2.2.2.2.2.2.1) ∧ (inR u.2.2.2.2.2.2.2.2.2.1) ∧ (inR u.2.2.2.2.2.2.2.2.2.2.1) ∧ (∀ t, inR (u.2.2.2.2.2.2.2.2.2.2.2.1 t)) ∧ (∀ t, inR (u.2.2.2.2.2.2.2.2.2.2.2.2 t)) ∧ (0 ≤ u.2.2.2.2.2.2.2.2.2.2.1 ∧ u.2.2.2.2.2.2.2.2.2.2.1 ≤ u.2.2.2.2.2.2.2.2.2.1 ∧ u.2.2.2.2.2.2.2.2.2.1 ≤ 1500 ∧ (u.2.2.2.2.2.2.2.2.1 = 0 ∨ u.2.2.2.2.2.2.2.2.1 = 1))) (fun (u : (Int → Int) × (Int → Int) × (Int → Int) × (Int → Int) × (Int → Int) × (Int → Int) × (Int → Int) × (Int → Int) × Int × Int × Int × (Int → Int) × (Int → Int)) => ((wS k arS (arP 99) (uF (uF (uF fiS 2 (u.2.2.2.2.2.2.2.2.1)) 6 (u.2.2.2.2.2.2.2.2.2.1)) 11 (u.2.2.2.2.2.2.2.2.2.2.1)) (uF (uF (uF (uF (uF (uF (uF (uF faS 3 (u.1)) 4 (u.2.1)) 5 (u.2.2.1)) 7 (u.2.2.2.1)) 8 (u.2.2.2.2.1)) 9 (u.2.2.2.2.2.1)) 10 (u.2.2.2.2.2.2.1)) 14 (u.2.2.2.2.2.2.2.1))) ++ (wP k arP fiP (uF (uF faP 13 (u.2.2.2.2.2.2.2.2.2.2.2.1)) 22 (u.2.2.2.2.2.2.2.2.2.2.2.2))))) := by
  refine Met.ofW (cc := cX6_depart) (maxL := 8) (ret := none) (by decide) rfl ?_
  intro p e s m args below meth c s₁ B hml hv
  obtain ⟨rfl, hsz, hP, hX, hD0, hZ0⟩ := hv
  have hx := B.exec
  have hb := B.bytes
  have hr := B.returns
  have hts := atoms_spec (ws := wzX6_depart) B.pre
  have hown : s.vm.findClass RX6 = some m.cls := findClass_of_methodNamed B.named
  subst hsz
  have hD := hD0.self (sz := s.heap.size)
  have hZ := hZ0
  generalize hAe : va_A ((wS k arS (arP 99) fiS faS) ++ (wP k arP fiP faP)) s.heap.size = A at hD hZ ⊢
  have hA : ∀ q : Nat, s.heap.size ≤ q → A q := fun q h => by rw [← hAe]; exact Or.inr h
  have hS : va_S A s.heap s.heap [] := va_S.rf
  have hl := lv_entry ([.ref (arS 99), .int (Int32.ofInt (s0)), .int (Int32.ofInt (g0)), .int (Int32.ofInt (l0))]) (n := 8) (Nat.le_of_ble_eq_true rfl)
  rw [lg_entry_eq]
  generalize (lg_sl ([.ref (arS 99), .int (Int32.ofInt (s0)), .int (Int32.ofInt (g0)), .int (Int32.ofInt (l0))]) ++ List.replicate (8 - (lg_sl ([.ref (arS 99), .int (Int32.ofInt (s0)), .int (Int32.ofInt (g0)), .int (Int32.ofInt (l0))])).length) Slot.unset).toArray = ls at hl ⊢
  have hl : lv_has ls 8 [(0, .ref (arS 99)), (1, .int (Int32.ofInt (s0))), (2, .int (Int32.ofInt (g0))), (3, .int (Int32.ofInt (l0)))] := hl
  obtain ⟨H, eH⟩ : ∃ H, H = s.heap := ⟨_, rfl⟩
  rw [← eH] at hP
  have hS : va_S A s.heap H [] := by rw [eH]; exact hS
  have gW : s.heap = H := eH.symm
  refine iv_heap gW ?_
  have h0w := hts (.initialized RX7) (wz_at 5 10 rfl)
  have h1w := hts (.static yX7_depth) (wz_at 22 12 rfl)
  have h2w := hts (.fieldLink RX6 57 "RopeTown$Search" "verdicts" "[I") (wz_at 5 4 rfl)
  have h3w : ∀ w ∈ wsX60, w ∈ wzX6_depart := fun w h => List.mem_cons_of_mem _ (inlX6 w h)
  have h4w := hts (.fieldLink RX6 9 "RopeTown$Search" "plan" "LRopeTown$Plan;") (wz_at 4 14 rfl)
  have h5w := hts (.initialized RX3) (wz_at 0 19 rfl)
  have h6w := hts (.instanceMethod yX3_brokenRule) (wz_at 25 7 rfl)
  have h7w := hts (.selects RX3 yX3_brokenRule yX3_brokenRule) (wz_at 25 8 rfl)
  refine lv_iload_n hx hb dX6_depart_0 rfl (lv_at hl 2 rfl) ?_
  refine lv_bipush (v := Int32.ofInt 12) hx hb dX6_depart_1 (by decide +kernel) ?_
  refine iv_mul (x := g0) (y := 12) hx hb dX6_depart_3 ?_
  refine lv_iload_n hx hb dX6_depart_4 rfl (lv_at hl 1 rfl) ?_
  refine c0_i (va_runSN (As := [.int (Int32.ofInt (s0))]) (rest := [.int (Int32.ofInt ((g0 * 12)))]) ⟨hx, hb, hml, hown, hts⟩ (mX7_depth l G k s0 H.size (by omega)) ⟨va_cnB 1 hts (gz [] (.code yX7_depth cX7_depth 1 (some .int)) [(22, 13)] rfl) rfl rfl rfl (nm_52 hX.2.2.1) h0w (by decide +kernel) ⟨Nat.le_of_ble_eq_true rfl, Nat.le_of_ble_eq_true rfl⟩, h1w, trivial⟩ (cr_pre0 (EZ_ok k) hZ hS hX hP hD hA) rfl rfl hl.1 rfl (lv_room (Nat.le_of_ble_eq_true rfl)) dX6_depart_5 ⟨Nat.le_of_ble_eq_true rfl, Nat.le_of_ble_eq_true rfl⟩) hP hD hS hA (fun r u H locs hp hP hD hS => ?_)
  obtain ⟨c1, rfl⟩ : ∃ z, z = u := ⟨_, rfl⟩
  obtain ⟨h9, rc1, hp1⟩ : r = Int32.ofInt c1 ∧ (inR c1) ∧ (c1 = dp s0 ∧ 0 ≤ c1 ∧ c1 ≤ 15) := hp
  subst h9
  have hDp5 := hp1.1
  refine iv_add (x := (g0 * 12)) (y := c1) hx hb dX6_depart_8 ?_
  refine lv_istore (lv' := [(4, .int (Int32.ofInt (((g0 * 12) + c1)))), (0, .ref (arS 99)), (1, .int (Int32.ofInt (s0))), (2, .int (Int32.ofInt (g0))), (3, .int (Int32.ofInt (l0)))]) hx hb dX6_depart_9 hl (by decide) rfl (fun ls hl => ?_)
  refine lv_iload hx hb dX6_depart_11 (lv_at hl 0 rfl) ?_
  refine lv_iconst (v := Int32.ofInt 4) hx hb dX6_depart_13 (by decide +kernel) ?_
  refine iv_shr hx hb dX6_depart_14 ?_
  refine iv_top (fun z2 ez2 => ?_)
  have rz2 : inR z2 := ez2 ▸ bShr_r _ _
  have qw : 0 ≤ z2 ∧ 16 * z2 ≤ ((g0 * 12) + c1) := ez2 ▸ bShr4 (by omega) (by omega)
  refine lv_istore (lv' := [(5, .int (Int32.ofInt (z2))), (4, .int (Int32.ofInt (((g0 * 12) + c1)))), (0, .ref (arS 99)), (1, .int (Int32.ofInt (s0))), (2, .int (Int32.ofInt (g0))), (3, .int (Int32.ofInt (l0)))]) hx hb dX6_depart_15 hl (by decide) rfl (fun ls hl => ?_)
  refine lv_iconst (v := Int32.ofInt 2) hx hb dX6_depart_17 (by decide +kernel) ?_
  refine lv_iload hx hb dX6_depart_18 (lv_at hl 1 rfl) ?_
  refine lv_bipush (v := Int32.ofInt 15) hx hb dX6_depart_20 (by decide +kernel) ?_
  refine iv_and hx hb dX6_depart_22 ?_
  refine iv_top (fun z3 ez3 => ?_)
  have rz3 : inR z3 := ez3 ▸ bAnd_r _ _
  have qa : 0 ≤ z3 ∧ z3 ≤ 15 := ez3 ▸ band15 _
  refine iv_mul (x := 2) (y := z3) hx hb dX6_depart_23 ?_
  refine lv_istore (lv' := [(6, .int (Int32.ofInt ((2 * z3)))), (5, .int (Int32.ofInt (z2))), (4, .int (Int32.ofInt (((g0 * 12) + c1)))), (0, .ref (arS 99)), (1, .int (Int32.ofInt (s0))), (2, .int (Int32.ofInt (g0))), (3, .int (Int32.ofInt (l0)))]) hx hb dX6_depart_24 hl (by decide) rfl (fun ls hl => ?_)
  refine lv_iload hx hb dX6_depart_26 (lv_at hl 1 rfl) ?_
  refine lv_aload_n hx hb dX6_depart_28 rfl (lv_at hl 3 rfl) ?_
  refine va_get (D := G) (ci := 5) (v := .ref (arS 14)) (C := RX6) (T := TX6) (N := 15) (ref := RX6) hx hb hts h3w hown hX.1 hP 0 rfl rfl 14 (by decide) h2w (fun _ h9 => h9) rfl dX6_depart_29 ?_
  refine va_alen (v := Int32.ofInt 1641) hx hb hX.1 hP 9 0 rfl rfl (show Int32.ofNat 1641 = Int32.ofInt 1641 from by decide) dX6_depart_32 ?_
  refine iv_icmp_lt (tgt := 37) hx hb (by omega) (by omega) dX6_depart_33 (by decide) (fun q4 => ?_) (fun q4 => ?_)
  · refine iv_join (G := G) (A := A) (H0 := s.heap) (α := (Int → Int) × (Int → Int) × (Int → Int)) (nL := 8) 108 (fun b9 => []) (fun b9 => ((wS k arS (arP 99) fiS (uF faS 14 (b9.1))) ++ (wP k arP fiP (uF (uF faP 13 (b9.2.1)) 22 (b9.2.2))))) (fun b9 => [(6, .int (Int32.ofInt ((2 * z3)))), (5, .int (Int32.ofInt (z2))), (4, .int (Int32.ofInt (((g0 * 12) + c1)))), (0, .ref (arS 99)), (1, .int (Int32.ofInt (s0))), (2, .int (Int32.ofInt (g0))), (3, .int (Int32.ofInt (l0)))]) (fun b9 => (∀ t, inR (b9.1 t)) ∧ (∀ t, inR (b9.2.1 t)) ∧ (∀ t, inR (b9.2.2 t)) ∧ (True)) ?_ (fun J108 => ?_)
    · rintro ⟨g14S_5, g13P_6, g22P_7⟩ hi9 H locs ls hP hD hS hl
      obtain ⟨r_g14S_5, r_g13P_6, r_g22P_7, hinv⟩ : (∀ t, inR (g14S_5 t)) ∧ (∀ t, inR (g13P_6 t)) ∧ (∀ t, inR (g22P_7 t)) ∧ (True) := hi9
      obtain ⟨hP, hD⟩ : va_P G vwCl ((wS k arS (arP 99) fiS (uF faS 14 (g14S_5))) ++ (wP k arP fiP (uF (uF faP 13 (g13P_6)) 22 (g22P_7)))) H ∧ va_D A ((wS k arS (arP 99) fiS (uF faS 14 (g14S_5))) ++ (wP k arP fiP (uF (uF faP 13 (g13P_6)) 22 (g22P_7)))) := ⟨hP, hD⟩
      have hl : lv_has ls 8 [(6, .int (Int32.ofInt ((2 * z3)))), (5, .int (Int32.ofInt (z2))), (4, .int (Int32.ofInt (((g0 * 12) + c1)))), (0, .ref (arS 99)), (1, .int (Int32.ofInt (s0))), (2, .int (Int32.ofInt (g0))), (3, .int (Int32.ofInt (l0)))] := hl
      refine lv_aload_n hx hb dX6_depart_108 rfl (lv_at hl 3 rfl) ?_
      refine va_get (D := G) (ci := 5) (v := .ref (arS 14)) (C := RX6) (T := TX6) (N := 15) (ref := RX6) hx hb hts h3w hown hX.1 hP 0 rfl rfl 14 (by decide) h2w (fun _ h9 => h9) rfl dX6_depart_109 ?_
      refine lv_iload hx hb dX6_depart_112 (lv_at hl 1 rfl) ?_
      refine iv_iald hx hb hX.1 hP 9 0 rfl rfl (by omega) (by omega) (by decide) dX6_depart_114 ?_
      refine iv_top (fun z8 ez8 => ?_)
      have rz8 : inR z8 := ez8 ▸ r_g14S_5 _
      have ez8 : z8 = g14S_5 z2 := ez8
      refine lv_iload hx hb dX6_depart_115 (lv_at hl 0 rfl) ?_
      refine iv_ushr hx hb dX6_depart_117 ?_
      refine iv_top (fun z9 ez9 => ?_)
      have rz9 : inR z9 := ez9 ▸ bUshr_r _ _
      refine lv_iconst (v := Int32.ofInt 2) hx hb dX6_depart_118 (by decide +kernel) ?_
      refine iv_and hx hb dX6_depart_119 ?_
      refine iv_top (fun z10 ez10 => ?_)
      have rz10 : inR z10 := ez10 ▸ bAnd_r _ _
      refine iv_if_eq (tgt := 137) hx hb (by omega) dX6_depart_120 (by decide) (fun q11 => ?_) (fun q11 => ?_)
      · exact W.vret hx hb hr (fun t ht hW => ⟨⟨(faS 3, faS 4, faS 5, faS 7, faS 8, faS 9, faS 10, g14S_5, fiS 2, fiS 6, fiS 11, g13P_6, g22P_7), rfl, (show (∀ t, inR ((faS 3) t)) ∧ (∀ t, inR ((faS 4) t)) ∧ (∀ t, inR ((faS 5) t)) ∧ (bnd (faS 5) 1500 (-1) 1500) ∧ (∀ t, inR ((faS 7) t)) ∧ (bnd (faS 7) 1024 (-1) 1500) ∧ (∀ t, inR ((faS 8) t)) ∧ (bnd (faS 8) 1500 (-1) 1500) ∧ (∀ t, inR ((faS 9) t)) ∧ (bnd (faS 9) 1500 0 1500) ∧ (∀ t, inR ((faS 10) t)) ∧ (bnd (faS 10) 1500 0 1500) ∧ (∀ t, inR (g14S_5 t)) ∧ (inR (fiS 2)) ∧ (inR (fiS 6)) ∧ (inR (fiS 11)) ∧ (∀ t, inR (g13P_6 t)) ∧ (∀ t, inR (g22P_7 t)) ∧ (0 ≤ (fiS 11) ∧ (fiS 11) ≤ (fiS 6) ∧ (fiS 6) ≤ 1500 ∧ ((fiS 2) = 0 ∨ (fiS 2) = 1)) from ⟨(hRaS 3), (hRaS 4), (hRaS 5), hB5S, (hRaS 7), hB7S, (hRaS 8), hB8S, (hRaS 9), hB9S, (hRaS 10), hB10S, r_g14S_5, (hRS 2), (hRS 6), (hRS 11), r_g13P_6, r_g22P_7, (by omega)⟩), by rw [ht]; exact hP, hD⟩, hS.F ht⟩) hS.2.2 dX6_depart_137
      · refine lv_aload_n hx hb dX6_depart_123 rfl (lv_at hl 3 rfl) ?_
        refine lv_iload_n hx hb dX6_depart_124 rfl (lv_at hl 4 rfl) ?_
        refine lv_iload_n hx hb dX6_depart_125 rfl (lv_at hl 6 rfl) ?_
        refine lv_iconst (v := Int32.ofInt 1) hx hb dX6_depart_126 (by decide +kernel) ?_
        refine cr_v (va_runV (As := [.int (Int32.ofInt (s0)), .int (Int32.ofInt (l0)), .int (Int32.ofInt (1))]) (rest := []) ⟨hx, hb, hml, hown, hts⟩ (mX6_go_p l G k arS fiS (uF faS 14 (g14S_5)) arP fiP (uF (uF faP 13 (g13P_6)) 22 (g22P_7)) s0 l0 H.size hRS (iG hRaS r_g14S_5) hB5S hB7S hB8S hB9S hB10S hRP (iG (iG hRaP r_g13P_6) r_g22P_7) hB8P hB20P hB21P (by omega) (by omega) (show 0 ≤ (fiS 11) ∧ (fiS 11) ≤ (fiS 6) ∧ (fiS 6) ≤ 1500 ∧ -1 ≤ (fiS 12) ∧ (fiS 12) < 1500 from by omega) (show (fiS 2) = 0 ∨ (fiS 2) = 1 from by omega) (show 0 ≤ (fiP 7) ∧ (fiP 7) ≤ 7 from by omega) (show 0 ≤ (fiP 0) ∧ (fiP 0) ≤ 11 from by omega) (show 0 ≤ (fiP 24) ∧ (fiP 24) ≤ 4 from by omega) (show ∀ q9, 0 ≤ q9 → q9 < (fiP 24) → RWf (dcf ((faP 20))) (stq ((faP 21)) q9) ((faP 21) q9) from by first | exact hRC | omega)) (cwV 3 hts (gz [.methodLink RX6 128 yX6_go, .instanceMethod yX6_go, .selects RX6 yX6_go yX6_go, .initialized RX6] (.code yX6_go cX6_go 7 none) [(35, 0), (35, 1), (35, 2), (1, 10), (35, 3)] rfl) rfl rfl rfl (by decide +kernel) ⟨Nat.le_of_ble_eq_true rfl, Nat.le_of_ble_eq_true rfl⟩) (cr_preV (EZ_ok k) hZ hS hX hP hD hA (ci := 5) (q0 := 0) rfl rfl) rfl rfl hl.1 rfl (lv_room (Nat.le_of_ble_eq_true rfl)) dX6_depart_127 ⟨Nat.le_of_ble_eq_true rfl, Nat.le_of_ble_eq_true rfl⟩) hD hS hA (fun u H locs hp hP hD hS => ?_)
        obtain ⟨c12, c13, c14, c15, c16, c17, c18, c19, c20, c21⟩ := u
        obtain ⟨hP, hD⟩ : va_P G vwCl ((wS k arS (arP 99) (uF (uF (uF fiS 2 (c19)) 6 (c20)) 11 (c21)) (uF (uF (uF (uF (uF (uF (uF (uF faS 3 (c12)) 4 (c13)) 5 (c14)) 7 (c15)) 8 (c16)) 9 (c17)) 10 (c18)) 14 (g14S_5))) ++ (wP k arP fiP (uF (uF faP 13 (g13P_6)) 22 (g22P_7)))) H ∧ va_D A ((wS k arS (arP 99) (uF (uF (uF fiS 2 (c19)) 6 (c20)) 11 (c21)) (uF (uF (uF (uF (uF (uF (uF (uF faS 3 (c12)) 4 (c13)) 5 (c14)) 7 (c15)) 8 (c16)) 9 (c17)) 10 (c18)) 14 (g14S_5))) ++ (wP k arP fiP (uF (uF faP 13 (g13P_6)) 22 (g22P_7)))) := ⟨hP, hD⟩
        obtain ⟨rc12, rc13, rc14, bc14, rc15, bc15, rc16, bc16, rc17, bc17, rc18, bc18, rc19, rc20, rc21, hp21⟩ : (∀ t, inR (c12 t)) ∧ (∀ t, inR (c13 t)) ∧ (∀ t, inR (c14 t)) ∧ (bnd c14 1500 (-1) 1500) ∧ (∀ t, inR (c15 t)) ∧ (bnd c15 1024 (-1) 1500) ∧ (∀ t, inR (c16 t)) ∧ (bnd c16 1500 (-1) 1500) ∧ (∀ t, inR (c17 t)) ∧ (bnd c17 1500 0 1500) ∧ (∀ t, inR (c18 t)) ∧ (bnd c18 1500 0 1500) ∧ (inR c19) ∧ (inR c20) ∧ (inR c21) ∧ (0 ≤ c21 ∧ c21 ≤ c20 ∧ c20 ≤ 1500 ∧ (c19 = 0 ∨ c19 = 1)) := hp
        refine lv_aload_n hx hb dX6_depart_130 rfl (lv_at hl 3 rfl) ?_
        refine lv_iload_n hx hb dX6_depart_131 rfl (lv_at hl 4 rfl) ?_
        refine lv_iload_n hx hb dX6_depart_132 rfl (lv_at hl 6 rfl) ?_
        refine lv_iconst (v := Int32.ofInt (-1)) hx hb dX6_depart_133 (by decide +kernel) ?_
        refine cr_v (va_runV (As := [.int (Int32.ofInt (s0)), .int (Int32.ofInt (l0)), .int (Int32.ofInt ((-1)))]) (rest := []) ⟨hx, hb, hml, hown, hts⟩ (mX6_go_m l G k arS (uF (uF (uF fiS 2 (c19)) 6 (c20)) 11 (c21)) (uF (uF (uF (uF (uF (uF (uF (uF faS 3 (c12)) 4 (c13)) 5 (c14)) 7 (c15)) 8 (c16)) 9 (c17)) 10 (c18)) 14 (g14S_5)) arP fiP (uF (uF faP 13 (g13P_6)) 22 (g22P_7)) s0 l0 H.size (iF (iF (iF hRS (by omega)) (by omega)) (by omega)) (iG (iG (iG (iG (iG (iG (iG (iG hRaS rc12) rc13) rc14) rc15) rc16) rc17) rc18) r_g14S_5) bc14 bc15 bc16 bc17 bc18 hRP (iG (iG hRaP r_g13P_6) r_g22P_7) hB8P hB20P hB21P (by omega) (by omega) (show 0 ≤ c21 ∧ c21 ≤ c20 ∧ c20 ≤ 1500 ∧ -1 ≤ (fiS 12) ∧ (fiS 12) < 1500 from by omega) (show c19 = 0 ∨ c19 = 1 from by omega) (show 0 ≤ (fiP 7) ∧ (fiP 7) ≤ 7 from by omega) (show 0 ≤ (fiP 0) ∧ (fiP 0) ≤ 11 from by omega) (show 0 ≤ (fiP 24) ∧ (fiP 24) ≤ 4 from by omega) (show ∀ q9, 0 ≤ q9 → q9 < (fiP 24) → RWf (dcf ((faP 20))) (stq ((faP 21)) q9) ((faP 21) q9) from by first | exact hRC | omega)) (cwV 3 hts (gz [.methodLink RX6 128 yX6_go, .instanceMethod yX6_go, .selects RX6 yX6_go yX6_go, .initialized RX6] (.code yX6_go cX6_go 7 none) [(35, 0), (35, 1), (35, 2), (1, 10), (35, 3)] rfl) rfl rfl rfl (by decide +kernel) ⟨Nat.le_of_ble_eq_true rfl, Nat.le_of_ble_eq_true rfl⟩) (cr_preV (EZ_ok k) hZ hS hX hP hD hA (ci := 5) (q0 := 0) rfl rfl) rfl rfl hl.1 rfl (lv_room (Nat.le_of_ble_eq_true rfl)) dX6_depart_134 ⟨Nat.le_of_ble_eq_true rfl, Nat.le_of_ble_eq_true rfl⟩) hD hS hA (fun u H locs hp hP hD hS => ?_)
        obtain ⟨c22, c23, c24, c25, c26, c27, c28, c29, c30, c31⟩ := u
        obtain ⟨hP, hD⟩ : va_P G vwCl ((wS k arS (arP 99) (uF (uF (uF fiS 2 (c29)) 6 (c30)) 11 (c31)) (uF (uF (uF (uF (uF (uF (uF (uF faS 3 (c22)) 4 (c23)) 5 (c24)) 7 (c25)) 8 (c26)) 9 (c27)) 10 (c28)) 14 (g14S_5))) ++ (wP k arP fiP (uF (uF faP 13 (g13P_6)) 22 (g22P_7)))) H ∧ va_D A ((wS k arS (arP 99) (uF (uF (uF fiS 2 (c29)) 6 (c30)) 11 (c31)) (uF (uF (uF (uF (uF (uF (uF (uF faS 3 (c22)) 4 (c23)) 5 (c24)) 7 (c25)) 8 (c26)) 9 (c27)) 10 (c28)) 14 (g14S_5))) ++ (wP k arP fiP (uF (uF faP 13 (g13P_6)) 22 (g22P_7)))) := ⟨hP, hD⟩
        obtain ⟨rc22, rc23, rc24, bc24, rc25, bc25, rc26, bc26, rc27, bc27, rc28, bc28, rc29, rc30, rc31, hp31⟩ : (∀ t, inR (c22 t)) ∧ (∀ t, inR (c23 t)) ∧ (∀ t, inR (c24 t)) ∧ (bnd c24 1500 (-1) 1500) ∧ (∀ t, inR (c25 t)) ∧ (bnd c25 1024 (-1) 1500) ∧ (∀ t, inR (c26 t)) ∧ (bnd c26 1500 (-1) 1500) ∧ (∀ t, inR (c27 t)) ∧ (bnd c27 1500 0 1500) ∧ (∀ t, inR (c28 t)) ∧ (bnd c28 1500 0 1500) ∧ (inR c29) ∧ (inR c30) ∧ (inR c31) ∧ (0 ≤ c31 ∧ c31 ≤ c30 ∧ c30 ≤ 1500 ∧ (c29 = 0 ∨ c29 = 1)) := hp
        exact W.vret hx hb hr (fun t ht hW => ⟨⟨(c22, c23, c24, c25, c26, c27, c28, g14S_5, c29, c30, c31, g13P_6, g22P_7), rfl, (show (∀ t, inR (c22 t)) ∧ (∀ t, inR (c23 t)) ∧ (∀ t, inR (c24 t)) ∧ (bnd c24 1500 (-1) 1500) ∧ (∀ t, inR (c25 t)) ∧ (bnd c25 1024 (-1) 1500) ∧ (∀ t, inR (c26 t)) ∧ (bnd c26 1500 (-1) 1500) ∧ (∀ t, inR (c27 t)) ∧ (bnd c27 1500 0 1500) ∧ (∀ t, inR (c28 t)) ∧ (bnd c28 1500 0 1500) ∧ (∀ t, inR (g14S_5 t)) ∧ (inR c29) ∧ (inR c30) ∧ (inR c31) ∧ (∀ t, inR (g13P_6 t)) ∧ (∀ t, inR (g22P_7 t)) ∧ (0 ≤ c31 ∧ c31 ≤ c30 ∧ c30 ≤ 1500 ∧ (c29 = 0 ∨ c29 = 1)) from ⟨rc22, rc23, rc24, bc24, rc25, bc25, rc26, bc26, rc27, bc27, rc28, bc28, r_g14S_5, (by omega), (by omega), (by omega), r_g13P_6, r_g22P_7, (by omega)⟩), by rw [ht]; exact hP, hD⟩, hS.F ht⟩) hS.2.2 dX6_depart_137
    · refine lv_aload_n hx hb dX6_depart_37 rfl (lv_at hl 3 rfl) ?_
      refine va_get (D := G) (ci := 5) (v := .ref (arS 14)) (C := RX6) (T := TX6) (N := 15) (ref := RX6) hx hb hts h3w hown hX.1 hP 0 rfl rfl 14 (by decide) h2w (fun _ h9 => h9) rfl dX6_depart_38 ?_
      refine lv_iload hx hb dX6_depart_41 (lv_at hl 1 rfl) ?_
      refine iv_iald hx hb hX.1 hP 9 0 rfl rfl (by omega) (by omega) (by decide) dX6_depart_43 ?_
      refine iv_top (fun z32 ez32 => ?_)
      have rz32 : inR z32 := ez32 ▸ (hRaS 14) _
      have ez32 : z32 = (faS 14) z2 := ez32
      refine lv_iload hx hb dX6_depart_44 (lv_at hl 0 rfl) ?_
      refine iv_ushr hx hb dX6_depart_46 ?_
      refine iv_top (fun z33 ez33 => ?_)
      have rz33 : inR z33 := ez33 ▸ bUshr_r _ _
      refine lv_iconst (v := Int32.ofInt 1) hx hb dX6_depart_47 (by decide +kernel) ?_
      refine iv_and hx hb dX6_depart_48 ?_
      refine iv_top (fun z34 ez34 => ?_)
      have rz34 : inR z34 := ez34 ▸ bAnd_r _ _
      refine iv_if_ne (tgt := 108) hx hb (by omega) dX6_depart_49 (by decide) (fun q35 => ?_) (fun q35 => ?_)
      · have hl : lv_has ls 8 [(6, .int (Int32.ofInt ((2 * z3)))), (5, .int (Int32.ofInt (z2))), (4, .int (Int32.ofInt (((g0 * 12) + c1)))), (0, .ref (arS 99)), (1, .int (Int32.ofInt (s0))), (2, .int (Int32.ofInt (g0))), (3, .int (Int32.ofInt (l0)))] := lv_sub hl [0, 1, 2, 3, 4, 5, 6] rfl
        exact J108 (faS 14, faP 13, faP 22) (show (∀ t, inR ((faS 14) t)) ∧ (∀ t, inR ((faP 13) t)) ∧ (∀ t, inR ((faP 22) t)) ∧ (True) from ⟨(hRaS 14), (hRaP 13), (hRaP 22), (by trivial)⟩) _ _ _ hP hD hS hl
      · refine iv_join (G := G) (A := A) (H0 := s.heap) (α := (Int → Int) × (Int → Int) × Int) (nL := 8) 83 (fun b9 => [.int (Int32.ofInt (b9.2.2))]) (fun b9 => ((wS k arS (arP 99) fiS faS) ++ (wP k arP fiP (uF (uF faP 13 (b9.1)) 22 (b9.2.1))))) (fun b9 => [(6, .int (Int32.ofInt ((2 * z3)))), (5, .int (Int32.ofInt (z2))), (4, .int (Int32.ofInt (((g0 * 12) + c1)))), (0, .ref (arS 99)), (1, .int (Int32.ofInt (s0))), (2, .int (Int32.ofInt (g0))), (3, .int (Int32.ofInt (l0)))]) (fun b9 => inR b9.2.2 ∧ (∀ t, inR (b9.1 t)) ∧ (∀ t, inR (b9.2.1 t)) ∧ (b9.2.2 = 0 ∨ b9.2.2 = 1)) ?_ (fun J83 => ?_)
        · rintro ⟨g13P_36, g22P_37, s0_38⟩ hi9 H locs ls hP hD hS hl
          obtain ⟨r_s0_38, r_g13P_36, r_g22P_37, hinv⟩ : inR s0_38 ∧ (∀ t, inR (g13P_36 t)) ∧ (∀ t, inR (g22P_37 t)) ∧ (s0_38 = 0 ∨ s0_38 = 1) := hi9
          obtain ⟨hP, hD⟩ : va_P G vwCl ((wS k arS (arP 99) fiS faS) ++ (wP k arP fiP (uF (uF faP 13 (g13P_36)) 22 (g22P_37)))) H ∧ va_D A ((wS k arS (arP 99) fiS faS) ++ (wP k arP fiP (uF (uF faP 13 (g13P_36)) 22 (g22P_37)))) := ⟨hP, hD⟩
          have hl : lv_has ls 8 [(6, .int (Int32.ofInt ((2 * z3)))), (5, .int (Int32.ofInt (z2))), (4, .int (Int32.ofInt (((g0 * 12) + c1)))), (0, .ref (arS 99)), (1, .int (Int32.ofInt (s0))), (2, .int (Int32.ofInt (g0))), (3, .int (Int32.ofInt (l0)))] := hl
          refine lv_istore (lv' := [(7, .int (Int32.ofInt (s0_38))), (6, .int (Int32.ofInt ((2 * z3)))), (5, .int (Int32.ofInt (z2))), (4, .int (Int32.ofInt (((g0 * 12) + c1)))), (0, .ref (arS 99)), (1, .int (Int32.ofInt (s0))), (2, .int (Int32.ofInt (g0))), (3, .int (Int32.ofInt (l0)))]) hx hb dX6_depart_83 hl (by decide) rfl (fun ls hl => ?_)
          refine lv_aload_n hx hb dX6_depart_85 rfl (lv_at hl 4 rfl) ?_
          refine va_get (D := G) (ci := 5) (v := .ref (arS 14)) (C := RX6) (T := TX6) (N := 15) (ref := RX6) hx hb hts h3w hown hX.1 hP 0 rfl rfl 14 (by decide) h2w (fun _ h9 => h9) rfl dX6_depart_86 ?_
          refine lv_iload hx hb dX6_depart_89 (lv_at hl 2 rfl) ?_
          refine lv_dup2_11 hx hb dX6_depart_91 rfl rfl ?_
          refine iv_iald hx hb hX.1 hP 9 0 rfl rfl (by omega) (by omega) (by decide) dX6_depart_92 ?_
          refine iv_top (fun z39 ez39 => ?_)
          have rz39 : inR z39 := ez39 ▸ (hRaS 14) _
          have ez39 : z39 = (faS 14) z2 := ez39
          refine iv_join (G := G) (A := A) (H0 := s.heap) (α := Int) (nL := 8) 103 (fun b9 => [.int (Int32.ofInt (b9)), .int (Int32.ofInt (z39)), .int (Int32.ofInt (z2)), .ref (arS 14)]) (fun b9 => ((wS k arS (arP 99) fiS faS) ++ (wP k arP fiP (uF (uF faP 13 (g13P_36)) 22 (g22P_37))))) (fun b9 => [(7, .int (Int32.ofInt (s0_38))), (6, .int (Int32.ofInt ((2 * z3)))), (5, .int (Int32.ofInt (z2))), (4, .int (Int32.ofInt (((g0 * 12) + c1)))), (0, .ref (arS 99)), (1, .int (Int32.ofInt (s0))), (2, .int (Int32.ofInt (g0))), (3, .int (Int32.ofInt (l0)))]) (fun b9 => inR b9 ∧ (True)) ?_ (fun J103 => ?_)
          · intro s0_40 hi9 H locs ls hP hD hS hl
            obtain ⟨r_s0_40, hinv⟩ : inR s0_40 ∧ (True) := hi9
            obtain ⟨hP, hD⟩ : va_P G vwCl ((wS k arS (arP 99) fiS faS) ++ (wP k arP fiP (uF (uF faP 13 (g13P_36)) 22 (g22P_37)))) H ∧ va_D A ((wS k arS (arP 99) fiS faS) ++ (wP k arP fiP (uF (uF faP 13 (g13P_36)) 22 (g22P_37)))) := ⟨hP, hD⟩
            have hl : lv_has ls 8 [(7, .int (Int32.ofInt (s0_38))), (6, .int (Int32.ofInt ((2 * z3)))), (5, .int (Int32.ofInt (z2))), (4, .int (Int32.ofInt (((g0 * 12) + c1)))), (0, .ref (arS 99)), (1, .int (Int32.ofInt (s0))), (2, .int (Int32.ofInt (g0))), (3, .int (Int32.ofInt (l0)))] := hl
            refine lv_iload hx hb dX6_depart_103 (lv_at hl 1 rfl) ?_
            refine iv_shl hx hb dX6_depart_105 ?_
            refine iv_top (fun z41 ez41 => ?_)
            have rz41 : inR z41 := ez41 ▸ bShl_r _ _
            refine iv_or hx hb dX6_depart_106 ?_
            refine iv_top (fun z42 ez42 => ?_)
            have rz42 : inR z42 := ez42 ▸ bOr_r _ _
            refine iv_iast hx hb hX.1 hP hD hS 9 0 rfl rfl (fun g' => show _ = ((wS k arS (arP 99) fiS (uF faS 14 (g'))) ++ (wP k arP fiP (uF (uF faP 13 (g13P_36)) 22 (g22P_37)))) from rfl) (by omega) (by omega) (by decide) dX6_depart_107 (fun H locs hP hD hS => ?_)
            obtain ⟨g43, eg43, rg43⟩ : ∃ z, z = uA (faS 14) (z2) (z42) ∧ ∀ t, inR (z t) := ⟨_, rfl, iU (hRaS 14) (by omega)⟩
            rw [← eg43] at hP hD
            have hl : lv_has ls 8 [(6, .int (Int32.ofInt ((2 * z3)))), (5, .int (Int32.ofInt (z2))), (4, .int (Int32.ofInt (((g0 * 12) + c1)))), (0, .ref (arS 99)), (1, .int (Int32.ofInt (s0))), (2, .int (Int32.ofInt (g0))), (3, .int (Int32.ofInt (l0)))] := lv_sub hl [1, 2, 3, 4, 5, 6, 7] rfl
            exact J108 (g43, g13P_36, g22P_37) (show (∀ t, inR (g43 t)) ∧ (∀ t, inR (g13P_36 t)) ∧ (∀ t, inR (g22P_37 t)) ∧ (True) from ⟨rg43, r_g13P_36, r_g22P_37, (by trivial)⟩) _ _ _ hP hD hS hl
          · refine lv_iload hx hb dX6_depart_93 (lv_at hl 0 rfl) ?_
            refine iv_if_eq (tgt := 102) hx hb (by omega) dX6_depart_95 (by decide) (fun q44 => ?_) (fun q44 => ?_)
            · refine lv_iconst (v := Int32.ofInt 1) hx hb dX6_depart_102 (by decide +kernel) ?_
              have hl : lv_has ls 8 [(7, .int (Int32.ofInt (s0_38))), (6, .int (Int32.ofInt ((2 * z3)))), (5, .int (Int32.ofInt (z2))), (4, .int (Int32.ofInt (((g0 * 12) + c1)))), (0, .ref (arS 99)), (1, .int (Int32.ofInt (s0))), (2, .int (Int32.ofInt (g0))), (3, .int (Int32.ofInt (l0)))] := lv_sub hl [0, 1, 2, 3, 4, 5, 6, 7] rfl
              exact J103 (1) (show inR 1 ∧ (True) from ⟨(by omega), (by trivial)⟩) _ _ _ hP hD hS hl
            · refine lv_iconst (v := Int32.ofInt 3) hx hb dX6_depart_98 (by decide +kernel) ?_
              refine lv_goto (tgt := 103) hx hb dX6_depart_99 (by decide) ?_
              have hl : lv_has ls 8 [(7, .int (Int32.ofInt (s0_38))), (6, .int (Int32.ofInt ((2 * z3)))), (5, .int (Int32.ofInt (z2))), (4, .int (Int32.ofInt (((g0 * 12) + c1)))), (0, .ref (arS 99)), (1, .int (Int32.ofInt (s0))), (2, .int (Int32.ofInt (g0))), (3, .int (Int32.ofInt (l0)))] := lv_sub hl [0, 1, 2, 3, 4, 5, 6, 7] rfl
              exact J103 (3) (show inR 3 ∧ (True) from ⟨(by omega), (by trivial)⟩) _ _ _ hP hD hS hl
        · refine lv_aload_n hx hb dX6_depart_52 rfl (lv_at hl 3 rfl) ?_
          refine va_get (D := G) (ci := 5) (v := .ref (arP 99)) (C := RX6) (T := TX6) (N := 15) (ref := RX6) hx hb hts h3w hown hX.1 hP 0 rfl rfl 0 (by decide) h4w (fun _ h9 => h9) rfl dX6_depart_53 ?_
          refine lv_iload_n hx hb dX6_depart_56 rfl (lv_at hl 4 rfl) ?_
          refine lv_iconst (v := Int32.ofInt 0) hx hb dX6_depart_57 (by decide +kernel) ?_
          refine cz_i (wr := (wS k arS (arP 99) fiS faS)) (va_runVN (As := [.int (Int32.ofInt (s0)), .int (Int32.ofInt (0))]) (rest := []) ⟨hx, hb, hml, hown, hts⟩ (mX3_brokenRule l G k arP fiP faP s0 0 H.size hRP hRaP hB8P hB20P hB21P (by omega) (by omega) (show 0 ≤ (fiP 7) ∧ (fiP 7) ≤ 7 from by omega) (show 0 ≤ (fiP 0) ∧ (fiP 0) ≤ 11 from by omega) (show 0 ≤ (fiP 24) ∧ (fiP 24) ≤ 4 from by omega) (show 0 = 0 ∨ 0 = 1 from by omega) (show ∀ q9, 0 ≤ q9 → q9 < (fiP 24) → RWf (dcf ((faP 20))) (stq ((faP 21)) q9) ((faP 21) q9) from by first | exact hRC | omega)) ⟨va_cnB 2 hts (gz [] (.code yX3_brokenRule cX3_brokenRule 5 (some .int)) [(25, 9)] rfl) rfl rfl rfl (nm_53 hX.2.2.1) h5w (by decide +kernel) ⟨Nat.le_of_ble_eq_true rfl, Nat.le_of_ble_eq_true rfl⟩, h6w, h7w⟩ (cy_preV (EZ_ok k) hZ hS hX hP hD hA [10, 11, 12, 13, 14, 15, 16, 17, 18, 19] rfl rfl (ci := 2) (q0 := 10) rfl rfl) rfl rfl hl.1 rfl (lv_room (Nat.le_of_ble_eq_true rfl)) dX6_depart_58 ⟨Nat.le_of_ble_eq_true rfl, Nat.le_of_ble_eq_true rfl⟩) hP hD hS hA [10, 11, 12, 13, 14, 15, 16, 17, 18, 19] [0, 1, 2, 3, 4, 5, 6, 7, 8, 9] rfl rfl (by decide) (by decide) (fun r u H locs hp hP hD hS => ?_)
          obtain ⟨c45, c46, c47⟩ := u
          obtain ⟨hP, hD⟩ : va_P G vwCl ((wS k arS (arP 99) fiS faS) ++ (wP k arP fiP (uF (uF faP 13 (c46)) 22 (c47)))) H ∧ va_D A ((wS k arS (arP 99) fiS faS) ++ (wP k arP fiP (uF (uF faP 13 (c46)) 22 (c47)))) := ⟨hP, hD⟩
          obtain ⟨h9, rc45, rc46, rc47, hp47⟩ : r = Int32.ofInt c45 ∧ (inR c45) ∧ (∀ t, inR (c46 t)) ∧ (∀ t, inR (c47 t)) ∧ ((-1 ≤ c45 ∧ c45 < 4) ∧ brkP c45 (fun q => evR (dcf ((faP 20))) (vls (nb s0) ((faP 8)) ((faP 9)) 0 ((fiP 7)) ((fiP 0)) (dp s0)) (stq ((faP 21)) q) ((faP 21) q)) ((fiP 24))) := hp
          subst h9
          obtain ⟨hp47, hBk58⟩ := hp47
          refine lv_iconst (v := Int32.ofInt (-1)) hx hb dX6_depart_61 (by decide +kernel) ?_
          refine iv_icmp_ne (tgt := 82) hx hb (by omega) (by omega) dX6_depart_62 (by decide) (fun q48 => ?_) (fun q48 => ?_)
          · refine lv_iconst (v := Int32.ofInt 0) hx hb dX6_depart_82 (by decide +kernel) ?_
            have hl : lv_has ls 8 [(6, .int (Int32.ofInt ((2 * z3)))), (5, .int (Int32.ofInt (z2))), (4, .int (Int32.ofInt (((g0 * 12) + c1)))), (0, .ref (arS 99)), (1, .int (Int32.ofInt (s0))), (2, .int (Int32.ofInt (g0))), (3, .int (Int32.ofInt (l0)))] := lv_sub hl [0, 1, 2, 3, 4, 5, 6] rfl
            exact J83 (c46, c47, 0) (show inR 0 ∧ (∀ t, inR (c46 t)) ∧ (∀ t, inR (c47 t)) ∧ (0 = 0 ∨ 0 = 1) from ⟨(by omega), rc46, rc47, (by omega)⟩) _ _ _ hP hD hS hl
          · refine lv_aload_n hx hb dX6_depart_65 rfl (lv_at hl 3 rfl) ?_
            refine va_get (D := G) (ci := 5) (v := .ref (arP 99)) (C := RX6) (T := TX6) (N := 15) (ref := RX6) hx hb hts h3w hown hX.1 hP 0 rfl rfl 0 (by decide) h4w (fun _ h9 => h9) rfl dX6_depart_66 ?_
            refine lv_iload_n hx hb dX6_depart_69 rfl (lv_at hl 4 rfl) ?_
            refine lv_iconst (v := Int32.ofInt 1) hx hb dX6_depart_70 (by decide +kernel) ?_
            refine cz_i (wr := (wS k arS (arP 99) fiS faS)) (va_runVN (As := [.int (Int32.ofInt (s0)), .int (Int32.ofInt (1))]) (rest := []) ⟨hx, hb, hml, hown, hts⟩ (mX3_brokenRule l G k arP fiP (uF (uF faP 13 (c46)) 22 (c47)) s0 1 H.size hRP (iG (iG hRaP rc46) rc47) hB8P hB20P hB21P (by omega) (by omega) (show 0 ≤ (fiP 7) ∧ (fiP 7) ≤ 7 from by omega) (show 0 ≤ (fiP 0) ∧ (fiP 0) ≤ 11 from by omega) (show 0 ≤ (fiP 24) ∧ (fiP 24) ≤ 4 from by omega) (show 1 = 0 ∨ 1 = 1 from by omega) (show ∀ q9, 0 ≤ q9 → q9 < (fiP 24) → RWf (dcf ((faP 20))) (stq ((faP 21)) q9) ((faP 21) q9) from by first | exact hRC | omega)) ⟨va_cnB 2 hts (gz [] (.code yX3_brokenRule cX3_brokenRule 5 (some .int)) [(25, 9)] rfl) rfl rfl rfl (nm_53 hX.2.2.1) h5w (by decide +kernel) ⟨Nat.le_of_ble_eq_true rfl, Nat.le_of_ble_eq_true rfl⟩, h6w, h7w⟩ (cy_preV (EZ_ok k) hZ hS hX hP hD hA [10, 11, 12, 13, 14, 15, 16, 17, 18, 19] rfl rfl (ci := 2) (q0 := 10) rfl rfl) rfl rfl hl.1 rfl (lv_room (Nat.le_of_ble_eq_true rfl)) dX6_depart_71 ⟨Nat.le_of_ble_eq_true rfl, Nat.le_of_ble_eq_true rfl⟩) hP hD hS hA [10, 11, 12, 13, 14, 15, 16, 17, 18, 19] [0, 1, 2, 3, 4, 5, 6, 7, 8, 9] rfl rfl (by decide) (by decide) (fun r u H locs hp hP hD hS => ?_)
            obtain ⟨c49, c50, c51⟩ := u
            obtain ⟨hP, hD⟩ : va_P G vwCl ((wS k arS (arP 99) fiS faS) ++ (wP k arP fiP (uF (uF faP 13 (c50)) 22 (c51)))) H ∧ va_D A ((wS k arS (arP 99) fiS faS) ++ (wP k arP fiP (uF (uF faP 13 (c50)) 22 (c51)))) := ⟨hP, hD⟩
            obtain ⟨h9, rc49, rc50, rc51, hp51⟩ : r = Int32.ofInt c49 ∧ (inR c49) ∧ (∀ t, inR (c50 t)) ∧ (∀ t, inR (c51 t)) ∧ ((-1 ≤ c49 ∧ c49 < 4) ∧ brkP c49 (fun q => evR (dcf ((faP 20))) (vls (nb s0) ((faP 8)) ((faP 9)) 1 ((fiP 7)) ((fiP 0)) (dp s0)) (stq ((faP 21)) q) ((faP 21) q)) ((fiP 24))) := hp
            subst h9
            obtain ⟨hp51, hBk71⟩ := hp51
            refine lv_iconst (v := Int32.ofInt (-1)) hx hb dX6_depart_74 (by decide +kernel) ?_
            refine iv_icmp_ne (tgt := 82) hx hb (by omega) (by omega) dX6_depart_75 (by decide) (fun q52 => ?_) (fun q52 => ?_)
            · refine lv_iconst (v := Int32.ofInt 0) hx hb dX6_depart_82 (by decide +kernel) ?_
              have hl : lv_has ls 8 [(6, .int (Int32.ofInt ((2 * z3)))), (5, .int (Int32.ofInt (z2))), (4, .int (Int32.ofInt (((g0 * 12) + c1)))), (0, .ref (arS 99)), (1, .int (Int32.ofInt (s0))), (2, .int (Int32.ofInt (g0))), (3, .int (Int32.ofInt (l0)))] := lv_sub hl [0, 1, 2, 3, 4, 5, 6] rfl
              exact J83 (c50, c51, 0) (show inR 0 ∧ (∀ t, inR (c50 t)) ∧ (∀ t, inR (c51 t)) ∧ (0 = 0 ∨ 0 = 1) from ⟨(by omega), rc50, rc51, (by omega)⟩) _ _ _ hP hD hS hl
            · refine lv_iconst (v := Int32.ofInt 1) hx hb dX6_depart_78 (by decide +kernel) ?_
              refine lv_goto (tgt := 83) hx hb dX6_depart_79 (by decide) ?_
              have hl : lv_has ls 8 [(6, .int (Int32.ofInt ((2 * z3)))), (5, .int (Int32.ofInt (z2))), (4, .int (Int32.ofInt (((g0 * 12) + c1)))), (0, .ref (arS 99)), (1, .int (Int32.ofInt (s0))), (2, .int (Int32.ofInt (g0))), (3, .int (Int32.ofInt (l0)))] := lv_sub hl [0, 1, 2, 3, 4, 5, 6] rfl
              exact J83 (c50, c51, 1) (show inR 1 ∧ (∀ t, inR (c50 t)) ∧ (∀ t, inR (c51 t)) ∧ (1 = 0 ∨ 1 = 1) from ⟨(by omega), rc50, rc51, (by omega)⟩) _ _ _ hP hD hS hl
  · exact W.vret hx hb hr (fun t ht hW => ⟨⟨(faS 3, faS 4, faS 5, faS 7, faS 8, faS 9, faS 10, faS 14, fiS 2, fiS 6, fiS 11, faP 13, faP 22), rfl, (show (∀ t, inR ((faS 3) t)) ∧ (∀ t, inR ((faS 4) t)) ∧ (∀ t, inR ((faS 5) t)) ∧ (bnd (faS 5) 1500 (-1) 1500) ∧ (∀ t, inR ((faS 7) t)) ∧ (bnd (faS 7) 1024 (-1) 1500) ∧ (∀ t, inR ((faS 8) t)) ∧ (bnd (faS 8) 1500 (-1) 1500) ∧ (∀ t, inR ((faS 9) t)) ∧ (bnd (faS 9) 1500 0 1500) ∧ (∀ t, inR ((faS 10) t)) ∧ (bnd (faS 10) 1500 0 1500) ∧ (∀ t, inR ((faS 14) t)) ∧ (inR (fiS 2)) ∧ (inR (fiS 6)) ∧ (inR (fiS 11)) ∧ (∀ t, inR ((faP 13) t)) ∧ (∀ t, inR ((faP 22) t)) ∧ (0 ≤ (fiS 11) ∧ (fiS 11) ≤ (fiS 6) ∧ (fiS 6) ≤ 1500 ∧ ((fiS 2) = 0 ∨ (fiS 2) = 1)) from ⟨(hRaS 3), (hRaS 4), (hRaS 5), hB5S, (hRaS 7), hB7S, (hRaS 8), hB8S, (hRaS 9), hB9S, (hRaS 10), hB10S, (hRaS 14), (hRS 2), (hRS 6), (hRS 11), (hRaP 13), (hRaP 22), (by omega)⟩), by rw [ht]; exact hP, hD⟩, hS.F ht⟩) hS.2.2 dX6_depart_36

set_option maxHeartbeats 4000000 in
set_option maxRecDepth 100000 in
theorem mX6_lade_7 (l : Launch) (G : va_G) (k : Nat → ClassId) (arS : Nat → Nat) (fiS : Nat → Int) (faS : Nat → Int → Int) (arP : Nat → Nat) (fiP : Nat → Int) (faP : Nat → Int → Int) (s0 : Int) (g0 : Int) (a0 : Int) (b0 : Int) (sz : Nat) (hRS : ∀ j, inR (fiS j)) (hRaS : ∀ j t, inR (faS j t)) (hB5S : bnd (faS 5) 1500 (-1) 1500) (hB7S : bnd (faS 7) 1024 (-1) 1500) (hB8S : bnd (faS 8) 1500 (-1) 1500) (hB9S : bnd (faS 9) 1500 0 1500) (hB10S : bnd (faS 10) 1500 0 1500) (hRP : ∀ j, inR (fiP j)) (hRaP : ∀ j t, inR (faP j t)) (hB8P : bnd (faP 8) 7 0 4) (hB20P : bnd (faP 20) 600 (-1000) 10000) (hB21P : bnd (faP 21) 4 0 601) (hr_s0 : inR s0) (hr_g0 : inR g0) (hr_a0 : inR a0) (hr_b0 : inR b0) (hsq : 0 ≤ fiS 11 ∧ fiS 11 ≤ fiS 6 ∧ fiS 6 ≤ 1500 ∧ -1 ≤ fiS 12 ∧ fiS 12 < 1500) (hsp : fiS 2 = 0 ∨ fiS 2 = 1) (hth : 0 ≤ fiP 7 ∧ fiP 7 ≤ 7) (hbt : 0 ≤ fiP 0 ∧ fiP 0 ≤ 11) (hsz : 0 ≤ fiP 24 ∧ fiP 24 ≤ 4) (hRC : ∀ q9, 0 ≤ q9 → q9 < fiP 24 → RWf (dcf (faP 20)) (stq (faP 21) q9) (faP 21 q9)) (hg : 0 ≤ g0 ∧ g0 < 2187) : CNv l G k (EZ k) yX6_lade wzX6_lade ({ frames := 4, cells := 0, slots := 0, locals := 103 }) [.ref (arS 99), .int (Int32.ofInt (7)), .int (Int32.ofInt (s0)), .int (Int32.ofInt (g0)), .int (Int32.ofInt (a0)), .int (Int32.ofInt (b0))] sz ((wS k arS (arP 99) fiS faS) ++ (wP k arP fiP faP)) (fun (u : (Int → Int) × (Int → Int) × (Int → Int) × (Int → Int) × (Int → Int) × (Int → Int) × (Int → Int) × (Int → Int) × Int × Int × Int × (Int → Int) × (Int → Int)) => (∀ t, inR (u.1 t)) ∧ (∀ t, inR (u.2.1 t)) ∧ (∀ t, inR (u.2.2.1 t)) ∧ (bnd u.2.2.1 1500 (-1) 1500) ∧ (∀ t, inR (u.2.2.2.1 t)) ∧ (bnd u.2.2.2.1 1024 (-1) 1500) ∧ (∀ t, inR (u.2.2.2.2.1 t)) ∧ (bnd u.2.2.2.2.1 1500 (-1) 1500) ∧ (∀ t, inR (u.2.2.2.2.2.1 t)) ∧ (bnd u.2.2.2.2.2.1 1500 0 1500) ∧ (∀ t, inR (u.2.2.2.2.2.2.1 t)) ∧ (bnd u.2.2.2.2.2.2.1 1500 0 1500) ∧ (∀ t, inR (u.2.2.2.2.2.2.2.1 t)) ∧ (inR u.2.2.2.2.2.2.2.2.1) ∧ (inR u.2.2.2.2.2.2.2.2.2.1) ∧ (inR u.2.2.2.2.2.2.2.2.2.2.1) ∧ (∀ t, inR (u.2.2.2.2.2.2.2.2.2.2.2.1 t)) ∧ (∀ t, inR (u.2.2.2.2.2.2.2.2.2.2.2.2 t)) ∧ (0 ≤ u.2.2.2.2.2.2.2.2.2.2.1 ∧ u.2.2.2.2.2.2.2.2.2.2.1 ≤ u.2.2.2.2.2.2.2.2.2.1 ∧ u.2.2.2.2.2.2.2.2.2.1 ≤ 1500 ∧ (u.2.2.2.2.2.2.2.2.1 = 0 ∨ u.2.2.2.2.2.2.2.2.1 = 1))) (fun (u : (Int → Int) × (Int → Int) × (Int → Int) × (Int → Int) × (Int → Int) × (Int → Int) × (Int → Int) × (Int → Int) × Int × Int × Int × (Int → Int) × (Int → Int)) => ((wS k arS (arP 99) (uF (uF (uF fiS 2 (u.2.2.2.2.2.2.2.2.1)) 6 (u.2.2.2.2.2.2.2.2.2.1)) 11 (u.2.2.2.2.2.2.2.2.2.2.1)) (uF (uF (uF (uF (uF (uF (uF (uF faS 3 (u.1)) 4 (u.2.1)) 5 (u.2.2.1)) 7 (u.2.2.2.1)) 8 (u.2.2.2.2.1)) 9 (u.2.2.2.2.2.1)) 10 (u.2.2.2.2.2.2.1)) 14 (u.2.2.2.2.2.2.2.1))) ++ (wP k arP fiP (uF (uF faP 13 (u.2.2.2.2.2.2.2.2.2.2.2.1)) 22 (u.2.2.2.2.2.2.2.2.2.2.2.2))))) := by
  refine Met.ofW (cc := cX6_lade) (maxL := 8) (ret := none) (by decide) rfl ?_
  intro p e s m args below meth c s₁ B hml hv
  obtain ⟨rfl, hsz, hP, hX, hD0, hZ0⟩ := hv
  have hx := B.exec
  have hb := B.bytes
  have hr := B.returns
  have hts := atoms_spec (ws := wzX6_lade) B.pre
  have hown : s.vm.findClass RX6 = some m.cls := findClass_of_methodNamed B.named
  subst hsz
  have hD := hD0.self (sz := s.heap.size)
  have hZ := hZ0
  generalize hAe : va_A ((wS k arS (arP 99) fiS faS) ++ (wP k arP fiP faP)) s.heap.size = A at hD hZ ⊢
  have hA : ∀ q : Nat, s.heap.size ≤ q → A q := fun q h => by rw [← hAe]; exact Or.inr h
  have hS : va_S A s.heap s.heap [] := va_S.rf
  have hl := lv_entry ([.ref (arS 99), .int (Int32.ofInt (7)), .int (Int32.ofInt (s0)), .int (Int32.ofInt (g0)), .int (Int32.ofInt (a0)), .int (Int32.ofInt (b0))]) (n := 8) (Nat.le_of_ble_eq_true rfl)
  rw [lg_entry_eq]
  generalize (lg_sl ([.ref (arS 99), .int (Int32.ofInt (7)), .int (Int32.ofInt (s0)), .int (Int32.ofInt (g0)), .int (Int32.ofInt (a0)), .int (Int32.ofInt (b0))]) ++ List.replicate (8 - (lg_sl ([.ref (arS 99), .int (Int32.ofInt (7)), .int (Int32.ofInt (s0)), .int (Int32.ofInt (g0)), .int (Int32.ofInt (a0)), .int (Int32.ofInt (b0))])).length) Slot.unset).toArray = ls at hl ⊢
  have hl : lv_has ls 8 [(0, .ref (arS 99)), (1, .int (Int32.ofInt (7))), (2, .int (Int32.ofInt (s0))), (3, .int (Int32.ofInt (g0))), (4, .int (Int32.ofInt (a0))), (5, .int (Int32.ofInt (b0)))] := hl
  obtain ⟨H, eH⟩ : ∃ H, H = s.heap := ⟨_, rfl⟩
  rw [← eH] at hP
  have hS : va_S A s.heap H [] := by rw [eH]; exact hS
  have gW : s.heap = H := eH.symm
  refine iv_heap gW ?_
  have h0w := hts (.fieldLink RX6 19 "RopeTown$Search" "isSpent" "Z") (wz_at 4 16 rfl)
  have h1w : ∀ w ∈ wsX60, w ∈ wzX6_lade := fun w h => List.mem_cons_of_mem _ (inlX6 w h)
  have h2w := hts (.fieldLink RX6 9 "RopeTown$Search" "plan" "LRopeTown$Plan;") (wz_at 4 14 rfl)
  have h3w : ∀ w ∈ wsX30, w ∈ wzX6_lade := fun w h => List.mem_cons_of_mem _ (inlX3 w h)
  refine lv_aload_n hx hb dX6_lade_0 rfl (lv_at hl 0 rfl) ?_
  refine va_get (D := G) (ci := 5) (v := .int (Int32.ofInt (fiS 2))) (C := RX6) (T := TX6) (N := 15) (ref := RX6) hx hb hts h1w hown hX.1 hP 0 rfl rfl 2 (by decide) h0w (fun _ h9 => h9) rfl dX6_lade_1 ?_
  have rf2S := hRS 2
  refine iv_if_eq (tgt := 8) hx hb (by omega) dX6_lade_4 (by decide) (fun q1 => ?_) (fun q1 => ?_)
  · refine lv_iload_n hx hb dX6_lade_8 rfl (lv_at hl 1 rfl) ?_
    refine lv_aload_n hx hb dX6_lade_9 rfl (lv_at hl 0 rfl) ?_
    refine va_get (D := G) (ci := 5) (v := .ref (arP 99)) (C := RX6) (T := TX6) (N := 15) (ref := RX6) hx hb hts h1w hown hX.1 hP 0 rfl rfl 0 (by decide) h2w (fun _ h9 => h9) rfl dX6_lade_10 ?_
    refine va_getN (D := G) (ci := 2) (v := .int (Int32.ofInt (fiP 7))) (C := RX3) (T := TX3) (N := 14) (ref := RX3) (host := RX9) hx hb hts h3w hown hX.1 hP 10 rfl rfl 7 (by decide) (nf_17 hX.2.2.1) (fun _ h9 => h9) rfl dX6_lade_13 ?_
    have rf7P := hRP 7
    refine iv_icmp_ge (tgt := 25) hx hb (by omega) (by omega) dX6_lade_16 (by decide) (fun q2 => ?_) (fun q2 => ?_)
    · refine lv_aload_n hx hb dX6_lade_25 rfl (lv_at hl 0 rfl) ?_
      refine lv_iload_n hx hb dX6_lade_26 rfl (lv_at hl 2 rfl) ?_
      refine lv_iload_n hx hb dX6_lade_27 rfl (lv_at hl 3 rfl) ?_
      refine lv_iload hx hb dX6_lade_28 (lv_at hl 4 rfl) ?_
      refine lv_iload hx hb dX6_lade_30 (lv_at hl 5 rfl) ?_
      refine iv_sub (x := a0) (y := b0) hx hb dX6_lade_32 ?_
      refine iv_wr ?_
      refine iv_top (fun z3 ez3 => ?_)
      have rz3 : inR z3 := ez3 ▸ bWr_r _
      refine cr_v (va_runV (As := [.int (Int32.ofInt (s0)), .int (Int32.ofInt (g0)), .int (Int32.ofInt (z3))]) (rest := []) ⟨hx, hb, hml, hown, hts⟩ (mX6_depart l G k arS fiS faS arP fiP faP s0 g0 z3 H.size hRS hRaS hB5S hB7S hB8S hB9S hB10S hRP hRaP hB8P hB20P hB21P (by omega) (by omega) (by omega) (show 0 ≤ (fiS 11) ∧ (fiS 11) ≤ (fiS 6) ∧ (fiS 6) ≤ 1500 ∧ -1 ≤ (fiS 12) ∧ (fiS 12) < 1500 from by omega) (show (fiS 2) = 0 ∨ (fiS 2) = 1 from by omega) (show 0 ≤ (fiP 7) ∧ (fiP 7) ≤ 7 from by omega) (show 0 ≤ (fiP 0) ∧ (fiP 0) ≤ 11 from by omega) (show 0 ≤ (fiP 24) ∧ (fiP 24) ≤ 4 from by omega) (show ∀ q9, 0 ≤ q9 → q9 < (fiP 24) → RWf (dcf ((faP 20))) (stq ((faP 21)) q9) ((faP 21) q9) from by first | exact hRC | omega) (show 0 ≤ g0 ∧ g0 ≤ 2186 from by omega)) (cwV 3 hts (gz [.methodLink RX6 109 yX6_depart, .instanceMethod yX6_depart, .selects RX6 yX6_depart yX6_depart, .initialized RX6] (.code yX6_depart cX6_depart 8 none) [(34, 20), (34, 21), (34, 22), (1, 10), (34, 23)] rfl) rfl rfl rfl (by decide +kernel) ⟨Nat.le_of_ble_eq_true rfl, Nat.le_of_ble_eq_true rfl⟩) (cr_preV (EZ_ok k) hZ hS hX hP hD hA (ci := 5) (q0 := 0) rfl rfl) rfl rfl hl.1 rfl (lv_room (Nat.le_of_ble_eq_true rfl)) dX6_lade_33 ⟨Nat.le_of_ble_eq_true rfl, Nat.le_of_ble_eq_true rfl⟩) hD hS hA (fun u H locs hp hP hD hS => ?_)
      obtain ⟨c4, c5, c6, c7, c8, c9, c10, c11, c12, c13, c14, c15, c16⟩ := u
      obtain ⟨hP, hD⟩ : va_P G vwCl ((wS k arS (arP 99) (uF (uF (uF fiS 2 (c12)) 6 (c13)) 11 (c14)) (uF (uF (uF (uF (uF (uF (uF (uF faS 3 (c4)) 4 (c5)) 5 (c6)) 7 (c7)) 8 (c8)) 9 (c9)) 10 (c10)) 14 (c11))) ++ (wP k arP fiP (uF (uF faP 13 (c15)) 22 (c16)))) H ∧ va_D A ((wS k arS (arP 99) (uF (uF (uF fiS 2 (c12)) 6 (c13)) 11 (c14)) (uF (uF (uF (uF (uF (uF (uF (uF faS 3 (c4)) 4 (c5)) 5 (c6)) 7 (c7)) 8 (c8)) 9 (c9)) 10 (c10)) 14 (c11))) ++ (wP k arP fiP (uF (uF faP 13 (c15)) 22 (c16)))) := ⟨hP, hD⟩
      obtain ⟨rc4, rc5, rc6, bc6, rc7, bc7, rc8, bc8, rc9, bc9, rc10, bc10, rc11, rc12, rc13, rc14, rc15, rc16, hp16⟩ : (∀ t, inR (c4 t)) ∧ (∀ t, inR (c5 t)) ∧ (∀ t, inR (c6 t)) ∧ (bnd c6 1500 (-1) 1500) ∧ (∀ t, inR (c7 t)) ∧ (bnd c7 1024 (-1) 1500) ∧ (∀ t, inR (c8 t)) ∧ (bnd c8 1500 (-1) 1500) ∧ (∀ t, inR (c9 t)) ∧ (bnd c9 1500 0 1500) ∧ (∀ t, inR (c10 t)) ∧ (bnd c10 1500 0 1500) ∧ (∀ t, inR (c11 t)) ∧ (inR c12) ∧ (inR c13) ∧ (inR c14) ∧ (∀ t, inR (c15 t)) ∧ (∀ t, inR (c16 t)) ∧ (0 ≤ c14 ∧ c14 ≤ c13 ∧ c13 ≤ 1500 ∧ (c12 = 0 ∨ c12 = 1)) := hp
      exact W.vret hx hb hr (fun t ht hW => ⟨⟨(c4, c5, c6, c7, c8, c9, c10, c11, c12, c13, c14, c15, c16), rfl, (show (∀ t, inR (c4 t)) ∧ (∀ t, inR (c5 t)) ∧ (∀ t, inR (c6 t)) ∧ (bnd c6 1500 (-1) 1500) ∧ (∀ t, inR (c7 t)) ∧ (bnd c7 1024 (-1) 1500) ∧ (∀ t, inR (c8 t)) ∧ (bnd c8 1500 (-1) 1500) ∧ (∀ t, inR (c9 t)) ∧ (bnd c9 1500 0 1500) ∧ (∀ t, inR (c10 t)) ∧ (bnd c10 1500 0 1500) ∧ (∀ t, inR (c11 t)) ∧ (inR c12) ∧ (inR c13) ∧ (inR c14) ∧ (∀ t, inR (c15 t)) ∧ (∀ t, inR (c16 t)) ∧ (0 ≤ c14 ∧ c14 ≤ c13 ∧ c13 ≤ 1500 ∧ (c12 = 0 ∨ c12 = 1)) from ⟨rc4, rc5, rc6, bc6, rc7, bc7, rc8, bc8, rc9, bc9, rc10, bc10, rc11, (by omega), (by omega), (by omega), rc15, rc16, (by omega)⟩), by rw [ht]; exact hP, hD⟩, hS.F ht⟩) hS.2.2 dX6_lade_36
    · refine lv_iload_n hx hb dX6_lade_19 rfl (lv_at hl 1 rfl) ?_
      refine lv_bipush (v := Int32.ofInt 7) hx hb dX6_lade_20 (by decide +kernel) ?_
      refine iv_icmp_lt (tgt := 37) hx hb (by omega) (by omega) dX6_lade_22 (by decide) (fun q => absurd q (by omega)) (fun _ => ?_)
      refine lv_aload_n hx hb dX6_lade_25 rfl (lv_at hl 0 rfl) ?_
      refine lv_iload_n hx hb dX6_lade_26 rfl (lv_at hl 2 rfl) ?_
      refine lv_iload_n hx hb dX6_lade_27 rfl (lv_at hl 3 rfl) ?_
      refine lv_iload hx hb dX6_lade_28 (lv_at hl 4 rfl) ?_
      refine lv_iload hx hb dX6_lade_30 (lv_at hl 5 rfl) ?_
      refine iv_sub (x := a0) (y := b0) hx hb dX6_lade_32 ?_
      refine iv_wr ?_
      refine iv_top (fun z17 ez17 => ?_)
      have rz17 : inR z17 := ez17 ▸ bWr_r _
      refine cr_v (va_runV (As := [.int (Int32.ofInt (s0)), .int (Int32.ofInt (g0)), .int (Int32.ofInt (z17))]) (rest := []) ⟨hx, hb, hml, hown, hts⟩ (mX6_depart l G k arS fiS faS arP fiP faP s0 g0 z17 H.size hRS hRaS hB5S hB7S hB8S hB9S hB10S hRP hRaP hB8P hB20P hB21P (by omega) (by omega) (by omega) (show 0 ≤ (fiS 11) ∧ (fiS 11) ≤ (fiS 6) ∧ (fiS 6) ≤ 1500 ∧ -1 ≤ (fiS 12) ∧ (fiS 12) < 1500 from by omega) (show (fiS 2) = 0 ∨ (fiS 2) = 1 from by omega) (show 0 ≤ (fiP 7) ∧ (fiP 7) ≤ 7 from by omega) (show 0 ≤ (fiP 0) ∧ (fiP 0) ≤ 11 from by omega) (show 0 ≤ (fiP 24) ∧ (fiP 24) ≤ 4 from by omega) (show ∀ q9, 0 ≤ q9 → q9 < (fiP 24) → RWf (dcf ((faP 20))) (stq ((faP 21)) q9) ((faP 21) q9) from by first | exact hRC | omega) (show 0 ≤ g0 ∧ g0 ≤ 2186 from by omega)) (cwV 3 hts (gz [.methodLink RX6 109 yX6_depart, .instanceMethod yX6_depart, .selects RX6 yX6_depart yX6_depart, .initialized RX6] (.code yX6_depart cX6_depart 8 none) [(34, 20), (34, 21), (34, 22), (1, 10), (34, 23)] rfl) rfl rfl rfl (by decide +kernel) ⟨Nat.le_of_ble_eq_true rfl, Nat.le_of_ble_eq_true rfl⟩) (cr_preV (EZ_ok k) hZ hS hX hP hD hA (ci := 5) (q0 := 0) rfl rfl) rfl rfl hl.1 rfl (lv_room (Nat.le_of_ble_eq_true rfl)) dX6_lade_33 ⟨Nat.le_of_ble_eq_true rfl, Nat.le_of_ble_eq_true rfl⟩) hD hS hA (fun u H locs hp hP hD hS => ?_)
      obtain ⟨c18, c19, c20, c21, c22, c23, c24, c25, c26, c27, c28, c29, c30⟩ := u
      obtain ⟨hP, hD⟩ : va_P G vwCl ((wS k arS (arP 99) (uF (uF (uF fiS 2 (c26)) 6 (c27)) 11 (c28)) (uF (uF (uF (uF (uF (uF (uF (uF faS 3 (c18)) 4 (c19)) 5 (c20)) 7 (c21)) 8 (c22)) 9 (c23)) 10 (c24)) 14 (c25))) ++ (wP k arP fiP (uF (uF faP 13 (c29)) 22 (c30)))) H ∧ va_D A ((wS k arS (arP 99) (uF (uF (uF fiS 2 (c26)) 6 (c27)) 11 (c28)) (uF (uF (uF (uF (uF (uF (uF (uF faS 3 (c18)) 4 (c19)) 5 (c20)) 7 (c21)) 8 (c22)) 9 (c23)) 10 (c24)) 14 (c25))) ++ (wP k arP fiP (uF (uF faP 13 (c29)) 22 (c30)))) := ⟨hP, hD⟩
      obtain ⟨rc18, rc19, rc20, bc20, rc21, bc21, rc22, bc22, rc23, bc23, rc24, bc24, rc25, rc26, rc27, rc28, rc29, rc30, hp30⟩ : (∀ t, inR (c18 t)) ∧ (∀ t, inR (c19 t)) ∧ (∀ t, inR (c20 t)) ∧ (bnd c20 1500 (-1) 1500) ∧ (∀ t, inR (c21 t)) ∧ (bnd c21 1024 (-1) 1500) ∧ (∀ t, inR (c22 t)) ∧ (bnd c22 1500 (-1) 1500) ∧ (∀ t, inR (c23 t)) ∧ (bnd c23 1500 0 1500) ∧ (∀ t, inR (c24 t)) ∧ (bnd c24 1500 0 1500) ∧ (∀ t, inR (c25 t)) ∧ (inR c26) ∧ (inR c27) ∧ (inR c28) ∧ (∀ t, inR (c29 t)) ∧ (∀ t, inR (c30 t)) ∧ (0 ≤ c28 ∧ c28 ≤ c27 ∧ c27 ≤ 1500 ∧ (c26 = 0 ∨ c26 = 1)) := hp
      exact W.vret hx hb hr (fun t ht hW => ⟨⟨(c18, c19, c20, c21, c22, c23, c24, c25, c26, c27, c28, c29, c30), rfl, (show (∀ t, inR (c18 t)) ∧ (∀ t, inR (c19 t)) ∧ (∀ t, inR (c20 t)) ∧ (bnd c20 1500 (-1) 1500) ∧ (∀ t, inR (c21 t)) ∧ (bnd c21 1024 (-1) 1500) ∧ (∀ t, inR (c22 t)) ∧ (bnd c22 1500 (-1) 1500) ∧ (∀ t, inR (c23 t)) ∧ (bnd c23 1500 0 1500) ∧ (∀ t, inR (c24 t)) ∧ (bnd c24 1500 0 1500) ∧ (∀ t, inR (c25 t)) ∧ (inR c26) ∧ (inR c27) ∧ (inR c28) ∧ (∀ t, inR (c29 t)) ∧ (∀ t, inR (c30 t)) ∧ (0 ≤ c28 ∧ c28 ≤ c27 ∧ c27 ≤ 1500 ∧ (c26 = 0 ∨ c26 = 1)) from ⟨rc18, rc19, rc20, bc20, rc21, bc21, rc22, bc22, rc23, bc23, rc24, bc24, rc25, (by omega), (by omega), (by omega), rc29, rc30, (by omega)⟩), by rw [ht]; exact hP, hD⟩, hS.F ht⟩) hS.2.2 dX6_lade_36
  · exact W.vret hx hb hr (fun t ht hW => ⟨⟨(faS 3, faS 4, faS 5, faS 7, faS 8, faS 9, faS 10, faS 14, fiS 2, fiS 6, fiS 11, faP 13, faP 22), rfl, (show (∀ t, inR ((faS 3) t)) ∧ (∀ t, inR ((faS 4) t)) ∧ (∀ t, inR ((faS 5) t)) ∧ (bnd (faS 5) 1500 (-1) 1500) ∧ (∀ t, inR ((faS 7) t)) ∧ (bnd (faS 7) 1024 (-1) 1500) ∧ (∀ t, inR ((faS 8) t)) ∧ (bnd (faS 8) 1500 (-1) 1500) ∧ (∀ t, inR ((faS 9) t)) ∧ (bnd (faS 9) 1500 0 1500) ∧ (∀ t, inR ((faS 10) t)) ∧ (bnd (faS 10) 1500 0 1500) ∧ (∀ t, inR ((faS 14) t)) ∧ (inR (fiS 2)) ∧ (inR (fiS 6)) ∧ (inR (fiS 11)) ∧ (∀ t, inR ((faP 13) t)) ∧ (∀ t, inR ((faP 22) t)) ∧ (0 ≤ (fiS 11) ∧ (fiS 11) ≤ (fiS 6) ∧ (fiS 6) ≤ 1500 ∧ ((fiS 2) = 0 ∨ (fiS 2) = 1)) from ⟨(hRaS 3), (hRaS 4), (hRaS 5), hB5S, (hRaS 7), hB7S, (hRaS 8), hB8S, (hRaS 9), hB9S, (hRaS 10), hB10S, (hRaS 14), (hRS 2), (hRS 6), (hRS 11), (hRaP 13), (hRaP 22), (by omega)⟩), by rw [ht]; exact hP, hD⟩, hS.F ht⟩) hS.2.2 dX6_lade_7

