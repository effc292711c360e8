set_option maxHeartbeats 4000000 in
set_option maxRecDepth 100000 in
theorem mX9_may (l : Launch) (G : va_G) (k : Nat → ClassId) (arT : Nat → Nat) (tpT : Nat) (paT : Nat) (pdT : Nat) (pkT : Nat) (psT : Nat) (fiT : Nat → Int) (faT : Nat → Int → Int) (arP : Nat → Nat) (fiP : Nat → Int) (faP : Nat → Int → Int) (arB : Nat → Nat) (fiB : Nat → Int) (faB : Nat → Int → Int) (d0 : Int) (sz : Nat) (hRT : ∀ j, inR (fiT j)) (hRaT : ∀ j t, inR (faT j t)) (hRP : ∀ j, inR (fiP j)) (hRaP : ∀ j t, inR (faP j t)) (hB8P : bnd (faP 8) 7 0 4) (hB20P : bnd (faP 20) 600 (-1000) 10000) (hB21P : bnd (faP 21) 4 0 601) (hRB : ∀ j, inR (fiB j)) (hRaB : ∀ j t, inR (faB j t)) (hr_d0 : inR d0) (hpi : 0 ≤ fiP 7 ∧ fiP 7 ≤ 7 ∧ 0 ≤ fiP 0 ∧ fiP 0 ≤ 11 ∧ 0 ≤ fiP 24 ∧ fiP 24 ≤ 4 ∧ 0 ≤ fiP 23 ∧ fiP 23 ≤ 600) (hbi : 0 ≤ fiB 1 ∧ fiB 1 ≤ 60 ∧ 0 ≤ fiB 4 ∧ fiB 4 ≤ 6) (hRC : ∀ q9, 0 ≤ q9 → q9 < fiP 24 → RWf (dcf (faP 20)) (stq (faP 21) q9) (faP 21 q9)) : CNi l G k (EZ k) yX9_may wzX9_may ({ frames := 4, cells := 0, slots := 0, locals := 96 }) [.ref (arT 99), .int (Int32.ofInt (d0))] sz ((wT k arT (tpT) (paT) (arP 99) (pdT) (arB 99) (pkT) (psT) fiT faT) ++ ((wP k arP fiP faP) ++ (wB k arB fiB faB))) (fun (r0 : Int32) (u : Int × (Int → Int) × (Int → Int)) => r0 = Int32.ofInt (u.1) ∧ (inR u.1) ∧ (∀ t, inR (u.2.1 t)) ∧ (∀ t, inR (u.2.2 t)) ∧ (True)) (fun (u : Int × (Int → Int) × (Int → Int)) => ((wT k arT (tpT) (paT) (arP 99) (pdT) (arB 99) (pkT) (psT) fiT faT) ++ ((wP k arP fiP (uF (uF faP 13 (u.2.1)) 22 (u.2.2))) ++ (wB k arB fiB faB)))) := by
  refine Met.ofW (cc := cX9_may) (maxL := 4) (ret := (some .int)) (by decide) rfl ?_
  intro p e s m args below meth c s₁ B hml hv
  obtain ⟨rfl, hsz, hP, hX, hD0, hZ0⟩ := hv
  have hx := B.exec
  have hb := B.bytes
  have hr := B.returns
  have hts := atoms_spec (ws := wzX9_may) B.pre
  have hown : s.vm.findClass RX9 = some m.cls := findClass_of_methodNamed B.named
  subst hsz
  have hD := hD0.self (sz := s.heap.size)
  have hZ := hZ0
  generalize hAe : va_A ((wT k arT (tpT) (paT) (arP 99) (pdT) (arB 99) (pkT) (psT) fiT faT) ++ ((wP k arP fiP faP) ++ (wB k arB fiB faB))) s.heap.size = A at hD hZ ⊢
  have hA : ∀ q : Nat, s.heap.size ≤ q → A q := fun q h => by rw [← hAe]; exact Or.inr h
  have hS : va_S A s.heap s.heap [] := va_S.rf
  have hl := lv_entry ([.ref (arT 99), .int (Int32.ofInt (d0))]) (n := 4) (Nat.le_of_ble_eq_true rfl)
  rw [lg_entry_eq]
  generalize (lg_sl ([.ref (arT 99), .int (Int32.ofInt (d0))]) ++ List.replicate (4 - (lg_sl ([.ref (arT 99), .int (Int32.ofInt (d0))])).length) Slot.unset).toArray = ls at hl ⊢
  have hl : lv_has ls 4 [(0, .ref (arT 99)), (1, .int (Int32.ofInt (d0)))] := hl
  obtain ⟨H, eH⟩ : ∃ H, H = s.heap := ⟨_, rfl⟩
  rw [← eH] at hP
  have hS : va_S A s.heap H [] := by rw [eH]; exact hS
  have gW : s.heap = H := eH.symm
  refine iv_heap gW ?_
  have h0w := hts (.fieldLink RX9 42 "RopeTown" "book" "LRopeTown$Book;") (wz_at 1 5 rfl)
  have h1w : ∀ w ∈ wsX90, w ∈ wzX9_may := fun w h => List.mem_cons_of_mem _ (inlX9 w h)
  have h2w : ∀ w ∈ wsX10, w ∈ wzX9_may := fun w h => List.mem_cons_of_mem _ (inlX1 w h)
  have h3w := hts (.fieldLink RX9 23 "RopeTown" "plan" "LRopeTown$Plan;") (wz_at 0 20 rfl)
  have h4w := hts (.initialized RX3) (wz_at 0 19 rfl)
  have h5w := hts (.instanceMethod yX3_rideTrouble) (wz_at 29 2 rfl)
  have h6w := hts (.selects RX3 yX3_rideTrouble yX3_rideTrouble) (wz_at 29 3 rfl)
  refine lv_aload_n hx hb dX9_may_0 rfl (lv_at hl 0 rfl) ?_
  refine va_get (D := G) (ci := 6) (v := .ref (arB 99)) (C := RX9) (T := TX9) (N := 11) (ref := RX9) hx hb hts h1w hown hX.1 hP 0 rfl rfl 6 (by decide) h0w (fun _ h9 => h9) rfl dX9_may_1 ?_
  refine va_getN (D := G) (ci := 0) (v := .int (Int32.ofInt (fiB 1))) (C := RX1) (T := TX1) (N := 12) (ref := RX1) (host := RX9) hx hb hts h2w hown hX.1 hP 12 rfl rfl 1 (by decide) (nf_38 hX.2.2.1) (fun _ h9 => h9) rfl dX9_may_4 ?_
  have rf1B := hRB 1
  refine lv_bipush (v := Int32.ofInt 60) hx hb dX9_may_7 (by decide +kernel) ?_
  refine iv_icmp_lt (tgt := 14) hx hb (by omega) (by omega) dX9_may_9 (by decide) (fun q1 => ?_) (fun q1 => ?_)
  · refine lv_iconst (v := Int32.ofInt 0) hx hb dX9_may_14 (by decide +kernel) ?_
    refine lv_istore_n (lv' := [(2, .int (Int32.ofInt (0))), (0, .ref (arT 99)), (1, .int (Int32.ofInt (d0)))]) hx hb dX9_may_15 rfl hl (by decide) rfl (fun ls hl => ?_)
    refine lv_iconst (v := Int32.ofInt 0) hx hb dX9_may_16 (by decide +kernel) ?_
    refine lv_istore_n (lv' := [(3, .int (Int32.ofInt (0))), (2, .int (Int32.ofInt (0))), (0, .ref (arT 99)), (1, .int (Int32.ofInt (d0)))]) hx hb dX9_may_17 rfl hl (by decide) rfl (fun ls hl => ?_)
    refine iv_loop (α := Int × Int × (Int → Int) × (Int → Int)) (nL := 4) (fun b9 => ((wT k arT (tpT) (paT) (arP 99) (pdT) (arB 99) (pkT) (psT) fiT faT) ++ ((wP k arP fiP (uF (uF faP 13 (b9.2.2.1)) 22 (b9.2.2.2))) ++ (wB k arB fiB faB)))) (fun b9 => [(3, .int (Int32.ofInt (b9.1))), (2, .int (Int32.ofInt (b9.2.1))), (0, .ref (arT 99)), (1, .int (Int32.ofInt (d0)))]) (fun b9 => (3 - b9.1).toNat) (fun b9 => inR b9.1 ∧ inR b9.2.1 ∧ (∀ t, inR (b9.2.2.1 t)) ∧ (∀ t, inR (b9.2.2.2 t)) ∧ (0 ≤ b9.1 ∧ b9.1 ≤ 3)) ?_ (0, 0, faP 13, faP 22) (show inR 0 ∧ inR 0 ∧ (∀ t, inR ((faP 13) t)) ∧ (∀ t, inR ((faP 22) t)) ∧ (0 ≤ 0 ∧ 0 ≤ 3) from ⟨(by omega), (by omega), (hRaP 13), (hRaP 22), (by omega)⟩) hP hD hS hl
    rintro ⟨x3_2, x2_3, g13P_4, g22P_5⟩ ih hi9 H locs ls hP hD hS hl
    obtain ⟨r_x3_2, r_x2_3, r_g13P_4, r_g22P_5, hinv⟩ : inR x3_2 ∧ inR x2_3 ∧ (∀ t, inR (g13P_4 t)) ∧ (∀ t, inR (g22P_5 t)) ∧ (0 ≤ x3_2 ∧ x3_2 ≤ 3) := hi9
    obtain ⟨hP, hD⟩ : va_P G vwCl ((wT k arT (tpT) (paT) (arP 99) (pdT) (arB 99) (pkT) (psT) fiT faT) ++ ((wP k arP fiP (uF (uF faP 13 (g13P_4)) 22 (g22P_5))) ++ (wB k arB fiB faB))) H ∧ va_D A ((wT k arT (tpT) (paT) (arP 99) (pdT) (arB 99) (pkT) (psT) fiT faT) ++ ((wP k arP fiP (uF (uF faP 13 (g13P_4)) 22 (g22P_5))) ++ (wB k arB fiB faB))) := ⟨hP, hD⟩
    have hl : lv_has ls 4 [(3, .int (Int32.ofInt (x3_2))), (2, .int (Int32.ofInt (x2_3))), (0, .ref (arT 99)), (1, .int (Int32.ofInt (d0)))] := hl
    refine lv_iload_n hx hb dX9_may_18 rfl (lv_at hl 0 rfl) ?_
    refine lv_iconst (v := Int32.ofInt 2) hx hb dX9_may_19 (by decide +kernel) ?_
    refine iv_icmp_gt (tgt := 54) hx hb (by omega) (by omega) dX9_may_20 (by decide) (fun q6 => ?_) (fun q6 => ?_)
    · refine lv_iload_n hx hb dX9_may_54 rfl (lv_at hl 1 rfl) ?_
      exact W.iret (v := Int32.ofInt (x2_3)) hx hb hr (fun t ht hW => ⟨⟨Int32.ofInt (x2_3), (x2_3, g13P_4, g22P_5), rfl, ⟨rfl, (show (inR x2_3) ∧ (∀ t, inR (g13P_4 t)) ∧ (∀ t, inR (g22P_5 t)) ∧ (True) from ⟨(by omega), r_g13P_4, r_g22P_5, trivial⟩)⟩, by rw [ht]; exact hP, hD⟩, hS.F ht⟩) hS.2.2 dX9_may_55
    · refine lv_aload_n hx hb dX9_may_23 rfl (lv_at hl 2 rfl) ?_
      refine va_get (D := G) (ci := 6) (v := .ref (arP 99)) (C := RX9) (T := TX9) (N := 11) (ref := RX9) hx hb hts h1w hown hX.1 hP 0 rfl rfl 4 (by decide) h3w (fun _ h9 => h9) rfl dX9_may_24 ?_
      refine lv_aload_n hx hb dX9_may_27 rfl (lv_at hl 2 rfl) ?_
      refine va_get (D := G) (ci := 6) (v := .ref (arB 99)) (C := RX9) (T := TX9) (N := 11) (ref := RX9) hx hb hts h1w hown hX.1 hP 0 rfl rfl 6 (by decide) h0w (fun _ h9 => h9) rfl dX9_may_28 ?_
      refine va_getN (D := G) (ci := 0) (v := .int (Int32.ofInt (fiB 0))) (C := RX1) (T := TX1) (N := 12) (ref := RX1) (host := RX9) hx hb hts h2w hown hX.1 hP 12 rfl rfl 0 (by decide) (nf_37 hX.2.2.1) (fun _ h9 => h9) rfl dX9_may_31 ?_
      have rf0B := hRB 0
      refine lv_iload_n hx hb dX9_may_34 rfl (lv_at hl 3 rfl) ?_
      refine lv_iload_n hx hb dX9_may_35 rfl (lv_at hl 0 rfl) ?_
      refine cz_i (wr := ((wT k arT (tpT) (paT) (arP 99) (pdT) (arB 99) (pkT) (psT) fiT faT) ++ (wB k arB fiB faB))) (va_runVN (As := [.int (Int32.ofInt (fiB 0)), .int (Int32.ofInt (d0)), .int (Int32.ofInt (x3_2))]) (rest := []) ⟨hx, hb, hml, hown, hts⟩ (mX3_rideTrouble l G k arP fiP (uF (uF faP 13 (g13P_4)) 22 (g22P_5)) (fiB 0) d0 x3_2 H.size hRP (iG (iG hRaP r_g13P_4) r_g22P_5) hB8P hB20P hB21P (hRB 0) (by omega) (by omega) (show 0 ≤ (fiP 7) ∧ (fiP 7) ≤ 7 from by omega) (show 0 ≤ (fiP 0) ∧ (fiP 0) ≤ 11 from by omega) (show 0 ≤ (fiP 24) ∧ (fiP 24) ≤ 4 from by omega) (show ∀ q9, 0 ≤ q9 → q9 < (fiP 24) → RWf (dcf ((faP 20))) (stq ((faP 21)) q9) ((faP 21) q9) from by first | exact hRC | omega)) ⟨va_cnB 3 hts (gz [] (.code yX3_rideTrouble cX3_rideTrouble 4 (some .int)) [(29, 4)] rfl) rfl rfl rfl (nm_19 hX.2.2.1) h4w (by decide +kernel) ⟨Nat.le_of_ble_eq_true rfl, Nat.le_of_ble_eq_true rfl⟩, h5w, h6w⟩ (cy_preV (EZ_ok k) hZ hS hX hP hD hA [2, 3, 4, 5, 6, 7, 8, 9, 10, 11] rfl rfl (ci := 2) (q0 := 2) rfl rfl) rfl rfl hl.1 rfl (lv_room (Nat.le_of_ble_eq_true rfl)) dX9_may_36 ⟨Nat.le_of_ble_eq_true rfl, Nat.le_of_ble_eq_true rfl⟩) hP hD hS hA [2, 3, 4, 5, 6, 7, 8, 9, 10, 11] [0, 1, 12, 13, 14, 15, 16, 17, 18, 19] rfl rfl (by decide) (by decide) (fun r u H locs hp hP hD hS => ?_)
      obtain ⟨c7, c8, c9⟩ := u
      obtain ⟨hP, hD⟩ : va_P G vwCl ((wT k arT (tpT) (paT) (arP 99) (pdT) (arB 99) (pkT) (psT) fiT faT) ++ ((wB k arB fiB faB) ++ (wP k arP fiP (uF (uF faP 13 (c8)) 22 (c9))))) H ∧ va_D A ((wT k arT (tpT) (paT) (arP 99) (pdT) (arB 99) (pkT) (psT) fiT faT) ++ ((wB k arB fiB faB) ++ (wP k arP fiP (uF (uF faP 13 (c8)) 22 (c9))))) := ⟨hP, hD⟩
      obtain ⟨hP, hD⟩ : va_P G vwCl ((wT k arT (tpT) (paT) (arP 99) (pdT) (arB 99) (pkT) (psT) fiT faT) ++ ((wP k arP fiP (uF (uF faP 13 (c8)) 22 (c9))) ++ (wB k arB fiB faB))) H ∧ va_D A ((wT k arT (tpT) (paT) (arP 99) (pdT) (arB 99) (pkT) (psT) fiT faT) ++ ((wP k arP fiP (uF (uF faP 13 (c8)) 22 (c9))) ++ (wB k arB fiB faB))) := re_ord hP hD [0, 1, 10, 11, 12, 13, 14, 15, 16, 17, 18, 19, 2, 3, 4, 5, 6, 7, 8, 9] (by decide) rfl
      obtain ⟨h9, rc7, rc8, rc9, hp9⟩ : r = Int32.ofInt c7 ∧ (inR c7) ∧ (∀ t, inR (c8 t)) ∧ (∀ t, inR (c9 t)) ∧ ((0 ≤ c7 ∧ c7 ≤ 7 ∧ (c7 = 0 → 0 ≤ d0 ∧ d0 ≤ (fiP 0))) ∧ RtC c7 ((fiP 0)) (dp (fiB 0)) (gs (lc (nb (fiB 0)) ((faP 9)) 0) ((fiP 7))) (gs (lc (nb (fiB 0)) ((faP 9)) 1) ((fiP 7))) ((fiP 2)) (bkI (fun q => evR (dcf ((faP 20))) (vls (nb (fiB 0)) ((faP 8)) ((faP 9)) 0 ((fiP 7)) ((fiP 0)) (dp (fiB 0))) (stq ((faP 21)) q) ((faP 21) q)) ((fiP 24)) ∧ bkI (fun q => evR (dcf ((faP 20))) (vls (nb (fiB 0)) ((faP 8)) ((faP 9)) 1 ((fiP 7)) ((fiP 0)) (dp (fiB 0))) (stq ((faP 21)) q) ((faP 21) q)) ((fiP 24))) ((fiP 3)) ((fiP 4)) ((fiP 5)) ((fiP 6)) d0 x3_2) := hp
      subst h9
      obtain ⟨hp9, hRc36⟩ := hp9
      refine iv_join (G := G) (A := A) (H0 := s.heap) (α := Int) (nL := 4) 48 (fun b9 => []) (fun b9 => ((wT k arT (tpT) (paT) (arP 99) (pdT) (arB 99) (pkT) (psT) fiT faT) ++ ((wP k arP fiP (uF (uF faP 13 (c8)) 22 (c9))) ++ (wB k arB fiB faB)))) (fun b9 => [(3, .int (Int32.ofInt (x3_2))), (2, .int (Int32.ofInt (b9))), (0, .ref (arT 99)), (1, .int (Int32.ofInt (d0)))]) (fun b9 => inR b9 ∧ (True)) ?_ (fun J48 => ?_)
      · intro x2_10 hi9 H locs ls hP hD hS hl
        obtain ⟨r_x2_10, hinv⟩ : inR x2_10 ∧ (True) := hi9
        obtain ⟨hP, hD⟩ : va_P G vwCl ((wT k arT (tpT) (paT) (arP 99) (pdT) (arB 99) (pkT) (psT) fiT faT) ++ ((wP k arP fiP (uF (uF faP 13 (c8)) 22 (c9))) ++ (wB k arB fiB faB))) H ∧ va_D A ((wT k arT (tpT) (paT) (arP 99) (pdT) (arB 99) (pkT) (psT) fiT faT) ++ ((wP k arP fiP (uF (uF faP 13 (c8)) 22 (c9))) ++ (wB k arB fiB faB))) := ⟨hP, hD⟩
        have hl : lv_has ls 4 [(3, .int (Int32.ofInt (x3_2))), (2, .int (Int32.ofInt (x2_10))), (0, .ref (arT 99)), (1, .int (Int32.ofInt (d0)))] := hl
        refine lv_iinc (v := Int32.ofInt (x3_2 + 1)) (lv' := [(3, .int (Int32.ofInt ((x3_2 + 1)))), (2, .int (Int32.ofInt (x2_10))), (0, .ref (arT 99)), (1, .int (Int32.ofInt (d0)))]) hx hb dX9_may_48 hl (k := 0) rfl (Int32.ofInt_add _ _).symm (by decide) rfl (fun ls hl => ?_)
        refine lv_goto (tgt := 18) hx hb dX9_may_51 (by decide) ?_
        have hl : lv_has ls 4 [(3, .int (Int32.ofInt ((x3_2 + 1)))), (2, .int (Int32.ofInt (x2_10))), (0, .ref (arT 99)), (1, .int (Int32.ofInt (d0)))] := lv_sub hl [0, 1, 2, 3] rfl
        exact ih ((x3_2 + 1), x2_10, c8, c9) (show (3 - (x3_2 + 1)).toNat < (3 - x3_2).toNat from by omega) (show inR (x3_2 + 1) ∧ inR x2_10 ∧ (∀ t, inR (c8 t)) ∧ (∀ t, inR (c9 t)) ∧ (0 ≤ (x3_2 + 1) ∧ (x3_2 + 1) ≤ 3) from ⟨(by omega), (by omega), rc8, rc9, (by omega)⟩) _ _ _ hP hD hS hl
      · refine iv_if_ne (tgt := 48) hx hb (by omega) dX9_may_39 (by decide) (fun q11 => ?_) (fun q11 => ?_)
        · have hl : lv_has ls 4 [(3, .int (Int32.ofInt (x3_2))), (2, .int (Int32.ofInt (x2_3))), (0, .ref (arT 99)), (1, .int (Int32.ofInt (d0)))] := lv_sub hl [0, 1, 2, 3] rfl
          exact J48 (x2_3) (show inR x2_3 ∧ (True) from ⟨(by omega), (by trivial)⟩) _ _ _ hP hD hS hl
        · refine lv_iload_n hx hb dX9_may_42 rfl (lv_at hl 1 rfl) ?_
          refine lv_iconst (v := Int32.ofInt 1) hx hb dX9_may_43 (by decide +kernel) ?_
          refine lv_iload_n hx hb dX9_may_44 rfl (lv_at hl 0 rfl) ?_
          refine iv_shl hx hb dX9_may_45 ?_
          refine iv_top (fun z12 ez12 => ?_)
          have rz12 : inR z12 := ez12 ▸ bShl_r _ _
          refine iv_or hx hb dX9_may_46 ?_
          refine iv_top (fun z13 ez13 => ?_)
          have rz13 : inR z13 := ez13 ▸ bOr_r _ _
          refine lv_istore_n (lv' := [(2, .int (Int32.ofInt (z13))), (3, .int (Int32.ofInt (x3_2))), (0, .ref (arT 99)), (1, .int (Int32.ofInt (d0)))]) hx hb dX9_may_47 rfl hl (by decide) rfl (fun ls hl => ?_)
          have hl : lv_has ls 4 [(3, .int (Int32.ofInt (x3_2))), (2, .int (Int32.ofInt (z13))), (0, .ref (arT 99)), (1, .int (Int32.ofInt (d0)))] := lv_sub hl [1, 0, 2, 3] rfl
          exact J48 (z13) (show inR z13 ∧ (True) from ⟨(by omega), (by trivial)⟩) _ _ _ hP hD hS hl
  · refine lv_iconst (v := Int32.ofInt 0) hx hb dX9_may_12 (by decide +kernel) ?_
    exact W.iret (v := Int32.ofInt (0)) hx hb hr (fun t ht hW => ⟨⟨Int32.ofInt (0), (0, faP 13, faP 22), rfl, ⟨rfl, (show (inR 0) ∧ (∀ t, inR ((faP 13) t)) ∧ (∀ t, inR ((faP 22) t)) ∧ (True) from ⟨(by omega), (hRaP 13), (hRaP 22), trivial⟩)⟩, by rw [ht]; exact hP, hD⟩, hS.F ht⟩) hS.2.2 dX9_may_13

set_option maxHeartbeats 4000000 in
set_option maxRecDepth 100000 in
theorem mX9_undo (l : Launch) (G : va_G) (k : Nat → ClassId) (arT : Nat → Nat) (tpT : Nat) (paT : Nat) (ppT : Nat) (pdT : Nat) (pkT : Nat) (psT : Nat) (fiT : Nat → Int) (faT : Nat → Int → Int) (arB : Nat → Nat) (fiB : Nat → Int) (faB : Nat → Int → Int) (sz : Nat) (hRT : ∀ j, inR (fiT j)) (hRaT : ∀ j t, inR (faT j t)) (hRB : ∀ j, inR (fiB j)) (hRaB : ∀ j t, inR (faB j t)) (hbi : 0 ≤ fiB 1 ∧ fiB 1 ≤ 60 ∧ 0 ≤ fiB 4 ∧ fiB 4 ≤ 6) : CNi l G k (EZ k) yX9_undo wzX9_undo ({ frames := 1, cells := 0, slots := 0, locals := 20 }) [.ref (arT 99)] sz ((wT k arT (tpT) (paT) (ppT) (pdT) (arB 99) (pkT) (psT) fiT faT) ++ (wB k arB fiB faB)) (fun (r0 : Int32) (u : Int × Int × Int × Int × Int) => r0 = Int32.ofInt (u.1) ∧ (inR u.1) ∧ (inR u.2.1) ∧ (inR u.2.2.1) ∧ (inR u.2.2.2.1) ∧ (inR u.2.2.2.2) ∧ ((0 ≤ u.2.2.1 ∧ u.2.2.1 ≤ 60 ∧ 0 ≤ (fiB 4) ∧ (fiB 4) ≤ 6) ∧ (fiB 1 ≤ 0 → u.1 = -1 ∧ u.2.2.1 = fiB 1 ∧ u.2.1 = fiB 0) ∧ (0 < fiB 1 → u.1 = u.2.2.1 ∧ u.2.2.1 = fiB 1 - 1 ∧ u.2.1 = faB 8 (fiB 1 - 1)))) (fun (u : Int × Int × Int × Int × Int) => ((wT k arT (tpT) (paT) (ppT) (pdT) (arB 99) (pkT) (psT) fiT faT) ++ (wB k arB (uF (uF (uF (uF fiB 0 (u.2.1)) 1 (u.2.2.1)) 2 (u.2.2.2.1)) 3 (u.2.2.2.2)) faB))) := by
  refine Met.ofW (cc := cX9_undo) (maxL := 1) (ret := (some .int)) (by decide) rfl ?_
  intro p e s m args below meth c s₁ B hml hv
  obtain ⟨rfl, hsz, hP, hX, hD0, hZ0⟩ := hv
  have hx := B.exec
  have hb := B.bytes
  have hr := B.returns
  have hts := atoms_spec (ws := wzX9_undo) B.pre
  have hown : s.vm.findClass RX9 = some m.cls := findClass_of_methodNamed B.named
  subst hsz
  have hD := hD0.self (sz := s.heap.size)
  have hZ := hZ0
  generalize hAe : va_A ((wT k arT (tpT) (paT) (ppT) (pdT) (arB 99) (pkT) (psT) fiT faT) ++ (wB k arB fiB faB)) s.heap.size = A at hD hZ ⊢
  have hA : ∀ q : Nat, s.heap.size ≤ q → A q := fun q h => by rw [← hAe]; exact Or.inr h
  have hS : va_S A s.heap s.heap [] := va_S.rf
  have hl := lv_entry ([.ref (arT 99)]) (n := 1) (Nat.le_of_ble_eq_true rfl)
  rw [lg_entry_eq]
  generalize (lg_sl ([.ref (arT 99)]) ++ List.replicate (1 - (lg_sl ([.ref (arT 99)])).length) Slot.unset).toArray = ls at hl ⊢
  have hl : lv_has ls 1 [(0, .ref (arT 99))] := hl
  obtain ⟨H, eH⟩ : ∃ H, H = s.heap := ⟨_, rfl⟩
  rw [← eH] at hP
  have hS : va_S A s.heap H [] := by rw [eH]; exact hS
  have gW : s.heap = H := eH.symm
  refine iv_heap gW ?_
  have h0w := hts (.fieldLink RX9 42 "RopeTown" "book" "LRopeTown$Book;") (wz_at 1 5 rfl)
  have h1w : ∀ w ∈ wsX90, w ∈ wzX9_undo := fun w h => List.mem_cons_of_mem _ (inlX9 w h)
  have h2w : ∀ w ∈ wsX10, w ∈ wzX9_undo := fun w h => List.mem_cons_of_mem _ (inlX1 w h)
  have h3w := hts (.initialized RX1) (wz_at 1 4 rfl)
  have h4w := hts (.instanceMethod yX1_takeBack) (wz_at 32 6 rfl)
  have h5w := hts (.selects RX1 yX1_takeBack yX1_takeBack) (wz_at 32 7 rfl)
  refine lv_aload_n hx hb dX9_undo_0 rfl (lv_at hl 0 rfl) ?_
  refine va_get (D := G) (ci := 6) (v := .ref (arB 99)) (C := RX9) (T := TX9) (N := 11) (ref := RX9) hx hb hts h1w hown hX.1 hP 0 rfl rfl 6 (by decide) h0w (fun _ h9 => h9) rfl dX9_undo_1 ?_
  refine va_getN (D := G) (ci := 0) (v := .int (Int32.ofInt (fiB 1))) (C := RX1) (T := TX1) (N := 12) (ref := RX1) (host := RX9) hx hb hts h2w hown hX.1 hP 2 rfl rfl 1 (by decide) (nf_38 hX.2.2.1) (fun _ h9 => h9) rfl dX9_undo_4 ?_
  have rf1B := hRB 1
  refine iv_if_gt (tgt := 12) hx hb (by omega) dX9_undo_7 (by decide) (fun q1 => ?_) (fun q1 => ?_)
  · refine lv_aload_n hx hb dX9_undo_12 rfl (lv_at hl 0 rfl) ?_
    refine va_get (D := G) (ci := 6) (v := .ref (arB 99)) (C := RX9) (T := TX9) (N := 11) (ref := RX9) hx hb hts h1w hown hX.1 hP 0 rfl rfl 6 (by decide) h0w (fun _ h9 => h9) rfl dX9_undo_13 ?_
    refine cz_v (wr := (wT k arT (tpT) (paT) (ppT) (pdT) (arB 99) (pkT) (psT) fiT faT)) (va_runVN (As := []) (rest := []) ⟨hx, hb, hml, hown, hts⟩ (mX1_takeBack l G k arB fiB faB H.size hRB hRaB (show 0 ≤ (fiB 1) ∧ (fiB 1) ≤ 60 from by omega)) ⟨va_cnB 0 hts (gz [] (.code yX1_takeBack cX1_takeBack 1 none) [(32, 8)] rfl) rfl rfl rfl (nm_25 hX.2.2.1) h3w (by decide +kernel) ⟨Nat.le_of_ble_eq_true rfl, Nat.le_of_ble_eq_true rfl⟩, h4w, h5w⟩ (cy_preV (EZ_ok k) hZ hS hX hP hD hA [2, 3, 4, 5, 6, 7, 8, 9] rfl rfl (ci := 0) (q0 := 2) rfl rfl) rfl rfl hl.1 rfl (lv_room (Nat.le_of_ble_eq_true rfl)) dX9_undo_16 ⟨Nat.le_of_ble_eq_true rfl, Nat.le_of_ble_eq_true rfl⟩) hP hD hS hA [2, 3, 4, 5, 6, 7, 8, 9] [0, 1] rfl rfl (by decide) (by decide) (fun u H locs hp hP hD hS => ?_)
    obtain ⟨c2, c3, c4, c5⟩ := u
    obtain ⟨hP, hD⟩ : va_P G vwCl ((wT k arT (tpT) (paT) (ppT) (pdT) (arB 99) (pkT) (psT) fiT faT) ++ (wB k arB (uF (uF (uF (uF fiB 0 (c2)) 1 (c3)) 2 (c4)) 3 (c5)) faB)) H ∧ va_D A ((wT k arT (tpT) (paT) (ppT) (pdT) (arB 99) (pkT) (psT) fiT faT) ++ (wB k arB (uF (uF (uF (uF fiB 0 (c2)) 1 (c3)) 2 (c4)) 3 (c5)) faB)) := ⟨hP, hD⟩
    obtain ⟨rc2, rc3, rc4, rc5, hp5⟩ : (inR c2) ∧ (inR c3) ∧ (inR c4) ∧ (inR c5) ∧ ((0 ≤ c3 ∧ c3 ≤ 60) ∧ ((fiB 1) ≤ 0 → c3 = (fiB 1) ∧ c2 = (fiB 0)) ∧ (0 < (fiB 1) → c3 = (fiB 1) - 1 ∧ c2 = (faB 8) ((fiB 1) - 1))) := hp
    refine lv_aload_n hx hb dX9_undo_19 rfl (lv_at hl 0 rfl) ?_
    refine va_get (D := G) (ci := 6) (v := .ref (arB 99)) (C := RX9) (T := TX9) (N := 11) (ref := RX9) hx hb hts h1w hown hX.1 hP 0 rfl rfl 6 (by decide) h0w (fun _ h9 => h9) rfl dX9_undo_20 ?_
    refine va_getN (D := G) (ci := 0) (v := .int (Int32.ofInt (c3))) (C := RX1) (T := TX1) (N := 12) (ref := RX1) (host := RX9) hx hb hts h2w hown hX.1 hP 2 rfl rfl 1 (by decide) (nf_38 hX.2.2.1) (fun _ h9 => h9) rfl dX9_undo_23 ?_
    exact W.iret (v := Int32.ofInt (c3)) hx hb hr (fun t ht hW => ⟨⟨Int32.ofInt (c3), (c3, c2, c3, c4, c5), rfl, ⟨rfl, (show (inR c3) ∧ (inR c2) ∧ (inR c3) ∧ (inR c4) ∧ (inR c5) ∧ ((0 ≤ c3 ∧ c3 ≤ 60 ∧ 0 ≤ (fiB 4) ∧ (fiB 4) ≤ 6) ∧ (fiB 1 ≤ 0 → c3 = -1 ∧ c3 = fiB 1 ∧ c2 = fiB 0) ∧ (0 < fiB 1 → c3 = c3 ∧ c3 = fiB 1 - 1 ∧ c2 = faB 8 (fiB 1 - 1))) from ⟨(by omega), (by omega), (by omega), (by omega), (by omega), (by omega)⟩)⟩, by rw [ht]; exact hP, hD⟩, hS.F ht⟩) hS.2.2 dX9_undo_26
  · refine lv_iconst (v := Int32.ofInt (-1)) hx hb dX9_undo_10 (by decide +kernel) ?_
    exact W.iret (v := Int32.ofInt ((-1))) hx hb hr (fun t ht hW => ⟨⟨Int32.ofInt ((-1)), ((-1), fiB 0, fiB 1, fiB 2, fiB 3), rfl, ⟨rfl, (show (inR (-1)) ∧ (inR (fiB 0)) ∧ (inR (fiB 1)) ∧ (inR (fiB 2)) ∧ (inR (fiB 3)) ∧ ((0 ≤ (fiB 1) ∧ (fiB 1) ≤ 60 ∧ 0 ≤ (fiB 4) ∧ (fiB 4) ≤ 6) ∧ (fiB 1 ≤ 0 → (-1) = -1 ∧ (fiB 1) = fiB 1 ∧ (fiB 0) = fiB 0) ∧ (0 < fiB 1 → (-1) = (fiB 1) ∧ (fiB 1) = fiB 1 - 1 ∧ (fiB 0) = faB 8 (fiB 1 - 1))) from ⟨(by omega), (hRB 0), (hRB 1), (hRB 2), (hRB 3), (by omega)⟩)⟩, by rw [ht]; exact hP, hD⟩, hS.F ht⟩) hS.2.2 dX9_undo_11

set_option maxHeartbeats 4000000 in
set_option maxRecDepth 100000 in
theorem mX9_moved (l : Launch) (G : va_G) (k : Nat → ClassId) (arT : Nat → Nat) (tpT : Nat) (paT : Nat) (ppT : Nat) (pdT : Nat) (pkT : Nat) (psT : Nat) (fiT : Nat → Int) (faT : Nat → Int → Int) (arB : Nat → Nat) (fiB : Nat → Int) (faB : Nat → Int → Int) (i0 : Int) (w0 : Int) (sz : Nat) (hRT : ∀ j, inR (fiT j)) (hRaT : ∀ j t, inR (faT j t)) (hRB : ∀ j, inR (fiB j)) (hRaB : ∀ j t, inR (faB j t)) (hr_i0 : inR i0) (hr_w0 : inR w0) (hbi : 0 ≤ fiB 1 ∧ fiB 1 ≤ 60 ∧ 0 ≤ fiB 4 ∧ fiB 4 ≤ 6) (ht : 0 ≤ i0 ∧ i0 < fiB 1 ∧ 0 ≤ w0 ∧ w0 ≤ 2) : CNi l G k (EZ k) yX9_moved wzX9_moved ({ frames := 0, cells := 0, slots := 0, locals := 0 }) [.ref (arT 99), .int (Int32.ofInt (i0)), .int (Int32.ofInt (w0))] sz ((wT k arT (tpT) (paT) (ppT) (pdT) (arB 99) (pkT) (psT) fiT faT) ++ (wB k arB fiB faB)) (fun (r0 : Int32) (u : Int) => r0 = Int32.ofInt (u) ∧ (inR u) ∧ (u = if w0 = 0 then faB 5 i0 else if w0 = 1 then faB 6 i0 else faB 7 i0)) (fun (u : Int) => ((wT k arT (tpT) (paT) (ppT) (pdT) (arB 99) (pkT) (psT) fiT faT) ++ (wB k arB fiB faB))) := by
  refine Met.ofW (cc := cX9_moved) (maxL := 3) (ret := (some .int)) (by decide) rfl ?_
  intro p e s m args below meth c s₁ B hml hv
  obtain ⟨rfl, hsz, hP, hX, hD0, hZ0⟩ := hv
  have hx := B.exec
  have hb := B.bytes
  have hr := B.returns
  have hts := atoms_spec (ws := wzX9_moved) B.pre
  have hown : s.vm.findClass RX9 = some m.cls := findClass_of_methodNamed B.named
  subst hsz
  have hD := hD0.self (sz := s.heap.size)
  have hZ := hZ0
  generalize hAe : va_A ((wT k arT (tpT) (paT) (ppT) (pdT) (arB 99) (pkT) (psT) fiT faT) ++ (wB k arB fiB faB)) s.heap.size = A at hD hZ ⊢
  have hA : ∀ q : Nat, s.heap.size ≤ q → A q := fun q h => by rw [← hAe]; exact Or.inr h
  have hS : va_S A s.heap s.heap [] := va_S.rf
  have hl := lv_entry ([.ref (arT 99), .int (Int32.ofInt (i0)), .int (Int32.ofInt (w0))]) (n := 3) (Nat.le_of_ble_eq_true rfl)
  rw [lg_entry_eq]
  generalize (lg_sl ([.ref (arT 99), .int (Int32.ofInt (i0)), .int (Int32.ofInt (w0))]) ++ List.replicate (3 - (lg_sl ([.ref (arT 99), .int (Int32.ofInt (i0)), .int (Int32.ofInt (w0))])).length) Slot.unset).toArray = ls at hl ⊢
  have hl : lv_has ls 3 [(0, .ref (arT 99)), (1, .int (Int32.ofInt (i0))), (2, .int (Int32.ofInt (w0)))] := hl
  obtain ⟨H, eH⟩ : ∃ H, H = s.heap := ⟨_, rfl⟩
  rw [← eH] at hP
  have hS : va_S A s.heap H [] := by rw [eH]; exact hS
  have gW : s.heap = H := eH.symm
  refine iv_heap gW ?_
  have h0w := hts (.fieldLink RX9 42 "RopeTown" "book" "LRopeTown$Book;") (wz_at 1 5 rfl)
  have h1w : ∀ w ∈ wsX90, w ∈ wzX9_moved := fun w h => List.mem_cons_of_mem _ (inlX9 w h)
  have h2w : ∀ w ∈ wsX10, w ∈ wzX9_moved := fun w h => List.mem_cons_of_mem _ (inlX1 w h)
  refine lv_iload_n hx hb dX9_moved_0 rfl (lv_at hl 1 rfl) ?_
  refine iv_if_lt (tgt := 15) hx hb (by omega) dX9_moved_1 (by decide) (fun q1 => ?_) (fun q1 => ?_)
  · exfalso; omega
  · refine lv_iload_n hx hb dX9_moved_4 rfl (lv_at hl 1 rfl) ?_
    refine lv_aload_n hx hb dX9_moved_5 rfl (lv_at hl 0 rfl) ?_
    refine va_get (D := G) (ci := 6) (v := .ref (arB 99)) (C := RX9) (T := TX9) (N := 11) (ref := RX9) hx hb hts h1w hown hX.1 hP 0 rfl rfl 6 (by decide) h0w (fun _ h9 => h9) rfl dX9_moved_6 ?_
    refine va_getN (D := G) (ci := 0) (v := .int (Int32.ofInt (fiB 1))) (C := RX1) (T := TX1) (N := 12) (ref := RX1) (host := RX9) hx hb hts h2w hown hX.1 hP 2 rfl rfl 1 (by decide) (nf_38 hX.2.2.1) (fun _ h9 => h9) rfl dX9_moved_9 ?_
    have rf1B := hRB 1
    refine iv_icmp_lt (tgt := 25) hx hb (by omega) (by omega) dX9_moved_12 (by decide) (fun q2 => ?_) (fun q2 => ?_)
    · refine lv_iload_n hx hb dX9_moved_25 rfl (lv_at hl 2 rfl) ?_
      obtain q3 | q3 | q3 | q3 : (w0 < 0 ∨ 2 < w0) ∨ w0 = 0 ∨ w0 = 1 ∨ w0 = 2 := by omega
      · refine lv_tableOut (tgt := 82) hx hb dX9_moved_26 (by rw [iz_toInt (by omega)]; exact q3) (by decide) ?_
        exfalso; omega
      · refine lv_tableIn (tgt := 52) hx hb dX9_moved_26 (by rw [iz_toInt (by omega)]; omega) (by rw [iz_toInt (by omega)]; omega) (off := 26) (by rw [iz_toInt (by omega), q3]; decide +kernel) (by decide) ?_
        refine lv_aload_n hx hb dX9_moved_52 rfl (lv_at hl 0 rfl) ?_
        refine va_get (D := G) (ci := 6) (v := .ref (arB 99)) (C := RX9) (T := TX9) (N := 11) (ref := RX9) hx hb hts h1w hown hX.1 hP 0 rfl rfl 6 (by decide) h0w (fun _ h9 => h9) rfl dX9_moved_53 ?_
        refine va_getN (D := G) (ci := 0) (v := .ref (arB 5)) (C := RX1) (T := TX1) (N := 12) (ref := RX1) (host := RX9) hx hb hts h2w hown hX.1 hP 2 rfl rfl 5 (by decide) (nf_42 hX.2.2.1) (fun _ h9 => h9) rfl dX9_moved_56 ?_
        refine lv_iload_n hx hb dX9_moved_59 rfl (lv_at hl 1 rfl) ?_
        refine iv_iald hx hb hX.1 hP 3 0 rfl rfl (by omega) (by omega) (by decide) dX9_moved_60 ?_
        refine iv_top (fun z4 ez4 => ?_)
        have rz4 : inR z4 := ez4 ▸ (hRaB 5) _
        have ez4 : z4 = (faB 5) i0 := ez4
        exact W.iret (v := Int32.ofInt (z4)) hx hb hr (fun t ht hW => ⟨⟨Int32.ofInt (z4), (z4), rfl, ⟨rfl, (show (inR z4) ∧ (z4 = if w0 = 0 then faB 5 i0 else if w0 = 1 then faB 6 i0 else faB 7 i0) from ⟨(by omega), (by omega)⟩)⟩, by rw [ht]; exact hP, hD⟩, hS.F ht⟩) hS.2.2 dX9_moved_61
      · refine lv_tableIn (tgt := 62) hx hb dX9_moved_26 (by rw [iz_toInt (by omega)]; omega) (by rw [iz_toInt (by omega)]; omega) (off := 36) (by rw [iz_toInt (by omega), q3]; decide +kernel) (by decide) ?_
        refine lv_aload_n hx hb dX9_moved_62 rfl (lv_at hl 0 rfl) ?_
        refine va_get (D := G) (ci := 6) (v := .ref (arB 99)) (C := RX9) (T := TX9) (N := 11) (ref := RX9) hx hb hts h1w hown hX.1 hP 0 rfl rfl 6 (by decide) h0w (fun _ h9 => h9) rfl dX9_moved_63 ?_
        refine va_getN (D := G) (ci := 0) (v := .ref (arB 6)) (C := RX1) (T := TX1) (N := 12) (ref := RX1) (host := RX9) hx hb hts h2w hown hX.1 hP 2 rfl rfl 6 (by decide) (nf_43 hX.2.2.1) (fun _ h9 => h9) rfl dX9_moved_66 ?_
        refine lv_iload_n hx hb dX9_moved_69 rfl (lv_at hl 1 rfl) ?_
        refine iv_iald hx hb hX.1 hP 4 0 rfl rfl (by omega) (by omega) (by decide) dX9_moved_70 ?_
        refine iv_top (fun z5 ez5 => ?_)
        have rz5 : inR z5 := ez5 ▸ (hRaB 6) _
        have ez5 : z5 = (faB 6) i0 := ez5
        exact W.iret (v := Int32.ofInt (z5)) hx hb hr (fun t ht hW => ⟨⟨Int32.ofInt (z5), (z5), rfl, ⟨rfl, (show (inR z5) ∧ (z5 = if w0 = 0 then faB 5 i0 else if w0 = 1 then faB 6 i0 else faB 7 i0) from ⟨(by omega), (by omega)⟩)⟩, by rw [ht]; exact hP, hD⟩, hS.F ht⟩) hS.2.2 dX9_moved_71
      · refine lv_tableIn (tgt := 72) hx hb dX9_moved_26 (by rw [iz_toInt (by omega)]; omega) (by rw [iz_toInt (by omega)]; omega) (off := 46) (by rw [iz_toInt (by omega), q3]; decide +kernel) (by decide) ?_
        refine lv_aload_n hx hb dX9_moved_72 rfl (lv_at hl 0 rfl) ?_
        refine va_get (D := G) (ci := 6) (v := .ref (arB 99)) (C := RX9) (T := TX9) (N := 11) (ref := RX9) hx hb hts h1w hown hX.1 hP 0 rfl rfl 6 (by decide) h0w (fun _ h9 => h9) rfl dX9_moved_73 ?_
        refine va_getN (D := G) (ci := 0) (v := .ref (arB 7)) (C := RX1) (T := TX1) (N := 12) (ref := RX1) (host := RX9) hx hb hts h2w hown hX.1 hP 2 rfl rfl 7 (by decide) (nf_44 hX.2.2.1) (fun _ h9 => h9) rfl dX9_moved_76 ?_
        refine lv_iload_n hx hb dX9_moved_79 rfl (lv_at hl 1 rfl) ?_
        refine iv_iald hx hb hX.1 hP 5 0 rfl rfl (by omega) (by omega) (by decide) dX9_moved_80 ?_
        refine iv_top (fun z6 ez6 => ?_)
        have rz6 : inR z6 := ez6 ▸ (hRaB 7) _
        have ez6 : z6 = (faB 7) i0 := ez6
        exact W.iret (v := Int32.ofInt (z6)) hx hb hr (fun t ht hW => ⟨⟨Int32.ofInt (z6), (z6), rfl, ⟨rfl, (show (inR z6) ∧ (z6 = if w0 = 0 then faB 5 i0 else if w0 = 1 then faB 6 i0 else faB 7 i0) from ⟨(by omega), (by omega)⟩)⟩, by rw [ht]; exact hP, hD⟩, hS.F ht⟩) hS.2.2 dX9_moved_81
    · exfalso; omega

set_option maxHeartbeats 4000000 in
set_option maxRecDepth 100000 in
theorem mX9_back (l : Launch) (G : va_G) (k : Nat → ClassId) (arT : Nat → Nat) (tpT : Nat) (paT : Nat) (pdT : Nat) (pkT : Nat) (psT : Nat) (fiT : Nat → Int) (faT : Nat → Int → Int) (arP : Nat → Nat) (fiP : Nat → Int) (faP : Nat → Int → Int) (arB : Nat → Nat) (fiB : Nat → Int) (faB : Nat → Int → Int) (sz : Nat) (hRT : ∀ j, inR (fiT j)) (hRaT : ∀ j t, inR (faT j t)) (hRP : ∀ j, inR (fiP j)) (hRaP : ∀ j t, inR (faP j t)) (hB8P : bnd (faP 8) 7 0 4) (hB20P : bnd (faP 20) 600 (-1000) 10000) (hB21P : bnd (faP 21) 4 0 601) (hRB : ∀ j, inR (fiB j)) (hRaB : ∀ j t, inR (faB j t)) (hpi : 0 ≤ fiP 7 ∧ fiP 7 ≤ 7 ∧ 0 ≤ fiP 0 ∧ fiP 0 ≤ 11 ∧ 0 ≤ fiP 24 ∧ fiP 24 ≤ 4 ∧ 0 ≤ fiP 23 ∧ fiP 23 ≤ 600) (hbi : 0 ≤ fiB 1 ∧ fiB 1 ≤ 60 ∧ 0 ≤ fiB 4 ∧ fiB 4 ≤ 6) (hRC : ∀ q9, 0 ≤ q9 → q9 < fiP 24 → RWf (dcf (faP 20)) (stq (faP 21) q9) (faP 21 q9)) : CNi l G k (EZ k) yX9_back wzX9_back ({ frames := 4, cells := 0, slots := 0, locals := 96 }) [.ref (arT 99)] sz ((wT k arT (tpT) (paT) (arP 99) (pdT) (arB 99) (pkT) (psT) fiT faT) ++ ((wP k arP fiP faP) ++ (wB k arB fiB faB))) (fun (r0 : Int32) (u : Int × (Int → Int) × (Int → Int)) => r0 = Int32.ofInt (u.1) ∧ (inR u.1) ∧ (∀ t, inR (u.2.1 t)) ∧ (∀ t, inR (u.2.2 t)) ∧ (BkG (BcP (faB 8) (faB 6) (fiP 0) (fiP 2) (fiP 3) (fiP 4) (fiP 5) (fiP 6) (fiP 7) (fiP 24) (faP 8) (faP 9) (faP 20) (faP 21)) (faB 5) (fiB 1).toNat u.1)) (fun (u : Int × (Int → Int) × (Int → Int)) => ((wT k arT (tpT) (paT) (arP 99) (pdT) (arB 99) (pkT) (psT) fiT faT) ++ ((wP k arP fiP (uF (uF faP 13 (u.2.1)) 22 (u.2.2))) ++ (wB k arB fiB faB)))) := by
  refine Met.ofW (cc := cX9_back) (maxL := 4) (ret := (some .int)) (by decide) rfl ?_
  intro p e s m args below meth c s₁ B hml hv
  obtain ⟨rfl, hsz, hP, hX, hD0, hZ0⟩ := hv
  have hx := B.exec
  have hb := B.bytes
  have hr := B.returns
  have hts := atoms_spec (ws := wzX9_back) B.pre
  have hown : s.vm.findClass RX9 = some m.cls := findClass_of_methodNamed B.named
  subst hsz
  have hD := hD0.self (sz := s.heap.size)
  have hZ := hZ0
  generalize hAe : va_A ((wT k arT (tpT) (paT) (arP 99) (pdT) (arB 99) (pkT) (psT) fiT faT) ++ ((wP k arP fiP faP) ++ (wB k arB fiB faB))) s.heap.size = A at hD hZ ⊢
  have hA : ∀ q : Nat, s.heap.size ≤ q → A q := fun q h => by rw [← hAe]; exact Or.inr h
  have hS : va_S A s.heap s.heap [] := va_S.rf
  have hl := lv_entry ([.ref (arT 99)]) (n := 4) (Nat.le_of_ble_eq_true rfl)
  rw [lg_entry_eq]
  generalize (lg_sl ([.ref (arT 99)]) ++ List.replicate (4 - (lg_sl ([.ref (arT 99)])).length) Slot.unset).toArray = ls at hl ⊢
  have hl : lv_has ls 4 [(0, .ref (arT 99))] := hl
  obtain ⟨H, eH⟩ : ∃ H, H = s.heap := ⟨_, rfl⟩
  rw [← eH] at hP
  have hS : va_S A s.heap H [] := by rw [eH]; exact hS
  have gW : s.heap = H := eH.symm
  refine iv_heap gW ?_
  have h0w := hts (.fieldLink RX9 42 "RopeTown" "book" "LRopeTown$Book;") (wz_at 1 5 rfl)
  have h1w : ∀ w ∈ wsX90, w ∈ wzX9_back := fun w h => List.mem_cons_of_mem _ (inlX9 w h)
  have h2w : ∀ w ∈ wsX10, w ∈ wzX9_back := fun w h => List.mem_cons_of_mem _ (inlX1 w h)
  have h3w := hts (.initialized RX7) (wz_at 5 10 rfl)
  have h4w := hts (.static yX7_move) (wz_at 5 9 rfl)
  have h5w := hts (.fieldLink RX9 23 "RopeTown" "plan" "LRopeTown$Plan;") (wz_at 0 20 rfl)
  have h6w := hts (.static yX7_depth) (wz_at 22 12 rfl)
  have h7w := hts (.initialized RX3) (wz_at 0 19 rfl)
  have h8w := hts (.instanceMethod yX3_rideTrouble) (wz_at 29 2 rfl)
  have h9w := hts (.selects RX3 yX3_rideTrouble yX3_rideTrouble) (wz_at 29 3 rfl)
  refine lv_iconst (v := Int32.ofInt 0) hx hb dX9_back_0 (by decide +kernel) ?_
  refine lv_istore_n (lv' := [(1, .int (Int32.ofInt (0))), (0, .ref (arT 99))]) hx hb dX9_back_1 rfl hl (by decide) rfl (fun ls hl => ?_)
  refine lv_aload_n hx hb dX9_back_2 rfl (lv_at hl 1 rfl) ?_
  refine va_get (D := G) (ci := 6) (v := .ref (arB 99)) (C := RX9) (T := TX9) (N := 11) (ref := RX9) hx hb hts h1w hown hX.1 hP 0 rfl rfl 6 (by decide) h0w (fun _ h9 => h9) rfl dX9_back_3 ?_
  refine va_getN (D := G) (ci := 0) (v := .int (Int32.ofInt (fiB 1))) (C := RX1) (T := TX1) (N := 12) (ref := RX1) (host := RX9) hx hb hts h2w hown hX.1 hP 12 rfl rfl 1 (by decide) (nf_38 hX.2.2.1) (fun _ h9 => h9) rfl dX9_back_6 ?_
  have rf1B := hRB 1
  refine lv_iconst (v := Int32.ofInt 1) hx hb dX9_back_9 (by decide +kernel) ?_
  refine iv_sub (x := fiB 1) (y := 1) hx hb dX9_back_10 ?_
  refine lv_istore_n (lv' := [(2, .int (Int32.ofInt ((fiB 1 - 1)))), (1, .int (Int32.ofInt (0))), (0, .ref (arT 99))]) hx hb dX9_back_11 rfl hl (by decide) rfl (fun ls hl => ?_)
  refine iv_loop (α := Int × Int × (Int → Int) × (Int → Int)) (nL := 4) (fun b9 => ((wT k arT (tpT) (paT) (arP 99) (pdT) (arB 99) (pkT) (psT) fiT faT) ++ ((wP k arP fiP (uF (uF faP 13 (b9.2.2.1)) 22 (b9.2.2.2))) ++ (wB k arB fiB faB)))) (fun b9 => [(2, .int (Int32.ofInt (b9.1))), (1, .int (Int32.ofInt (b9.2.1))), (0, .ref (arT 99))]) (fun b9 => (b9.1 + 1).toNat) (fun b9 => inR b9.1 ∧ inR b9.2.1 ∧ (∀ t, inR (b9.2.2.1 t)) ∧ (∀ t, inR (b9.2.2.2 t)) ∧ ((-1 ≤ b9.1 ∧ b9.1 < fiB 1 ∧ 0 ≤ b9.2.1 ∧ b9.2.1 ≤ fiB 1 - 1 - b9.1) ∧ BkI (BcP (faB 8) (faB 6) (fiP 0) (fiP 2) (fiP 3) (fiP 4) (fiP 5) (fiP 6) (fiP 7) (fiP 24) (faP 8) (faP 9) (faP 20) (faP 21)) (faB 5) (fiB 1) (b9.1 + 1) b9.2.1)) ?_ ((fiB 1 - 1), 0, faP 13, faP 22) (show inR (fiB 1 - 1) ∧ inR 0 ∧ (∀ t, inR ((faP 13) t)) ∧ (∀ t, inR ((faP 22) t)) ∧ ((-1 ≤ (fiB 1 - 1) ∧ (fiB 1 - 1) < fiB 1 ∧ 0 ≤ 0 ∧ 0 ≤ fiB 1 - 1 - (fiB 1 - 1)) ∧ BkI (BcP (faB 8) (faB 6) (fiP 0) (fiP 2) (fiP 3) (fiP 4) (fiP 5) (fiP 6) (fiP 7) (fiP 24) (faP 8) (faP 9) (faP 20) (faP 21)) (faB 5) (fiB 1) ((fiB 1 - 1) + 1) 0) from ⟨(by omega), (by omega), (hRaP 13), (hRaP 22), (by exact ⟨by omega, bk_0 (by omega) rfl⟩)⟩) hP hD hS hl
  rintro ⟨x2_1, x1_2, g13P_3, g22P_4⟩ ih hi9 H locs ls hP hD hS hl
  obtain ⟨r_x2_1, r_x1_2, r_g13P_3, r_g22P_4, hinv⟩ : inR x2_1 ∧ inR x1_2 ∧ (∀ t, inR (g13P_3 t)) ∧ (∀ t, inR (g22P_4 t)) ∧ ((-1 ≤ x2_1 ∧ x2_1 < fiB 1 ∧ 0 ≤ x1_2 ∧ x1_2 ≤ fiB 1 - 1 - x2_1) ∧ BkI (BcP (faB 8) (faB 6) (fiP 0) (fiP 2) (fiP 3) (fiP 4) (fiP 5) (fiP 6) (fiP 7) (fiP 24) (faP 8) (faP 9) (faP 20) (faP 21)) (faB 5) (fiB 1) (x2_1 + 1) x1_2) := hi9
  obtain ⟨hinv, hBK⟩ := hinv
  obtain ⟨hP, hD⟩ : va_P G vwCl ((wT k arT (tpT) (paT) (arP 99) (pdT) (arB 99) (pkT) (psT) fiT faT) ++ ((wP k arP fiP (uF (uF faP 13 (g13P_3)) 22 (g22P_4))) ++ (wB k arB fiB faB))) H ∧ va_D A ((wT k arT (tpT) (paT) (arP 99) (pdT) (arB 99) (pkT) (psT) fiT faT) ++ ((wP k arP fiP (uF (uF faP 13 (g13P_3)) 22 (g22P_4))) ++ (wB k arB fiB faB))) := ⟨hP, hD⟩
  have hl : lv_has ls 4 [(2, .int (Int32.ofInt (x2_1))), (1, .int (Int32.ofInt (x1_2))), (0, .ref (arT 99))] := hl
  refine lv_iload_n hx hb dX9_back_12 rfl (lv_at hl 0 rfl) ?_
  refine iv_if_lt (tgt := 87) hx hb (by omega) dX9_back_13 (by decide) (fun q5 => ?_) (fun q5 => ?_)
  · refine lv_iload_n hx hb dX9_back_87 rfl (lv_at hl 1 rfl) ?_
    exact W.iret (v := Int32.ofInt (x1_2)) hx hb hr (fun t ht hW => ⟨⟨Int32.ofInt (x1_2), (x1_2, g13P_3, g22P_4), rfl, ⟨rfl, (show (inR x1_2) ∧ (∀ t, inR (g13P_3 t)) ∧ (∀ t, inR (g22P_4 t)) ∧ (BkG (BcP (faB 8) (faB 6) (fiP 0) (fiP 2) (fiP 3) (fiP 4) (fiP 5) (fiP 6) (fiP 7) (fiP 24) (faP 8) (faP 9) (faP 20) (faP 21)) (faB 5) (fiB 1).toNat x1_2) from ⟨(by omega), r_g13P_3, r_g22P_4, (by first | exact bk_x hBK (by omega) rfl | exact bk_e hBK rfl (by omega) hw9 (by omega) hRc69 (by omega) rfl)⟩)⟩, by rw [ht]; exact hP, hD⟩, hS.F ht⟩) hS.2.2 dX9_back_88
  · refine lv_aload_n hx hb dX9_back_16 rfl (lv_at hl 2 rfl) ?_
    refine va_get (D := G) (ci := 6) (v := .ref (arB 99)) (C := RX9) (T := TX9) (N := 11) (ref := RX9) hx hb hts h1w hown hX.1 hP 0 rfl rfl 6 (by decide) h0w (fun _ h9 => h9) rfl dX9_back_17 ?_
    refine va_getN (D := G) (ci := 0) (v := .ref (arB 5)) (C := RX1) (T := TX1) (N := 12) (ref := RX1) (host := RX9) hx hb hts h2w hown hX.1 hP 12 rfl rfl 5 (by decide) (nf_42 hX.2.2.1) (fun _ h9 => h9) rfl dX9_back_20 ?_
    refine lv_iload_n hx hb dX9_back_23 rfl (lv_at hl 0 rfl) ?_
    refine iv_iald hx hb hX.1 hP 13 0 rfl rfl (by omega) (by omega) (by decide) dX9_back_24 ?_
    refine iv_top (fun z6 ez6 => ?_)
    have rz6 : inR z6 := ez6 ▸ (hRaB 5) _
    have ez6 : z6 = (faB 5) x2_1 := ez6
    have hw9 := ez6
    refine lv_iconst (v := Int32.ofInt 2) hx hb dX9_back_25 (by decide +kernel) ?_
    refine iv_icmp_ne (tgt := 81) hx hb (by omega) (by omega) dX9_back_26 (by decide) (fun q7 => ?_) (fun q7 => ?_)
    · refine lv_iinc (v := Int32.ofInt (x2_1 + (-1))) (lv' := [(2, .int (Int32.ofInt ((x2_1 + (-1))))), (1, .int (Int32.ofInt (x1_2))), (0, .ref (arT 99))]) hx hb dX9_back_81 hl (k := 0) rfl (Int32.ofInt_add _ _).symm (by decide) rfl (fun ls hl => ?_)
      refine lv_goto (tgt := 12) hx hb dX9_back_84 (by decide) ?_
      have hl : lv_has ls 4 [(2, .int (Int32.ofInt ((x2_1 + (-1))))), (1, .int (Int32.ofInt (x1_2))), (0, .ref (arT 99))] := lv_sub hl [0, 1, 2] rfl
      exact ih ((x2_1 + (-1)), x1_2, g13P_3, g22P_4) (show ((x2_1 + (-1)) + 1).toNat < (x2_1 + 1).toNat from by omega) (show inR (x2_1 + (-1)) ∧ inR x1_2 ∧ (∀ t, inR (g13P_3 t)) ∧ (∀ t, inR (g22P_4 t)) ∧ ((-1 ≤ (x2_1 + (-1)) ∧ (x2_1 + (-1)) < fiB 1 ∧ 0 ≤ x1_2 ∧ x1_2 ≤ fiB 1 - 1 - (x2_1 + (-1))) ∧ BkI (BcP (faB 8) (faB 6) (fiP 0) (fiP 2) (fiP 3) (fiP 4) (fiP 5) (fiP 6) (fiP 7) (fiP 24) (faP 8) (faP 9) (faP 20) (faP 21)) (faB 5) (fiB 1) ((x2_1 + (-1)) + 1) x1_2) from ⟨(by omega), (by omega), r_g13P_3, r_g22P_4, (by first | exact ⟨by omega, bk_i (bk_m hBK rfl (by omega) hw9 (by omega)) (by omega)⟩ | exact ⟨by omega, bk_i (bk_r hBK rfl (by omega) hw9 (by omega) hRc69 (by omega) rfl) (by omega)⟩)⟩) _ _ _ hP hD hS hl
    · refine lv_aload_n hx hb dX9_back_29 rfl (lv_at hl 2 rfl) ?_
      refine va_get (D := G) (ci := 6) (v := .ref (arB 99)) (C := RX9) (T := TX9) (N := 11) (ref := RX9) hx hb hts h1w hown hX.1 hP 0 rfl rfl 6 (by decide) h0w (fun _ h9 => h9) rfl dX9_back_30 ?_
      refine va_getN (D := G) (ci := 0) (v := .ref (arB 8)) (C := RX1) (T := TX1) (N := 12) (ref := RX1) (host := RX9) hx hb hts h2w hown hX.1 hP 12 rfl rfl 8 (by decide) (nf_45 hX.2.2.1) (fun _ h9 => h9) rfl dX9_back_33 ?_
      refine lv_iload_n hx hb dX9_back_36 rfl (lv_at hl 0 rfl) ?_
      refine iv_iald hx hb hX.1 hP 16 0 rfl rfl (by omega) (by omega) (by decide) dX9_back_37 ?_
      refine iv_top (fun z8 ez8 => ?_)
      have rz8 : inR z8 := ez8 ▸ (hRaB 8) _
      have ez8 : z8 = (faB 8) x2_1 := ez8
      have hz4 := ez8
      refine lv_aload_n hx hb dX9_back_38 rfl (lv_at hl 2 rfl) ?_
      refine va_get (D := G) (ci := 6) (v := .ref (arB 99)) (C := RX9) (T := TX9) (N := 11) (ref := RX9) hx hb hts h1w hown hX.1 hP 0 rfl rfl 6 (by decide) h0w (fun _ h9 => h9) rfl dX9_back_39 ?_
      refine va_getN (D := G) (ci := 0) (v := .ref (arB 6)) (C := RX1) (T := TX1) (N := 12) (ref := RX1) (host := RX9) hx hb hts h2w hown hX.1 hP 12 rfl rfl 6 (by decide) (nf_43 hX.2.2.1) (fun _ h9 => h9) rfl dX9_back_42 ?_
      refine lv_iload_n hx hb dX9_back_45 rfl (lv_at hl 0 rfl) ?_
      refine iv_iald hx hb hX.1 hP 14 0 rfl rfl (by omega) (by omega) (by decide) dX9_back_46 ?_
      refine iv_top (fun z9 ez9 => ?_)
      have rz9 : inR z9 := ez9 ▸ (hRaB 6) _
      have ez9 : z9 = (faB 6) x2_1 := ez9
      have hz5 := ez9
      refine c0_i (va_runSN (As := [.int (Int32.ofInt (z8)), .int (Int32.ofInt (z9))]) (rest := []) ⟨hx, hb, hml, hown, hts⟩ (mX7_move l G k z8 z9 H.size (by omega) (by omega)) ⟨va_cnB 2 hts (gz [] (.code yX7_move cX7_move 2 (some .int)) [(5, 11)] rfl) rfl rfl rfl (nm_22 hX.2.2.1) h3w (by decide +kernel) ⟨Nat.le_of_ble_eq_true rfl, Nat.le_of_ble_eq_true rfl⟩, h4w, trivial⟩ (cr_pre0 (EZ_ok k) hZ hS hX hP hD hA) rfl rfl hl.1 rfl (lv_room (Nat.le_of_ble_eq_true rfl)) dX9_back_47 ⟨Nat.le_of_ble_eq_true rfl, Nat.le_of_ble_eq_true rfl⟩) hP hD hS hA (fun r u H locs hp hP hD hS => ?_)
      obtain ⟨c10, rfl⟩ : ∃ z, z = u := ⟨_, rfl⟩
      obtain ⟨h9, rc10, hp10⟩ : r = Int32.ofInt c10 ∧ (inR c10) ∧ (c10 = mvS z8 z9) := hp
      subst h9
      have hMv47 := hp10
      refine lv_istore_n (lv' := [(3, .int (Int32.ofInt (c10))), (2, .int (Int32.ofInt (x2_1))), (1, .int (Int32.ofInt (x1_2))), (0, .ref (arT 99))]) hx hb dX9_back_50 rfl hl (by decide) rfl (fun ls hl => ?_)
      refine lv_aload_n hx hb dX9_back_51 rfl (lv_at hl 3 rfl) ?_
      refine va_get (D := G) (ci := 6) (v := .ref (arP 99)) (C := RX9) (T := TX9) (N := 11) (ref := RX9) hx hb hts h1w hown hX.1 hP 0 rfl rfl 4 (by decide) h5w (fun _ h9 => h9) rfl dX9_back_52 ?_
      refine lv_iload_n hx hb dX9_back_55 rfl (lv_at hl 0 rfl) ?_
      refine lv_aload_n hx hb dX9_back_56 rfl (lv_at hl 3 rfl) ?_
      refine va_get (D := G) (ci := 6) (v := .ref (arB 99)) (C := RX9) (T := TX9) (N := 11) (ref := RX9) hx hb hts h1w hown hX.1 hP 0 rfl rfl 6 (by decide) h0w (fun _ h9 => h9) rfl dX9_back_57 ?_
      refine va_getN (D := G) (ci := 0) (v := .ref (arB 8)) (C := RX1) (T := TX1) (N := 12) (ref := RX1) (host := RX9) hx hb hts h2w hown hX.1 hP 12 rfl rfl 8 (by decide) (nf_45 hX.2.2.1) (fun _ h9 => h9) rfl dX9_back_60 ?_
      refine lv_iload_n hx hb dX9_back_63 rfl (lv_at hl 1 rfl) ?_
      refine iv_iald hx hb hX.1 hP 16 0 rfl rfl (by omega) (by omega) (by decide) dX9_back_64 ?_
      refine iv_top (fun z11 ez11 => ?_)
      have rz11 : inR z11 := ez11 ▸ (hRaB 8) _
      have ez11 : z11 = (faB 8) x2_1 := ez11
      have hz6 := ez11
      refine c0_i (va_runSN (As := [.int (Int32.ofInt (z11))]) (rest := [.int (Int32.ofInt (c10)), .ref (arP 99)]) ⟨hx, hb, hml, hown, hts⟩ (mX7_depth l G k z11 H.size (by omega)) ⟨va_cnB 1 hts (gz [] (.code yX7_depth cX7_depth 1 (some .int)) [(22, 13)] rfl) rfl rfl rfl (nm_24 hX.2.2.1) h3w (by decide +kernel) ⟨Nat.le_of_ble_eq_true rfl, Nat.le_of_ble_eq_true rfl⟩, h6w, trivial⟩ (cr_pre0 (EZ_ok k) hZ hS hX hP hD hA) rfl rfl hl.1 rfl (lv_room (Nat.le_of_ble_eq_true rfl)) dX9_back_65 ⟨Nat.le_of_ble_eq_true rfl, Nat.le_of_ble_eq_true rfl⟩) hP hD hS hA (fun r u H locs hp hP hD hS => ?_)
      obtain ⟨c12, rfl⟩ : ∃ z, z = u := ⟨_, rfl⟩
      obtain ⟨h9, rc12, hp12⟩ : r = Int32.ofInt c12 ∧ (inR c12) ∧ (c12 = dp z11 ∧ 0 ≤ c12 ∧ c12 ≤ 15) := hp
      subst h9
      have hDp65 := hp12.1
      refine lv_iconst (v := Int32.ofInt 1) hx hb dX9_back_68 (by decide +kernel) ?_
      refine cz_i (wr := ((wT k arT (tpT) (paT) (arP 99) (pdT) (arB 99) (pkT) (psT) fiT faT) ++ (wB k arB fiB faB))) (va_runVN (As := [.int (Int32.ofInt (c10)), .int (Int32.ofInt (c12)), .int (Int32.ofInt (1))]) (rest := []) ⟨hx, hb, hml, hown, hts⟩ (mX3_rideTrouble l G k arP fiP (uF (uF faP 13 (g13P_3)) 22 (g22P_4)) c10 c12 1 H.size hRP (iG (iG hRaP r_g13P_3) r_g22P_4) hB8P hB20P hB21P (by omega) (by omega) (by omega) (show 0 ≤ (fiP 7) ∧ (fiP 7) ≤ 7 from by omega) (show 0 ≤ (fiP 0) ∧ (fiP 0) ≤ 11 from by omega) (show 0 ≤ (fiP 24) ∧ (fiP 24) ≤ 4 from by omega) (show ∀ q9, 0 ≤ q9 → q9 < (fiP 24) → RWf (dcf ((faP 20))) (stq ((faP 21)) q9) ((faP 21) q9) from by first | exact hRC | omega)) ⟨va_cnB 3 hts (gz [] (.code yX3_rideTrouble cX3_rideTrouble 4 (some .int)) [(29, 4)] rfl) rfl rfl rfl (nm_19 hX.2.2.1) h7w (by decide +kernel) ⟨Nat.le_of_ble_eq_true rfl, Nat.le_of_ble_eq_true rfl⟩, h8w, h9w⟩ (cy_preV (EZ_ok k) hZ hS hX hP hD hA [2, 3, 4, 5, 6, 7, 8, 9, 10, 11] rfl rfl (ci := 2) (q0 := 2) rfl rfl) rfl rfl hl.1 rfl (lv_room (Nat.le_of_ble_eq_true rfl)) dX9_back_69 ⟨Nat.le_of_ble_eq_true rfl, Nat.le_of_ble_eq_true rfl⟩) hP hD hS hA [2, 3, 4, 5, 6, 7, 8, 9, 10, 11] [0, 1, 12, 13, 14, 15, 16, 17, 18, 19] rfl rfl (by decide) (by decide) (fun r u H locs hp hP hD hS => ?_)
      obtain ⟨c13, c14, c15⟩ := u
      obtain ⟨hP, hD⟩ : va_P G vwCl ((wT k arT (tpT) (paT) (arP 99) (pdT) (arB 99) (pkT) (psT) fiT faT) ++ ((wB k arB fiB faB) ++ (wP k arP fiP (uF (uF faP 13 (c14)) 22 (c15))))) H ∧ va_D A ((wT k arT (tpT) (paT) (arP 99) (pdT) (arB 99) (pkT) (psT) fiT faT) ++ ((wB k arB fiB faB) ++ (wP k arP fiP (uF (uF faP 13 (c14)) 22 (c15))))) := ⟨hP, hD⟩
      obtain ⟨hP, hD⟩ : va_P G vwCl ((wT k arT (tpT) (paT) (arP 99) (pdT) (arB 99) (pkT) (psT) fiT faT) ++ ((wP k arP fiP (uF (uF faP 13 (c14)) 22 (c15))) ++ (wB k arB fiB faB))) H ∧ va_D A ((wT k arT (tpT) (paT) (arP 99) (pdT) (arB 99) (pkT) (psT) fiT faT) ++ ((wP k arP fiP (uF (uF faP 13 (c14)) 22 (c15))) ++ (wB k arB fiB faB))) := re_ord hP hD [0, 1, 10, 11, 12, 13, 14, 15, 16, 17, 18, 19, 2, 3, 4, 5, 6, 7, 8, 9] (by decide) rfl
      obtain ⟨h9, rc13, rc14, rc15, hp15⟩ : r = Int32.ofInt c13 ∧ (inR c13) ∧ (∀ t, inR (c14 t)) ∧ (∀ t, inR (c15 t)) ∧ ((0 ≤ c13 ∧ c13 ≤ 7 ∧ (c13 = 0 → 0 ≤ c12 ∧ c12 ≤ (fiP 0))) ∧ RtC c13 ((fiP 0)) (dp c10) (gs (lc (nb c10) ((faP 9)) 0) ((fiP 7))) (gs (lc (nb c10) ((faP 9)) 1) ((fiP 7))) ((fiP 2)) (bkI (fun q => evR (dcf ((faP 20))) (vls (nb c10) ((faP 8)) ((faP 9)) 0 ((fiP 7)) ((fiP 0)) (dp c10)) (stq ((faP 21)) q) ((faP 21) q)) ((fiP 24)) ∧ bkI (fun q => evR (dcf ((faP 20))) (vls (nb c10) ((faP 8)) ((faP 9)) 1 ((fiP 7)) ((fiP 0)) (dp c10)) (stq ((faP 21)) q) ((faP 21) q)) ((fiP 24))) ((fiP 3)) ((fiP 4)) ((fiP 5)) ((fiP 6)) c12 1) := hp
      subst h9
      obtain ⟨hp15, hRc69⟩ := hp15
      rw [hMv47, hz4, hz5, hDp65, hz6] at hRc69
      refine iv_if_eq (tgt := 78) hx hb (by omega) dX9_back_72 (by decide) (fun q16 => ?_) (fun q16 => ?_)
      · refine lv_iinc (v := Int32.ofInt (x1_2 + 1)) (lv' := [(1, .int (Int32.ofInt ((x1_2 + 1)))), (3, .int (Int32.ofInt (c10))), (2, .int (Int32.ofInt (x2_1))), (0, .ref (arT 99))]) hx hb dX9_back_78 hl (k := 2) rfl (Int32.ofInt_add _ _).symm (by decide) rfl (fun ls hl => ?_)
        refine lv_iinc (v := Int32.ofInt (x2_1 + (-1))) (lv' := [(2, .int (Int32.ofInt ((x2_1 + (-1))))), (1, .int (Int32.ofInt ((x1_2 + 1)))), (3, .int (Int32.ofInt (c10))), (0, .ref (arT 99))]) hx hb dX9_back_81 hl (k := 2) rfl (Int32.ofInt_add _ _).symm (by decide) rfl (fun ls hl => ?_)
        refine lv_goto (tgt := 12) hx hb dX9_back_84 (by decide) ?_
        have hl : lv_has ls 4 [(2, .int (Int32.ofInt ((x2_1 + (-1))))), (1, .int (Int32.ofInt ((x1_2 + 1)))), (0, .ref (arT 99))] := lv_sub hl [0, 1, 3] rfl
        exact ih ((x2_1 + (-1)), (x1_2 + 1), c14, c15) (show ((x2_1 + (-1)) + 1).toNat < (x2_1 + 1).toNat from by omega) (show inR (x2_1 + (-1)) ∧ inR (x1_2 + 1) ∧ (∀ t, inR (c14 t)) ∧ (∀ t, inR (c15 t)) ∧ ((-1 ≤ (x2_1 + (-1)) ∧ (x2_1 + (-1)) < fiB 1 ∧ 0 ≤ (x1_2 + 1) ∧ (x1_2 + 1) ≤ fiB 1 - 1 - (x2_1 + (-1))) ∧ BkI (BcP (faB 8) (faB 6) (fiP 0) (fiP 2) (fiP 3) (fiP 4) (fiP 5) (fiP 6) (fiP 7) (fiP 24) (faP 8) (faP 9) (faP 20) (faP 21)) (faB 5) (fiB 1) ((x2_1 + (-1)) + 1) (x1_2 + 1)) from ⟨(by omega), (by omega), rc14, rc15, (by first | exact ⟨by omega, bk_i (bk_m hBK rfl (by omega) hw9 (by omega)) (by omega)⟩ | exact ⟨by omega, bk_i (bk_r hBK rfl (by omega) hw9 (by omega) hRc69 (by omega) rfl) (by omega)⟩)⟩) _ _ _ hP hD hS hl
      · refine lv_goto (tgt := 87) hx hb dX9_back_75 (by decide) ?_
        refine lv_iload_n hx hb dX9_back_87 rfl (lv_at hl 2 rfl) ?_
        exact W.iret (v := Int32.ofInt (x1_2)) hx hb hr (fun t ht hW => ⟨⟨Int32.ofInt (x1_2), (x1_2, c14, c15), rfl, ⟨rfl, (show (inR x1_2) ∧ (∀ t, inR (c14 t)) ∧ (∀ t, inR (c15 t)) ∧ (BkG (BcP (faB 8) (faB 6) (fiP 0) (fiP 2) (fiP 3) (fiP 4) (fiP 5) (fiP 6) (fiP 7) (fiP 24) (faP 8) (faP 9) (faP 20) (faP 21)) (faB 5) (fiB 1).toNat x1_2) from ⟨(by omega), rc14, rc15, (by first | exact bk_x hBK (by omega) rfl | exact bk_e hBK rfl (by omega) hw9 (by omega) hRc69 (by omega) rfl)⟩)⟩, by rw [ht]; exact hP, hD⟩, hS.F ht⟩) hS.2.2 dX9_back_88

