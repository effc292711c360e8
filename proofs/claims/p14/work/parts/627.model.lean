set_option maxHeartbeats 4000000 in
set_option maxRecDepth 100000 in
theorem mX10_allServed (l : Launch) (G : va_G) (k : Nat → ClassId) (ar : Nat → Nat) (fi : Nat → Int) (fa : Nat → Int → Int) (fl : Nat → Int64) (k0 : Int) (sz : Nat) (hR : ∀ j, inR (fi j)) (hRa : ∀ j t, inR (fa j t)) (hr_k0 : inR k0) (hth : 0 ≤ fi 12 ∧ fi 12 ≤ 7) (hk : 0 ≤ k0 ∧ k0 < 1501) : CNi l G k (EZ k) yX10_allServed wzX10_allServed ({ frames := 2, cells := 0, slots := 0, locals := 42 }) [.ref (ar 71), .int (Int32.ofInt (k0))] sz (wM k ar fi fa fl) (fun (r0 : Int32) (u : Int × (Int → Int) × Int) => r0 = Int32.ofInt (u.1) ∧ (inR u.1) ∧ (∀ t, inR (u.2.1 t)) ∧ (inR u.2.2) ∧ ((u.1 = 0 ∨ u.1 = 1))) (fun (u : Int × (Int → Int) × Int) => (wM k ar (uF fi 55 (u.2.2)) (uF fa 53 (u.2.1)) fl)) := by
  refine Met.ofW (cc := cX10_allServed) (maxL := 4) (ret := (some .boolean)) (by decide) rfl ?_
  intro p e s m args below meth c s₁ B hml hv
  obtain ⟨rfl, hsz, hP, hX, hD0, hZ0⟩ := hv
  have hx := B.exec
  have hb := B.bytes
  have hr := B.returns
  have hts := atoms_spec (ws := wzX10_allServed) B.pre
  have hown : s.vm.findClass RX10 = some m.cls := findClass_of_methodNamed B.named
  subst hsz
  have hD := hD0.self (sz := s.heap.size)
  have hZ := hZ0
  generalize hAe : va_A (wM k ar fi fa fl) s.heap.size = A at hD hZ ⊢
  have hA : ∀ q : Nat, s.heap.size ≤ q → A q := fun q h => by rw [← hAe]; exact Or.inr h
  have hS : va_S A s.heap s.heap [] := va_S.rf
  have hl := lv_entry ([.ref (ar 71), .int (Int32.ofInt (k0))]) (n := 4) (Nat.le_of_ble_eq_true rfl)
  rw [lg_entry_eq]
  generalize (lg_sl ([.ref (ar 71), .int (Int32.ofInt (k0))]) ++ List.replicate (4 - (lg_sl ([.ref (ar 71), .int (Int32.ofInt (k0))])).length) Slot.unset).toArray = ls at hl ⊢
  have hl : lv_has ls 4 [(0, .ref (ar 71)), (1, .int (Int32.ofInt (k0)))] := hl
  obtain ⟨H, eH⟩ : ∃ H, H = s.heap := ⟨_, rfl⟩
  rw [← eH] at hP
  have hS : va_S A s.heap H [] := by rw [eH]; exact hS
  have gW : s.heap = H := eH.symm
  refine iv_heap gW ?_
  have h0w := hts (.fieldLink RX10 117 "RopeTownModel" "state" "[J") (wz_at 7 3 rfl)
  have h1w : ∀ w ∈ wsX100, w ∈ wzX10_allServed := fun w h => List.mem_cons_of_mem _ (inlX10 w h)
  have h2w := hts (.fieldLink RX10 174 "RopeTownModel" "things" "I") (wz_at 21 11 rfl)
  have h3w := hts (.fieldLink RX10 134 "RopeTownModel" "row" "[I") (wz_at 7 9 rfl)
  have h4w := hts (.fieldLink RX10 65 "RopeTownModel" "aim" "[I") (wz_at 6 10 rfl)
  have h5w := hts (.fieldLink RX10 427 "RopeTownModel" "rowBucket" "I") (wz_at 36 21 rfl)
  refine lv_aload_n hx hb dX10_allServed_0 rfl (lv_at hl 0 rfl) ?_
  refine lv_aload_n hx hb dX10_allServed_1 rfl (lv_at hl 0 rfl) ?_
  refine va_get (D := G) (ci := 7) (v := .ref (ar 45)) (C := RX10) (T := TX10) (N := 71) (ref := RX10) hx hb hts h1w hown hX.1 hP 0 rfl rfl 45 (by decide) h0w (fun _ h9 => h9) rfl dX10_allServed_2 ?_
  refine lv_iload_n hx hb dX10_allServed_5 rfl (lv_at hl 1 rfl) ?_
  refine iv_lald hx hb hX.1 hP 21 2 rfl rfl (by omega) (by omega) (by decide) dX10_allServed_6 ?_
  refine lv_topl (fun z1 ez1 => ?_)
  refine cr_v (va_runV (As := [.long (z1)]) (rest := []) ⟨hx, hb, hml, hown, hts⟩ (mX10_unpack l G k ar fi fa fl z1 H.size hR hRa) (cwV 1 hts (gz [.methodLink RX10 465 yX10_unpack, .instanceMethod yX10_unpack, .selects RX10 yX10_unpack yX10_unpack, .initialized RX10] (.code yX10_unpack cX10_unpack 6 none) [(36, 17), (36, 18), (36, 19), (0, 5), (36, 20)] rfl) rfl rfl rfl (by decide +kernel) ⟨Nat.le_of_ble_eq_true rfl, Nat.le_of_ble_eq_true rfl⟩) (cr_preV (EZ_ok k) hZ hS hX hP hD hA (ci := 7) (q0 := 0) rfl rfl) rfl rfl hl.1 rfl (lv_room (Nat.le_of_ble_eq_true rfl)) dX10_allServed_7 ⟨Nat.le_of_ble_eq_true rfl, Nat.le_of_ble_eq_true rfl⟩) hD hS hA (fun u H locs hp hP hD hS => ?_)
  obtain ⟨c2, c3⟩ := u
  obtain ⟨hP, hD⟩ : va_P G vwCl (wM k ar (uF fi 55 (c3)) (uF fa 53 (c2)) fl) H ∧ va_D A (wM k ar (uF fi 55 (c3)) (uF fa 53 (c2)) fl) := ⟨hP, hD⟩
  obtain ⟨rc2, rc3, hp3⟩ : (∀ t, inR (c2 t)) ∧ (inR c3) ∧ (True) := hp
  refine lv_iconst (v := Int32.ofInt 0) hx hb dX10_allServed_10 (by decide +kernel) ?_
  refine lv_istore_n (lv' := [(2, .int (Int32.ofInt (0))), (0, .ref (ar 71)), (1, .int (Int32.ofInt (k0)))]) hx hb dX10_allServed_11 rfl hl (by decide) rfl (fun ls hl => ?_)
  refine iv_loop (α := Int) (nL := 4) (fun b9 => (wM k ar (uF fi 55 (c3)) (uF fa 53 (c2)) fl)) (fun b9 => [(2, .int (Int32.ofInt (b9))), (0, .ref (ar 71)), (1, .int (Int32.ofInt (k0)))]) (fun b9 => (fi 12 - b9).toNat) (fun b9 => inR b9 ∧ (0 ≤ b9)) ?_ (0) (show inR 0 ∧ (0 ≤ 0) from ⟨(by omega), (by omega)⟩) hP hD hS hl
  intro x2_4 ih hi9 H locs ls hP hD hS hl
  obtain ⟨r_x2_4, hinv⟩ : inR x2_4 ∧ (0 ≤ x2_4) := hi9
  obtain ⟨hP, hD⟩ : va_P G vwCl (wM k ar (uF fi 55 (c3)) (uF fa 53 (c2)) fl) H ∧ va_D A (wM k ar (uF fi 55 (c3)) (uF fa 53 (c2)) fl) := ⟨hP, hD⟩
  have hl : lv_has ls 4 [(2, .int (Int32.ofInt (x2_4))), (0, .ref (ar 71)), (1, .int (Int32.ofInt (k0)))] := hl
  refine lv_iload_n hx hb dX10_allServed_12 rfl (lv_at hl 0 rfl) ?_
  refine lv_aload_n hx hb dX10_allServed_13 rfl (lv_at hl 1 rfl) ?_
  refine va_get (D := G) (ci := 7) (v := .int (Int32.ofInt (fi 12))) (C := RX10) (T := TX10) (N := 71) (ref := RX10) hx hb hts h1w hown hX.1 hP 0 rfl rfl 12 (by decide) h2w (fun _ h9 => h9) rfl dX10_allServed_14 ?_
  have rf12 := hR 12
  refine iv_icmp_ge (tgt := 124) hx hb (by omega) (by omega) dX10_allServed_17 (by decide) (fun q5 => ?_) (fun q5 => ?_)
  · refine lv_iconst (v := Int32.ofInt 1) hx hb dX10_allServed_124 (by decide +kernel) ?_
    exact W.zret (v := Int32.ofInt (1)) hx hb hr (nz_bool (by omega)) (fun t ht hW => ⟨⟨Int32.ofInt (1), (1, c2, c3), rfl, ⟨rfl, (show (inR 1) ∧ (∀ t, inR (c2 t)) ∧ (inR c3) ∧ ((1 = 0 ∨ 1 = 1)) from ⟨(by omega), rc2, (by omega), (by omega)⟩)⟩, by rw [ht]; exact hP, hD⟩, hS.F ht⟩) hS.2.2 dX10_allServed_125
  · refine lv_aload_n hx hb dX10_allServed_20 rfl (lv_at hl 1 rfl) ?_
    refine va_get (D := G) (ci := 7) (v := .ref (ar 53)) (C := RX10) (T := TX10) (N := 71) (ref := RX10) hx hb hts h1w hown hX.1 hP 0 rfl rfl 53 (by decide) h3w (fun _ h9 => h9) rfl dX10_allServed_21 ?_
    refine lv_iload_n hx hb dX10_allServed_24 rfl (lv_at hl 0 rfl) ?_
    refine iv_iald hx hb hX.1 hP 26 0 rfl rfl (by omega) (by omega) (by decide) dX10_allServed_25 ?_
    refine iv_top (fun z6 ez6 => ?_)
    have rz6 : inR z6 := ez6 ▸ rc2 _
    have ez6 : z6 = c2 x2_4 := ez6
    refine lv_bipush (v := Int32.ofInt 15) hx hb dX10_allServed_26 (by decide +kernel) ?_
    refine iv_icmp_eq (tgt := 118) hx hb (by omega) (by omega) dX10_allServed_28 (by decide) (fun q7 => ?_) (fun q7 => ?_)
    · refine lv_iinc (v := Int32.ofInt (x2_4 + 1)) (lv' := [(2, .int (Int32.ofInt ((x2_4 + 1)))), (0, .ref (ar 71)), (1, .int (Int32.ofInt (k0)))]) hx hb dX10_allServed_118 hl (k := 0) rfl (Int32.ofInt_add _ _).symm (by decide) rfl (fun ls hl => ?_)
      refine lv_goto (tgt := 12) hx hb dX10_allServed_121 (by decide) ?_
      have hl : lv_has ls 4 [(2, .int (Int32.ofInt ((x2_4 + 1)))), (0, .ref (ar 71)), (1, .int (Int32.ofInt (k0)))] := lv_sub hl [0, 1, 2] rfl
      exact ih ((x2_4 + 1)) (show (fi 12 - (x2_4 + 1)).toNat < (fi 12 - x2_4).toNat from by omega) (show inR (x2_4 + 1) ∧ (0 ≤ (x2_4 + 1)) from ⟨(by omega), (by omega)⟩) _ _ _ hP hD hS hl
    · refine lv_aload_n hx hb dX10_allServed_31 rfl (lv_at hl 1 rfl) ?_
      refine va_get (D := G) (ci := 7) (v := .ref (ar 7)) (C := RX10) (T := TX10) (N := 71) (ref := RX10) hx hb hts h1w hown hX.1 hP 0 rfl rfl 7 (by decide) h4w (fun _ h9 => h9) rfl dX10_allServed_32 ?_
      refine lv_iload_n hx hb dX10_allServed_35 rfl (lv_at hl 0 rfl) ?_
      refine iv_iald hx hb hX.1 hP 5 0 rfl rfl (by omega) (by omega) (by decide) dX10_allServed_36 ?_
      refine iv_top (fun z8 ez8 => ?_)
      have rz8 : inR z8 := ez8 ▸ (hRa 7) _
      have ez8 : z8 = (fa 7) x2_4 := ez8
      refine lv_iconst (v := Int32.ofInt (-1)) hx hb dX10_allServed_37 (by decide +kernel) ?_
      refine iv_icmp_eq (tgt := 118) hx hb (by omega) (by omega) dX10_allServed_38 (by decide) (fun q9 => ?_) (fun q9 => ?_)
      · refine lv_iinc (v := Int32.ofInt (x2_4 + 1)) (lv' := [(2, .int (Int32.ofInt ((x2_4 + 1)))), (0, .ref (ar 71)), (1, .int (Int32.ofInt (k0)))]) hx hb dX10_allServed_118 hl (k := 0) rfl (Int32.ofInt_add _ _).symm (by decide) rfl (fun ls hl => ?_)
        refine lv_goto (tgt := 12) hx hb dX10_allServed_121 (by decide) ?_
        have hl : lv_has ls 4 [(2, .int (Int32.ofInt ((x2_4 + 1)))), (0, .ref (ar 71)), (1, .int (Int32.ofInt (k0)))] := lv_sub hl [0, 1, 2] rfl
        exact ih ((x2_4 + 1)) (show (fi 12 - (x2_4 + 1)).toNat < (fi 12 - x2_4).toNat from by omega) (show inR (x2_4 + 1) ∧ (0 ≤ (x2_4 + 1)) from ⟨(by omega), (by omega)⟩) _ _ _ hP hD hS hl
      · refine lv_aload_n hx hb dX10_allServed_41 rfl (lv_at hl 1 rfl) ?_
        refine lv_iload_n hx hb dX10_allServed_42 rfl (lv_at hl 0 rfl) ?_
        refine lv_aload_n hx hb dX10_allServed_43 rfl (lv_at hl 1 rfl) ?_
        refine va_get (D := G) (ci := 7) (v := .ref (ar 53)) (C := RX10) (T := TX10) (N := 71) (ref := RX10) hx hb hts h1w hown hX.1 hP 0 rfl rfl 53 (by decide) h3w (fun _ h9 => h9) rfl dX10_allServed_44 ?_
        refine lv_iload_n hx hb dX10_allServed_47 rfl (lv_at hl 0 rfl) ?_
        refine iv_iald hx hb hX.1 hP 26 0 rfl rfl (by omega) (by omega) (by decide) dX10_allServed_48 ?_
        refine iv_top (fun z10 ez10 => ?_)
        have rz10 : inR z10 := ez10 ▸ rc2 _
        have ez10 : z10 = c2 x2_4 := ez10
        refine cr_i (va_runV (As := [.int (Int32.ofInt (x2_4)), .int (Int32.ofInt (z10))]) (rest := []) ⟨hx, hb, hml, hown, hts⟩ (mX10_isServed l G k ar (uF fi 55 (c3)) (uF fa 53 (c2)) fl x2_4 z10 H.size (iF hR (by omega)) (iG hRa rc2) (by omega) (by omega) (show 0 ≤ x2_4 ∧ x2_4 < 14 from by omega)) (cwV 2 hts (gz [.methodLink RX10 355 yX10_isServed, .instanceMethod yX10_isServed, .selects RX10 yX10_isServed yX10_isServed, .initialized RX10] (.code yX10_isServed cX10_isServed 3 (some .boolean)) [(24, 15), (24, 16), (24, 17), (0, 5), (24, 18)] rfl) rfl rfl rfl (by decide +kernel) ⟨Nat.le_of_ble_eq_true rfl, Nat.le_of_ble_eq_true rfl⟩) (cr_preV (EZ_ok k) hZ hS hX hP hD hA (ci := 7) (q0 := 0) rfl rfl) rfl rfl hl.1 rfl (lv_room (Nat.le_of_ble_eq_true rfl)) dX10_allServed_49 ⟨Nat.le_of_ble_eq_true rfl, Nat.le_of_ble_eq_true rfl⟩) hD hS hA (fun r u H locs hp hP hD hS => ?_)
        obtain ⟨c11, rfl⟩ : ∃ z, z = u := ⟨_, rfl⟩
        obtain ⟨h9, rc11, hp11⟩ : r = Int32.ofInt c11 ∧ (inR c11) ∧ ((c11 = 1 ∧ svM z10 ((fa 7) x2_4)) ∨ (c11 = 0 ∧ ¬ svM z10 ((fa 7) x2_4))) := hp
        subst h9
        unfold svM at hp11
        refine iv_if_eq (tgt := 58) hx hb (by omega) dX10_allServed_52 (by decide) (fun q12 => ?_) (fun q12 => ?_)
        · refine lv_aload_n hx hb dX10_allServed_58 rfl (lv_at hl 1 rfl) ?_
          refine va_get (D := G) (ci := 7) (v := .ref (ar 53)) (C := RX10) (T := TX10) (N := 71) (ref := RX10) hx hb hts h1w hown hX.1 hP 0 rfl rfl 53 (by decide) h3w (fun _ h9 => h9) rfl dX10_allServed_59 ?_
          refine lv_iload_n hx hb dX10_allServed_62 rfl (lv_at hl 0 rfl) ?_
          refine iv_iald hx hb hX.1 hP 26 0 rfl rfl (by omega) (by omega) (by decide) dX10_allServed_63 ?_
          refine iv_top (fun z13 ez13 => ?_)
          have rz13 : inR z13 := ez13 ▸ rc2 _
          have ez13 : z13 = c2 x2_4 := ez13
          refine lv_bipush (v := Int32.ofInt 12) hx hb dX10_allServed_64 (by decide +kernel) ?_
          refine iv_icmp_eq (tgt := 80) hx hb (by omega) (by omega) dX10_allServed_66 (by decide) (fun q14 => ?_) (fun q14 => ?_)
          · refine lv_iconst (v := Int32.ofInt 1) hx hb dX10_allServed_80 (by decide +kernel) ?_
            refine lv_goto (tgt := 85) hx hb dX10_allServed_81 (by decide) ?_
            refine lv_istore_n (lv' := [(3, .int (Int32.ofInt (1))), (2, .int (Int32.ofInt (x2_4))), (0, .ref (ar 71)), (1, .int (Int32.ofInt (k0)))]) hx hb dX10_allServed_85 rfl hl (by decide) rfl (fun ls hl => ?_)
            refine lv_iload_n hx hb dX10_allServed_86 rfl (lv_at hl 0 rfl) ?_
            refine iv_if_eq (tgt := 116) hx hb (by omega) dX10_allServed_87 (by decide) (fun q => absurd q (by omega)) (fun _ => ?_)
            refine lv_aload_n hx hb dX10_allServed_90 rfl (lv_at hl 2 rfl) ?_
            refine lv_aload_n hx hb dX10_allServed_91 rfl (lv_at hl 2 rfl) ?_
            refine va_get (D := G) (ci := 7) (v := .ref (ar 53)) (C := RX10) (T := TX10) (N := 71) (ref := RX10) hx hb hts h1w hown hX.1 hP 0 rfl rfl 53 (by decide) h3w (fun _ h9 => h9) rfl dX10_allServed_92 ?_
            refine lv_iload_n hx hb dX10_allServed_95 rfl (lv_at hl 1 rfl) ?_
            refine iv_iald hx hb hX.1 hP 26 0 rfl rfl (by omega) (by omega) (by decide) dX10_allServed_96 ?_
            refine iv_top (fun z15 ez15 => ?_)
            have rz15 : inR z15 := ez15 ▸ rc2 _
            have ez15 : z15 = c2 x2_4 := ez15
            refine lv_bipush (v := Int32.ofInt 12) hx hb dX10_allServed_97 (by decide +kernel) ?_
            refine iv_sub (x := z15) (y := 12) hx hb dX10_allServed_99 ?_
            refine iv_wr ?_
            refine iv_top (fun z16 ez16 => ?_)
            have rz16 : inR z16 := ez16 ▸ bWr_r _
            refine lv_aload_n hx hb dX10_allServed_100 rfl (lv_at hl 2 rfl) ?_
            refine va_get (D := G) (ci := 7) (v := .int (Int32.ofInt (c3))) (C := RX10) (T := TX10) (N := 71) (ref := RX10) hx hb hts h1w hown hX.1 hP 0 rfl rfl 55 (by decide) h5w (fun _ h9 => h9) rfl dX10_allServed_101 ?_
            refine cr_i (va_runV (As := [.int (Int32.ofInt (z16)), .int (Int32.ofInt (c3))]) (rest := []) ⟨hx, hb, hml, hown, hts⟩ (mX10_depthOf l G k ar (uF fi 55 (c3)) (uF fa 53 (c2)) fl z16 c3 H.size (iF hR (by omega)) (iG hRa rc2) (by omega) (by omega)) (cwV 2 hts (gz [.methodLink RX10 352 yX10_depthOf, .instanceMethod yX10_depthOf, .selects RX10 yX10_depthOf yX10_depthOf, .initialized RX10] (.code yX10_depthOf cX10_depthOf 3 (some .int)) [(24, 7), (24, 8), (24, 9), (0, 5), (24, 10)] rfl) rfl rfl rfl (by decide +kernel) ⟨Nat.le_of_ble_eq_true rfl, Nat.le_of_ble_eq_true rfl⟩) (cr_preV (EZ_ok k) hZ hS hX hP hD hA (ci := 7) (q0 := 0) rfl rfl) rfl rfl hl.1 rfl (lv_room (Nat.le_of_ble_eq_true rfl)) dX10_allServed_104 ⟨Nat.le_of_ble_eq_true rfl, Nat.le_of_ble_eq_true rfl⟩) hD hS hA (fun r u H locs hp hP hD hS => ?_)
            obtain ⟨c17, rfl⟩ : ∃ z, z = u := ⟨_, rfl⟩
            obtain ⟨h9, rc17, hp17⟩ : r = Int32.ofInt c17 ∧ (inR c17) ∧ (c17 = buD z16 c3 ((fa 3) 0)) := hp
            subst h9
            have hBu104 := hp17
            refine lv_aload_n hx hb dX10_allServed_107 rfl (lv_at hl 2 rfl) ?_
            refine va_get (D := G) (ci := 7) (v := .ref (ar 7)) (C := RX10) (T := TX10) (N := 71) (ref := RX10) hx hb hts h1w hown hX.1 hP 0 rfl rfl 7 (by decide) h4w (fun _ h9 => h9) rfl dX10_allServed_108 ?_
            refine lv_iload_n hx hb dX10_allServed_111 rfl (lv_at hl 1 rfl) ?_
            refine iv_iald hx hb hX.1 hP 5 0 rfl rfl (by omega) (by omega) (by decide) dX10_allServed_112 ?_
            refine iv_top (fun z18 ez18 => ?_)
            have rz18 : inR z18 := ez18 ▸ (hRa 7) _
            have ez18 : z18 = (fa 7) x2_4 := ez18
            refine iv_icmp_eq (tgt := 118) hx hb (by omega) (by omega) dX10_allServed_113 (by decide) (fun q19 => ?_) (fun q19 => ?_)
            · refine lv_iinc (v := Int32.ofInt (x2_4 + 1)) (lv' := [(2, .int (Int32.ofInt ((x2_4 + 1)))), (3, .int (Int32.ofInt (1))), (0, .ref (ar 71)), (1, .int (Int32.ofInt (k0)))]) hx hb dX10_allServed_118 hl (k := 1) rfl (Int32.ofInt_add _ _).symm (by decide) rfl (fun ls hl => ?_)
              refine lv_goto (tgt := 12) hx hb dX10_allServed_121 (by decide) ?_
              have hl : lv_has ls 4 [(2, .int (Int32.ofInt ((x2_4 + 1)))), (0, .ref (ar 71)), (1, .int (Int32.ofInt (k0)))] := lv_sub hl [0, 2, 3] rfl
              exact ih ((x2_4 + 1)) (show (fi 12 - (x2_4 + 1)).toNat < (fi 12 - x2_4).toNat from by omega) (show inR (x2_4 + 1) ∧ (0 ≤ (x2_4 + 1)) from ⟨(by omega), (by omega)⟩) _ _ _ hP hD hS hl
            · refine lv_iconst (v := Int32.ofInt 0) hx hb dX10_allServed_116 (by decide +kernel) ?_
              exact W.zret (v := Int32.ofInt (0)) hx hb hr (nz_bool (by omega)) (fun t ht hW => ⟨⟨Int32.ofInt (0), (0, c2, c3), rfl, ⟨rfl, (show (inR 0) ∧ (∀ t, inR (c2 t)) ∧ (inR c3) ∧ ((0 = 0 ∨ 0 = 1)) from ⟨(by omega), rc2, (by omega), (by omega)⟩)⟩, by rw [ht]; exact hP, hD⟩, hS.F ht⟩) hS.2.2 dX10_allServed_117
          · refine lv_aload_n hx hb dX10_allServed_69 rfl (lv_at hl 1 rfl) ?_
            refine va_get (D := G) (ci := 7) (v := .ref (ar 53)) (C := RX10) (T := TX10) (N := 71) (ref := RX10) hx hb hts h1w hown hX.1 hP 0 rfl rfl 53 (by decide) h3w (fun _ h9 => h9) rfl dX10_allServed_70 ?_
            refine lv_iload_n hx hb dX10_allServed_73 rfl (lv_at hl 0 rfl) ?_
            refine iv_iald hx hb hX.1 hP 26 0 rfl rfl (by omega) (by omega) (by decide) dX10_allServed_74 ?_
            refine iv_top (fun z20 ez20 => ?_)
            have rz20 : inR z20 := ez20 ▸ rc2 _
            have ez20 : z20 = c2 x2_4 := ez20
            refine lv_bipush (v := Int32.ofInt 13) hx hb dX10_allServed_75 (by decide +kernel) ?_
            refine iv_icmp_ne (tgt := 84) hx hb (by omega) (by omega) dX10_allServed_77 (by decide) (fun q21 => ?_) (fun q21 => ?_)
            · refine lv_iconst (v := Int32.ofInt 0) hx hb dX10_allServed_84 (by decide +kernel) ?_
              refine lv_istore_n (lv' := [(3, .int (Int32.ofInt (0))), (2, .int (Int32.ofInt (x2_4))), (0, .ref (ar 71)), (1, .int (Int32.ofInt (k0)))]) hx hb dX10_allServed_85 rfl hl (by decide) rfl (fun ls hl => ?_)
              refine lv_iload_n hx hb dX10_allServed_86 rfl (lv_at hl 0 rfl) ?_
              refine iv_if_eq (tgt := 116) hx hb (by omega) dX10_allServed_87 (by decide) (fun _ => ?_) (fun q => absurd q (by omega))
              refine lv_iconst (v := Int32.ofInt 0) hx hb dX10_allServed_116 (by decide +kernel) ?_
              exact W.zret (v := Int32.ofInt (0)) hx hb hr (nz_bool (by omega)) (fun t ht hW => ⟨⟨Int32.ofInt (0), (0, c2, c3), rfl, ⟨rfl, (show (inR 0) ∧ (∀ t, inR (c2 t)) ∧ (inR c3) ∧ ((0 = 0 ∨ 0 = 1)) from ⟨(by omega), rc2, (by omega), (by omega)⟩)⟩, by rw [ht]; exact hP, hD⟩, hS.F ht⟩) hS.2.2 dX10_allServed_117
            · refine lv_iconst (v := Int32.ofInt 1) hx hb dX10_allServed_80 (by decide +kernel) ?_
              refine lv_goto (tgt := 85) hx hb dX10_allServed_81 (by decide) ?_
              refine lv_istore_n (lv' := [(3, .int (Int32.ofInt (1))), (2, .int (Int32.ofInt (x2_4))), (0, .ref (ar 71)), (1, .int (Int32.ofInt (k0)))]) hx hb dX10_allServed_85 rfl hl (by decide) rfl (fun ls hl => ?_)
              refine lv_iload_n hx hb dX10_allServed_86 rfl (lv_at hl 0 rfl) ?_
              refine iv_if_eq (tgt := 116) hx hb (by omega) dX10_allServed_87 (by decide) (fun q => absurd q (by omega)) (fun _ => ?_)
              refine lv_aload_n hx hb dX10_allServed_90 rfl (lv_at hl 2 rfl) ?_
              refine lv_aload_n hx hb dX10_allServed_91 rfl (lv_at hl 2 rfl) ?_
              refine va_get (D := G) (ci := 7) (v := .ref (ar 53)) (C := RX10) (T := TX10) (N := 71) (ref := RX10) hx hb hts h1w hown hX.1 hP 0 rfl rfl 53 (by decide) h3w (fun _ h9 => h9) rfl dX10_allServed_92 ?_
              refine lv_iload_n hx hb dX10_allServed_95 rfl (lv_at hl 1 rfl) ?_
              refine iv_iald hx hb hX.1 hP 26 0 rfl rfl (by omega) (by omega) (by decide) dX10_allServed_96 ?_
              refine iv_top (fun z22 ez22 => ?_)
              have rz22 : inR z22 := ez22 ▸ rc2 _
              have ez22 : z22 = c2 x2_4 := ez22
              refine lv_bipush (v := Int32.ofInt 12) hx hb dX10_allServed_97 (by decide +kernel) ?_
              refine iv_sub (x := z22) (y := 12) hx hb dX10_allServed_99 ?_
              refine iv_wr ?_
              refine iv_top (fun z23 ez23 => ?_)
              have rz23 : inR z23 := ez23 ▸ bWr_r _
              refine lv_aload_n hx hb dX10_allServed_100 rfl (lv_at hl 2 rfl) ?_
              refine va_get (D := G) (ci := 7) (v := .int (Int32.ofInt (c3))) (C := RX10) (T := TX10) (N := 71) (ref := RX10) hx hb hts h1w hown hX.1 hP 0 rfl rfl 55 (by decide) h5w (fun _ h9 => h9) rfl dX10_allServed_101 ?_
              refine cr_i (va_runV (As := [.int (Int32.ofInt (z23)), .int (Int32.ofInt (c3))]) (rest := []) ⟨hx, hb, hml, hown, hts⟩ (mX10_depthOf l G k ar (uF fi 55 (c3)) (uF fa 53 (c2)) fl z23 c3 H.size (iF hR (by omega)) (iG hRa rc2) (by omega) (by omega)) (cwV 2 hts (gz [.methodLink RX10 352 yX10_depthOf, .instanceMethod yX10_depthOf, .selects RX10 yX10_depthOf yX10_depthOf, .initialized RX10] (.code yX10_depthOf cX10_depthOf 3 (some .int)) [(24, 7), (24, 8), (24, 9), (0, 5), (24, 10)] rfl) rfl rfl rfl (by decide +kernel) ⟨Nat.le_of_ble_eq_true rfl, Nat.le_of_ble_eq_true rfl⟩) (cr_preV (EZ_ok k) hZ hS hX hP hD hA (ci := 7) (q0 := 0) rfl rfl) rfl rfl hl.1 rfl (lv_room (Nat.le_of_ble_eq_true rfl)) dX10_allServed_104 ⟨Nat.le_of_ble_eq_true rfl, Nat.le_of_ble_eq_true rfl⟩) hD hS hA (fun r u H locs hp hP hD hS => ?_)
              obtain ⟨c24, rfl⟩ : ∃ z, z = u := ⟨_, rfl⟩
              obtain ⟨h9, rc24, hp24⟩ : r = Int32.ofInt c24 ∧ (inR c24) ∧ (c24 = buD z23 c3 ((fa 3) 0)) := hp
              subst h9
              have hBu104 := hp24
              refine lv_aload_n hx hb dX10_allServed_107 rfl (lv_at hl 2 rfl) ?_
              refine va_get (D := G) (ci := 7) (v := .ref (ar 7)) (C := RX10) (T := TX10) (N := 71) (ref := RX10) hx hb hts h1w hown hX.1 hP 0 rfl rfl 7 (by decide) h4w (fun _ h9 => h9) rfl dX10_allServed_108 ?_
              refine lv_iload_n hx hb dX10_allServed_111 rfl (lv_at hl 1 rfl) ?_
              refine iv_iald hx hb hX.1 hP 5 0 rfl rfl (by omega) (by omega) (by decide) dX10_allServed_112 ?_
              refine iv_top (fun z25 ez25 => ?_)
              have rz25 : inR z25 := ez25 ▸ (hRa 7) _
              have ez25 : z25 = (fa 7) x2_4 := ez25
              refine iv_icmp_eq (tgt := 118) hx hb (by omega) (by omega) dX10_allServed_113 (by decide) (fun q26 => ?_) (fun q26 => ?_)
              · refine lv_iinc (v := Int32.ofInt (x2_4 + 1)) (lv' := [(2, .int (Int32.ofInt ((x2_4 + 1)))), (3, .int (Int32.ofInt (1))), (0, .ref (ar 71)), (1, .int (Int32.ofInt (k0)))]) hx hb dX10_allServed_118 hl (k := 1) rfl (Int32.ofInt_add _ _).symm (by decide) rfl (fun ls hl => ?_)
                refine lv_goto (tgt := 12) hx hb dX10_allServed_121 (by decide) ?_
                have hl : lv_has ls 4 [(2, .int (Int32.ofInt ((x2_4 + 1)))), (0, .ref (ar 71)), (1, .int (Int32.ofInt (k0)))] := lv_sub hl [0, 2, 3] rfl
                exact ih ((x2_4 + 1)) (show (fi 12 - (x2_4 + 1)).toNat < (fi 12 - x2_4).toNat from by omega) (show inR (x2_4 + 1) ∧ (0 ≤ (x2_4 + 1)) from ⟨(by omega), (by omega)⟩) _ _ _ hP hD hS hl
              · refine lv_iconst (v := Int32.ofInt 0) hx hb dX10_allServed_116 (by decide +kernel) ?_
                exact W.zret (v := Int32.ofInt (0)) hx hb hr (nz_bool (by omega)) (fun t ht hW => ⟨⟨Int32.ofInt (0), (0, c2, c3), rfl, ⟨rfl, (show (inR 0) ∧ (∀ t, inR (c2 t)) ∧ (inR c3) ∧ ((0 = 0 ∨ 0 = 1)) from ⟨(by omega), rc2, (by omega), (by omega)⟩)⟩, by rw [ht]; exact hP, hD⟩, hS.F ht⟩) hS.2.2 dX10_allServed_117
        · refine lv_goto (tgt := 118) hx hb dX10_allServed_55 (by decide) ?_
          refine lv_iinc (v := Int32.ofInt (x2_4 + 1)) (lv' := [(2, .int (Int32.ofInt ((x2_4 + 1)))), (0, .ref (ar 71)), (1, .int (Int32.ofInt (k0)))]) hx hb dX10_allServed_118 hl (k := 0) rfl (Int32.ofInt_add _ _).symm (by decide) rfl (fun ls hl => ?_)
          refine lv_goto (tgt := 12) hx hb dX10_allServed_121 (by decide) ?_
          have hl : lv_has ls 4 [(2, .int (Int32.ofInt ((x2_4 + 1)))), (0, .ref (ar 71)), (1, .int (Int32.ofInt (k0)))] := lv_sub hl [0, 1, 2] rfl
          exact ih ((x2_4 + 1)) (show (fi 12 - (x2_4 + 1)).toNat < (fi 12 - x2_4).toNat from by omega) (show inR (x2_4 + 1) ∧ (0 ≤ (x2_4 + 1)) from ⟨(by omega), (by omega)⟩) _ _ _ hP hD hS hl

set_option maxHeartbeats 4000000 in
set_option maxRecDepth 100000 in
theorem mX10_leastServed (l : Launch) (G : va_G) (k : Nat → ClassId) (ar : Nat → Nat) (fi : Nat → Int) (fa : Nat → Int → Int) (fl : Nat → Int64) (sz : Nat) (hR : ∀ j, inR (fi j)) (hRa : ∀ j t, inR (fa j t)) (hth : 0 ≤ fi 12 ∧ fi 12 ≤ 7) (s1 : 0 ≤ fi 50) (s2 : fi 50 ≤ 1500) : CNi l G k (EZ k) yX10_leastServed wzX10_leastServed ({ frames := 3, cells := 0, slots := 0, locals := 65 }) [.ref (ar 71)] sz (wM k ar fi fa fl) (fun (r0 : Int32) (u : Int × (Int → Int) × Int) => r0 = Int32.ofInt (u.1) ∧ (inR u.1) ∧ (∀ t, inR (u.2.1 t)) ∧ (inR u.2.2) ∧ (True)) (fun (u : Int × (Int → Int) × Int) => (wM k ar (uF fi 55 (u.2.2)) (uF fa 53 (u.2.1)) fl)) := by
  refine Met.ofW (cc := cX10_leastServed) (maxL := 3) (ret := (some .int)) (by decide) rfl ?_
  intro p e s m args below meth c s₁ B hml hv
  obtain ⟨rfl, hsz, hP, hX, hD0, hZ0⟩ := hv
  have hx := B.exec
  have hb := B.bytes
  have hr := B.returns
  have hts := atoms_spec (ws := wzX10_leastServed) B.pre
  have hown : s.vm.findClass RX10 = some m.cls := findClass_of_methodNamed B.named
  subst hsz
  have hD := hD0.self (sz := s.heap.size)
  have hZ := hZ0
  generalize hAe : va_A (wM k ar fi fa fl) s.heap.size = A at hD hZ ⊢
  have hA : ∀ q : Nat, s.heap.size ≤ q → A q := fun q h => by rw [← hAe]; exact Or.inr h
  have hS : va_S A s.heap s.heap [] := va_S.rf
  have hl := lv_entry ([.ref (ar 71)]) (n := 3) (Nat.le_of_ble_eq_true rfl)
  rw [lg_entry_eq]
  generalize (lg_sl ([.ref (ar 71)]) ++ List.replicate (3 - (lg_sl ([.ref (ar 71)])).length) Slot.unset).toArray = ls at hl ⊢
  have hl : lv_has ls 3 [(0, .ref (ar 71))] := hl
  obtain ⟨H, eH⟩ : ∃ H, H = s.heap := ⟨_, rfl⟩
  rw [← eH] at hP
  have hS : va_S A s.heap H [] := by rw [eH]; exact hS
  have gW : s.heap = H := eH.symm
  refine iv_heap gW ?_
  have h0w := hts (.fieldLink RX10 436 "RopeTownModel" "states" "I") (wz_at 35 21 rfl)
  have h1w : ∀ w ∈ wsX100, w ∈ wzX10_leastServed := fun w h => List.mem_cons_of_mem _ (inlX10 w h)
  have h2w := hts (.fieldLink RX10 121 "RopeTownModel" "far" "[I") (wz_at 7 4 rfl)
  refine lv_iconst (v := Int32.ofInt (-1)) hx hb dX10_leastServed_0 (by decide +kernel) ?_
  refine lv_istore_n (lv' := [(1, .int (Int32.ofInt ((-1)))), (0, .ref (ar 71))]) hx hb dX10_leastServed_1 rfl hl (by decide) rfl (fun ls hl => ?_)
  refine lv_iconst (v := Int32.ofInt 0) hx hb dX10_leastServed_2 (by decide +kernel) ?_
  refine lv_istore_n (lv' := [(2, .int (Int32.ofInt (0))), (1, .int (Int32.ofInt ((-1)))), (0, .ref (ar 71))]) hx hb dX10_leastServed_3 rfl hl (by decide) rfl (fun ls hl => ?_)
  refine iv_loop (α := Int × Int × Int × (Int → Int)) (nL := 3) (fun b9 => (wM k ar (uF fi 55 (b9.2.2.1)) (uF fa 53 (b9.2.2.2)) fl)) (fun b9 => [(2, .int (Int32.ofInt (b9.1))), (1, .int (Int32.ofInt (b9.2.1))), (0, .ref (ar 71))]) (fun b9 => (fi 50 - b9.1).toNat) (fun b9 => inR b9.1 ∧ inR b9.2.1 ∧ inR b9.2.2.1 ∧ (∀ t, inR (b9.2.2.2 t)) ∧ (0 ≤ b9.1)) ?_ (0, (-1), fi 55, fa 53) (show inR 0 ∧ inR (-1) ∧ inR (fi 55) ∧ (∀ t, inR ((fa 53) t)) ∧ (0 ≤ 0) from ⟨(by omega), (by omega), (hR 55), (hRa 53), (by omega)⟩) hP hD hS hl
  rintro ⟨x2_1, x1_2, n55_3, g53_4⟩ ih hi9 H locs ls hP hD hS hl
  obtain ⟨r_x2_1, r_x1_2, r_n55_3, r_g53_4, hinv⟩ : inR x2_1 ∧ inR x1_2 ∧ inR n55_3 ∧ (∀ t, inR (g53_4 t)) ∧ (0 ≤ x2_1) := hi9
  obtain ⟨hP, hD⟩ : va_P G vwCl (wM k ar (uF fi 55 (n55_3)) (uF fa 53 (g53_4)) fl) H ∧ va_D A (wM k ar (uF fi 55 (n55_3)) (uF fa 53 (g53_4)) fl) := ⟨hP, hD⟩
  have hl : lv_has ls 3 [(2, .int (Int32.ofInt (x2_1))), (1, .int (Int32.ofInt (x1_2))), (0, .ref (ar 71))] := hl
  refine lv_iload_n hx hb dX10_leastServed_4 rfl (lv_at hl 0 rfl) ?_
  refine lv_aload_n hx hb dX10_leastServed_5 rfl (lv_at hl 2 rfl) ?_
  refine va_get (D := G) (ci := 7) (v := .int (Int32.ofInt (fi 50))) (C := RX10) (T := TX10) (N := 71) (ref := RX10) hx hb hts h1w hown hX.1 hP 0 rfl rfl 50 (by decide) h0w (fun _ h9 => h9) rfl dX10_leastServed_6 ?_
  have rf50 := hR 50
  refine iv_icmp_ge (tgt := 48) hx hb (by omega) (by omega) dX10_leastServed_9 (by decide) (fun q5 => ?_) (fun q5 => ?_)
  · refine lv_iload_n hx hb dX10_leastServed_48 rfl (lv_at hl 1 rfl) ?_
    exact W.iret (v := Int32.ofInt (x1_2)) hx hb hr (fun t ht hW => ⟨⟨Int32.ofInt (x1_2), (x1_2, g53_4, n55_3), rfl, ⟨rfl, (show (inR x1_2) ∧ (∀ t, inR (g53_4 t)) ∧ (inR n55_3) ∧ (True) from ⟨(by omega), r_g53_4, (by omega), trivial⟩)⟩, by rw [ht]; exact hP, hD⟩, hS.F ht⟩) hS.2.2 dX10_leastServed_49
  · refine lv_aload_n hx hb dX10_leastServed_12 rfl (lv_at hl 2 rfl) ?_
    refine lv_iload_n hx hb dX10_leastServed_13 rfl (lv_at hl 0 rfl) ?_
    refine cr_i (va_runV (As := [.int (Int32.ofInt (x2_1))]) (rest := []) ⟨hx, hb, hml, hown, hts⟩ (mX10_allServed l G k ar (uF fi 55 (n55_3)) (uF fa 53 (g53_4)) fl x2_1 H.size (iF hR (by omega)) (iG hRa r_g53_4) (by omega) (show 0 ≤ (fi 12) ∧ (fi 12) ≤ 7 from by omega) (show 0 ≤ x2_1 ∧ x2_1 < 1501 from by omega)) (cwV 1 hts (gz [.methodLink RX10 469 yX10_allServed, .instanceMethod yX10_allServed, .selects RX10 yX10_allServed yX10_allServed, .initialized RX10] (.code yX10_allServed cX10_allServed 4 (some .boolean)) [(37, 10), (37, 11), (37, 12), (0, 5), (37, 13)] rfl) rfl rfl rfl (by decide +kernel) ⟨Nat.le_of_ble_eq_true rfl, Nat.le_of_ble_eq_true rfl⟩) (cr_preV (EZ_ok k) hZ hS hX hP hD hA (ci := 7) (q0 := 0) rfl rfl) rfl rfl hl.1 rfl (lv_room (Nat.le_of_ble_eq_true rfl)) dX10_leastServed_14 ⟨Nat.le_of_ble_eq_true rfl, Nat.le_of_ble_eq_true rfl⟩) hD hS hA (fun r u H locs hp hP hD hS => ?_)
    obtain ⟨c6, c7, c8⟩ := u
    obtain ⟨hP, hD⟩ : va_P G vwCl (wM k ar (uF fi 55 (c8)) (uF fa 53 (c7)) fl) H ∧ va_D A (wM k ar (uF fi 55 (c8)) (uF fa 53 (c7)) fl) := ⟨hP, hD⟩
    obtain ⟨h9, rc6, rc7, rc8, hp8⟩ : r = Int32.ofInt c6 ∧ (inR c6) ∧ (∀ t, inR (c7 t)) ∧ (inR c8) ∧ ((c6 = 0 ∨ c6 = 1)) := hp
    subst h9
    refine iv_if_eq (tgt := 42) hx hb (by omega) dX10_leastServed_17 (by decide) (fun q9 => ?_) (fun q9 => ?_)
    · refine lv_iinc (v := Int32.ofInt (x2_1 + 1)) (lv' := [(2, .int (Int32.ofInt ((x2_1 + 1)))), (1, .int (Int32.ofInt (x1_2))), (0, .ref (ar 71))]) hx hb dX10_leastServed_42 hl (k := 0) rfl (Int32.ofInt_add _ _).symm (by decide) rfl (fun ls hl => ?_)
      refine lv_goto (tgt := 4) hx hb dX10_leastServed_45 (by decide) ?_
      have hl : lv_has ls 3 [(2, .int (Int32.ofInt ((x2_1 + 1)))), (1, .int (Int32.ofInt (x1_2))), (0, .ref (ar 71))] := lv_sub hl [0, 1, 2] rfl
      exact ih ((x2_1 + 1), x1_2, c8, c7) (show (fi 50 - (x2_1 + 1)).toNat < (fi 50 - x2_1).toNat from by omega) (show inR (x2_1 + 1) ∧ inR x1_2 ∧ inR c8 ∧ (∀ t, inR (c7 t)) ∧ (0 ≤ (x2_1 + 1)) from ⟨(by omega), (by omega), (by omega), rc7, (by omega)⟩) _ _ _ hP hD hS hl
    · refine lv_iload_n hx hb dX10_leastServed_20 rfl (lv_at hl 1 rfl) ?_
      refine lv_iconst (v := Int32.ofInt (-1)) hx hb dX10_leastServed_21 (by decide +kernel) ?_
      refine iv_icmp_eq (tgt := 35) hx hb (by omega) (by omega) dX10_leastServed_22 (by decide) (fun q10 => ?_) (fun q10 => ?_)
      · refine lv_aload_n hx hb dX10_leastServed_35 rfl (lv_at hl 2 rfl) ?_
        refine va_get (D := G) (ci := 7) (v := .ref (ar 46)) (C := RX10) (T := TX10) (N := 71) (ref := RX10) hx hb hts h1w hown hX.1 hP 0 rfl rfl 46 (by decide) h2w (fun _ h9 => h9) rfl dX10_leastServed_36 ?_
        refine lv_iload_n hx hb dX10_leastServed_39 rfl (lv_at hl 0 rfl) ?_
        refine iv_iald hx hb hX.1 hP 22 0 rfl rfl (by omega) (by omega) (by decide) dX10_leastServed_40 ?_
        refine iv_top (fun z11 ez11 => ?_)
        have rz11 : inR z11 := ez11 ▸ (hRa 46) _
        have ez11 : z11 = (fa 46) x2_1 := ez11
        refine lv_istore_n (lv' := [(1, .int (Int32.ofInt (z11))), (2, .int (Int32.ofInt (x2_1))), (0, .ref (ar 71))]) hx hb dX10_leastServed_41 rfl hl (by decide) rfl (fun ls hl => ?_)
        refine lv_iinc (v := Int32.ofInt (x2_1 + 1)) (lv' := [(2, .int (Int32.ofInt ((x2_1 + 1)))), (1, .int (Int32.ofInt (z11))), (0, .ref (ar 71))]) hx hb dX10_leastServed_42 hl (k := 1) rfl (Int32.ofInt_add _ _).symm (by decide) rfl (fun ls hl => ?_)
        refine lv_goto (tgt := 4) hx hb dX10_leastServed_45 (by decide) ?_
        have hl : lv_has ls 3 [(2, .int (Int32.ofInt ((x2_1 + 1)))), (1, .int (Int32.ofInt (z11))), (0, .ref (ar 71))] := lv_sub hl [0, 1, 2] rfl
        exact ih ((x2_1 + 1), z11, c8, c7) (show (fi 50 - (x2_1 + 1)).toNat < (fi 50 - x2_1).toNat from by omega) (show inR (x2_1 + 1) ∧ inR z11 ∧ inR c8 ∧ (∀ t, inR (c7 t)) ∧ (0 ≤ (x2_1 + 1)) from ⟨(by omega), (by omega), (by omega), rc7, (by omega)⟩) _ _ _ hP hD hS hl
      · refine lv_aload_n hx hb dX10_leastServed_25 rfl (lv_at hl 2 rfl) ?_
        refine va_get (D := G) (ci := 7) (v := .ref (ar 46)) (C := RX10) (T := TX10) (N := 71) (ref := RX10) hx hb hts h1w hown hX.1 hP 0 rfl rfl 46 (by decide) h2w (fun _ h9 => h9) rfl dX10_leastServed_26 ?_
        refine lv_iload_n hx hb dX10_leastServed_29 rfl (lv_at hl 0 rfl) ?_
        refine iv_iald hx hb hX.1 hP 22 0 rfl rfl (by omega) (by omega) (by decide) dX10_leastServed_30 ?_
        refine iv_top (fun z12 ez12 => ?_)
        have rz12 : inR z12 := ez12 ▸ (hRa 46) _
        have ez12 : z12 = (fa 46) x2_1 := ez12
        refine lv_iload_n hx hb dX10_leastServed_31 rfl (lv_at hl 1 rfl) ?_
        refine iv_icmp_ge (tgt := 42) hx hb (by omega) (by omega) dX10_leastServed_32 (by decide) (fun q13 => ?_) (fun q13 => ?_)
        · refine lv_iinc (v := Int32.ofInt (x2_1 + 1)) (lv' := [(2, .int (Int32.ofInt ((x2_1 + 1)))), (1, .int (Int32.ofInt (x1_2))), (0, .ref (ar 71))]) hx hb dX10_leastServed_42 hl (k := 0) rfl (Int32.ofInt_add _ _).symm (by decide) rfl (fun ls hl => ?_)
          refine lv_goto (tgt := 4) hx hb dX10_leastServed_45 (by decide) ?_
          have hl : lv_has ls 3 [(2, .int (Int32.ofInt ((x2_1 + 1)))), (1, .int (Int32.ofInt (x1_2))), (0, .ref (ar 71))] := lv_sub hl [0, 1, 2] rfl
          exact ih ((x2_1 + 1), x1_2, c8, c7) (show (fi 50 - (x2_1 + 1)).toNat < (fi 50 - x2_1).toNat from by omega) (show inR (x2_1 + 1) ∧ inR x1_2 ∧ inR c8 ∧ (∀ t, inR (c7 t)) ∧ (0 ≤ (x2_1 + 1)) from ⟨(by omega), (by omega), (by omega), rc7, (by omega)⟩) _ _ _ hP hD hS hl
        · refine lv_aload_n hx hb dX10_leastServed_35 rfl (lv_at hl 2 rfl) ?_
          refine va_get (D := G) (ci := 7) (v := .ref (ar 46)) (C := RX10) (T := TX10) (N := 71) (ref := RX10) hx hb hts h1w hown hX.1 hP 0 rfl rfl 46 (by decide) h2w (fun _ h9 => h9) rfl dX10_leastServed_36 ?_
          refine lv_iload_n hx hb dX10_leastServed_39 rfl (lv_at hl 0 rfl) ?_
          refine iv_iald hx hb hX.1 hP 22 0 rfl rfl (by omega) (by omega) (by decide) dX10_leastServed_40 ?_
          refine iv_top (fun z14 ez14 => ?_)
          have rz14 : inR z14 := ez14 ▸ (hRa 46) _
          have ez14 : z14 = (fa 46) x2_1 := ez14
          refine lv_istore_n (lv' := [(1, .int (Int32.ofInt (z14))), (2, .int (Int32.ofInt (x2_1))), (0, .ref (ar 71))]) hx hb dX10_leastServed_41 rfl hl (by decide) rfl (fun ls hl => ?_)
          refine lv_iinc (v := Int32.ofInt (x2_1 + 1)) (lv' := [(2, .int (Int32.ofInt ((x2_1 + 1)))), (1, .int (Int32.ofInt (z14))), (0, .ref (ar 71))]) hx hb dX10_leastServed_42 hl (k := 1) rfl (Int32.ofInt_add _ _).symm (by decide) rfl (fun ls hl => ?_)
          refine lv_goto (tgt := 4) hx hb dX10_leastServed_45 (by decide) ?_
          have hl : lv_has ls 3 [(2, .int (Int32.ofInt ((x2_1 + 1)))), (1, .int (Int32.ofInt (z14))), (0, .ref (ar 71))] := lv_sub hl [0, 1, 2] rfl
          exact ih ((x2_1 + 1), z14, c8, c7) (show (fi 50 - (x2_1 + 1)).toNat < (fi 50 - x2_1).toNat from by omega) (show inR (x2_1 + 1) ∧ inR z14 ∧ inR c8 ∧ (∀ t, inR (c7 t)) ∧ (0 ≤ (x2_1 + 1)) from ⟨(by omega), (by omega), (by omega), rc7, (by omega)⟩) _ _ _ hP hD hS hl

set_option maxHeartbeats 4000000 in
set_option maxRecDepth 100000 in
theorem mX10_fewest (l : Launch) (G : va_G) (k : Nat → ClassId) (ar : Nat → Nat) (fi : Nat → Int) (fa : Nat → Int → Int) (fl : Nat → Int64) (w0 : Int) (sz : Nat) (hR : ∀ j, inR (fi j)) (hRa : ∀ j t, inR (fa j t)) (hr_w0 : inR w0) (hth : 0 ≤ fi 12 ∧ fi 12 ≤ 7) (hru : 0 ≤ fi 13 ∧ fi 13 ≤ 4) (hRW : ∀ q9, 0 ≤ q9 → q9 < fi 13 → RWf (fa 10) (fa 8 q9) (fa 9 q9)) (hdp : 0 ≤ fa 3 0 ∧ fa 3 0 ≤ 11) : CNi l G k (EZ k) yX10_fewest wzX10_fewest ({ frames := 14, cells := 0, slots := 0, locals := 349 }) [.ref (ar 71), .int (Int32.ofInt (w0))] sz (wM k ar fi fa fl) (fun (r0 : Int32) (u : Int × (Int → Int) × (Int → Int) × (Int → Int) × (Int → Int) × (Int → Int) × (Int → Int) × (Int → Int) × (Int → Int) × Int × Int × Int × Int × Int × Int × Int × Int × Int × (Nat → Int64)) => r0 = Int32.ofInt (u.1) ∧ (inR u.1) ∧ (∀ t, inR (u.2.1 t)) ∧ (∀ t, inR (u.2.2.1 t)) ∧ (∀ t, inR (u.2.2.2.1 t)) ∧ (∀ t, inR (u.2.2.2.2.1 t)) ∧ (∀ t, inR (u.2.2.2.2.2.1 t)) ∧ (∀ t, inR (u.2.2.2.2.2.2.1 t)) ∧ (∀ t, inR (u.2.2.2.2.2.2.2.1 t)) ∧ (∀ t, inR (u.2.2.2.2.2.2.2.2.1 t)) ∧ (inR u.2.2.2.2.2.2.2.2.2.1) ∧ (inR u.2.2.2.2.2.2.2.2.2.2.1) ∧ (inR u.2.2.2.2.2.2.2.2.2.2.2.1) ∧ (inR u.2.2.2.2.2.2.2.2.2.2.2.2.1) ∧ (inR u.2.2.2.2.2.2.2.2.2.2.2.2.2.1) ∧ (inR u.2.2.2.2.2.2.2.2.2.2.2.2.2.2.1) ∧ (inR u.2.2.2.2.2.2.2.2.2.2.2.2.2.2.2.1) ∧ (inR u.2.2.2.2.2.2.2.2.2.2.2.2.2.2.2.2.1) ∧ (inR u.2.2.2.2.2.2.2.2.2.2.2.2.2.2.2.2.2.1) ∧ (True)) (fun (u : Int × (Int → Int) × (Int → Int) × (Int → Int) × (Int → Int) × (Int → Int) × (Int → Int) × (Int → Int) × (Int → Int) × Int × Int × Int × Int × Int × Int × Int × Int × Int × (Nat → Int64)) => (wM k ar (uF (uF (uF (uF (uF (uF (uF (uF (uF fi 2 (u.2.2.2.2.2.2.2.2.2.1)) 41 (u.2.2.2.2.2.2.2.2.2.2.1)) 42 (u.2.2.2.2.2.2.2.2.2.2.2.1)) 43 (u.2.2.2.2.2.2.2.2.2.2.2.2.1)) 50 (u.2.2.2.2.2.2.2.2.2.2.2.2.2.1)) 51 (u.2.2.2.2.2.2.2.2.2.2.2.2.2.2.1)) 52 (u.2.2.2.2.2.2.2.2.2.2.2.2.2.2.2.1)) 55 (u.2.2.2.2.2.2.2.2.2.2.2.2.2.2.2.2.1)) 56 (u.2.2.2.2.2.2.2.2.2.2.2.2.2.2.2.2.2.1)) (uF (uF (uF (uF (uF (uF (uF (uF fa 39 (u.2.1)) 40 (u.2.2.1)) 46 (u.2.2.2.1)) 47 (u.2.2.2.2.1)) 48 (u.2.2.2.2.2.1)) 49 (u.2.2.2.2.2.2.1)) 53 (u.2.2.2.2.2.2.2.1)) 54 (u.2.2.2.2.2.2.2.2.1)) u.2.2.2.2.2.2.2.2.2.2.2.2.2.2.2.2.2.2)) := by
  refine Met.ofW (cc := cX10_fewest) (maxL := 2) (ret := (some .int)) (by decide) rfl ?_
  intro p e s m args below meth c s₁ B hml hv
  obtain ⟨rfl, hsz, hP, hX, hD0, hZ0⟩ := hv
  have hx := B.exec
  have hb := B.bytes
  have hr := B.returns
  have hts := atoms_spec (ws := wzX10_fewest) B.pre
  have hown : s.vm.findClass RX10 = some m.cls := findClass_of_methodNamed B.named
  subst hsz
  have hD := hD0.self (sz := s.heap.size)
  have hZ := hZ0
  generalize hAe : va_A (wM k ar fi fa fl) s.heap.size = A at hD hZ ⊢
  have hA : ∀ q : Nat, s.heap.size ≤ q → A q := fun q h => by rw [← hAe]; exact Or.inr h
  have hS : va_S A s.heap s.heap [] := va_S.rf
  have hl := lv_entry ([.ref (ar 71), .int (Int32.ofInt (w0))]) (n := 2) (Nat.le_of_ble_eq_true rfl)
  rw [lg_entry_eq]
  generalize (lg_sl ([.ref (ar 71), .int (Int32.ofInt (w0))]) ++ List.replicate (2 - (lg_sl ([.ref (ar 71), .int (Int32.ofInt (w0))])).length) Slot.unset).toArray = ls at hl ⊢
  have hl : lv_has ls 2 [(0, .ref (ar 71)), (1, .int (Int32.ofInt (w0)))] := hl
  obtain ⟨H, eH⟩ : ∃ H, H = s.heap := ⟨_, rfl⟩
  rw [← eH] at hP
  have hS : va_S A s.heap H [] := by rw [eH]; exact hS
  have gW : s.heap = H := eH.symm
  refine iv_heap gW ?_
  have h0w := hts (.fieldLink RX10 171 "RopeTownModel" "code" "I") (wz_at 8 12 rfl)
  have h1w : ∀ w ∈ wsX100, w ∈ wzX10_fewest := fun w h => List.mem_cons_of_mem _ (inlX10 w h)
  have h2w := hts (.fieldLink RX10 87 "RopeTownModel" "place" "[I") (wz_at 6 17 rfl)
  have h3w := hts (.fieldLink RX10 327 "RopeTownModel" "bucket0" "I") (wz_at 21 13 rfl)
  refine lv_aload_n hx hb dX10_fewest_0 rfl (lv_at hl 0 rfl) ?_
  refine lv_iconst (v := Int32.ofInt 0) hx hb dX10_fewest_1 (by decide +kernel) ?_
  refine iv_put (ci := 7) (v := .int (Int32.ofInt (0))) (ty := .int) (C := RX10) (T := TX10) (N := 71) (ref := RX10) hx hb hts h1w tyX10 tyX10_ok nmX10 hown hX.1 hP hD hS 0 rfl rfl 2 (by decide) h0w (fun _ h9 => h9) rfl (by decide +kernel) rfl rfl (Nat.le_of_ble_eq_true rfl) (wM_F2 _ _ _ _ _) dX10_fewest_2 (fun H locs hP hD hS => ?_)
  refine lv_iload_n hx hb dX10_fewest_5 rfl (lv_at hl 1 rfl) ?_
  refine iv_if_lt (tgt := 14) hx hb (by omega) dX10_fewest_6 (by decide) (fun q1 => ?_) (fun q1 => ?_)
  · refine lv_aload_n hx hb dX10_fewest_14 rfl (lv_at hl 0 rfl) ?_
    refine lv_iconst (v := Int32.ofInt 1) hx hb dX10_fewest_15 (by decide +kernel) ?_
    refine cr_i (va_runV (As := [.int (Int32.ofInt (1))]) (rest := []) ⟨hx, hb, hml, hown, hts⟩ (mX10_fail l G k ar (uF fi 2 (0)) fa fl 1 H.size (iF hR (by omega)) hRa (by omega)) (cwV 1 hts (gz [.methodLink RX10 315 yX10_fail, .instanceMethod yX10_fail, .selects RX10 yX10_fail yX10_fail, .initialized RX10] (.code yX10_fail cX10_fail 2 (some .int)) [(16, 17), (16, 18), (16, 19), (0, 5), (16, 20)] rfl) rfl rfl rfl (by decide +kernel) ⟨Nat.le_of_ble_eq_true rfl, Nat.le_of_ble_eq_true rfl⟩) (cr_preV (EZ_ok k) hZ hS hX hP hD hA (ci := 7) (q0 := 0) rfl rfl) rfl rfl hl.1 rfl (lv_room (Nat.le_of_ble_eq_true rfl)) dX10_fewest_16 ⟨Nat.le_of_ble_eq_true rfl, Nat.le_of_ble_eq_true rfl⟩) hD hS hA (fun r u H locs hp hP hD hS => ?_)
    obtain ⟨c2, c3⟩ := u
    obtain ⟨hP, hD⟩ : va_P G vwCl (wM k ar (uF fi 2 (c3)) fa fl) H ∧ va_D A (wM k ar (uF fi 2 (c3)) fa fl) := ⟨hP, hD⟩
    obtain ⟨h9, rc2, rc3, hp3⟩ : r = Int32.ofInt c2 ∧ (inR c2) ∧ (inR c3) ∧ (c2 = 0 ∧ c3 = 1) := hp
    subst h9
    exact W.iret (v := Int32.ofInt (c2)) hx hb hr (fun t ht hW => ⟨⟨Int32.ofInt (c2), (c2, fa 39, fa 40, fa 46, fa 47, fa 48, fa 49, fa 53, fa 54, c3, fi 41, fi 42, fi 43, fi 50, fi 51, fi 52, fi 55, fi 56, fl), rfl, ⟨rfl, (show (inR c2) ∧ (∀ t, inR ((fa 39) t)) ∧ (∀ t, inR ((fa 40) t)) ∧ (∀ t, inR ((fa 46) t)) ∧ (∀ t, inR ((fa 47) t)) ∧ (∀ t, inR ((fa 48) t)) ∧ (∀ t, inR ((fa 49) t)) ∧ (∀ t, inR ((fa 53) t)) ∧ (∀ t, inR ((fa 54) t)) ∧ (inR c3) ∧ (inR (fi 41)) ∧ (inR (fi 42)) ∧ (inR (fi 43)) ∧ (inR (fi 50)) ∧ (inR (fi 51)) ∧ (inR (fi 52)) ∧ (inR (fi 55)) ∧ (inR (fi 56)) ∧ (True) from ⟨(by omega), (hRa 39), (hRa 40), (hRa 46), (hRa 47), (hRa 48), (hRa 49), (hRa 53), (hRa 54), (by omega), (hR 41), (hR 42), (hR 43), (hR 50), (hR 51), (hR 52), (hR 55), (hR 56), trivial⟩)⟩, by rw [ht]; exact hP, hD⟩, hS.F ht⟩) hS.2.2 dX10_fewest_19
  · refine lv_iload_n hx hb dX10_fewest_9 rfl (lv_at hl 1 rfl) ?_
    refine lv_iconst (v := Int32.ofInt 1) hx hb dX10_fewest_10 (by decide +kernel) ?_
    refine iv_icmp_le (tgt := 20) hx hb (by omega) (by omega) dX10_fewest_11 (by decide) (fun q4 => ?_) (fun q4 => ?_)
    · refine lv_aload_n hx hb dX10_fewest_20 rfl (lv_at hl 0 rfl) ?_
      refine lv_aload_n hx hb dX10_fewest_21 rfl (lv_at hl 0 rfl) ?_
      refine va_get (D := G) (ci := 7) (v := .ref (ar 32)) (C := RX10) (T := TX10) (N := 71) (ref := RX10) hx hb hts h1w hown hX.1 hP 0 rfl rfl 32 (by decide) h2w (fun _ h9 => h9) rfl dX10_fewest_22 ?_
      refine lv_aload_n hx hb dX10_fewest_25 rfl (lv_at hl 0 rfl) ?_
      refine va_get (D := G) (ci := 7) (v := .int (Int32.ofInt (fi 28))) (C := RX10) (T := TX10) (N := 71) (ref := RX10) hx hb hts h1w hown hX.1 hP 0 rfl rfl 28 (by decide) h3w (fun _ h9 => h9) rfl dX10_fewest_26 ?_
      have rf28 := hR 28
      refine lv_iload_n hx hb dX10_fewest_29 rfl (lv_at hl 1 rfl) ?_
      refine lv_iconst (v := Int32.ofInt 1) hx hb dX10_fewest_30 (by decide +kernel) ?_
      refine iv_icmp_ne (tgt := 38) hx hb (by omega) (by omega) dX10_fewest_31 (by decide) (fun q5 => ?_) (fun q5 => ?_)
      · refine lv_iconst (v := Int32.ofInt 0) hx hb dX10_fewest_38 (by decide +kernel) ?_
        refine cr_i (va_runV (As := [.ref (ar 32), .int (Int32.ofInt (fi 28)), .int (Int32.ofInt (0))]) (rest := []) ⟨hx, hb, hml, hown, hts⟩ (mX10_seek_32 l G k ar (uF fi 2 (0)) fa fl (fi 28) 0 H.size (iF hR (by omega)) hRa (hR 28) (by omega) (show 0 ≤ (fi 12) ∧ (fi 12) ≤ 7 from by omega) (show 0 ≤ (fi 13) ∧ (fi 13) ≤ 4 from by omega) (show ∀ q9, 0 ≤ q9 → q9 < (fi 13) → RWf ((fa 10)) ((fa 8) q9) ((fa 9) q9) from by first | exact hRW | omega) (show 0 ≤ (fa 3) 0 ∧ (fa 3) 0 ≤ 11 from by omega) (show 0 = 0 ∨ 0 = 1 from by omega)) (cwV 3 hts (gz [.methodLink RX10 472 yX10_seek, .instanceMethod yX10_seek, .selects RX10 yX10_seek yX10_seek, .initialized RX10] (.code yX10_seek cX10_seek 6 (some .boolean)) [(35, 17), (35, 18), (35, 19), (0, 5), (35, 20)] rfl) rfl rfl rfl (by decide +kernel) ⟨Nat.le_of_ble_eq_true rfl, Nat.le_of_ble_eq_true rfl⟩) (cr_preV (EZ_ok k) hZ hS hX hP hD hA (ci := 7) (q0 := 0) rfl rfl) rfl rfl hl.1 rfl (lv_room (Nat.le_of_ble_eq_true rfl)) dX10_fewest_39 ⟨Nat.le_of_ble_eq_true rfl, Nat.le_of_ble_eq_true rfl⟩) hD hS hA (fun r u H locs hp hP hD hS => ?_)
        obtain ⟨c6, c7, c8, c9, c10, c11, c12, c13, c14, c15, c16, c17, c18, c19, c20, c21, c22, c23⟩ := u
        obtain ⟨hP, hD⟩ : va_P G vwCl (wM k ar (uF (uF (uF (uF (uF (uF (uF (uF (uF fi 2 (0)) 41 (c15)) 42 (c16)) 43 (c17)) 50 (c18)) 51 (c19)) 52 (c20)) 55 (c21)) 56 (c22)) (uF (uF (uF (uF (uF (uF (uF (uF fa 39 (c7)) 40 (c8)) 46 (c9)) 47 (c10)) 48 (c11)) 49 (c12)) 53 (c13)) 54 (c14)) c23) H ∧ va_D A (wM k ar (uF (uF (uF (uF (uF (uF (uF (uF (uF fi 2 (0)) 41 (c15)) 42 (c16)) 43 (c17)) 50 (c18)) 51 (c19)) 52 (c20)) 55 (c21)) 56 (c22)) (uF (uF (uF (uF (uF (uF (uF (uF fa 39 (c7)) 40 (c8)) 46 (c9)) 47 (c10)) 48 (c11)) 49 (c12)) 53 (c13)) 54 (c14)) c23) := ⟨hP, hD⟩
        obtain ⟨h9, rc6, rc7, rc8, rc9, rc10, rc11, rc12, rc13, rc14, rc15, rc16, rc17, rc18, rc19, rc20, rc21, rc22, hp23⟩ : r = Int32.ofInt c6 ∧ (inR c6) ∧ (∀ t, inR (c7 t)) ∧ (∀ t, inR (c8 t)) ∧ (∀ t, inR (c9 t)) ∧ (∀ t, inR (c10 t)) ∧ (∀ t, inR (c11 t)) ∧ (∀ t, inR (c12 t)) ∧ (∀ t, inR (c13 t)) ∧ (∀ t, inR (c14 t)) ∧ (inR c15) ∧ (inR c16) ∧ (inR c17) ∧ (inR c18) ∧ (inR c19) ∧ (inR c20) ∧ (inR c21) ∧ (inR c22) ∧ ((c6 = 0 ∨ c6 = 1) ∧ 0 ≤ c18 ∧ c18 ≤ 1500) := hp
        subst h9
        refine iv_if_eq (tgt := 52) hx hb (by omega) dX10_fewest_42 (by decide) (fun q24 => ?_) (fun q24 => ?_)
        · refine lv_bipush (v := Int32.ofInt (-2)) hx hb dX10_fewest_52 (by decide +kernel) ?_
          exact W.iret (v := Int32.ofInt ((-2))) hx hb hr (fun t ht hW => ⟨⟨Int32.ofInt ((-2)), ((-2), c7, c8, c9, c10, c11, c12, c13, c14, 0, c15, c16, c17, c18, c19, c20, c21, c22, c23), rfl, ⟨rfl, (show (inR (-2)) ∧ (∀ t, inR (c7 t)) ∧ (∀ t, inR (c8 t)) ∧ (∀ t, inR (c9 t)) ∧ (∀ t, inR (c10 t)) ∧ (∀ t, inR (c11 t)) ∧ (∀ t, inR (c12 t)) ∧ (∀ t, inR (c13 t)) ∧ (∀ t, inR (c14 t)) ∧ (inR 0) ∧ (inR c15) ∧ (inR c16) ∧ (inR c17) ∧ (inR c18) ∧ (inR c19) ∧ (inR c20) ∧ (inR c21) ∧ (inR c22) ∧ (True) from ⟨(by omega), rc7, rc8, rc9, rc10, rc11, rc12, rc13, rc14, (by omega), (by omega), (by omega), (by omega), (by omega), (by omega), (by omega), (by omega), (by omega), trivial⟩)⟩, by rw [ht]; exact hP, hD⟩, hS.F ht⟩) hS.2.2 dX10_fewest_54
        · refine lv_aload_n hx hb dX10_fewest_45 rfl (lv_at hl 0 rfl) ?_
          refine cr_i (va_runV (As := []) (rest := []) ⟨hx, hb, hml, hown, hts⟩ (mX10_leastServed l G k ar (uF (uF (uF (uF (uF (uF (uF (uF (uF fi 2 (0)) 41 (c15)) 42 (c16)) 43 (c17)) 50 (c18)) 51 (c19)) 52 (c20)) 55 (c21)) 56 (c22)) (uF (uF (uF (uF (uF (uF (uF (uF fa 39 (c7)) 40 (c8)) 46 (c9)) 47 (c10)) 48 (c11)) 49 (c12)) 53 (c13)) 54 (c14)) c23 H.size (iF (iF (iF (iF (iF (iF (iF (iF (iF hR (by omega)) (by omega)) (by omega)) (by omega)) (by omega)) (by omega)) (by omega)) (by omega)) (by omega)) (iG (iG (iG (iG (iG (iG (iG (iG hRa rc7) rc8) rc9) rc10) rc11) rc12) rc13) rc14) (show 0 ≤ (fi 12) ∧ (fi 12) ≤ 7 from by omega) (show 0 ≤ c18 from by omega) (show c18 ≤ 1500 from by omega)) (cwV 0 hts (gz [.methodLink RX10 476 yX10_leastServed, .instanceMethod yX10_leastServed, .selects RX10 yX10_leastServed yX10_leastServed, .initialized RX10] (.code yX10_leastServed cX10_leastServed 3 (some .int)) [(37, 6), (37, 7), (37, 8), (0, 5), (37, 9)] rfl) rfl rfl rfl (by decide +kernel) ⟨Nat.le_of_ble_eq_true rfl, Nat.le_of_ble_eq_true rfl⟩) (cr_preV (EZ_ok k) hZ hS hX hP hD hA (ci := 7) (q0 := 0) rfl rfl) rfl rfl hl.1 rfl (lv_room (Nat.le_of_ble_eq_true rfl)) dX10_fewest_46 ⟨Nat.le_of_ble_eq_true rfl, Nat.le_of_ble_eq_true rfl⟩) hD hS hA (fun r u H locs hp hP hD hS => ?_)
          obtain ⟨c25, c26, c27⟩ := u
          obtain ⟨hP, hD⟩ : va_P G vwCl (wM k ar (uF (uF (uF (uF (uF (uF (uF (uF (uF fi 2 (0)) 41 (c15)) 42 (c16)) 43 (c17)) 50 (c18)) 51 (c19)) 52 (c20)) 55 (c27)) 56 (c22)) (uF (uF (uF (uF (uF (uF (uF (uF fa 39 (c7)) 40 (c8)) 46 (c9)) 47 (c10)) 48 (c11)) 49 (c12)) 53 (c26)) 54 (c14)) c23) H ∧ va_D A (wM k ar (uF (uF (uF (uF (uF (uF (uF (uF (uF fi 2 (0)) 41 (c15)) 42 (c16)) 43 (c17)) 50 (c18)) 51 (c19)) 52 (c20)) 55 (c27)) 56 (c22)) (uF (uF (uF (uF (uF (uF (uF (uF fa 39 (c7)) 40 (c8)) 46 (c9)) 47 (c10)) 48 (c11)) 49 (c12)) 53 (c26)) 54 (c14)) c23) := ⟨hP, hD⟩
          obtain ⟨h9, rc25, rc26, rc27, hp27⟩ : r = Int32.ofInt c25 ∧ (inR c25) ∧ (∀ t, inR (c26 t)) ∧ (inR c27) ∧ (True) := hp
          subst h9
          refine lv_goto (tgt := 54) hx hb dX10_fewest_49 (by decide) ?_
          exact W.iret (v := Int32.ofInt (c25)) hx hb hr (fun t ht hW => ⟨⟨Int32.ofInt (c25), (c25, c7, c8, c9, c10, c11, c12, c26, c14, 0, c15, c16, c17, c18, c19, c20, c27, c22, c23), rfl, ⟨rfl, (show (inR c25) ∧ (∀ t, inR (c7 t)) ∧ (∀ t, inR (c8 t)) ∧ (∀ t, inR (c9 t)) ∧ (∀ t, inR (c10 t)) ∧ (∀ t, inR (c11 t)) ∧ (∀ t, inR (c12 t)) ∧ (∀ t, inR (c26 t)) ∧ (∀ t, inR (c14 t)) ∧ (inR 0) ∧ (inR c15) ∧ (inR c16) ∧ (inR c17) ∧ (inR c18) ∧ (inR c19) ∧ (inR c20) ∧ (inR c27) ∧ (inR c22) ∧ (True) from ⟨(by omega), rc7, rc8, rc9, rc10, rc11, rc12, rc26, rc14, (by omega), (by omega), (by omega), (by omega), (by omega), (by omega), (by omega), (by omega), (by omega), trivial⟩)⟩, by rw [ht]; exact hP, hD⟩, hS.F ht⟩) hS.2.2 dX10_fewest_54
      · refine lv_iconst (v := Int32.ofInt 1) hx hb dX10_fewest_34 (by decide +kernel) ?_
        refine lv_goto (tgt := 39) hx hb dX10_fewest_35 (by decide) ?_
        refine cr_i (va_runV (As := [.ref (ar 32), .int (Int32.ofInt (fi 28)), .int (Int32.ofInt (1))]) (rest := []) ⟨hx, hb, hml, hown, hts⟩ (mX10_seek_32 l G k ar (uF fi 2 (0)) fa fl (fi 28) 1 H.size (iF hR (by omega)) hRa (hR 28) (by omega) (show 0 ≤ (fi 12) ∧ (fi 12) ≤ 7 from by omega) (show 0 ≤ (fi 13) ∧ (fi 13) ≤ 4 from by omega) (show ∀ q9, 0 ≤ q9 → q9 < (fi 13) → RWf ((fa 10)) ((fa 8) q9) ((fa 9) q9) from by first | exact hRW | omega) (show 0 ≤ (fa 3) 0 ∧ (fa 3) 0 ≤ 11 from by omega) (show 1 = 0 ∨ 1 = 1 from by omega)) (cwV 3 hts (gz [.methodLink RX10 472 yX10_seek, .instanceMethod yX10_seek, .selects RX10 yX10_seek yX10_seek, .initialized RX10] (.code yX10_seek cX10_seek 6 (some .boolean)) [(35, 17), (35, 18), (35, 19), (0, 5), (35, 20)] rfl) rfl rfl rfl (by decide +kernel) ⟨Nat.le_of_ble_eq_true rfl, Nat.le_of_ble_eq_true rfl⟩) (cr_preV (EZ_ok k) hZ hS hX hP hD hA (ci := 7) (q0 := 0) rfl rfl) rfl rfl hl.1 rfl (lv_room (Nat.le_of_ble_eq_true rfl)) dX10_fewest_39 ⟨Nat.le_of_ble_eq_true rfl, Nat.le_of_ble_eq_true rfl⟩) hD hS hA (fun r u H locs hp hP hD hS => ?_)
        obtain ⟨c28, c29, c30, c31, c32, c33, c34, c35, c36, c37, c38, c39, c40, c41, c42, c43, c44, c45⟩ := u
        obtain ⟨hP, hD⟩ : va_P G vwCl (wM k ar (uF (uF (uF (uF (uF (uF (uF (uF (uF fi 2 (0)) 41 (c37)) 42 (c38)) 43 (c39)) 50 (c40)) 51 (c41)) 52 (c42)) 55 (c43)) 56 (c44)) (uF (uF (uF (uF (uF (uF (uF (uF fa 39 (c29)) 40 (c30)) 46 (c31)) 47 (c32)) 48 (c33)) 49 (c34)) 53 (c35)) 54 (c36)) c45) H ∧ va_D A (wM k ar (uF (uF (uF (uF (uF (uF (uF (uF (uF fi 2 (0)) 41 (c37)) 42 (c38)) 43 (c39)) 50 (c40)) 51 (c41)) 52 (c42)) 55 (c43)) 56 (c44)) (uF (uF (uF (uF (uF (uF (uF (uF fa 39 (c29)) 40 (c30)) 46 (c31)) 47 (c32)) 48 (c33)) 49 (c34)) 53 (c35)) 54 (c36)) c45) := ⟨hP, hD⟩
        obtain ⟨h9, rc28, rc29, rc30, rc31, rc32, rc33, rc34, rc35, rc36, rc37, rc38, rc39, rc40, rc41, rc42, rc43, rc44, hp45⟩ : r = Int32.ofInt c28 ∧ (inR c28) ∧ (∀ t, inR (c29 t)) ∧ (∀ t, inR (c30 t)) ∧ (∀ t, inR (c31 t)) ∧ (∀ t, inR (c32 t)) ∧ (∀ t, inR (c33 t)) ∧ (∀ t, inR (c34 t)) ∧ (∀ t, inR (c35 t)) ∧ (∀ t, inR (c36 t)) ∧ (inR c37) ∧ (inR c38) ∧ (inR c39) ∧ (inR c40) ∧ (inR c41) ∧ (inR c42) ∧ (inR c43) ∧ (inR c44) ∧ ((c28 = 0 ∨ c28 = 1) ∧ 0 ≤ c40 ∧ c40 ≤ 1500) := hp
        subst h9
        refine iv_if_eq (tgt := 52) hx hb (by omega) dX10_fewest_42 (by decide) (fun q46 => ?_) (fun q46 => ?_)
        · refine lv_bipush (v := Int32.ofInt (-2)) hx hb dX10_fewest_52 (by decide +kernel) ?_
          exact W.iret (v := Int32.ofInt ((-2))) hx hb hr (fun t ht hW => ⟨⟨Int32.ofInt ((-2)), ((-2), c29, c30, c31, c32, c33, c34, c35, c36, 0, c37, c38, c39, c40, c41, c42, c43, c44, c45), rfl, ⟨rfl, (show (inR (-2)) ∧ (∀ t, inR (c29 t)) ∧ (∀ t, inR (c30 t)) ∧ (∀ t, inR (c31 t)) ∧ (∀ t, inR (c32 t)) ∧ (∀ t, inR (c33 t)) ∧ (∀ t, inR (c34 t)) ∧ (∀ t, inR (c35 t)) ∧ (∀ t, inR (c36 t)) ∧ (inR 0) ∧ (inR c37) ∧ (inR c38) ∧ (inR c39) ∧ (inR c40) ∧ (inR c41) ∧ (inR c42) ∧ (inR c43) ∧ (inR c44) ∧ (True) from ⟨(by omega), rc29, rc30, rc31, rc32, rc33, rc34, rc35, rc36, (by omega), (by omega), (by omega), (by omega), (by omega), (by omega), (by omega), (by omega), (by omega), trivial⟩)⟩, by rw [ht]; exact hP, hD⟩, hS.F ht⟩) hS.2.2 dX10_fewest_54
        · refine lv_aload_n hx hb dX10_fewest_45 rfl (lv_at hl 0 rfl) ?_
          refine cr_i (va_runV (As := []) (rest := []) ⟨hx, hb, hml, hown, hts⟩ (mX10_leastServed l G k ar (uF (uF (uF (uF (uF (uF (uF (uF (uF fi 2 (0)) 41 (c37)) 42 (c38)) 43 (c39)) 50 (c40)) 51 (c41)) 52 (c42)) 55 (c43)) 56 (c44)) (uF (uF (uF (uF (uF (uF (uF (uF fa 39 (c29)) 40 (c30)) 46 (c31)) 47 (c32)) 48 (c33)) 49 (c34)) 53 (c35)) 54 (c36)) c45 H.size (iF (iF (iF (iF (iF (iF (iF (iF (iF hR (by omega)) (by omega)) (by omega)) (by omega)) (by omega)) (by omega)) (by omega)) (by omega)) (by omega)) (iG (iG (iG (iG (iG (iG (iG (iG hRa rc29) rc30) rc31) rc32) rc33) rc34) rc35) rc36) (show 0 ≤ (fi 12) ∧ (fi 12) ≤ 7 from by omega) (show 0 ≤ c40 from by omega) (show c40 ≤ 1500 from by omega)) (cwV 0 hts (gz [.methodLink RX10 476 yX10_leastServed, .instanceMethod yX10_leastServed, .selects RX10 yX10_leastServed yX10_leastServed, .initialized RX10] (.code yX10_leastServed cX10_leastServed 3 (some .int)) [(37, 6), (37, 7), (37, 8), (0, 5), (37, 9)] rfl) rfl rfl rfl (by decide +kernel) ⟨Nat.le_of_ble_eq_true rfl, Nat.le_of_ble_eq_true rfl⟩) (cr_preV (EZ_ok k) hZ hS hX hP hD hA (ci := 7) (q0 := 0) rfl rfl) rfl rfl hl.1 rfl (lv_room (Nat.le_of_ble_eq_true rfl)) dX10_fewest_46 ⟨Nat.le_of_ble_eq_true rfl, Nat.le_of_ble_eq_true rfl⟩) hD hS hA (fun r u H locs hp hP hD hS => ?_)
          obtain ⟨c47, c48, c49⟩ := u
          obtain ⟨hP, hD⟩ : va_P G vwCl (wM k ar (uF (uF (uF (uF (uF (uF (uF (uF (uF fi 2 (0)) 41 (c37)) 42 (c38)) 43 (c39)) 50 (c40)) 51 (c41)) 52 (c42)) 55 (c49)) 56 (c44)) (uF (uF (uF (uF (uF (uF (uF (uF fa 39 (c29)) 40 (c30)) 46 (c31)) 47 (c32)) 48 (c33)) 49 (c34)) 53 (c48)) 54 (c36)) c45) H ∧ va_D A (wM k ar (uF (uF (uF (uF (uF (uF (uF (uF (uF fi 2 (0)) 41 (c37)) 42 (c38)) 43 (c39)) 50 (c40)) 51 (c41)) 52 (c42)) 55 (c49)) 56 (c44)) (uF (uF (uF (uF (uF (uF (uF (uF fa 39 (c29)) 40 (c30)) 46 (c31)) 47 (c32)) 48 (c33)) 49 (c34)) 53 (c48)) 54 (c36)) c45) := ⟨hP, hD⟩
          obtain ⟨h9, rc47, rc48, rc49, hp49⟩ : r = Int32.ofInt c47 ∧ (inR c47) ∧ (∀ t, inR (c48 t)) ∧ (inR c49) ∧ (True) := hp
          subst h9
          refine lv_goto (tgt := 54) hx hb dX10_fewest_49 (by decide) ?_
          exact W.iret (v := Int32.ofInt (c47)) hx hb hr (fun t ht hW => ⟨⟨Int32.ofInt (c47), (c47, c29, c30, c31, c32, c33, c34, c48, c36, 0, c37, c38, c39, c40, c41, c42, c49, c44, c45), rfl, ⟨rfl, (show (inR c47) ∧ (∀ t, inR (c29 t)) ∧ (∀ t, inR (c30 t)) ∧ (∀ t, inR (c31 t)) ∧ (∀ t, inR (c32 t)) ∧ (∀ t, inR (c33 t)) ∧ (∀ t, inR (c34 t)) ∧ (∀ t, inR (c48 t)) ∧ (∀ t, inR (c36 t)) ∧ (inR 0) ∧ (inR c37) ∧ (inR c38) ∧ (inR c39) ∧ (inR c40) ∧ (inR c41) ∧ (inR c42) ∧ (inR c49) ∧ (inR c44) ∧ (True) from ⟨(by omega), rc29, rc30, rc31, rc32, rc33, rc34, rc48, rc36, (by omega), (by omega), (by omega), (by omega), (by omega), (by omega), (by omega), (by omega), (by omega), trivial⟩)⟩, by rw [ht]; exact hP, hD⟩, hS.F ht⟩) hS.2.2 dX10_fewest_54
    · refine lv_aload_n hx hb dX10_fewest_14 rfl (lv_at hl 0 rfl) ?_
      refine lv_iconst (v := Int32.ofInt 1) hx hb dX10_fewest_15 (by decide +kernel) ?_
      refine cr_i (va_runV (As := [.int (Int32.ofInt (1))]) (rest := []) ⟨hx, hb, hml, hown, hts⟩ (mX10_fail l G k ar (uF fi 2 (0)) fa fl 1 H.size (iF hR (by omega)) hRa (by omega)) (cwV 1 hts (gz [.methodLink RX10 315 yX10_fail, .instanceMethod yX10_fail, .selects RX10 yX10_fail yX10_fail, .initialized RX10] (.code yX10_fail cX10_fail 2 (some .int)) [(16, 17), (16, 18), (16, 19), (0, 5), (16, 20)] rfl) rfl rfl rfl (by decide +kernel) ⟨Nat.le_of_ble_eq_true rfl, Nat.le_of_ble_eq_true rfl⟩) (cr_preV (EZ_ok k) hZ hS hX hP hD hA (ci := 7) (q0 := 0) rfl rfl) rfl rfl hl.1 rfl (lv_room (Nat.le_of_ble_eq_true rfl)) dX10_fewest_16 ⟨Nat.le_of_ble_eq_true rfl, Nat.le_of_ble_eq_true rfl⟩) hD hS hA (fun r u H locs hp hP hD hS => ?_)
      obtain ⟨c50, c51⟩ := u
      obtain ⟨hP, hD⟩ : va_P G vwCl (wM k ar (uF fi 2 (c51)) fa fl) H ∧ va_D A (wM k ar (uF fi 2 (c51)) fa fl) := ⟨hP, hD⟩
      obtain ⟨h9, rc50, rc51, hp51⟩ : r = Int32.ofInt c50 ∧ (inR c50) ∧ (inR c51) ∧ (c50 = 0 ∧ c51 = 1) := hp
      subst h9
      exact W.iret (v := Int32.ofInt (c50)) hx hb hr (fun t ht hW => ⟨⟨Int32.ofInt (c50), (c50, fa 39, fa 40, fa 46, fa 47, fa 48, fa 49, fa 53, fa 54, c51, fi 41, fi 42, fi 43, fi 50, fi 51, fi 52, fi 55, fi 56, fl), rfl, ⟨rfl, (show (inR c50) ∧ (∀ t, inR ((fa 39) t)) ∧ (∀ t, inR ((fa 40) t)) ∧ (∀ t, inR ((fa 46) t)) ∧ (∀ t, inR ((fa 47) t)) ∧ (∀ t, inR ((fa 48) t)) ∧ (∀ t, inR ((fa 49) t)) ∧ (∀ t, inR ((fa 53) t)) ∧ (∀ t, inR ((fa 54) t)) ∧ (inR c51) ∧ (inR (fi 41)) ∧ (inR (fi 42)) ∧ (inR (fi 43)) ∧ (inR (fi 50)) ∧ (inR (fi 51)) ∧ (inR (fi 52)) ∧ (inR (fi 55)) ∧ (inR (fi 56)) ∧ (True) from ⟨(by omega), (hRa 39), (hRa 40), (hRa 46), (hRa 47), (hRa 48), (hRa 49), (hRa 53), (hRa 54), (by omega), (hR 41), (hR 42), (hR 43), (hR 50), (hR 51), (hR 52), (hR 55), (hR 56), trivial⟩)⟩, by rw [ht]; exact hP, hD⟩, hS.F ht⟩) hS.2.2 dX10_fewest_19

