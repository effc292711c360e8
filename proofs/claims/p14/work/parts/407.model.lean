set_option maxHeartbeats 4000000 in
set_option maxRecDepth 100000 in
theorem mX10_is (l : Launch) (G : va_G) (k : Nat → ClassId) (ar : Nat → Nat) (fi : Nat → Int) (fa : Nat → Int → Int) (fl : Nat → Int64) (sx : Nat) (sz : Nat) (hR : ∀ j, inR (fi j)) (hRa : ∀ j t, inR (fa j t)) (hsx : sx < 47) (hk1 : fi 20 = 1 → 0 ≤ fi 22 ∧ fi 22 ≤ fi 23 ∧ fi 23 ≤ 600) (hty : TS (fa 16) (fi 19) (fi 24) (fi 22) (fi 23) (fi 20) (fi 21)) : CNi l G k (EZ k) yX10_is wzX10_is ({ frames := 4, cells := 0, slots := 0, locals := 85 }) [.ref (ar 71), .ref (k (111 + sx))] sz (wM k ar fi fa fl) (fun (r0 : Int32) (u : Int) => r0 = Int32.ofInt (u) ∧ (inR u) ∧ (((u = 0 ∨ u = 1) ∧ (u = 1 → fi 24 = 0 ∧ fi 20 = 1)) ∧ Isr u (fi 24) (isWd (fa 16) (fi 19) sx (fi 22)))) (fun (u : Int) => (wM k ar fi fa fl)) := by
  refine Met.ofW (cc := cX10_is) (maxL := 4) (ret := (some .boolean)) (by decide) rfl ?_
  intro p e s m args below meth c s₁ B hml hv
  obtain ⟨rfl, hsz, hP, hX, hD0, hZ0⟩ := hv
  have hx := B.exec
  have hb := B.bytes
  have hr := B.returns
  have hts := atoms_spec (ws := wzX10_is) B.pre
  have hown : s.vm.findClass RX10 = some m.cls := findClass_of_methodNamed B.named
  subst hsz
  have hD := hD0.self (sz := s.heap.size)
  have hZ := hZ0
  generalize hAe : va_A (wM k ar fi fa fl) s.heap.size = A at hD hZ ⊢
  have hA : ∀ q : Nat, s.heap.size ≤ q → A q := fun q h => by rw [← hAe]; exact Or.inr h
  have hS : va_S A s.heap s.heap [] := va_S.rf
  have hl := lv_entry ([.ref (ar 71), .ref (k (111 + sx))]) (n := 4) (Nat.le_of_ble_eq_true rfl)
  rw [lg_entry_eq]
  generalize (lg_sl ([.ref (ar 71), .ref (k (111 + sx))]) ++ List.replicate (4 - (lg_sl ([.ref (ar 71), .ref (k (111 + sx))])).length) Slot.unset).toArray = ls at hl ⊢
  have hl : lv_has ls 4 [(0, .ref (ar 71)), (1, .ref (k (111 + sx)))] := hl
  obtain ⟨H, eH⟩ : ∃ H, H = s.heap := ⟨_, rfl⟩
  rw [← eH] at hP
  have hS : va_S A s.heap H [] := by rw [eH]; exact hS
  have gW : s.heap = H := eH.symm
  refine iv_heap gW ?_
  have h0w := hts (.fieldLink RX10 223 "RopeTownModel" "bad" "I") (wz_at 16 11 rfl)
  have h1w : ∀ w ∈ wsX100, w ∈ wzX10_is := fun w h => List.mem_cons_of_mem _ (inlX10 w h)
  have h2w := hts (.fieldLink RX10 80 "RopeTownModel" "tape" "[I") (wz_at 6 15 rfl)
  have h3w := hts (.fieldLink RX10 194 "RopeTownModel" "begins" "I") (wz_at 17 1 rfl)
  have h4w := hts (.fieldLink RX10 197 "RopeTownModel" "token" "I") (wz_at 16 15 rfl)
  have h5w := hts (.fieldLink RX10 220 "RopeTownModel" "ends" "I") (wz_at 17 8 rfl)
  have hL9 := lenS_ok sx hsx
  refine lv_aload_n hx hb dX10_is_0 rfl (lv_at hl 0 rfl) ?_
  refine va_get (D := G) (ci := 7) (v := .int (Int32.ofInt (fi 24))) (C := RX10) (T := TX10) (N := 71) (ref := RX10) hx hb hts h1w hown hX.1 hP 0 rfl rfl 24 (by decide) h0w (fun _ h9 => h9) rfl dX10_is_1 ?_
  have rf24 := hR 24
  refine iv_if_ne (tgt := 35) hx hb (by omega) dX10_is_4 (by decide) (fun q1 => ?_) (fun q1 => ?_)
  · refine lv_iconst (v := Int32.ofInt 0) hx hb dX10_is_35 (by decide +kernel) ?_
    refine lv_istore_n (lv' := [(2, .int (Int32.ofInt (0))), (0, .ref (ar 71)), (1, .ref (k (111 + sx)))]) hx hb dX10_is_36 rfl hl (by decide) rfl (fun ls hl => ?_)
    refine lv_iconst (v := Int32.ofInt 0) hx hb dX10_is_37 (by decide +kernel) ?_
    refine lv_istore_n (lv' := [(3, .int (Int32.ofInt (0))), (2, .int (Int32.ofInt (0))), (0, .ref (ar 71)), (1, .ref (k (111 + sx)))]) hx hb dX10_is_38 rfl hl (by decide) rfl (fun ls hl => ?_)
    refine iv_loop (α := Int × Int) (nL := 4) (fun b9 => (wM k ar fi fa fl)) (fun b9 => [(3, .int (Int32.ofInt (b9.1))), (2, .int (Int32.ofInt (b9.2))), (0, .ref (ar 71)), (1, .ref (k (111 + sx)))]) (fun b9 => ((lenS.getD sx 0 : Nat) + 1 - b9.1).toNat) (fun b9 => inR b9.1 ∧ inR b9.2 ∧ ((0 ≤ b9.1 ∧ (b9.2 = 0 ∨ (b9.2 = 1 ∧ fi 24 = 0 ∧ fi 20 = 1 ∧ (lenS.getD sx 0 : Nat) = fi 23 - fi 22))) ∧ WI (fa 16) (fi 19) (fi 24) (fi 22) sx b9.2 b9.1)) ?_ (0, 0) (show inR 0 ∧ inR 0 ∧ ((0 ≤ 0 ∧ (0 = 0 ∨ (0 = 1 ∧ fi 24 = 0 ∧ fi 20 = 1 ∧ (lenS.getD sx 0 : Nat) = fi 23 - fi 22))) ∧ WI (fa 16) (fi 19) (fi 24) (fi 22) sx 0 0) from ⟨(by omega), (by omega), (by first | exact ⟨by omega, wi_1 hty (by omega) (by omega) (by omega) rfl rfl⟩ | exact ⟨by omega, wi_0 hty (by omega) rfl⟩)⟩) hP hD hS hl
    rintro ⟨x3_2, x2_3⟩ ih hi9 H locs ls hP hD hS hl
    obtain ⟨r_x3_2, r_x2_3, hinv⟩ : inR x3_2 ∧ inR x2_3 ∧ ((0 ≤ x3_2 ∧ (x2_3 = 0 ∨ (x2_3 = 1 ∧ fi 24 = 0 ∧ fi 20 = 1 ∧ (lenS.getD sx 0 : Nat) = fi 23 - fi 22))) ∧ WI (fa 16) (fi 19) (fi 24) (fi 22) sx x2_3 x3_2) := hi9
    obtain ⟨hJ1, hWI⟩ := hinv
    obtain ⟨hP, hD⟩ : va_P G vwCl (wM k ar fi fa fl) H ∧ va_D A (wM k ar fi fa fl) := ⟨hP, hD⟩
    have hl : lv_has ls 4 [(3, .int (Int32.ofInt (x3_2))), (2, .int (Int32.ofInt (x2_3))), (0, .ref (ar 71)), (1, .ref (k (111 + sx)))] := hl
    refine lv_iload_n hx hb dX10_is_39 rfl (lv_at hl 1 rfl) ?_
    refine iv_if_eq (tgt := 82) hx hb (by omega) dX10_is_40 (by decide) (fun q4 => ?_) (fun q4 => ?_)
    · refine lv_iload_n hx hb dX10_is_82 rfl (lv_at hl 1 rfl) ?_
      exact W.zret (v := Int32.ofInt (x2_3)) hx hb hr (nz_bool (by omega)) (fun t ht hW => ⟨⟨Int32.ofInt (x2_3), (x2_3), rfl, ⟨rfl, (show (inR x2_3) ∧ (((x2_3 = 0 ∨ x2_3 = 1) ∧ (x2_3 = 1 → fi 24 = 0 ∧ fi 20 = 1)) ∧ Isr x2_3 (fi 24) (isWd (fa 16) (fi 19) sx (fi 22))) from ⟨(by omega), (by exact ⟨by omega, wi_end hWI (by omega)⟩)⟩)⟩, by rw [ht]; exact hP, hD⟩, hS.F ht⟩) hS.2.2 dX10_is_83
    · refine lv_iload_n hx hb dX10_is_43 rfl (lv_at hl 0 rfl) ?_
      refine lv_aload_n hx hb dX10_is_44 rfl (lv_at hl 3 rfl) ?_
      refine c0_i (va_runV (As := []) (rest := [.int (Int32.ofInt (x3_2))]) ⟨hx, hb, hml, hown, hts⟩ (mJ0_length_8abf5 l G k sx H.size (show sx < 47 from by omega)) (cwV 0 hts (gz [.methodLink RX10 229 yJ0_length_8abf5, .instanceMethod yJ0_length_8abf5, .selects RJ0 yJ0_length_8abf5 yJ0_length_8abf5, .initialized RJ0] (.code yJ0_length_8abf5 cJ0_length_8abf5 1 (some .int)) [(18, 10), (10, 1), (10, 2), (10, 3), (10, 4)] rfl) rfl rfl rfl (by decide +kernel) ⟨Nat.le_of_ble_eq_true rfl, Nat.le_of_ble_eq_true rfl⟩) (cs_preV hZ hS hX hP hD hA (ez_str hZ (i := sx) (by omega)).1) rfl rfl hl.1 rfl (lv_room (Nat.le_of_ble_eq_true rfl)) dX10_is_45 ⟨Nat.le_of_ble_eq_true rfl, Nat.le_of_ble_eq_true rfl⟩) hP hD hS hA (fun r u H locs hp hP hD hS => ?_)
      obtain ⟨c5, rfl⟩ : ∃ z, z = u := ⟨_, rfl⟩
      obtain ⟨h9, rc5, hp5⟩ : r = Int32.ofInt c5 ∧ (inR c5) ∧ (c5 = ((lenS.getD sx 0 : Nat) : Int)) := hp
      subst h9
      refine iv_icmp_ge (tgt := 82) hx hb (by omega) (by omega) dX10_is_48 (by decide) (fun q6 => ?_) (fun q6 => ?_)
      · refine lv_iload_n hx hb dX10_is_82 rfl (lv_at hl 1 rfl) ?_
        exact W.zret (v := Int32.ofInt (x2_3)) hx hb hr (nz_bool (by omega)) (fun t ht hW => ⟨⟨Int32.ofInt (x2_3), (x2_3), rfl, ⟨rfl, (show (inR x2_3) ∧ (((x2_3 = 0 ∨ x2_3 = 1) ∧ (x2_3 = 1 → fi 24 = 0 ∧ fi 20 = 1)) ∧ Isr x2_3 (fi 24) (isWd (fa 16) (fi 19) sx (fi 22))) from ⟨(by omega), (by exact ⟨by omega, wi_end hWI (by omega)⟩)⟩)⟩, by rw [ht]; exact hP, hD⟩, hS.F ht⟩) hS.2.2 dX10_is_83
      · refine lv_aload_n hx hb dX10_is_51 rfl (lv_at hl 3 rfl) ?_
        refine lv_iload_n hx hb dX10_is_52 rfl (lv_at hl 0 rfl) ?_
        refine c0_i (va_runV (As := [.int (Int32.ofInt (x3_2))]) (rest := []) ⟨hx, hb, hml, hown, hts⟩ (mJ0_charAt_5068e l G k sx x3_2 H.size (show sx < 47 from by omega) (by omega) (show 0 ≤ x3_2 ∧ x3_2 < ((lenS.getD sx 0 : Nat) : Int) from by omega)) (cwV 1 hts (gz [.methodLink RX10 233 yJ0_charAt_5068e, .instanceMethod yJ0_charAt_5068e, .selects RJ0 yJ0_charAt_5068e yJ0_charAt_5068e, .initialized RJ0] (.code yJ0_charAt_5068e cJ0_charAt_5068e 2 (some .char)) [(18, 11), (10, 13), (10, 14), (10, 3), (10, 15)] rfl) rfl rfl rfl (by decide +kernel) ⟨Nat.le_of_ble_eq_true rfl, Nat.le_of_ble_eq_true rfl⟩) (cs_preV hZ hS hX hP hD hA (ez_str hZ (i := sx) (by omega)).1) rfl rfl hl.1 rfl (lv_room (Nat.le_of_ble_eq_true rfl)) dX10_is_53 ⟨Nat.le_of_ble_eq_true rfl, Nat.le_of_ble_eq_true rfl⟩) hP hD hS hA (fun r u H locs hp hP hD hS => ?_)
        obtain ⟨c7, rfl⟩ : ∃ z, z = u := ⟨_, rfl⟩
        obtain ⟨h9, rc7, hp7⟩ : r = Int32.ofInt c7 ∧ (inR c7) ∧ (c7 = bChar (bAnd (chZ sx (x3_2).toNat) 255) ∧ 0 ≤ c7 ∧ c7 < 65536) := hp
        subst h9
        have hC := hp7.1
        refine lv_aload_n hx hb dX10_is_56 rfl (lv_at hl 2 rfl) ?_
        refine va_get (D := G) (ci := 7) (v := .ref (ar 16)) (C := RX10) (T := TX10) (N := 71) (ref := RX10) hx hb hts h1w hown hX.1 hP 0 rfl rfl 16 (by decide) h2w (fun _ h9 => h9) rfl dX10_is_57 ?_
        refine lv_aload_n hx hb dX10_is_60 rfl (lv_at hl 2 rfl) ?_
        refine va_get (D := G) (ci := 7) (v := .int (Int32.ofInt (fi 22))) (C := RX10) (T := TX10) (N := 71) (ref := RX10) hx hb hts h1w hown hX.1 hP 0 rfl rfl 22 (by decide) h3w (fun _ h9 => h9) rfl dX10_is_61 ?_
        have rf22 := hR 22
        refine lv_iload_n hx hb dX10_is_64 rfl (lv_at hl 0 rfl) ?_
        refine iv_add (x := fi 22) (y := x3_2) hx hb dX10_is_65 ?_
        refine iv_iald hx hb hX.1 hP 10 0 rfl rfl (by omega) (by omega) (by decide) dX10_is_66 ?_
        refine iv_top (fun z8 ez8 => ?_)
        have rz8 : inR z8 := ez8 ▸ (hRa 16) _
        have ez8 : z8 = (fa 16) (fi 22 + x3_2) := ez8
        refine iv_icmp_ne (tgt := 74) hx hb (by omega) (by omega) dX10_is_67 (by decide) (fun q9 => ?_) (fun q9 => ?_)
        · refine lv_iconst (v := Int32.ofInt 0) hx hb dX10_is_74 (by decide +kernel) ?_
          refine lv_istore_n (lv' := [(2, .int (Int32.ofInt (0))), (3, .int (Int32.ofInt (x3_2))), (0, .ref (ar 71)), (1, .ref (k (111 + sx)))]) hx hb dX10_is_75 rfl hl (by decide) rfl (fun ls hl => ?_)
          refine lv_iinc (v := Int32.ofInt (x3_2 + 1)) (lv' := [(3, .int (Int32.ofInt ((x3_2 + 1)))), (2, .int (Int32.ofInt (0))), (0, .ref (ar 71)), (1, .ref (k (111 + sx)))]) hx hb dX10_is_76 hl (k := 1) rfl (Int32.ofInt_add _ _).symm (by decide) rfl (fun ls hl => ?_)
          refine lv_goto (tgt := 39) hx hb dX10_is_79 (by decide) ?_
          have hl : lv_has ls 4 [(3, .int (Int32.ofInt ((x3_2 + 1)))), (2, .int (Int32.ofInt (0))), (0, .ref (ar 71)), (1, .ref (k (111 + sx)))] := lv_sub hl [0, 1, 2, 3] rfl
          exact ih ((x3_2 + 1), 0) (show ((lenS.getD sx 0 : Nat) + 1 - (x3_2 + 1)).toNat < ((lenS.getD sx 0 : Nat) + 1 - x3_2).toNat from by omega) (show inR (x3_2 + 1) ∧ inR 0 ∧ ((0 ≤ (x3_2 + 1) ∧ (0 = 0 ∨ (0 = 1 ∧ fi 24 = 0 ∧ fi 20 = 1 ∧ (lenS.getD sx 0 : Nat) = fi 23 - fi 22))) ∧ WI (fa 16) (fi 19) (fi 24) (fi 22) sx 0 (x3_2 + 1)) from ⟨(by omega), (by omega), (by first | exact ⟨by omega, wi_s1 hsx hWI (by omega) (by omega) (by omega) hC (by omega) rfl rfl⟩ | exact ⟨by omega, wi_s0 hsx hWI (by omega) (by omega) (by omega) hC (by omega) rfl⟩)⟩) _ _ _ hP hD hS hl
        · refine lv_iconst (v := Int32.ofInt 1) hx hb dX10_is_70 (by decide +kernel) ?_
          refine lv_goto (tgt := 75) hx hb dX10_is_71 (by decide) ?_
          refine lv_istore_n (lv' := [(2, .int (Int32.ofInt (1))), (3, .int (Int32.ofInt (x3_2))), (0, .ref (ar 71)), (1, .ref (k (111 + sx)))]) hx hb dX10_is_75 rfl hl (by decide) rfl (fun ls hl => ?_)
          refine lv_iinc (v := Int32.ofInt (x3_2 + 1)) (lv' := [(3, .int (Int32.ofInt ((x3_2 + 1)))), (2, .int (Int32.ofInt (1))), (0, .ref (ar 71)), (1, .ref (k (111 + sx)))]) hx hb dX10_is_76 hl (k := 1) rfl (Int32.ofInt_add _ _).symm (by decide) rfl (fun ls hl => ?_)
          refine lv_goto (tgt := 39) hx hb dX10_is_79 (by decide) ?_
          have hl : lv_has ls 4 [(3, .int (Int32.ofInt ((x3_2 + 1)))), (2, .int (Int32.ofInt (1))), (0, .ref (ar 71)), (1, .ref (k (111 + sx)))] := lv_sub hl [0, 1, 2, 3] rfl
          exact ih ((x3_2 + 1), 1) (show ((lenS.getD sx 0 : Nat) + 1 - (x3_2 + 1)).toNat < ((lenS.getD sx 0 : Nat) + 1 - x3_2).toNat from by omega) (show inR (x3_2 + 1) ∧ inR 1 ∧ ((0 ≤ (x3_2 + 1) ∧ (1 = 0 ∨ (1 = 1 ∧ fi 24 = 0 ∧ fi 20 = 1 ∧ (lenS.getD sx 0 : Nat) = fi 23 - fi 22))) ∧ WI (fa 16) (fi 19) (fi 24) (fi 22) sx 1 (x3_2 + 1)) from ⟨(by omega), (by omega), (by first | exact ⟨by omega, wi_s1 hsx hWI (by omega) (by omega) (by omega) hC (by omega) rfl rfl⟩ | exact ⟨by omega, wi_s0 hsx hWI (by omega) (by omega) (by omega) hC (by omega) rfl⟩)⟩) _ _ _ hP hD hS hl
  · refine lv_aload_n hx hb dX10_is_7 rfl (lv_at hl 0 rfl) ?_
    refine va_get (D := G) (ci := 7) (v := .int (Int32.ofInt (fi 20))) (C := RX10) (T := TX10) (N := 71) (ref := RX10) hx hb hts h1w hown hX.1 hP 0 rfl rfl 20 (by decide) h4w (fun _ h9 => h9) rfl dX10_is_8 ?_
    have rf20 := hR 20
    refine lv_iconst (v := Int32.ofInt 1) hx hb dX10_is_11 (by decide +kernel) ?_
    refine iv_icmp_ne (tgt := 35) hx hb (by omega) (by omega) dX10_is_12 (by decide) (fun q10 => ?_) (fun q10 => ?_)
    · refine lv_iconst (v := Int32.ofInt 0) hx hb dX10_is_35 (by decide +kernel) ?_
      refine lv_istore_n (lv' := [(2, .int (Int32.ofInt (0))), (0, .ref (ar 71)), (1, .ref (k (111 + sx)))]) hx hb dX10_is_36 rfl hl (by decide) rfl (fun ls hl => ?_)
      refine lv_iconst (v := Int32.ofInt 0) hx hb dX10_is_37 (by decide +kernel) ?_
      refine lv_istore_n (lv' := [(3, .int (Int32.ofInt (0))), (2, .int (Int32.ofInt (0))), (0, .ref (ar 71)), (1, .ref (k (111 + sx)))]) hx hb dX10_is_38 rfl hl (by decide) rfl (fun ls hl => ?_)
      refine iv_loop (α := Int × Int) (nL := 4) (fun b9 => (wM k ar fi fa fl)) (fun b9 => [(3, .int (Int32.ofInt (b9.1))), (2, .int (Int32.ofInt (b9.2))), (0, .ref (ar 71)), (1, .ref (k (111 + sx)))]) (fun b9 => ((lenS.getD sx 0 : Nat) + 1 - b9.1).toNat) (fun b9 => inR b9.1 ∧ inR b9.2 ∧ ((0 ≤ b9.1 ∧ (b9.2 = 0 ∨ (b9.2 = 1 ∧ fi 24 = 0 ∧ fi 20 = 1 ∧ (lenS.getD sx 0 : Nat) = fi 23 - fi 22))) ∧ WI (fa 16) (fi 19) (fi 24) (fi 22) sx b9.2 b9.1)) ?_ (0, 0) (show inR 0 ∧ inR 0 ∧ ((0 ≤ 0 ∧ (0 = 0 ∨ (0 = 1 ∧ fi 24 = 0 ∧ fi 20 = 1 ∧ (lenS.getD sx 0 : Nat) = fi 23 - fi 22))) ∧ WI (fa 16) (fi 19) (fi 24) (fi 22) sx 0 0) from ⟨(by omega), (by omega), (by first | exact ⟨by omega, wi_1 hty (by omega) (by omega) (by omega) rfl rfl⟩ | exact ⟨by omega, wi_0 hty (by omega) rfl⟩)⟩) hP hD hS hl
      rintro ⟨x3_11, x2_12⟩ ih hi9 H locs ls hP hD hS hl
      obtain ⟨r_x3_11, r_x2_12, hinv⟩ : inR x3_11 ∧ inR x2_12 ∧ ((0 ≤ x3_11 ∧ (x2_12 = 0 ∨ (x2_12 = 1 ∧ fi 24 = 0 ∧ fi 20 = 1 ∧ (lenS.getD sx 0 : Nat) = fi 23 - fi 22))) ∧ WI (fa 16) (fi 19) (fi 24) (fi 22) sx x2_12 x3_11) := hi9
      obtain ⟨hJ1, hWI⟩ := hinv
      obtain ⟨hP, hD⟩ : va_P G vwCl (wM k ar fi fa fl) H ∧ va_D A (wM k ar fi fa fl) := ⟨hP, hD⟩
      have hl : lv_has ls 4 [(3, .int (Int32.ofInt (x3_11))), (2, .int (Int32.ofInt (x2_12))), (0, .ref (ar 71)), (1, .ref (k (111 + sx)))] := hl
      refine lv_iload_n hx hb dX10_is_39 rfl (lv_at hl 1 rfl) ?_
      refine iv_if_eq (tgt := 82) hx hb (by omega) dX10_is_40 (by decide) (fun q13 => ?_) (fun q13 => ?_)
      · refine lv_iload_n hx hb dX10_is_82 rfl (lv_at hl 1 rfl) ?_
        exact W.zret (v := Int32.ofInt (x2_12)) hx hb hr (nz_bool (by omega)) (fun t ht hW => ⟨⟨Int32.ofInt (x2_12), (x2_12), rfl, ⟨rfl, (show (inR x2_12) ∧ (((x2_12 = 0 ∨ x2_12 = 1) ∧ (x2_12 = 1 → fi 24 = 0 ∧ fi 20 = 1)) ∧ Isr x2_12 (fi 24) (isWd (fa 16) (fi 19) sx (fi 22))) from ⟨(by omega), (by exact ⟨by omega, wi_end hWI (by omega)⟩)⟩)⟩, by rw [ht]; exact hP, hD⟩, hS.F ht⟩) hS.2.2 dX10_is_83
      · refine lv_iload_n hx hb dX10_is_43 rfl (lv_at hl 0 rfl) ?_
        refine lv_aload_n hx hb dX10_is_44 rfl (lv_at hl 3 rfl) ?_
        refine c0_i (va_runV (As := []) (rest := [.int (Int32.ofInt (x3_11))]) ⟨hx, hb, hml, hown, hts⟩ (mJ0_length_8abf5 l G k sx H.size (show sx < 47 from by omega)) (cwV 0 hts (gz [.methodLink RX10 229 yJ0_length_8abf5, .instanceMethod yJ0_length_8abf5, .selects RJ0 yJ0_length_8abf5 yJ0_length_8abf5, .initialized RJ0] (.code yJ0_length_8abf5 cJ0_length_8abf5 1 (some .int)) [(18, 10), (10, 1), (10, 2), (10, 3), (10, 4)] rfl) rfl rfl rfl (by decide +kernel) ⟨Nat.le_of_ble_eq_true rfl, Nat.le_of_ble_eq_true rfl⟩) (cs_preV hZ hS hX hP hD hA (ez_str hZ (i := sx) (by omega)).1) rfl rfl hl.1 rfl (lv_room (Nat.le_of_ble_eq_true rfl)) dX10_is_45 ⟨Nat.le_of_ble_eq_true rfl, Nat.le_of_ble_eq_true rfl⟩) hP hD hS hA (fun r u H locs hp hP hD hS => ?_)
        obtain ⟨c14, rfl⟩ : ∃ z, z = u := ⟨_, rfl⟩
        obtain ⟨h9, rc14, hp14⟩ : r = Int32.ofInt c14 ∧ (inR c14) ∧ (c14 = ((lenS.getD sx 0 : Nat) : Int)) := hp
        subst h9
        refine iv_icmp_ge (tgt := 82) hx hb (by omega) (by omega) dX10_is_48 (by decide) (fun q15 => ?_) (fun q15 => ?_)
        · refine lv_iload_n hx hb dX10_is_82 rfl (lv_at hl 1 rfl) ?_
          exact W.zret (v := Int32.ofInt (x2_12)) hx hb hr (nz_bool (by omega)) (fun t ht hW => ⟨⟨Int32.ofInt (x2_12), (x2_12), rfl, ⟨rfl, (show (inR x2_12) ∧ (((x2_12 = 0 ∨ x2_12 = 1) ∧ (x2_12 = 1 → fi 24 = 0 ∧ fi 20 = 1)) ∧ Isr x2_12 (fi 24) (isWd (fa 16) (fi 19) sx (fi 22))) from ⟨(by omega), (by exact ⟨by omega, wi_end hWI (by omega)⟩)⟩)⟩, by rw [ht]; exact hP, hD⟩, hS.F ht⟩) hS.2.2 dX10_is_83
        · refine lv_aload_n hx hb dX10_is_51 rfl (lv_at hl 3 rfl) ?_
          refine lv_iload_n hx hb dX10_is_52 rfl (lv_at hl 0 rfl) ?_
          refine c0_i (va_runV (As := [.int (Int32.ofInt (x3_11))]) (rest := []) ⟨hx, hb, hml, hown, hts⟩ (mJ0_charAt_5068e l G k sx x3_11 H.size (show sx < 47 from by omega) (by omega) (show 0 ≤ x3_11 ∧ x3_11 < ((lenS.getD sx 0 : Nat) : Int) from by omega)) (cwV 1 hts (gz [.methodLink RX10 233 yJ0_charAt_5068e, .instanceMethod yJ0_charAt_5068e, .selects RJ0 yJ0_charAt_5068e yJ0_charAt_5068e, .initialized RJ0] (.code yJ0_charAt_5068e cJ0_charAt_5068e 2 (some .char)) [(18, 11), (10, 13), (10, 14), (10, 3), (10, 15)] rfl) rfl rfl rfl (by decide +kernel) ⟨Nat.le_of_ble_eq_true rfl, Nat.le_of_ble_eq_true rfl⟩) (cs_preV hZ hS hX hP hD hA (ez_str hZ (i := sx) (by omega)).1) rfl rfl hl.1 rfl (lv_room (Nat.le_of_ble_eq_true rfl)) dX10_is_53 ⟨Nat.le_of_ble_eq_true rfl, Nat.le_of_ble_eq_true rfl⟩) hP hD hS hA (fun r u H locs hp hP hD hS => ?_)
          obtain ⟨c16, rfl⟩ : ∃ z, z = u := ⟨_, rfl⟩
          obtain ⟨h9, rc16, hp16⟩ : r = Int32.ofInt c16 ∧ (inR c16) ∧ (c16 = bChar (bAnd (chZ sx (x3_11).toNat) 255) ∧ 0 ≤ c16 ∧ c16 < 65536) := hp
          subst h9
          have hC := hp16.1
          refine lv_aload_n hx hb dX10_is_56 rfl (lv_at hl 2 rfl) ?_
          refine va_get (D := G) (ci := 7) (v := .ref (ar 16)) (C := RX10) (T := TX10) (N := 71) (ref := RX10) hx hb hts h1w hown hX.1 hP 0 rfl rfl 16 (by decide) h2w (fun _ h9 => h9) rfl dX10_is_57 ?_
          refine lv_aload_n hx hb dX10_is_60 rfl (lv_at hl 2 rfl) ?_
          refine va_get (D := G) (ci := 7) (v := .int (Int32.ofInt (fi 22))) (C := RX10) (T := TX10) (N := 71) (ref := RX10) hx hb hts h1w hown hX.1 hP 0 rfl rfl 22 (by decide) h3w (fun _ h9 => h9) rfl dX10_is_61 ?_
          have rf22 := hR 22
          refine lv_iload_n hx hb dX10_is_64 rfl (lv_at hl 0 rfl) ?_
          refine iv_add (x := fi 22) (y := x3_11) hx hb dX10_is_65 ?_
          refine iv_iald hx hb hX.1 hP 10 0 rfl rfl (by omega) (by omega) (by decide) dX10_is_66 ?_
          refine iv_top (fun z17 ez17 => ?_)
          have rz17 : inR z17 := ez17 ▸ (hRa 16) _
          have ez17 : z17 = (fa 16) (fi 22 + x3_11) := ez17
          refine iv_icmp_ne (tgt := 74) hx hb (by omega) (by omega) dX10_is_67 (by decide) (fun q18 => ?_) (fun q18 => ?_)
          · refine lv_iconst (v := Int32.ofInt 0) hx hb dX10_is_74 (by decide +kernel) ?_
            refine lv_istore_n (lv' := [(2, .int (Int32.ofInt (0))), (3, .int (Int32.ofInt (x3_11))), (0, .ref (ar 71)), (1, .ref (k (111 + sx)))]) hx hb dX10_is_75 rfl hl (by decide) rfl (fun ls hl => ?_)
            refine lv_iinc (v := Int32.ofInt (x3_11 + 1)) (lv' := [(3, .int (Int32.ofInt ((x3_11 + 1)))), (2, .int (Int32.ofInt (0))), (0, .ref (ar 71)), (1, .ref (k (111 + sx)))]) hx hb dX10_is_76 hl (k := 1) rfl (Int32.ofInt_add _ _).symm (by decide) rfl (fun ls hl => ?_)
            refine lv_goto (tgt := 39) hx hb dX10_is_79 (by decide) ?_
            have hl : lv_has ls 4 [(3, .int (Int32.ofInt ((x3_11 + 1)))), (2, .int (Int32.ofInt (0))), (0, .ref (ar 71)), (1, .ref (k (111 + sx)))] := lv_sub hl [0, 1, 2, 3] rfl
            exact ih ((x3_11 + 1), 0) (show ((lenS.getD sx 0 : Nat) + 1 - (x3_11 + 1)).toNat < ((lenS.getD sx 0 : Nat) + 1 - x3_11).toNat from by omega) (show inR (x3_11 + 1) ∧ inR 0 ∧ ((0 ≤ (x3_11 + 1) ∧ (0 = 0 ∨ (0 = 1 ∧ fi 24 = 0 ∧ fi 20 = 1 ∧ (lenS.getD sx 0 : Nat) = fi 23 - fi 22))) ∧ WI (fa 16) (fi 19) (fi 24) (fi 22) sx 0 (x3_11 + 1)) from ⟨(by omega), (by omega), (by first | exact ⟨by omega, wi_s1 hsx hWI (by omega) (by omega) (by omega) hC (by omega) rfl rfl⟩ | exact ⟨by omega, wi_s0 hsx hWI (by omega) (by omega) (by omega) hC (by omega) rfl⟩)⟩) _ _ _ hP hD hS hl
          · refine lv_iconst (v := Int32.ofInt 1) hx hb dX10_is_70 (by decide +kernel) ?_
            refine lv_goto (tgt := 75) hx hb dX10_is_71 (by decide) ?_
            refine lv_istore_n (lv' := [(2, .int (Int32.ofInt (1))), (3, .int (Int32.ofInt (x3_11))), (0, .ref (ar 71)), (1, .ref (k (111 + sx)))]) hx hb dX10_is_75 rfl hl (by decide) rfl (fun ls hl => ?_)
            refine lv_iinc (v := Int32.ofInt (x3_11 + 1)) (lv' := [(3, .int (Int32.ofInt ((x3_11 + 1)))), (2, .int (Int32.ofInt (1))), (0, .ref (ar 71)), (1, .ref (k (111 + sx)))]) hx hb dX10_is_76 hl (k := 1) rfl (Int32.ofInt_add _ _).symm (by decide) rfl (fun ls hl => ?_)
            refine lv_goto (tgt := 39) hx hb dX10_is_79 (by decide) ?_
            have hl : lv_has ls 4 [(3, .int (Int32.ofInt ((x3_11 + 1)))), (2, .int (Int32.ofInt (1))), (0, .ref (ar 71)), (1, .ref (k (111 + sx)))] := lv_sub hl [0, 1, 2, 3] rfl
            exact ih ((x3_11 + 1), 1) (show ((lenS.getD sx 0 : Nat) + 1 - (x3_11 + 1)).toNat < ((lenS.getD sx 0 : Nat) + 1 - x3_11).toNat from by omega) (show inR (x3_11 + 1) ∧ inR 1 ∧ ((0 ≤ (x3_11 + 1) ∧ (1 = 0 ∨ (1 = 1 ∧ fi 24 = 0 ∧ fi 20 = 1 ∧ (lenS.getD sx 0 : Nat) = fi 23 - fi 22))) ∧ WI (fa 16) (fi 19) (fi 24) (fi 22) sx 1 (x3_11 + 1)) from ⟨(by omega), (by omega), (by first | exact ⟨by omega, wi_s1 hsx hWI (by omega) (by omega) (by omega) hC (by omega) rfl rfl⟩ | exact ⟨by omega, wi_s0 hsx hWI (by omega) (by omega) (by omega) hC (by omega) rfl⟩)⟩) _ _ _ hP hD hS hl
    · refine lv_aload_n hx hb dX10_is_15 rfl (lv_at hl 1 rfl) ?_
      refine c0_i (va_runV (As := []) (rest := []) ⟨hx, hb, hml, hown, hts⟩ (mJ0_length_8abf5 l G k sx H.size (show sx < 47 from by omega)) (cwV 0 hts (gz [.methodLink RX10 229 yJ0_length_8abf5, .instanceMethod yJ0_length_8abf5, .selects RJ0 yJ0_length_8abf5 yJ0_length_8abf5, .initialized RJ0] (.code yJ0_length_8abf5 cJ0_length_8abf5 1 (some .int)) [(18, 10), (10, 1), (10, 2), (10, 3), (10, 4)] rfl) rfl rfl rfl (by decide +kernel) ⟨Nat.le_of_ble_eq_true rfl, Nat.le_of_ble_eq_true rfl⟩) (cs_preV hZ hS hX hP hD hA (ez_str hZ (i := sx) (by omega)).1) rfl rfl hl.1 rfl (lv_room (Nat.le_of_ble_eq_true rfl)) dX10_is_16 ⟨Nat.le_of_ble_eq_true rfl, Nat.le_of_ble_eq_true rfl⟩) hP hD hS hA (fun r u H locs hp hP hD hS => ?_)
      obtain ⟨c19, rfl⟩ : ∃ z, z = u := ⟨_, rfl⟩
      obtain ⟨h9, rc19, hp19⟩ : r = Int32.ofInt c19 ∧ (inR c19) ∧ (c19 = ((lenS.getD sx 0 : Nat) : Int)) := hp
      subst h9
      refine lv_aload_n hx hb dX10_is_19 rfl (lv_at hl 0 rfl) ?_
      refine va_get (D := G) (ci := 7) (v := .int (Int32.ofInt (fi 23))) (C := RX10) (T := TX10) (N := 71) (ref := RX10) hx hb hts h1w hown hX.1 hP 0 rfl rfl 23 (by decide) h5w (fun _ h9 => h9) rfl dX10_is_20 ?_
      have rf23 := hR 23
      refine lv_aload_n hx hb dX10_is_23 rfl (lv_at hl 0 rfl) ?_
      refine va_get (D := G) (ci := 7) (v := .int (Int32.ofInt (fi 22))) (C := RX10) (T := TX10) (N := 71) (ref := RX10) hx hb hts h1w hown hX.1 hP 0 rfl rfl 22 (by decide) h3w (fun _ h9 => h9) rfl dX10_is_24 ?_
      have rf22 := hR 22
      refine iv_sub (x := fi 23) (y := fi 22) hx hb dX10_is_27 ?_
      refine iv_icmp_ne (tgt := 35) hx hb (by omega) (by omega) dX10_is_28 (by decide) (fun q20 => ?_) (fun q20 => ?_)
      · refine lv_iconst (v := Int32.ofInt 0) hx hb dX10_is_35 (by decide +kernel) ?_
        refine lv_istore_n (lv' := [(2, .int (Int32.ofInt (0))), (0, .ref (ar 71)), (1, .ref (k (111 + sx)))]) hx hb dX10_is_36 rfl hl (by decide) rfl (fun ls hl => ?_)
        refine lv_iconst (v := Int32.ofInt 0) hx hb dX10_is_37 (by decide +kernel) ?_
        refine lv_istore_n (lv' := [(3, .int (Int32.ofInt (0))), (2, .int (Int32.ofInt (0))), (0, .ref (ar 71)), (1, .ref (k (111 + sx)))]) hx hb dX10_is_38 rfl hl (by decide) rfl (fun ls hl => ?_)
        refine iv_loop (α := Int × Int) (nL := 4) (fun b9 => (wM k ar fi fa fl)) (fun b9 => [(3, .int (Int32.ofInt (b9.1))), (2, .int (Int32.ofInt (b9.2))), (0, .ref (ar 71)), (1, .ref (k (111 + sx)))]) (fun b9 => ((lenS.getD sx 0 : Nat) + 1 - b9.1).toNat) (fun b9 => inR b9.1 ∧ inR b9.2 ∧ ((0 ≤ b9.1 ∧ (b9.2 = 0 ∨ (b9.2 = 1 ∧ fi 24 = 0 ∧ fi 20 = 1 ∧ (lenS.getD sx 0 : Nat) = fi 23 - fi 22))) ∧ WI (fa 16) (fi 19) (fi 24) (fi 22) sx b9.2 b9.1)) ?_ (0, 0) (show inR 0 ∧ inR 0 ∧ ((0 ≤ 0 ∧ (0 = 0 ∨ (0 = 1 ∧ fi 24 = 0 ∧ fi 20 = 1 ∧ (lenS.getD sx 0 : Nat) = fi 23 - fi 22))) ∧ WI (fa 16) (fi 19) (fi 24) (fi 22) sx 0 0) from ⟨(by omega), (by omega), (by first | exact ⟨by omega, wi_1 hty (by omega) (by omega) (by omega) rfl rfl⟩ | exact ⟨by omega, wi_0 hty (by omega) rfl⟩)⟩) hP hD hS hl
        rintro ⟨x3_21, x2_22⟩ ih hi9 H locs ls hP hD hS hl
        obtain ⟨r_x3_21, r_x2_22, hinv⟩ : inR x3_21 ∧ inR x2_22 ∧ ((0 ≤ x3_21 ∧ (x2_22 = 0 ∨ (x2_22 = 1 ∧ fi 24 = 0 ∧ fi 20 = 1 ∧ (lenS.getD sx 0 : Nat) = fi 23 - fi 22))) ∧ WI (fa 16) (fi 19) (fi 24) (fi 22) sx x2_22 x3_21) := hi9
        obtain ⟨hJ1, hWI⟩ := hinv
        obtain ⟨hP, hD⟩ : va_P G vwCl (wM k ar fi fa fl) H ∧ va_D A (wM k ar fi fa fl) := ⟨hP, hD⟩
        have hl : lv_has ls 4 [(3, .int (Int32.ofInt (x3_21))), (2, .int (Int32.ofInt (x2_22))), (0, .ref (ar 71)), (1, .ref (k (111 + sx)))] := hl
        refine lv_iload_n hx hb dX10_is_39 rfl (lv_at hl 1 rfl) ?_
        refine iv_if_eq (tgt := 82) hx hb (by omega) dX10_is_40 (by decide) (fun q23 => ?_) (fun q23 => ?_)
        · refine lv_iload_n hx hb dX10_is_82 rfl (lv_at hl 1 rfl) ?_
          exact W.zret (v := Int32.ofInt (x2_22)) hx hb hr (nz_bool (by omega)) (fun t ht hW => ⟨⟨Int32.ofInt (x2_22), (x2_22), rfl, ⟨rfl, (show (inR x2_22) ∧ (((x2_22 = 0 ∨ x2_22 = 1) ∧ (x2_22 = 1 → fi 24 = 0 ∧ fi 20 = 1)) ∧ Isr x2_22 (fi 24) (isWd (fa 16) (fi 19) sx (fi 22))) from ⟨(by omega), (by exact ⟨by omega, wi_end hWI (by omega)⟩)⟩)⟩, by rw [ht]; exact hP, hD⟩, hS.F ht⟩) hS.2.2 dX10_is_83
        · refine lv_iload_n hx hb dX10_is_43 rfl (lv_at hl 0 rfl) ?_
          refine lv_aload_n hx hb dX10_is_44 rfl (lv_at hl 3 rfl) ?_
          refine c0_i (va_runV (As := []) (rest := [.int (Int32.ofInt (x3_21))]) ⟨hx, hb, hml, hown, hts⟩ (mJ0_length_8abf5 l G k sx H.size (show sx < 47 from by omega)) (cwV 0 hts (gz [.methodLink RX10 229 yJ0_length_8abf5, .instanceMethod yJ0_length_8abf5, .selects RJ0 yJ0_length_8abf5 yJ0_length_8abf5, .initialized RJ0] (.code yJ0_length_8abf5 cJ0_length_8abf5 1 (some .int)) [(18, 10), (10, 1), (10, 2), (10, 3), (10, 4)] rfl) rfl rfl rfl (by decide +kernel) ⟨Nat.le_of_ble_eq_true rfl, Nat.le_of_ble_eq_true rfl⟩) (cs_preV hZ hS hX hP hD hA (ez_str hZ (i := sx) (by omega)).1) rfl rfl hl.1 rfl (lv_room (Nat.le_of_ble_eq_true rfl)) dX10_is_45 ⟨Nat.le_of_ble_eq_true rfl, Nat.le_of_ble_eq_true rfl⟩) hP hD hS hA (fun r u H locs hp hP hD hS => ?_)
          obtain ⟨c24, rfl⟩ : ∃ z, z = u := ⟨_, rfl⟩
          obtain ⟨h9, rc24, hp24⟩ : r = Int32.ofInt c24 ∧ (inR c24) ∧ (c24 = ((lenS.getD sx 0 : Nat) : Int)) := hp
          subst h9
          refine iv_icmp_ge (tgt := 82) hx hb (by omega) (by omega) dX10_is_48 (by decide) (fun q25 => ?_) (fun q25 => ?_)
          · refine lv_iload_n hx hb dX10_is_82 rfl (lv_at hl 1 rfl) ?_
            exact W.zret (v := Int32.ofInt (x2_22)) hx hb hr (nz_bool (by omega)) (fun t ht hW => ⟨⟨Int32.ofInt (x2_22), (x2_22), rfl, ⟨rfl, (show (inR x2_22) ∧ (((x2_22 = 0 ∨ x2_22 = 1) ∧ (x2_22 = 1 → fi 24 = 0 ∧ fi 20 = 1)) ∧ Isr x2_22 (fi 24) (isWd (fa 16) (fi 19) sx (fi 22))) from ⟨(by omega), (by exact ⟨by omega, wi_end hWI (by omega)⟩)⟩)⟩, by rw [ht]; exact hP, hD⟩, hS.F ht⟩) hS.2.2 dX10_is_83
          · refine lv_aload_n hx hb dX10_is_51 rfl (lv_at hl 3 rfl) ?_
            refine lv_iload_n hx hb dX10_is_52 rfl (lv_at hl 0 rfl) ?_
            refine c0_i (va_runV (As := [.int (Int32.ofInt (x3_21))]) (rest := []) ⟨hx, hb, hml, hown, hts⟩ (mJ0_charAt_5068e l G k sx x3_21 H.size (show sx < 47 from by omega) (by omega) (show 0 ≤ x3_21 ∧ x3_21 < ((lenS.getD sx 0 : Nat) : Int) from by omega)) (cwV 1 hts (gz [.methodLink RX10 233 yJ0_charAt_5068e, .instanceMethod yJ0_charAt_5068e, .selects RJ0 yJ0_charAt_5068e yJ0_charAt_5068e, .initialized RJ0] (.code yJ0_charAt_5068e cJ0_charAt_5068e 2 (some .char)) [(18, 11), (10, 13), (10, 14), (10, 3), (10, 15)] rfl) rfl rfl rfl (by decide +kernel) ⟨Nat.le_of_ble_eq_true rfl, Nat.le_of_ble_eq_true rfl⟩) (cs_preV hZ hS hX hP hD hA (ez_str hZ (i := sx) (by omega)).1) rfl rfl hl.1 rfl (lv_room (Nat.le_of_ble_eq_true rfl)) dX10_is_53 ⟨Nat.le_of_ble_eq_true rfl, Nat.le_of_ble_eq_true rfl⟩) hP hD hS hA (fun r u H locs hp hP hD hS => ?_)
            obtain ⟨c26, rfl⟩ : ∃ z, z = u := ⟨_, rfl⟩
            obtain ⟨h9, rc26, hp26⟩ : r = Int32.ofInt c26 ∧ (inR c26) ∧ (c26 = bChar (bAnd (chZ sx (x3_21).toNat) 255) ∧ 0 ≤ c26 ∧ c26 < 65536) := hp
            subst h9
            have hC := hp26.1
            refine lv_aload_n hx hb dX10_is_56 rfl (lv_at hl 2 rfl) ?_
            refine va_get (D := G) (ci := 7) (v := .ref (ar 16)) (C := RX10) (T := TX10) (N := 71) (ref := RX10) hx hb hts h1w hown hX.1 hP 0 rfl rfl 16 (by decide) h2w (fun _ h9 => h9) rfl dX10_is_57 ?_
            refine lv_aload_n hx hb dX10_is_60 rfl (lv_at hl 2 rfl) ?_
            refine va_get (D := G) (ci := 7) (v := .int (Int32.ofInt (fi 22))) (C := RX10) (T := TX10) (N := 71) (ref := RX10) hx hb hts h1w hown hX.1 hP 0 rfl rfl 22 (by decide) h3w (fun _ h9 => h9) rfl dX10_is_61 ?_
            have rf22 := hR 22
            refine lv_iload_n hx hb dX10_is_64 rfl (lv_at hl 0 rfl) ?_
            refine iv_add (x := fi 22) (y := x3_21) hx hb dX10_is_65 ?_
            refine iv_iald hx hb hX.1 hP 10 0 rfl rfl (by omega) (by omega) (by decide) dX10_is_66 ?_
            refine iv_top (fun z27 ez27 => ?_)
            have rz27 : inR z27 := ez27 ▸ (hRa 16) _
            have ez27 : z27 = (fa 16) (fi 22 + x3_21) := ez27
            refine iv_icmp_ne (tgt := 74) hx hb (by omega) (by omega) dX10_is_67 (by decide) (fun q28 => ?_) (fun q28 => ?_)
            · refine lv_iconst (v := Int32.ofInt 0) hx hb dX10_is_74 (by decide +kernel) ?_
              refine lv_istore_n (lv' := [(2, .int (Int32.ofInt (0))), (3, .int (Int32.ofInt (x3_21))), (0, .ref (ar 71)), (1, .ref (k (111 + sx)))]) hx hb dX10_is_75 rfl hl (by decide) rfl (fun ls hl => ?_)
              refine lv_iinc (v := Int32.ofInt (x3_21 + 1)) (lv' := [(3, .int (Int32.ofInt ((x3_21 + 1)))), (2, .int (Int32.ofInt (0))), (0, .ref (ar 71)), (1, .ref (k (111 + sx)))]) hx hb dX10_is_76 hl (k := 1) rfl (Int32.ofInt_add _ _).symm (by decide) rfl (fun ls hl => ?_)
              refine lv_goto (tgt := 39) hx hb dX10_is_79 (by decide) ?_
              have hl : lv_has ls 4 [(3, .int (Int32.ofInt ((x3_21 + 1)))), (2, .int (Int32.ofInt (0))), (0, .ref (ar 71)), (1, .ref (k (111 + sx)))] := lv_sub hl [0, 1, 2, 3] rfl
              exact ih ((x3_21 + 1), 0) (show ((lenS.getD sx 0 : Nat) + 1 - (x3_21 + 1)).toNat < ((lenS.getD sx 0 : Nat) + 1 - x3_21).toNat from by omega) (show inR (x3_21 + 1) ∧ inR 0 ∧ ((0 ≤ (x3_21 + 1) ∧ (0 = 0 ∨ (0 = 1 ∧ fi 24 = 0 ∧ fi 20 = 1 ∧ (lenS.getD sx 0 : Nat) = fi 23 - fi 22))) ∧ WI (fa 16) (fi 19) (fi 24) (fi 22) sx 0 (x3_21 + 1)) from ⟨(by omega), (by omega), (by first | exact ⟨by omega, wi_s1 hsx hWI (by omega) (by omega) (by omega) hC (by omega) rfl rfl⟩ | exact ⟨by omega, wi_s0 hsx hWI (by omega) (by omega) (by omega) hC (by omega) rfl⟩)⟩) _ _ _ hP hD hS hl
            · refine lv_iconst (v := Int32.ofInt 1) hx hb dX10_is_70 (by decide +kernel) ?_
              refine lv_goto (tgt := 75) hx hb dX10_is_71 (by decide) ?_
              refine lv_istore_n (lv' := [(2, .int (Int32.ofInt (1))), (3, .int (Int32.ofInt (x3_21))), (0, .ref (ar 71)), (1, .ref (k (111 + sx)))]) hx hb dX10_is_75 rfl hl (by decide) rfl (fun ls hl => ?_)
              refine lv_iinc (v := Int32.ofInt (x3_21 + 1)) (lv' := [(3, .int (Int32.ofInt ((x3_21 + 1)))), (2, .int (Int32.ofInt (1))), (0, .ref (ar 71)), (1, .ref (k (111 + sx)))]) hx hb dX10_is_76 hl (k := 1) rfl (Int32.ofInt_add _ _).symm (by decide) rfl (fun ls hl => ?_)
              refine lv_goto (tgt := 39) hx hb dX10_is_79 (by decide) ?_
              have hl : lv_has ls 4 [(3, .int (Int32.ofInt ((x3_21 + 1)))), (2, .int (Int32.ofInt (1))), (0, .ref (ar 71)), (1, .ref (k (111 + sx)))] := lv_sub hl [0, 1, 2, 3] rfl
              exact ih ((x3_21 + 1), 1) (show ((lenS.getD sx 0 : Nat) + 1 - (x3_21 + 1)).toNat < ((lenS.getD sx 0 : Nat) + 1 - x3_21).toNat from by omega) (show inR (x3_21 + 1) ∧ inR 1 ∧ ((0 ≤ (x3_21 + 1) ∧ (1 = 0 ∨ (1 = 1 ∧ fi 24 = 0 ∧ fi 20 = 1 ∧ (lenS.getD sx 0 : Nat) = fi 23 - fi 22))) ∧ WI (fa 16) (fi 19) (fi 24) (fi 22) sx 1 (x3_21 + 1)) from ⟨(by omega), (by omega), (by first | exact ⟨by omega, wi_s1 hsx hWI (by omega) (by omega) (by omega) hC (by omega) rfl rfl⟩ | exact ⟨by omega, wi_s0 hsx hWI (by omega) (by omega) (by omega) hC (by omega) rfl⟩)⟩) _ _ _ hP hD hS hl
      · refine lv_iconst (v := Int32.ofInt 1) hx hb dX10_is_31 (by decide +kernel) ?_
        refine lv_goto (tgt := 36) hx hb dX10_is_32 (by decide) ?_
        refine lv_istore_n (lv' := [(2, .int (Int32.ofInt (1))), (0, .ref (ar 71)), (1, .ref (k (111 + sx)))]) hx hb dX10_is_36 rfl hl (by decide) rfl (fun ls hl => ?_)
        refine lv_iconst (v := Int32.ofInt 0) hx hb dX10_is_37 (by decide +kernel) ?_
        refine lv_istore_n (lv' := [(3, .int (Int32.ofInt (0))), (2, .int (Int32.ofInt (1))), (0, .ref (ar 71)), (1, .ref (k (111 + sx)))]) hx hb dX10_is_38 rfl hl (by decide) rfl (fun ls hl => ?_)
        refine iv_loop (α := Int × Int) (nL := 4) (fun b9 => (wM k ar fi fa fl)) (fun b9 => [(3, .int (Int32.ofInt (b9.1))), (2, .int (Int32.ofInt (b9.2))), (0, .ref (ar 71)), (1, .ref (k (111 + sx)))]) (fun b9 => ((lenS.getD sx 0 : Nat) + 1 - b9.1).toNat) (fun b9 => inR b9.1 ∧ inR b9.2 ∧ ((0 ≤ b9.1 ∧ (b9.2 = 0 ∨ (b9.2 = 1 ∧ fi 24 = 0 ∧ fi 20 = 1 ∧ (lenS.getD sx 0 : Nat) = fi 23 - fi 22))) ∧ WI (fa 16) (fi 19) (fi 24) (fi 22) sx b9.2 b9.1)) ?_ (0, 1) (show inR 0 ∧ inR 1 ∧ ((0 ≤ 0 ∧ (1 = 0 ∨ (1 = 1 ∧ fi 24 = 0 ∧ fi 20 = 1 ∧ (lenS.getD sx 0 : Nat) = fi 23 - fi 22))) ∧ WI (fa 16) (fi 19) (fi 24) (fi 22) sx 1 0) from ⟨(by omega), (by omega), (by first | exact ⟨by omega, wi_1 hty (by omega) (by omega) (by omega) rfl rfl⟩ | exact ⟨by omega, wi_0 hty (by omega) rfl⟩)⟩) hP hD hS hl
        rintro ⟨x3_29, x2_30⟩ ih hi9 H locs ls hP hD hS hl
        obtain ⟨r_x3_29, r_x2_30, hinv⟩ : inR x3_29 ∧ inR x2_30 ∧ ((0 ≤ x3_29 ∧ (x2_30 = 0 ∨ (x2_30 = 1 ∧ fi 24 = 0 ∧ fi 20 = 1 ∧ (lenS.getD sx 0 : Nat) = fi 23 - fi 22))) ∧ WI (fa 16) (fi 19) (fi 24) (fi 22) sx x2_30 x3_29) := hi9
        obtain ⟨hJ1, hWI⟩ := hinv
        obtain ⟨hP, hD⟩ : va_P G vwCl (wM k ar fi fa fl) H ∧ va_D A (wM k ar fi fa fl) := ⟨hP, hD⟩
        have hl : lv_has ls 4 [(3, .int (Int32.ofInt (x3_29))), (2, .int (Int32.ofInt (x2_30))), (0, .ref (ar 71)), (1, .ref (k (111 + sx)))] := hl
        refine lv_iload_n hx hb dX10_is_39 rfl (lv_at hl 1 rfl) ?_
        refine iv_if_eq (tgt := 82) hx hb (by omega) dX10_is_40 (by decide) (fun q31 => ?_) (fun q31 => ?_)
        · refine lv_iload_n hx hb dX10_is_82 rfl (lv_at hl 1 rfl) ?_
          exact W.zret (v := Int32.ofInt (x2_30)) hx hb hr (nz_bool (by omega)) (fun t ht hW => ⟨⟨Int32.ofInt (x2_30), (x2_30), rfl, ⟨rfl, (show (inR x2_30) ∧ (((x2_30 = 0 ∨ x2_30 = 1) ∧ (x2_30 = 1 → fi 24 = 0 ∧ fi 20 = 1)) ∧ Isr x2_30 (fi 24) (isWd (fa 16) (fi 19) sx (fi 22))) from ⟨(by omega), (by exact ⟨by omega, wi_end hWI (by omega)⟩)⟩)⟩, by rw [ht]; exact hP, hD⟩, hS.F ht⟩) hS.2.2 dX10_is_83
        · refine lv_iload_n hx hb dX10_is_43 rfl (lv_at hl 0 rfl) ?_
          refine lv_aload_n hx hb dX10_is_44 rfl (lv_at hl 3 rfl) ?_
          refine c0_i (va_runV (As := []) (rest := [.int (Int32.ofInt (x3_29))]) ⟨hx, hb, hml, hown, hts⟩ (mJ0_length_8abf5 l G k sx H.size (show sx < 47 from by omega)) (cwV 0 hts (gz [.methodLink RX10 229 yJ0_length_8abf5, .instanceMethod yJ0_length_8abf5, .selects RJ0 yJ0_length_8abf5 yJ0_length_8abf5, .initialized RJ0] (.code yJ0_length_8abf5 cJ0_length_8abf5 1 (some .int)) [(18, 10), (10, 1), (10, 2), (10, 3), (10, 4)] rfl) rfl rfl rfl (by decide +kernel) ⟨Nat.le_of_ble_eq_true rfl, Nat.le_of_ble_eq_true rfl⟩) (cs_preV hZ hS hX hP hD hA (ez_str hZ (i := sx) (by omega)).1) rfl rfl hl.1 rfl (lv_room (Nat.le_of_ble_eq_true rfl)) dX10_is_45 ⟨Nat.le_of_ble_eq_true rfl, Nat.le_of_ble_eq_true rfl⟩) hP hD hS hA (fun r u H locs hp hP hD hS => ?_)
          obtain ⟨c32, rfl⟩ : ∃ z, z = u := ⟨_, rfl⟩
          obtain ⟨h9, rc32, hp32⟩ : r = Int32.ofInt c32 ∧ (inR c32) ∧ (c32 = ((lenS.getD sx 0 : Nat) : Int)) := hp
          subst h9
          refine iv_icmp_ge (tgt := 82) hx hb (by omega) (by omega) dX10_is_48 (by decide) (fun q33 => ?_) (fun q33 => ?_)
          · refine lv_iload_n hx hb dX10_is_82 rfl (lv_at hl 1 rfl) ?_
            exact W.zret (v := Int32.ofInt (x2_30)) hx hb hr (nz_bool (by omega)) (fun t ht hW => ⟨⟨Int32.ofInt (x2_30), (x2_30), rfl, ⟨rfl, (show (inR x2_30) ∧ (((x2_30 = 0 ∨ x2_30 = 1) ∧ (x2_30 = 1 → fi 24 = 0 ∧ fi 20 = 1)) ∧ Isr x2_30 (fi 24) (isWd (fa 16) (fi 19) sx (fi 22))) from ⟨(by omega), (by exact ⟨by omega, wi_end hWI (by omega)⟩)⟩)⟩, by rw [ht]; exact hP, hD⟩, hS.F ht⟩) hS.2.2 dX10_is_83
          · refine lv_aload_n hx hb dX10_is_51 rfl (lv_at hl 3 rfl) ?_
            refine lv_iload_n hx hb dX10_is_52 rfl (lv_at hl 0 rfl) ?_
            refine c0_i (va_runV (As := [.int (Int32.ofInt (x3_29))]) (rest := []) ⟨hx, hb, hml, hown, hts⟩ (mJ0_charAt_5068e l G k sx x3_29 H.size (show sx < 47 from by omega) (by omega) (show 0 ≤ x3_29 ∧ x3_29 < ((lenS.getD sx 0 : Nat) : Int) from by omega)) (cwV 1 hts (gz [.methodLink RX10 233 yJ0_charAt_5068e, .instanceMethod yJ0_charAt_5068e, .selects RJ0 yJ0_charAt_5068e yJ0_charAt_5068e, .initialized RJ0] (.code yJ0_charAt_5068e cJ0_charAt_5068e 2 (some .char)) [(18, 11), (10, 13), (10, 14), (10, 3), (10, 15)] rfl) rfl rfl rfl (by decide +kernel) ⟨Nat.le_of_ble_eq_true rfl, Nat.le_of_ble_eq_true rfl⟩) (cs_preV hZ hS hX hP hD hA (ez_str hZ (i := sx) (by omega)).1) rfl rfl hl.1 rfl (lv_room (Nat.le_of_ble_eq_true rfl)) dX10_is_53 ⟨Nat.le_of_ble_eq_true rfl, Nat.le_of_ble_eq_true rfl⟩) hP hD hS hA (fun r u H locs hp hP hD hS => ?_)
            obtain ⟨c34, rfl⟩ : ∃ z, z = u := ⟨_, rfl⟩
            obtain ⟨h9, rc34, hp34⟩ : r = Int32.ofInt c34 ∧ (inR c34) ∧ (c34 = bChar (bAnd (chZ sx (x3_29).toNat) 255) ∧ 0 ≤ c34 ∧ c34 < 65536) := hp
            subst h9
            have hC := hp34.1
            refine lv_aload_n hx hb dX10_is_56 rfl (lv_at hl 2 rfl) ?_
            refine va_get (D := G) (ci := 7) (v := .ref (ar 16)) (C := RX10) (T := TX10) (N := 71) (ref := RX10) hx hb hts h1w hown hX.1 hP 0 rfl rfl 16 (by decide) h2w (fun _ h9 => h9) rfl dX10_is_57 ?_
            refine lv_aload_n hx hb dX10_is_60 rfl (lv_at hl 2 rfl) ?_
            refine va_get (D := G) (ci := 7) (v := .int (Int32.ofInt (fi 22))) (C := RX10) (T := TX10) (N := 71) (ref := RX10) hx hb hts h1w hown hX.1 hP 0 rfl rfl 22 (by decide) h3w (fun _ h9 => h9) rfl dX10_is_61 ?_
            have rf22 := hR 22
            refine lv_iload_n hx hb dX10_is_64 rfl (lv_at hl 0 rfl) ?_
            refine iv_add (x := fi 22) (y := x3_29) hx hb dX10_is_65 ?_
            refine iv_iald hx hb hX.1 hP 10 0 rfl rfl (by omega) (by omega) (by decide) dX10_is_66 ?_
            refine iv_top (fun z35 ez35 => ?_)
            have rz35 : inR z35 := ez35 ▸ (hRa 16) _
            have ez35 : z35 = (fa 16) (fi 22 + x3_29) := ez35
            refine iv_icmp_ne (tgt := 74) hx hb (by omega) (by omega) dX10_is_67 (by decide) (fun q36 => ?_) (fun q36 => ?_)
            · refine lv_iconst (v := Int32.ofInt 0) hx hb dX10_is_74 (by decide +kernel) ?_
              refine lv_istore_n (lv' := [(2, .int (Int32.ofInt (0))), (3, .int (Int32.ofInt (x3_29))), (0, .ref (ar 71)), (1, .ref (k (111 + sx)))]) hx hb dX10_is_75 rfl hl (by decide) rfl (fun ls hl => ?_)
              refine lv_iinc (v := Int32.ofInt (x3_29 + 1)) (lv' := [(3, .int (Int32.ofInt ((x3_29 + 1)))), (2, .int (Int32.ofInt (0))), (0, .ref (ar 71)), (1, .ref (k (111 + sx)))]) hx hb dX10_is_76 hl (k := 1) rfl (Int32.ofInt_add _ _).symm (by decide) rfl (fun ls hl => ?_)
              refine lv_goto (tgt := 39) hx hb dX10_is_79 (by decide) ?_
              have hl : lv_has ls 4 [(3, .int (Int32.ofInt ((x3_29 + 1)))), (2, .int (Int32.ofInt (0))), (0, .ref (ar 71)), (1, .ref (k (111 + sx)))] := lv_sub hl [0, 1, 2, 3] rfl
              exact ih ((x3_29 + 1), 0) (show ((lenS.getD sx 0 : Nat) + 1 - (x3_29 + 1)).toNat < ((lenS.getD sx 0 : Nat) + 1 - x3_29).toNat from by omega) (show inR (x3_29 + 1) ∧ inR 0 ∧ ((0 ≤ (x3_29 + 1) ∧ (0 = 0 ∨ (0 = 1 ∧ fi 24 = 0 ∧ fi 20 = 1 ∧ (lenS.getD sx 0 : Nat) = fi 23 - fi 22))) ∧ WI (fa 16) (fi 19) (fi 24) (fi 22) sx 0 (x3_29 + 1)) from ⟨(by omega), (by omega), (by first | exact ⟨by omega, wi_s1 hsx hWI (by omega) (by omega) (by omega) hC (by omega) rfl rfl⟩ | exact ⟨by omega, wi_s0 hsx hWI (by omega) (by omega) (by omega) hC (by omega) rfl⟩)⟩) _ _ _ hP hD hS hl
            · refine lv_iconst (v := Int32.ofInt 1) hx hb dX10_is_70 (by decide +kernel) ?_
              refine lv_goto (tgt := 75) hx hb dX10_is_71 (by decide) ?_
              refine lv_istore_n (lv' := [(2, .int (Int32.ofInt (1))), (3, .int (Int32.ofInt (x3_29))), (0, .ref (ar 71)), (1, .ref (k (111 + sx)))]) hx hb dX10_is_75 rfl hl (by decide) rfl (fun ls hl => ?_)
              refine lv_iinc (v := Int32.ofInt (x3_29 + 1)) (lv' := [(3, .int (Int32.ofInt ((x3_29 + 1)))), (2, .int (Int32.ofInt (1))), (0, .ref (ar 71)), (1, .ref (k (111 + sx)))]) hx hb dX10_is_76 hl (k := 1) rfl (Int32.ofInt_add _ _).symm (by decide) rfl (fun ls hl => ?_)
              refine lv_goto (tgt := 39) hx hb dX10_is_79 (by decide) ?_
              have hl : lv_has ls 4 [(3, .int (Int32.ofInt ((x3_29 + 1)))), (2, .int (Int32.ofInt (1))), (0, .ref (ar 71)), (1, .ref (k (111 + sx)))] := lv_sub hl [0, 1, 2, 3] rfl
              exact ih ((x3_29 + 1), 1) (show ((lenS.getD sx 0 : Nat) + 1 - (x3_29 + 1)).toNat < ((lenS.getD sx 0 : Nat) + 1 - x3_29).toNat from by omega) (show inR (x3_29 + 1) ∧ inR 1 ∧ ((0 ≤ (x3_29 + 1) ∧ (1 = 0 ∨ (1 = 1 ∧ fi 24 = 0 ∧ fi 20 = 1 ∧ (lenS.getD sx 0 : Nat) = fi 23 - fi 22))) ∧ WI (fa 16) (fi 19) (fi 24) (fi 22) sx 1 (x3_29 + 1)) from ⟨(by omega), (by omega), (by first | exact ⟨by omega, wi_s1 hsx hWI (by omega) (by omega) (by omega) hC (by omega) rfl rfl⟩ | exact ⟨by omega, wi_s0 hsx hWI (by omega) (by omega) (by omega) hC (by omega) rfl⟩)⟩) _ _ _ hP hD hS hl

