set_option maxHeartbeats 4000000 in
set_option maxRecDepth 100000 in
theorem mX10_is (l : Launch) (G : va_G) (k : Nat → ClassId) (ar : Nat → Nat) (fi : Nat → Int) (fa : Nat → Int → Int) (fl : Nat → Int64) (sx : Nat) (sz : Nat) (hR : ∀ j, inR (fi j)) (hRa : ∀ j t, inR (fa j t)) (hsx : sx < 47) (hk1 : fi 20 = 1 → 0 ≤ fi 22 ∧ fi 22 ≤ fi 23 ∧ fi 23 ≤ 600) (hty : TS (fa 16) (fi 19) (fi 24) (fi 22) (fi 23) (fi 20) (fi 21)) : CNi l G k (EZ k) yX10_is wzX10_is ({ frames := 4, cells := 0, slots := 0, locals := 85 }) [.ref (ar 71), .ref (k (111 + sx))] sz (wM k ar fi fa fl) (fun (r0 : Int32) (u : Int) => r0 = Int32.ofInt (u) ∧ (inR u) ∧ (((u = 0 ∨ u = 1) ∧ (u = 1 → fi 24 = 0 ∧ fi 20 = 1)) ∧ Isr u (fi 24) (isWd (fa 16) (fi 19) sx (fi 22)))) (fun (u : Int) => (wM k ar fi fa fl)) := by
  refine Met.ofW (cc := cX10_is) (maxL := 4) (ret := (some .boolean)) (by decide) rfl ?_
  intro p e s m args below meth c s₁ B hml hv
  obtain ⟨rfl, hsz, hP, hX, hD0, hZ0⟩ := hv
  have hx := B.exec
  have hb := B.bytes
  have hr := B.returns
  have hts := atoms_spec (ws := wzX10_is) B.pre
  have hown : s.vm.findClass RX10 = some m.cls := findClass_of_methodNamed B.named
  subst hsz
  have hD := hD0.self (sz := s.heap.size)
  have hZ := hZ0
  generalize hAe : va_A (wM k ar fi fa fl) s.heap.size = A at hD hZ ⊢
  have hA : ∀ q : Nat, s.heap.size ≤ q → A q := fun q h => by rw [← hAe]; exact Or.inr h
  have hS : va_S A s.heap s.heap [] := va_S.rf
  have hl := lv_entry ([.ref (ar 71), .ref (k (111 + sx))]) (n := 4) (Nat.le_of_ble_eq_true rfl)
  rw [lg_entry_eq]
  generalize (lg_sl ([.ref (ar 71), .ref (k (111 + sx))]) ++ List.replicate (4 - (lg_sl ([.ref (ar 71), .ref (k (111 + sx))])).length) Slot.unset).toArray = ls at hl ⊢
  have hl : lv_has ls 4 [(0, .ref (ar 71)), (1, .ref (k (111 + sx)))] := hl
  obtain ⟨H, eH⟩ : ∃ H, H = s.heap := ⟨_, rfl⟩
  rw [← eH] at hP
  have hS : va_S A s.heap H [] := by rw [eH]; exact hS
  have gW : s.heap = H := eH.symm
  refine iv_heap gW ?_
  have h0w := hts (.fieldLink RX10 223 "RopeTownModel" "bad" "I") (wz_at 16 11 rfl)
  have h1w : ∀ w ∈ wsX100, w ∈ wzX10_is := fun w h => List.mem_cons_of_mem _ (inlX10 w h)
  have h2w := hts (.fieldLink RX10 80 "RopeTownModel" "tape" "[I") (wz_at 6 15 rfl)
  have h3w := hts (.fieldLink RX10 194 "RopeTownModel" "begins" "I") (wz_at 17 1 rfl)
  have h4w := hts (.fieldLink RX10 197 "RopeTownModel" "token" "I") (wz_at 16 15 rfl)
  have h5w := hts (.fieldLink RX10 220 "RopeTownModel" "ends" "I") (wz_at 17 8 rfl)
  have hL9 := lenS_ok sx hsx
  refine lv_aload_n hx hb dX10_is_0 rfl (lv_at hl 0 rfl) ?_
  refine va_get (D := G) (ci := 7) (v := .int (Int32.ofInt (fi 24))) (C := RX10) (T := TX10) (N := 71) (ref := RX10) hx hb hts h1w hown hX.1 hP 0 rfl rfl 24 (by decide) h0w (fun _ h9 => h9) rfl dX10_is_1 ?_
  have rf24 := hR 24
  refine iv_if_ne (tgt := 35) hx hb (by omega) dX10_is_4 (by decide) (fun q1 => ?_) (fun q1 => ?_)
  · refine lv_iconst (v := Int32.ofInt 0) hx hb dX10_is_35 (by decide +kernel) ?_
    refine lv_istore_n (lv' := [(2, .int (Int32.ofInt (0))), (0, .ref (ar 71)), (1, .ref (k (111 + sx)))]) hx hb dX10_is_36 rfl hl (by decide) rfl (fun ls hl => ?_)
    refine lv_iconst (v := Int32.ofInt 0) hx hb dX10_is_37 (by decide +kernel) ?_
    refine lv_istore_n (lv' := [(3, .int (Int32.ofInt (0))), (2, .int (Int32.ofInt (0))), (0, .ref (ar 71)), (1, .ref (k (111 + sx)))]) hx hb dX10_is_38 rfl hl (by decide) rfl (fun ls hl => ?_)
    refine iv_loop (α := Int × Int) (nL := 4) (fun b9 => (wM k ar fi fa fl)) (fun b9 => [(3, .int (Int32.ofInt (b9.1))), (2, .int (Int32.ofInt (b9.2))), (0, .ref (ar 71)), (1, .ref (k (111 + sx)))]) (fun b9 => ((lenS.getD sx 0 : Nat) + 1 - b9.1).toNat) (fun b9 => inR b9.1 ∧ inR b9.2 ∧ ((0 ≤ b9.1 ∧ (b9.2 = 0 ∨ (b9.2 = 1 ∧ fi 24 = 0 ∧ fi 20 = 1 ∧ (lenS.getD sx 0 : Nat) = fi 23 - fi 22))) ∧ WI (fa 16) (fi 19) (fi 24) (fi 22) sx b9.2 b9.1)) ?_ (0, 0) (show inR 0 ∧ inR 0 ∧ ((0 ≤ 0 ∧ (0 = 0 ∨ (0 = 1 ∧ fi 24 = 0 ∧ fi 20 = 1 ∧ (lenS.getD sx 0 : Nat) = fi 23 - fi 22))) ∧ WI (fa 16) (fi 19) (fi 24) (fi 22) sx 0 0) from ⟨(by omega), (by omega), (by first | exact ⟨by omega, wi_1 hty (by omega) (by omega) (by omega) rfl rfl⟩ | exact ⟨by omega, wi_0 hty (by omega) rfl⟩)⟩) hP hD hS hl
    rintro ⟨x3_2, x2_3⟩ ih hi9 H locs ls hP hD hS hl
    obtain ⟨r_x3_2, r_x2_3, hinv⟩ : inR x3_2 ∧ inR x2_3 ∧ ((0 ≤ x3_2 ∧ (x2_3 = 0 ∨ (x2_3 = 1 ∧ fi 24 = 0 ∧ fi 20 = 1 ∧ (lenS.getD sx 0 : Nat) = fi 23 - fi 22))) ∧ WI (fa 16) (fi 19) (fi 24) (fi 22) sx x2_3 x3_2) := hi9
    obtain ⟨hJ1, hWI⟩ := hinv
    obtain ⟨hP, hD⟩ : va_P G vwCl (wM k ar fi fa fl) H ∧ va_D A (wM k ar fi fa fl) := ⟨hP, hD⟩
    have hl : lv_has ls 4 [(3, .int (Int32.ofInt (x3_2))), (2, .int (Int32.ofInt (x2_3))), (0, .ref (ar 71)), (1, .ref (k (111 + sx)))] := hl
    refine lv_iload_n hx hb dX10_is_39 rfl (lv_at hl 1 rfl) ?_
    refine iv_if_eq (tgt := 82) hx hb (by omega) dX10_is_40 (by decide) (fun q4 => ?_) (fun q4 => ?_)
    · refine lv_iload_n hx hb dX10_is_82 rfl (lv_at hl 1 rfl) ?_
      exact W.zret (v := Int32.ofInt (x2_3)) hx hb hr (nz_bool (by omega)) (fun t ht hW => ⟨⟨Int32.ofInt (x2_3), (x2_3), rfl, ⟨rfl, (show (inR x2_3) ∧ (((x2_3 = 0 ∨ x2_3 = 1) ∧ (x2_3 = 1 → fi 24 = 0 ∧ fi 20 = 1)) ∧ Isr x2_3 (fi 24) (isWd (fa 16) (fi 19) sx (fi 22))) from ⟨(by omega), (by exact ⟨by omega, wi_end hWI (by omega)⟩)⟩)⟩, by rw [ht]; exact hP, hD⟩, hS.F ht⟩) hS.2.2 dX10_is_83
    · refine lv_iload_n hx hb dX10_is_43 rfl (lv_at hl 0 rfl) ?_
      refine lv_aload_n hx hb dX10_is_44 rfl (lv_at hl 3 rfl) ?_
      refine c0_i (va_runV (As := []) (rest := [.int (Int32.ofInt (x3_2))]) ⟨hx, hb, hml, hown, hts⟩ (mJ0_length_8abf5 l G k sx H.size (show sx < 47 from by omega)) (cwV 0 hts (gz [.methodLink RX10 229 yJ0_length_8abf5, .instanceMethod yJ0_length_8abf5, .selects RJ0 yJ0_length_8abf5 yJ0_length_8abf5, .initialized RJ0] (.code yJ0_length_8abf5 cJ0_length_8abf5 1 (some .int)) [(18, 10), (10, 1), (10, 2), (10, 3), (10, 4)] rfl) rfl rfl rfl (by decide +kernel) ⟨Nat.le_of_ble_eq_true rfl, Nat.le_of_ble_eq_true rfl⟩) (cs_preV hZ hS hX hP hD hA (ez_str hZ (i := sx) (by omega)).1) rfl rfl hl.1 rfl (lv_room (Nat.le_of_ble_eq_true rfl)) dX10_is_45 ⟨Nat.le_of_ble_eq_true rfl, Nat.le_of_ble_eq_true rfl⟩) hP hD hS hA (fun r u H locs hp hP hD hS => ?_)
      obtain ⟨c5, rfl⟩ : ∃ z, z = u := ⟨_, rfl⟩
      obtain ⟨h9, rc5, hp5⟩ : r = Int32.ofInt c5 ∧ (inR c5) ∧ (c5 = ((lenS.getD sx 0 : Nat) : Int)) := hp
      subst h9
      refine iv_icmp_ge (tgt := 82) hx hb (by omega) (by omega) dX10_is_48 (by decide) (fun q6 => ?_) (fun q6 => ?_)
      · refine lv_iload_n hx hb dX10_is_82 rfl (lv_at hl 1 rfl) ?_
        exact W.zret (v := Int32.ofInt (x2_3)) hx hb hr (nz_bool (by omega)) (fun t ht hW => ⟨⟨Int32.ofInt (x2_3), (x2_3), rfl, ⟨rfl, (show (inR x2_3) ∧ (((x2_3 = 0 ∨ x2_3 = 1) ∧ (x2_3 = 1 → fi 24 = 0 ∧ fi 20 = 1)) ∧ Isr x2_3 (fi 24) (isWd (fa 16) (fi 19) sx (fi 22))) from ⟨(by omega), (by exact ⟨by omega, wi_end hWI (by omega)⟩)⟩)⟩, by rw [ht]; exact hP, hD⟩, hS.F ht⟩) hS.2.2 dX10_is_83
      · refine lv_aload_n hx hb dX10_is_51 rfl (lv_at hl 3 rfl) ?_
        refine lv_iload_n hx hb dX10_is_52 rfl (lv_at hl 0 rfl) ?_
        refine c0_i (va_runV (As := [.int (Int32.ofInt (x3_2))]) (rest := []) ⟨hx, hb, hml, hown, hts⟩ (mJ0_charAt_5068e l G k sx x3_2 H.size (show sx < 47 from by omega) (by omega) (show 0 ≤ x3_2 ∧ x3_2 < ((lenS.getD sx 0 : Nat) : Int) from by omega)) (cwV 1 hts (gz [.methodLink RX10 233 yJ0_charAt_5068e, .instanceMethod yJ0_charAt_5068e, .selects RJ0 yJ0_charAt_5068e yJ0_charAt_5068e, .initialized RJ0] (.code yJ0_charAt_5068e cJ0_charAt_5068e 2 (some .char)) [(18, 11), (10, 13), (10, 14), (10, 3), (10, 15)] rfl) rfl rfl rfl (by decide +kernel) ⟨Nat.le_of_ble_eq_true rfl, Nat.le_of_ble_eq_true rfl⟩) (cs_preV hZ hS hX hP hD hA (ez_str hZ (i := sx) (by omega)).1) rfl rfl hl.1 rfl (lv_room (Nat.le_of_ble_eq_true rfl)) dX10_is_53 ⟨Nat.le_of_ble_eq_true rfl, Nat.le_of_ble_eq_true rfl⟩) hP hD hS hA (fun r u H locs hp hP hD hS => ?_)
        obtain ⟨c7, rfl⟩ : ∃ z, z = u := ⟨_, rfl⟩
        obtain ⟨h9, rc7, hp7⟩ : r = Int32.ofInt c7 ∧ (inR c7) ∧ (c7 = bChar (bAnd (chZ sx (x3_2).toNat) 255) ∧ 0 ≤ c7 ∧ c7 < 65536) := hp
        subst h9
        have hC := hp7.1
        refine lv_aload_n hx hb dX10_is_56 rfl (lv_at hl 2 rfl) ?_
        refine va_get (D := G) (ci := 7) (v := .ref (ar 16)) (C := RX10) (T := TX10) (N := 71) (ref := RX10) hx hb hts h1w hown hX.1 hP 0 rfl rfl 16 (by decide) h2w (fun _ h9 => h9) rfl dX10_is_57 ?_
        refine lv_aload_n hx hb dX10_is_60 rfl (lv_at hl 2 rfl) ?_
        refine va_get (D := G) (ci := 7) (v := .int (Int32.ofInt (fi 22))) (C := RX10) (T := TX10) (N := 71) (ref := RX10) hx hb hts h1w hown hX.1 hP 0 rfl rfl 22 (by decide) h3w (fun _ h9 => h9) rfl dX10_is_61 ?_
        have rf22 := hR 22
        refine lv_iload_n hx hb dX10_is_64 rfl (lv_at hl 0 rfl) ?_
        refine iv_add (x := fi 22) (y := x3_2) hx hb dX10_is_65 ?_
        refine iv_iald hx hb hX.1 hP 10 0 rfl rfl (by omega) (by omega) (by decide) dX10_is_66 ?_
        refine iv_top (fun z8 ez8 => ?_)
        have rz8 : inR z8 := ez8 ▸ (hRa 16) _
        have ez8 : z8 = (fa 16) (fi 22 + x3_2) := ez8
        refine iv_icmp_ne (tgt := 74) hx hb (by omega) (by omega) dX10_is_67 (by decide) (fun q9 => ?_) (fun q9 => ?_)
        · refine lv_iconst (v := Int32.ofInt 0) hx hb dX10_is_74 (by decide +kernel) ?_
          refine lv_istore_n (lv' := [(2, .int (Int32.ofInt (0))), (3, .int (Int32.ofInt (x3_2))), (0, .ref (ar 71)), (1, .ref (k (111 + sx)))]) hx hb dX10_is_75 rfl hl (by decide) rfl (fun ls hl => ?_)
          refine lv_iinc (v := Int32.ofInt (x3_2 + 1)) (lv' := [(3, .int (Int32.ofInt ((x3_2 + 1)))), (2, .int (Int32.ofInt (0))), (0, .ref (ar 71)), (1, .ref (k (111 + sx)))]) hx hb dX10_is_76 hl (k := 1) rfl (Int32.ofInt_add _ _).symm (by decide) rfl (fun ls hl => ?_)
          refine lv_goto (tgt := 39) hx hb dX10_is_79 (by decide) ?_
          have hl : lv_has ls 4 [(3, .int (Int32.ofInt ((x3_2 + 1)))), (2, .int (Int32.ofInt (0))), (0, .ref (ar 71)), (1, .ref (k (111 + sx)))] := lv_sub hl [0, 1, 2, 3] rfl
          exact ih ((x3_2 + 1), 0) (show ((lenS.getD sx 0 : Nat) + 1 - (x3_2 + 1)).toNat < ((lenS.getD sx 0 : Nat) + 1 - x3_2).toNat from by omega) (show inR (x3_2 + 1) ∧ inR 0 ∧ ((0 ≤ (x3_2 + 1) ∧ (0 = 0 ∨ (0 = 1 ∧ fi 24 = 0 ∧ fi 20 = 1 ∧ (lenS.getD sx 0 : Nat) = fi 23 - fi 22))) ∧ WI (fa 16) (fi 19) (fi 24) (fi 22) sx 0 (x3_2 + 1)) from ⟨(by omega), (by omega), (by first | exact ⟨by omega, wi_s1 hsx hWI (by omega) (by omega) (by omega) hC (by omega) rfl rfl⟩ | exact ⟨by omega, wi_s0 hsx hWI (by omega) (by omega) (by omega) hC (by omega) rfl⟩)⟩) _ _ _ hP hD hS hl
        · refine lv_iconst (v := Int32.ofInt 1) hx hb dX10_is_70 (by decide +kernel) ?_
          refine lv_goto (tgt := 75) hx hb dX10_is_71 (by decide) ?_
          refine lv_istore_n (lv' := [(2, .int (Int32.ofInt (1))), (3, .int (Int32.ofInt (x3_2))), (0, .ref (ar 71)), (1, .ref (k (111 + sx)))]) hx hb dX10_is_75 rfl hl (by decide) rfl (fun ls hl => ?_)
          refine lv_iinc (v := Int32.ofInt (x3_2 + 1)) (lv' := [(3, .int (Int32.ofInt ((x3_2 + 1)))), (2, .int (Int32.ofInt (1))), (0, .ref (ar 71)), (1, .ref (k (111 + sx)))]) hx hb dX10_is_76 hl (k := 1) rfl (Int32.ofInt_add _ _).symm (by decide) rfl (fun ls hl => ?_)
          refine lv_goto (tgt := 39) hx hb dX10_is_79 (by decide) ?_
          have hl : lv_has ls 4 [(3, .int (Int32.ofInt ((x3_2 + 1)))), (2, .int (Int32.ofInt (1))), (0, .ref (ar 71)), (1, .ref (k (111 + sx)))] := lv_sub hl [0, 1, 2, 3] rfl
          exact ih ((x3_2 + 1), 1) (show ((lenS.getD sx 0 : Nat) + 1 - (x3_2 + 1)).toNat < ((lenS.getD sx 0 : Nat) + 1 - x3_2).toNat from by omega) (show inR (x3_2 + 1) ∧ inR 1 ∧ ((0 ≤ (x3_2 + 1) ∧ (1 = 0 ∨ (1 = 1 ∧ fi 24 = 0 ∧ fi 20 = 1 ∧ (lenS.getD sx 0 : Nat) = fi 23 - fi 22))) ∧ WI (fa 16) (fi 19) (fi 24) (fi 22) sx 1 (x3_2 + 1)) from ⟨(by omega), (by omega), (by first | exact ⟨by omega, wi_s1 hsx hWI (by omega) (by omega) (by omega) hC (by omega) rfl rfl⟩ | exact ⟨by omega, wi_s0 hsx hWI (by omega) (by omega) (by omega) hC (by omega) rfl⟩)⟩) _ _ _ hP hD hS hl
  · refine lv_aload_n hx hb dX10_is_7 rfl (lv_at hl 0 rfl) ?_
    refine va_get (D := G) (ci := 7) (v := .int (Int32.ofInt (fi 20))) (C := RX10) (T := TX10) (N := 71) (ref := RX10) hx hb hts h1w hown hX.1 hP 0 rfl rfl 20 (by decide) h4w (fun _ h9 => h9) rfl dX10_is_8 ?_
    have rf20 := hR 20
    refine lv_iconst (v := Int32.ofInt 1) hx hb dX10_is_11 (by decide +kernel) ?_
    refine iv_icmp_ne (tgt := 35) hx hb (by omega) (by omega) dX10_is_12 (by decide) (fun q10 => ?_) (fun q10 => ?_)
    · refine lv_iconst (v := Int32.ofInt 0) hx hb dX10_is_35 (by decide +kernel) ?_
      refine lv_istore_n (lv' := [(2, .int (Int32.ofInt (0))), (0, .ref (ar 71)), (1, .ref (k (111 + sx)))]) hx hb dX10_is_36 rfl hl (by decide) rfl (fun ls hl => ?_)
      refine lv_iconst (v := Int32.ofInt 0) hx hb dX10_is_37 (by decide +kernel) ?_
      refine lv_istore_n (lv' := [(3, .int (Int32.ofInt (0))), (2, .int (Int32.ofInt (0))), (0, .ref (ar 71)), (1, .ref (k (111 + sx)))]) hx hb dX10_is_38 rfl hl (by decide) rfl (fun ls hl => ?_)
      refine iv_loop (α := Int × Int) (nL := 4) (fun b9 => (wM k ar fi fa fl)) (fun b9 => [(3, .int (Int32.ofInt (b9.1))), (2, .int (Int32.ofInt (b9.2))), (0, .ref (ar 71)), (1, .ref (k (111 + sx)))]) (fun b9 => ((lenS.getD sx 0 : Nat) + 1 - b9.1).toNat) (fun b9 => inR b9.1 ∧ inR b9.2 ∧ ((0 ≤ b9.1 ∧ (b9.2 = 0 ∨ (b9.2 = 1 ∧ fi 24 = 0 ∧ fi 20 = 1 ∧ (lenS.getD sx 0 : Nat) = fi 23 - fi 22))) ∧ WI (fa 16) (fi 19) (fi 24) (fi 22) sx b9.2 b9.1)) ?_ (0, 0) (show inR 0 ∧ inR 0 ∧ ((0 ≤ 0 ∧ (0 = 0 ∨ (0 = 1 ∧ fi 24 = 0 ∧ fi 20 = 1 ∧ (lenS.getD sx 0 : Nat) = fi 23 - fi 22))) ∧ WI (fa 16) (fi 19) (fi 24) (fi 22) sx 0 0) from ⟨(by omega), (by omega), (by first | exact ⟨by omega, wi_1 hty (by omega) (by omega) (by omega) rfl rfl⟩ | exact ⟨by omega, wi_0 hty (by omega) rfl⟩)⟩) hP hD hS hl
      rintro ⟨x3_11, x2_12⟩ ih hi9 H locs ls hP hD hS hl
      obtain ⟨r_x3_11, r_x2_12, hinv⟩ : inR x3_11 ∧ inR x2_12 ∧ ((0 ≤ x3_11 ∧ (x2_12 = 0 ∨ (x2_12 = 1 ∧ fi 24 = 0 ∧ fi 20 = 1 ∧ (lenS.getD sx 0 : Nat) = fi 23 - fi 22))) ∧ WI (fa 16) (fi 19) (fi 24) (fi 22) sx x2_12 x3_11) := hi9
      obtain ⟨hJ1, hWI⟩ := hinv
      obtain ⟨hP, hD⟩ : va_P G vwCl (wM k ar fi fa fl) H ∧ va_D A (wM k ar fi fa fl) := ⟨hP, hD⟩
      have hl : lv_has ls 4 [(3, .int (Int32.ofInt (x3_11))), (2, .int (Int32.ofInt (x2_12))), (0, .ref (ar 71)), (1, .ref (k (111 + sx)))] := hl
      refine lv_iload_n hx hb dX10_is_39 rfl (lv_at hl 1 rfl) ?_
      refine iv_if_eq (tgt := 82) hx hb (by omega) dX10_is_40 (by decide) (fun q13 => ?_) (fun q13 => ?_)
      · refine lv_iload_n hx hb dX10_is_82 rfl (lv_at hl 1 rfl) ?_
        exact W.zret (v := Int32.ofInt (x2_12)) hx hb hr (nz_bool (by omega)) (fun t ht hW => ⟨⟨Int32.ofInt (x2_12), (x2_12), rfl, ⟨rfl, (show (inR x2_12) ∧ (((x2_12 = 0 ∨ x2_12 = 1) ∧ (x2_12 = 1 → fi 24 = 0 ∧ fi 20 = 1)) ∧ Isr x2_12 (fi 24) (isWd (fa 16) (fi 19) sx (fi 22))) from ⟨(by omega), (by exact ⟨by omega, wi_end hWI (by omega)⟩)⟩)⟩, by rw [ht]; exact hP, hD⟩, hS.F ht⟩) hS.2.2 dX10_is_83
      · refine lv_iload_n hx hb dX10_is_43 rfl (lv_at hl 0 rfl) ?_
        refine lv_aload_n hx hb dX10_is_44 rfl (lv_at hl 3 rfl) ?_
        refine c0_i (va_runV (As := []) (rest := [.int (Int32.ofInt (x3_11))]) ⟨hx, hb, hml, hown, hts⟩ (mJ0_length_8abf5 l G k sx H.size (show sx < 47 from by omega)) (cwV 0 hts (gz [.methodLink RX10 229 yJ0_length_8abf5, .instanceMethod yJ0_length_8abf5, .selects RJ0 yJ0_length_8abf5 yJ0_length_8abf5, .initialized RJ0] (.code yJ0_length_8abf5 cJ0_length_8abf5 1 (some .int)) [(18, 10), (10, 1), (10, 2), (10, 3), (10, 4)] rfl) rfl rfl rfl (by decide +kernel) ⟨Nat.le_of_ble_eq_true rfl, Nat.le_of_ble_eq_true rfl⟩) (cs_preV hZ hS hX hP hD hA (ez_str hZ (i := sx) (by omega)).1) rfl rfl hl.1 rfl (lv_room (Nat.le_of_ble_eq_true rfl)) dX10_is_45 ⟨Nat.le_of_ble_eq_true rfl, Nat.le_of_ble_eq_true rfl⟩) hP hD hS hA (fun r u H locs hp hP hD hS => ?_)
        obtain ⟨c14, rfl⟩ : ∃ z, z = u := ⟨_, rfl⟩
        obtain ⟨h9, rc14, hp14⟩ : r = Int32.ofInt c14 ∧ (inR c14) ∧ (c14 = ((lenS.getD sx 0 : Nat) : Int)) := hp
        subst h9
        refine iv_icmp_ge (tgt := 82) hx hb (by omega) (by omega) dX10_is_48 (by decide) (fun q15 => ?_) (fun q15 => ?_)
        · refine lv_iload_n hx hb dX10_is_82 rfl (lv_at hl 1 rfl) ?_
          exact W.zret (v := Int32.ofInt (x2_12)) hx hb hr (nz_bool (by omega)) (fun t ht hW => ⟨⟨Int32.ofInt (x2_12), (x2_12), rfl, ⟨rfl, (show (inR x2_12) ∧ (((x2_12 = 0 ∨ x2_12 = 1) ∧ (x2_12 = 1 → fi 24 = 0 ∧ fi 20 = 1)) ∧ Isr x2_12 (fi 24) (isWd (fa 16) (fi 19) sx (fi 22))) from ⟨(by omega), (by exact ⟨by omega, wi_end hWI (by omega)⟩)⟩)⟩, by rw [ht]; exact hP, hD⟩, hS.F ht⟩) hS.2.2 dX10_is_83
        · refine lv_aload_n hx hb dX10_is_51 rfl (lv_at hl 3 rfl) ?_
          refine lv_iload_n hx hb dX10_is_52 rfl (lv_at hl 0 rfl) ?_
          refine c0_i (va_runV (As := [.int (Int32.ofInt (x3_11))]) (rest := []) ⟨hx, hb, hml, hown, hts⟩ (mJ0_charAt_5068e l G k sx x3_11 H.size (show sx < 47 from by omega) (by omega) (show 0 ≤ x3_11 ∧ x3_11 < ((lenS.getD sx 0 : Nat) : Int) from by omega)) (cwV 1 hts (gz [.methodLink RX10 233 yJ0_charAt_5068e, .instanceMethod yJ0_charAt_5068e, .selects RJ0 yJ0_charAt_5068e yJ0_charAt_5068e, .initialized RJ0] (.code yJ0_charAt_5068e cJ0_charAt_5068e 2 (some .char)) [(18, 11), (10, 13), (10, 14), (10, 3), (10, 15)] rfl) rfl rfl rfl (by decide +kernel) ⟨Nat.le_of_ble_eq_true rfl, Nat.le_of_ble_eq_true rfl⟩) (cs_preV hZ hS hX hP hD hA (ez_str hZ (i := sx) (by omega)).1) rfl rfl hl.1 rfl (lv_room (Nat.le_of_ble_eq_true rfl)) dX10_is_53 ⟨Nat.le_of_ble_eq_true rfl, Nat.le_of_ble_eq_true rfl⟩) hP hD hS hA (fun r u H locs hp hP hD hS => ?_)
          obtain ⟨c16, rfl⟩ : ∃ z, z = u := ⟨_, rfl⟩
          obtain ⟨h9, rc16, hp16⟩ : r = Int32.ofInt c16 ∧ (inR c16) ∧ (c16 = bChar (bAnd (chZ sx (x3_11).toNat) 255) ∧ 0 ≤ c16 ∧ c16 < 65536) := hp
          subst h9
          have hC := hp16.1
          refine lv_aload_n hx hb dX10_is_56 rfl (lv_at hl 2 rfl) ?_
          refine va_get (D := G) (ci := 7) (v := .ref (ar 16)) (C := RX10) (T := TX10) (N := 71) (ref := RX10) hx hb hts h1w hown hX.1 hP 0 rfl rfl 16 (by decide) h2w (fun _ h9 => h9) rfl dX10_is_57 ?_
          refine lv_aload_n hx hb dX10_is_60 rfl (lv_at hl 2 rfl) ?_
          refine va_get (D := G) (ci := 7) (v := .int (Int32.ofInt (fi 22))) (C := RX10) (T := TX10) (N := 71) (ref := RX10) hx hb hts h1w hown hX.1 hP 0 rfl rfl 22 (by decide) h3w (fun _ h9 => h9) rfl dX10_is_61 ?_
          have rf22 := hR 22
          refine lv_iload_n hx hb dX10_is_64 rfl (lv_at hl 0 rfl) ?_
          refine iv_add (x := fi 22) (y := x3_11) hx hb dX10_is_65 ?_
          refine iv_iald hx hb hX.1 hP 10 0 rfl rfl (by omega) (by omega) (by decide) dX10_is_66 ?_
          refine iv_top (fun z17 ez17 => ?_)
          have rz17 : inR z17 := ez17 ▸ (hRa 16) _
          have ez17 : z17 = (fa 16) (fi 22 + x3_11) := ez17
          refine iv_icmp_ne (tgt := 74) hx hb (by omega) (by omega) dX10_is_67 (by decide) (fun q18 => ?_) (fun q18 => ?_)
          · refine lv_iconst (v := Int32.ofInt 0) hx hb dX10_is_74 (by decide +kernel) ?_
            refine lv_istore_n (lv' := [(2, .int (Int32.ofInt (0))), (3, .int (Int32.ofInt (x3_11))), (0, .ref (ar 71)), (1, .ref (k (111 + sx)))]) hx hb dX10_is_75 rfl hl (by decide) rfl (fun ls hl => ?_)
            refine lv_iinc (v := Int32.ofInt (x3_11 + 1)) (lv' := [(3, .int (Int32.ofInt ((x3_11 + 1)))), (2, .int (Int32.ofInt (0))), (0, .ref (ar 71)), (1, .ref (k (111 + sx)))]) hx hb dX10_is_76 hl (k := 1) rfl (Int32.ofInt_add _ _).symm (by decide) rfl (fun ls hl => ?_)
            refine lv_goto (tgt := 39) hx hb dX10_is_79 (by decide) ?_
            have hl : lv_has ls 4 [(3, .int (Int32.ofInt ((x3_11 + 1)))), (2, .int (Int32.ofInt (0))), (0, .ref (ar 71)), (1, .ref (k (111 + sx)))] := lv_sub hl [0, 1, 2, 3] rfl
            exact ih ((x3_11 + 1), 0) (show ((lenS.getD sx 0 : Nat) + 1 - (x3_11 + 1)).toNat < ((lenS.getD sx 0 : Nat) + 1 - x3_11).toNat from by omega) (show inR (x3_11 + 1) ∧ inR 0 ∧ ((0 ≤ (x3_11 + 1) ∧ (0 = 0 ∨ (0 = 1 ∧ fi 24 = 0 ∧ fi 20 = 1 ∧ (lenS.getD sx 0 : Nat) = fi 23 - fi 22))) ∧ WI (fa 16) (fi 19) (fi 24) (fi 22) sx 0 (x3_11 + 1)) from ⟨(by omega), (by omega), (by first | exact ⟨by omega, wi_s1 hsx hWI (by omega) (by omega) (by omega) hC (by omega) rfl rfl⟩ | exact ⟨by omega, wi_s0 hsx hWI (by omega) (by omega) (by omega) hC (by omega) rfl⟩)⟩) _ _ _ hP hD hS hl
          · refine lv_iconst (v := Int32.ofInt 1) hx hb dX10_is_70 (by decide +kernel) ?_
            refine lv_goto (tgt := 75) hx hb dX10_is_71 (by decide) ?_
            refine lv_istore_n (lv' := [(2, .int (Int32.ofInt (1))), (3, .int (Int32.ofInt (x3_11))), (0, .ref (ar 71)), (1, .ref (k (111 + sx)))]) hx hb dX10_is_75 rfl hl (by decide) rfl (fun ls hl => ?_)
            refine lv_iinc (v := Int32.ofInt (x3_11 + 1)) (lv' := [(3, .int (Int32.ofInt ((x3_11 + 1)))), (2, .int (Int32.ofInt (1))), (0, .ref (ar 71)), (1, .ref (k (111 + sx)))]) hx hb dX10_is_76 hl (k := 1) rfl (Int32.ofInt_add _ _).symm (by decide) rfl (fun ls hl => ?_)
            refine lv_goto (tgt := 39) hx hb dX10_is_79 (by decide) ?_
            have hl : lv_has ls 4 [(3, .int (Int32.ofInt ((x3_11 + 1)))), (2, .int (Int32.ofInt (1))), (0, .ref (ar 71)), (1, .ref (k (111 + sx)))] := lv_sub hl [0, 1, 2, 3] rfl
            exact ih ((x3_11 + 1), 1) (show ((lenS.getD sx 0 : Nat) + 1 - (x3_11 + 1)).toNat < ((lenS.getD sx 0 : Nat) + 1 - x3_11).toNat from by omega) (show inR (x3_11 + 1) ∧ inR 1 ∧ ((0 ≤ (x3_11 + 1) ∧ (1 = 0 ∨ (1 = 1 ∧ fi 24 = 0 ∧ fi 20 = 1 ∧ (lenS.getD sx 0 : Nat) = fi 23 - fi 22))) ∧ WI (fa 16) (fi 19) (fi 24) (fi 22) sx 1 (x3_11 + 1)) from ⟨(by omega), (by omega), (by first | exact ⟨by omega, wi_s1 hsx hWI (by omega) (by omega) (by omega) hC (by omega) rfl rfl⟩ | exact ⟨by omega, wi_s0 hsx hWI (by omega) (by omega) (by omega) hC (by omega) rfl⟩)⟩) _ _ _ hP hD hS hl
    · refine lv_aload_n hx hb dX10_is_15 rfl (lv_at hl 1 rfl) ?_
      refine c0_i (va_runV (As := []) (rest := []) ⟨hx, hb, hml, hown, hts⟩ (mJ0_length_8abf5 l G k sx H.size (show sx < 47 from by omega)) (cwV 0 hts (gz [.methodLink RX10 229 yJ0_length_8abf5, .instanceMethod yJ0_length_8abf5, .selects RJ0 yJ0_length_8abf5 yJ0_length_8abf5, .initialized RJ0] (.code yJ0_length_8abf5 cJ0_length_8abf5 1 (some .int)) [(18, 10), (10, 1), (10, 2), (10, 3), (10, 4)] rfl) rfl rfl rfl (by decide +kernel) ⟨Nat.le_of_ble_eq_true rfl, Nat.le_of_ble_eq_true rfl⟩) (cs_preV hZ hS hX hP hD hA (ez_str hZ (i := sx) (by omega)).1) rfl rfl hl.1 rfl (lv_room (Nat.le_of_ble_eq_true rfl)) dX10_is_16 ⟨Nat.le_of_ble_eq_true rfl, Nat.le_of_ble_eq_true rfl⟩) hP hD hS hA (fun r u H locs hp hP hD hS => ?_)
      obtain ⟨c19, rfl⟩ : ∃ z, z = u := ⟨_, rfl⟩
      obtain ⟨h9, rc19, hp19⟩ : r = Int32.ofInt c19 ∧ (inR c19) ∧ (c19 = ((lenS.getD sx 0 : Nat) : Int)) := hp
      subst h9
      refine lv_aload_n hx hb dX10_is_19 rfl (lv_at hl 0 rfl) ?_
      refine va_get (D := G) (ci := 7) (v := .int (Int32.ofInt (fi 23))) (C := RX10) (T := TX10) (N := 71) (ref := RX10) hx hb hts h1w hown hX.1 hP 0 rfl rfl 23 (by decide) h5w (fun _ h9 => h9) rfl dX10_is_20 ?_
      have rf23 := hR 23
      refine lv_aload_n hx hb dX10_is_23 rfl (lv_at hl 0 rfl) ?_
      refine va_get (D := G) (ci := 7) (v := .int (Int32.ofInt (fi 22))) (C := RX10) (T := TX10) (N := 71) (ref := RX10) hx hb hts h1w hown hX.1 hP 0 rfl rfl 22 (by decide) h3w (fun _ h9 => h9) rfl dX10_is_24 ?_
      have rf22 := hR 22
      refine iv_sub (x := fi 23) (y := fi 22) hx hb dX10_is_27 ?_
      refine iv_icmp_ne (tgt := 35) hx hb (by omega) (by omega) dX10_is_28 (by decide) (fun q20 => ?_) (fun q20 => ?_)
      · refine lv_iconst (v := Int32.ofInt 0) hx hb dX10_is_35 (by decide +kernel) ?_
        refine lv_istore_n (lv' := [(2, .int (Int32.ofInt (0))), (0, .ref (ar 71)), (1, .ref (k (111 + sx)))]) hx hb dX10_is_36 rfl hl (by decide) rfl (fun ls hl => ?_)
        refine lv_iconst (v := Int32.ofInt 0) hx hb dX10_is_37 (by decide +kernel) ?_
        refine lv_istore_n (lv' := [(3, .int (Int32.ofInt (0))), (2, .int (Int32.ofInt (0))), (0, .ref (ar 71)), (1, .ref (k (111 + sx)))]) hx hb dX10_is_38 rfl hl (by decide) rfl (fun ls hl => ?_)
        refine iv_loop (α := Int × Int) (nL := 4) (fun b9 => (wM k ar fi fa fl)) (fun b9 => [(3, .int (Int32.ofInt (b9.1))), (2, .int (Int32.ofInt (b9.2))), (0, .ref (ar 71)), (1, .ref (k (111 + sx)))]) (fun b9 => ((lenS.getD sx 0 : Nat) + 1 - b9.1).toNat) (fun b9 => inR b9.1 ∧ inR b9.2 ∧ ((0 ≤ b9.1 ∧ (b9.2 = 0 ∨ (b9.2 = 1 ∧ fi 24 = 0 ∧ fi 20 = 1 ∧ (lenS.getD sx 0 : Nat) = fi 23 - fi 22))) ∧ WI (fa 16) (fi 19) (fi 24) (fi 22) sx b9.2 b9.1)) ?_ (0, 0) (show inR 0 ∧ inR 0 ∧ ((0 ≤ 0 ∧ (0 = 0 ∨ (0 = 1 ∧ fi 24 = 0 ∧ fi 20 = 1 ∧ (lenS.getD sx 0 : Nat) = fi 23 - fi 22))) ∧ WI (fa 16) (fi 19) (fi 24) (fi 22) sx 0 0) from ⟨(by omega), (by omega), (by first | exact ⟨by omega, wi_1 hty (by omega) (by omega) (by omega) rfl rfl⟩ | exact ⟨by omega, wi_0 hty (by omega) rfl⟩)⟩) hP hD hS hl
        rintro ⟨x3_21, x2_22⟩ ih hi9 H locs ls hP hD hS hl
        obtain ⟨r_x3_21, r_x2_22, hinv⟩ : inR x3_21 ∧ inR x2_22 ∧ ((0 ≤ x3_21 ∧ (x2_22 = 0 ∨ (x2_22 = 1 ∧ fi 24 = 0 ∧ fi 20 = 1 ∧ (lenS.getD sx 0 : Nat) = fi 23 - fi 22))) ∧ WI (fa 16) (fi 19) (fi 24) (fi 22) sx x2_22 x3_21) := hi9
        obtain ⟨hJ1, hWI⟩ := hinv
        obtain ⟨hP, hD⟩ : va_P G vwCl (wM k ar fi fa fl) H ∧ va_D A (wM k ar fi fa fl) := ⟨hP, hD⟩
        have hl : lv_has ls 4 [(3, .int (Int32.ofInt (x3_21))), (2, .int (Int32.ofInt (x2_22))), (0, .ref (ar 71)), (1, .ref (k (111 + sx)))] := hl
        refine lv_iload_n hx hb dX10_is_39 rfl (lv_at hl 1 rfl) ?_
        refine iv_if_eq (tgt := 82) hx hb (by omega) dX10_is_40 (by decide) (fun q23 => ?_) (fun q23 => ?_)
        · refine lv_iload_n hx hb dX10_is_82 rfl (lv_at hl 1 rfl) ?_
          exact W.zret (v := Int32.ofInt (x2_22)) hx hb hr (nz_bool (by omega)) (fun t ht hW => ⟨⟨Int32.ofInt (x2_22), (x2_22), rfl, ⟨rfl, (show (inR x2_22) ∧ (((x2_22 = 0 ∨ x2_22 = 1) ∧ (x2_22 = 1 → fi 24 = 0 ∧ fi 20 = 1)) ∧ Isr x2_22 (fi 24) (isWd (fa 16) (fi 19) sx (fi 22))) from ⟨(by omega), (by exact ⟨by omega, wi_end hWI (by omega)⟩)⟩)⟩, by rw [ht]; exact hP, hD⟩, hS.F ht⟩) hS.2.2 dX10_is_83
        · refine lv_iload_n hx hb dX10_is_43 rfl (lv_at hl 0 rfl) ?_
          refine lv_aload_n hx hb dX10_is_44 rfl (lv_at hl 3 rfl) ?_
          refine c0_i (va_runV (As := []) (rest := [.int (Int32.ofInt (x3_21))]) ⟨hx, hb, hml, hown, hts⟩ (mJ0_length_8abf5 l G k sx H.size (show sx < 47 from by omega)) (cwV 0 hts (gz [.methodLink RX10 229 yJ0_length_8abf5, .instanceMethod yJ0_length_8abf5, .selects RJ0 yJ0_length_8abf5 yJ0_length_8abf5, .initialized RJ0] (.code yJ0_length_8abf5 cJ0_length_8abf5 1 (some .int)) [(18, 10), (10, 1), (10, 2), (10, 3), (10, 4)] rfl) rfl rfl rfl (by decide +kernel) ⟨Nat.le_of_ble_eq_true rfl, Nat.le_of_ble_eq_true rfl⟩) (cs_preV hZ hS hX hP hD hA (ez_str hZ (i := sx) (by omega)).1) rfl rfl hl.1 rfl (lv_room (Nat.le_of_ble_eq_true rfl)) dX10_is_45 ⟨Nat.le_of_ble_eq_true rfl, Nat.le_of_ble_eq_true rfl⟩) hP hD hS hA (fun r u H locs hp hP hD hS => ?_)
          obtain ⟨c24, rfl⟩ : ∃ z, z = u := ⟨_, rfl⟩
          obtain ⟨h9, rc24, hp24⟩ : r = Int32.ofInt c24 ∧ (inR c24) ∧ (c24 = ((lenS.getD sx 0 : Nat) : Int)) := hp
          subst h9
          refine iv_icmp_ge (tgt := 82) hx hb (by omega) (by omega) dX10_is_48 (by decide) (fun q25 => ?_) (fun q25 => ?_)
          · refine lv_iload_n hx hb dX10_is_82 rfl (lv_at hl 1 rfl) ?_
            exact W.zret (v := Int32.ofInt (x2_22)) hx hb hr (nz_bool (by omega)) (fun t ht hW => ⟨⟨Int32.ofInt (x2_22), (x2_22), rfl, ⟨rfl, (show (inR x2_22) ∧ (((x2_22 = 0 ∨ x2_22 = 1) ∧ (x2_22 = 1 → fi 24 = 0 ∧ fi 20 = 1)) ∧ Isr x2_22 (fi 24) (isWd (fa 16) (fi 19) sx (fi 22))) from ⟨(by omega), (by exact ⟨by omega, wi_end hWI (by omega)⟩)⟩)⟩, by rw [ht]; exact hP, hD⟩, hS.F ht⟩) hS.2.2 dX10_is_83
          · refine lv_aload_n hx hb dX10_is_51 rfl (lv_at hl 3 rfl) ?_
            refine lv_iload_n hx hb dX10_is_52 rfl (lv_at hl 0 rfl) ?_
            refine c0_i (va_runV (As := [.int (Int32.ofInt (x3_21))]) (rest := []) ⟨hx, hb, hml, hown, hts⟩ (mJ0_charAt_5068e l G k sx x3_21 H.size (show sx < 47 from by omega) (by omega) (show 0 ≤ x3_21 ∧ x3_21 < ((lenS.getD sx 0 : Nat) : Int) from by omega)) (cwV 1 hts (gz [.methodLink RX10 233 yJ0_charAt_5068e, .instanceMethod yJ0_charAt_5068e, .selects RJ0 yJ0_charAt_5068e yJ0_charAt_5068e, .initialized RJ0] (.code yJ0_charAt_5068e cJ0_charAt_5068e 2 (some .char)) [(18, 11), (10, 13), (10, 14), (10, 3), (10, 15)] rfl) rfl rfl rfl (by decide +kernel) ⟨Nat.le_of_ble_eq_true rfl, Nat.le_of_ble_eq_true rfl⟩) (cs_preV hZ hS hX hP hD hA (ez_str hZ (i := sx) (by omega)).1) rfl rfl hl.1 rfl (lv_room (Nat.le_of_ble_eq_true rfl)) dX10_is_53 ⟨Nat.le_of_ble_eq_true rfl, Nat.le_of_ble_eq_true rfl⟩) hP hD hS hA (fun r u H locs hp hP hD hS => ?_)
            obtain ⟨c26, rfl⟩ : ∃ z, z = u := ⟨_, rfl⟩
            obtain ⟨h9, rc26, hp26⟩ : r = Int32.ofInt c26 ∧ (inR c26) ∧ (c26 = bChar (bAnd (chZ sx (x3_21).toNat) 255) ∧ 0 ≤ c26 ∧ c26 < 65536) := hp
            subst h9
            have hC := hp26.1
            refine lv_aload_n hx hb dX10_is_56 rfl (lv_at hl 2 rfl) ?_
            refine va_get (D := G) (ci := 7) (v := .ref (ar 16)) (C := RX10) (T := TX10) (N := 71) (ref := RX10) hx hb hts h1w hown hX.1 hP 0 rfl rfl 16 (by decide) h2w (fun _ h9 => h9) rfl dX10_is_57 ?_
            refine lv_aload_n hx hb dX10_is_60 rfl (lv_at hl 2 rfl) ?_
            refine va_get (D := G) (ci := 7) (v := .int (Int32.ofInt (fi 22))) (C := RX10) (T := TX10) (N := 71) (ref := RX10) hx hb hts h1w hown hX.1 hP 0 rfl rfl 22 (by decide) h3w (fun _ h9 => h9) rfl dX10_is_61 ?_
            have rf22 := hR 22
            refine lv_iload_n hx hb dX10_is_64 rfl (lv_at hl 0 rfl) ?_
            refine iv_add (x := fi 22) (y := x3_21) hx hb dX10_is_65 ?_
            refine iv_iald hx hb hX.1 hP 10 0 rfl rfl (by omega) (by omega) (by decide) dX10_is_66 ?_
            refine iv_top (fun z27 ez27 => ?_)
            have rz27 : inR z27 := ez27 ▸ (hRa 16) _
            have ez27 : z27 = (fa 16) (fi 22 + x3_21) := ez27
            refine iv_icmp_ne (tgt := 74) hx hb (by omega) (by omega) dX10_is_67 (by decide) (fun q28 => ?_) (fun q28 => ?_)
            · refine lv_iconst (v := Int32.ofInt 0) hx hb dX10_is_74 (by decide +kernel) ?_
              refine lv_istore_n (lv' := [(2, .int (Int32.ofInt (0))), (3, .int (Int32.ofInt (x3_21))), (0, .ref (ar 71)), (1, .ref (k (111 + sx)))]) hx hb dX10_is_75 rfl hl (by decide) rfl (fun ls hl => ?_)
              refine lv_iinc (v := Int32.ofInt (x3_21 + 1)) (lv' := [(3, .int (Int32.ofInt ((x3_21 + 1)))), (2, .int (Int32.ofInt (0))), (0, .ref (ar 71)), (1, .ref (k (111 + sx)))]) hx hb dX10_is_76 hl (k := 1) rfl (Int32.ofInt_add _ _).symm (by decide) rfl (fun ls hl => ?_)
              refine lv_goto (tgt := 39) hx hb dX10_is_79 (by decide) ?_
              have hl : lv_has ls 4 [(3, .int (Int32.ofInt ((x3_21 + 1)))), (2, .int (Int32.ofInt (0))), (0, .ref (ar 71)), (1, .ref (k (111 + sx)))] := lv_sub hl [0, 1, 2, 3] rfl
              exact ih ((x3_21 + 1), 0) (show ((lenS.getD sx 0 : Nat) + 1 - (x3_21 + 1)).toNat < ((lenS.getD sx 0 : Nat) + 1 - x3_21).toNat from by omega) (show inR (x3_21 + 1) ∧ inR 0 ∧ ((0 ≤ (x3_21 + 1) ∧ (0 = 0 ∨ (0 = 1 ∧ fi 24 = 0 ∧ fi 20 = 1 ∧ (lenS.getD sx 0 : Nat) = fi 23 - fi 22))) ∧ WI (fa 16) (fi 19) (fi 24) (fi 22) sx 0 (x3_21 + 1)) from ⟨(by omega), (by omega), (by first | exact ⟨by omega, wi_s1 hsx hWI (by omega) (by omega) (by omega) hC (by omega) rfl rfl⟩ | exact ⟨by omega, wi_s0 hsx hWI (by omega) (by omega) (by omega) hC (by omega) rfl⟩)⟩) _ _ _ hP hD hS hl
            · refine lv_iconst (v := Int32.ofInt 1) hx hb dX10_is_70 (by decide +kernel) ?_
              refine lv_goto (tgt := 75) hx hb dX10_is_71 (by decide) ?_
              refine lv_istore_n (lv' := [(2, .int (Int32.ofInt (1))), (3, .int (Int32.ofInt (x3_21))), (0, .ref (ar 71)), (1, .ref (k (111 + sx)))]) hx hb dX10_is_75 rfl hl (by decide) rfl (fun ls hl => ?_)
              refine lv_iinc (v := Int32.ofInt (x3_21 + 1)) (lv' := [(3, .int (Int32.ofInt ((x3_21 + 1)))), (2, .int (Int32.ofInt (1))), (0, .ref (ar 71)), (1, .ref (k (111 + sx)))]) hx hb dX10_is_76 hl (k := 1) rfl (Int32.ofInt_add _ _).symm (by decide) rfl (fun ls hl => ?_)
              refine lv_goto (tgt := 39) hx hb dX10_is_79 (by decide) ?_
              have hl : lv_has ls 4 [(3, .int (Int32.ofInt ((x3_21 + 1)))), (2, .int (Int32.ofInt (1))), (0, .ref (ar 71)), (1, .ref (k (111 + sx)))] := lv_sub hl [0, 1, 2, 3] rfl
              exact ih ((x3_21 + 1), 1) (show ((lenS.getD sx 0 : Nat) + 1 - (x3_21 + 1)).toNat < ((lenS.getD sx 0 : Nat) + 1 - x3_21).toNat from by omega) (show inR (x3_21 + 1) ∧ inR 1 ∧ ((0 ≤ (x3_21 + 1) ∧ (1 = 0 ∨ (1 = 1 ∧ fi 24 = 0 ∧ fi 20 = 1 ∧ (lenS.getD sx 0 : Nat) = fi 23 - fi 22))) ∧ WI (fa 16) (fi 19) (fi 24) (fi 22) sx 1 (x3_21 + 1)) from ⟨(by omega), (by omega), (by first | exact ⟨by omega, wi_s1 hsx hWI (by omega) (by omega) (by omega) hC (by omega) rfl rfl⟩ | exact ⟨by omega, wi_s0 hsx hWI (by omega) (by omega) (by omega) hC (by omega) rfl⟩)⟩) _ _ _ hP hD hS hl
      · refine lv_iconst (v := Int32.ofInt 1) hx hb dX10_is_31 (by decide +kernel) ?_
        refine lv_goto (tgt := 36) hx hb dX10_is_32 (by decide) ?_
        refine lv_istore_n (lv' := [(2, .int (Int32.ofInt (1))), (0, .ref (ar 71)), (1, .ref (k (111 + sx)))]) hx hb dX10_is_36 rfl hl (by decide) rfl (fun ls hl => ?_)
        refine lv_iconst (v := Int32.ofInt 0) hx hb dX10_is_37 (by decide +kernel) ?_
        refine lv_istore_n (lv' := [(3, .int (Int32.ofInt (0))), (2, .int (Int32.ofInt (1))), (0, .ref (ar 71)), (1, .ref (k (111 + sx)))]) hx hb dX10_is_38 rfl hl (by decide) rfl (fun ls hl => ?_)
        refine iv_loop (α := Int × Int) (nL := 4) (fun b9 => (wM k ar fi fa fl)) (fun b9 => [(3, .int (Int32.ofInt (b9.1))), (2, .int (Int32.ofInt (b9.2))), (0, .ref (ar 71)), (1, .ref (k (111 + sx)))]) (fun b9 => ((lenS.getD sx 0 : Nat) + 1 - b9.1).toNat) (fun b9 => inR b9.1 ∧ inR b9.2 ∧ ((0 ≤ b9.1 ∧ (b9.2 = 0 ∨ (b9.2 = 1 ∧ fi 24 = 0 ∧ fi 20 = 1 ∧ (lenS.getD sx 0 : Nat) = fi 23 - fi 22))) ∧ WI (fa 16) (fi 19) (fi 24) (fi 22) sx b9.2 b9.1)) ?_ (0, 1) (show inR 0 ∧ inR 1 ∧ ((0 ≤ 0 ∧ (1 = 0 ∨ (1 = 1 ∧ fi 24 = 0 ∧ fi 20 = 1 ∧ (lenS.getD sx 0 : Nat) = fi 23 - fi 22))) ∧ WI (fa 16) (fi 19) (fi 24) (fi 22) sx 1 0) from ⟨(by omega), (by omega), (by first | exact ⟨by omega, wi_1 hty (by omega) (by omega) (by omega) rfl rfl⟩ | exact ⟨by omega, wi_0 hty (by omega) rfl⟩)⟩) hP hD hS hl
        rintro ⟨x3_29, x2_30⟩ ih hi9 H locs ls hP hD hS hl
        obtain ⟨r_x3_29, r_x2_30, hinv⟩ : inR x3_29 ∧ inR x2_30 ∧ ((0 ≤ x3_29 ∧ (x2_30 = 0 ∨ (x2_30 = 1 ∧ fi 24 = 0 ∧ fi 20 = 1 ∧ (lenS.getD sx 0 : Nat) = fi 23 - fi 22))) ∧ WI (fa 16) (fi 19) (fi 24) (fi 22) sx x2_30 x3_29) := hi9
        obtain ⟨hJ1, hWI⟩ := hinv
        obtain ⟨hP, hD⟩ : va_P G vwCl (wM k ar fi fa fl) H ∧ va_D A (wM k ar fi fa fl) := ⟨hP, hD⟩
        have hl : lv_has ls 4 [(3, .int (Int32.ofInt (x3_29))), (2, .int (Int32.ofInt (x2_30))), (0, .ref (ar 71)), (1, .ref (k (111 + sx)))] := hl
        refine lv_iload_n hx hb dX10_is_39 rfl (lv_at hl 1 rfl) ?_
        refine iv_if_eq (tgt := 82) hx hb (by omega) dX10_is_40 (by decide) (fun q31 => ?_) (fun q31 => ?_)
        · refine lv_iload_n hx hb dX10_is_82 rfl (lv_at hl 1 rfl) ?_
          exact W.zret (v := Int32.ofInt (x2_30)) hx hb hr (nz_bool (by omega)) (fun t ht hW => ⟨⟨Int32.ofInt (x2_30), (x2_30), rfl, ⟨rfl, (show (inR x2_30) ∧ (((x2_30 = 0 ∨ x2_30 = 1) ∧ (x2_30 = 1 → fi 24 = 0 ∧ fi 20 = 1)) ∧ Isr x2_30 (fi 24) (isWd (fa 16) (fi 19) sx (fi 22))) from ⟨(by omega), (by exact ⟨by omega, wi_end hWI (by omega)⟩)⟩)⟩, by rw [ht]; exact hP, hD⟩, hS.F ht⟩) hS.2.2 dX10_is_83
        · refine lv_iload_n hx hb dX10_is_43 rfl (lv_at hl 0 rfl) ?_
          refine lv_aload_n hx hb dX10_is_44 rfl (lv_at hl 3 rfl) ?_
          refine c0_i (va_runV (As := []) (rest := [.int (Int32.ofInt (x3_29))]) ⟨hx, hb, hml, hown, hts⟩ (mJ0_length_8abf5 l G k sx H.size (show sx < 47 from by omega)) (cwV 0 hts (gz [.methodLink RX10 229 yJ0_length_8abf5, .instanceMethod yJ0_length_8abf5, .selects RJ0 yJ0_length_8abf5 yJ0_length_8abf5, .initialized RJ0] (.code yJ0_length_8abf5 cJ0_length_8abf5 1 (some .int)) [(18, 10), (10, 1), (10, 2), (10, 3), (10, 4)] rfl) rfl rfl rfl (by decide +kernel) ⟨Nat.le_of_ble_eq_true rfl, Nat.le_of_ble_eq_true rfl⟩) (cs_preV hZ hS hX hP hD hA (ez_str hZ (i := sx) (by omega)).1) rfl rfl hl.1 rfl (lv_room (Nat.le_of_ble_eq_true rfl)) dX10_is_45 ⟨Nat.le_of_ble_eq_true rfl, Nat.le_of_ble_eq_true rfl⟩) hP hD hS hA (fun r u H locs hp hP hD hS => ?_)
          obtain ⟨c32, rfl⟩ : ∃ z, z = u := ⟨_, rfl⟩
          obtain ⟨h9, rc32, hp32⟩ : r = Int32.ofInt c32 ∧ (inR c32) ∧ (c32 = ((lenS.getD sx 0 : Nat) : Int)) := hp
          subst h9
          refine iv_icmp_ge (tgt := 82) hx hb (by omega) (by omega) dX10_is_48 (by decide) (fun q33 => ?_) (fun q33 => ?_)
          · refine lv_iload_n hx hb dX10_is_82 rfl (lv_at hl 1 rfl) ?_
            exact W.zret (v := Int32.ofInt (x2_30)) hx hb hr (nz_bool (by omega)) (fun t ht hW => ⟨⟨Int32.ofInt (x2_30), (x2_30), rfl, ⟨rfl, (show (inR x2_30) ∧ (((x2_30 = 0 ∨ x2_30 = 1) ∧ (x2_30 = 1 → fi 24 = 0 ∧ fi 20 = 1)) ∧ Isr x2_30 (fi 24) (isWd (fa 16) (fi 19) sx (fi 22))) from ⟨(by omega), (by exact ⟨by omega, wi_end hWI (by omega)⟩)⟩)⟩, by rw [ht]; exact hP, hD⟩, hS.F ht⟩) hS.2.2 dX10_is_83
          · refine lv_aload_n hx hb dX10_is_51 rfl (lv_at hl 3 rfl) ?_
            refine lv_iload_n hx hb dX10_is_52 rfl (lv_at hl 0 rfl) ?_
            refine c0_i (va_runV (As := [.int (Int32.ofInt (x3_29))]) (rest := []) ⟨hx, hb, hml, hown, hts⟩ (mJ0_charAt_5068e l G k sx x3_29 H.size (show sx < 47 from by omega) (by omega) (show 0 ≤ x3_29 ∧ x3_29 < ((lenS.getD sx 0 : Nat) : Int) from by omega)) (cwV 1 hts (gz [.methodLink RX10 233 yJ0_charAt_5068e, .instanceMethod yJ0_charAt_5068e, .selects RJ0 yJ0_charAt_5068e yJ0_charAt_5068e, .initialized RJ0] (.code yJ0_charAt_5068e cJ0_charAt_5068e 2 (some .char)) [(18, 11), (10, 13), (10, 14), (10, 3), (10, 15)] rfl) rfl rfl rfl (by decide +kernel) ⟨Nat.le_of_ble_eq_true rfl, Nat.le_of_ble_eq_true rfl⟩) (cs_preV hZ hS hX hP hD hA (ez_str hZ (i := sx) (by omega)).1) rfl rfl hl.1 rfl (lv_room (Nat.le_of_ble_eq_true rfl)) dX10_is_53 ⟨Nat.le_of_ble_eq_true rfl, Nat.le_of_ble_eq_true rfl⟩) hP hD hS hA (fun r u H locs hp hP hD hS => ?_)
            obtain ⟨c34, rfl⟩ : ∃ z, z = u := ⟨_, rfl⟩
            obtain ⟨h9, rc34, hp34⟩ : r = Int32.ofInt c34 ∧ (inR c34) ∧ (c34 = bChar (bAnd (chZ sx (x3_29).toNat) 255) ∧ 0 ≤ c34 ∧ c34 < 65536) := hp
            subst h9
            have hC := hp34.1
            refine lv_aload_n hx hb dX10_is_56 rfl (lv_at hl 2 rfl) ?_
            refine va_get (D := G) (ci := 7) (v := .ref (ar 16)) (C := RX10) (T := TX10) (N := 71) (ref := RX10) hx hb hts h1w hown hX.1 hP 0 rfl rfl 16 (by decide) h2w (fun _ h9 => h9) rfl dX10_is_57 ?_
            refine lv_aload_n hx hb dX10_is_60 rfl (lv_at hl 2 rfl) ?_
            refine va_get (D := G) (ci := 7) (v := .int (Int32.ofInt (fi 22))) (C := RX10) (T := TX10) (N := 71) (ref := RX10) hx hb hts h1w hown hX.1 hP 0 rfl rfl 22 (by decide) h3w (fun _ h9 => h9) rfl dX10_is_61 ?_
            have rf22 := hR 22
            refine lv_iload_n hx hb dX10_is_64 rfl (lv_at hl 0 rfl) ?_
            refine iv_add (x := fi 22) (y := x3_29) hx hb dX10_is_65 ?_
            refine iv_iald hx hb hX.1 hP 10 0 rfl rfl (by omega) (by omega) (by decide) dX10_is_66 ?_
            refine iv_top (fun z35 ez35 => ?_)
            have rz35 : inR z35 := ez35 ▸ (hRa 16) _
            have ez35 : z35 = (fa 16) (fi 22 + x3_29) := ez35
            refine iv_icmp_ne (tgt := 74) hx hb (by omega) (by omega) dX10_is_67 (by decide) (fun q36 => ?_) (fun q36 => ?_)
            · refine lv_iconst (v := Int32.ofInt 0) hx hb dX10_is_74 (by decide +kernel) ?_
              refine lv_istore_n (lv' := [(2, .int (Int32.ofInt (0))), (3, .int (Int32.ofInt (x3_29))), (0, .ref (ar 71)), (1, .ref (k (111 + sx)))]) hx hb dX10_is_75 rfl hl (by decide) rfl (fun ls hl => ?_)
              refine lv_iinc (v := Int32.ofInt (x3_29 + 1)) (lv' := [(3, .int (Int32.ofInt ((x3_29 + 1)))), (2, .int (Int32.ofInt (0))), (0, .ref (ar 71)), (1, .ref (k (111 + sx)))]) hx hb dX10_is_76 hl (k := 1) rfl (Int32.ofInt_add _ _).symm (by decide) rfl (fun ls hl => ?_)
              refine lv_goto (tgt := 39) hx hb dX10_is_79 (by decide) ?_
              have hl : lv_has ls 4 [(3, .int (Int32.ofInt ((x3_29 + 1)))), (2, .int (Int32.ofInt (0))), (0, .ref (ar 71)), (1, .ref (k (111 + sx)))] := lv_sub hl [0, 1, 2, 3] rfl
              exact ih ((x3_29 + 1), 0) (show ((lenS.getD sx 0 : Nat) + 1 - (x3_29 + 1)).toNat < ((lenS.getD sx 0 : Nat) + 1 - x3_29).toNat from by omega) (show inR (x3_29 + 1) ∧ inR 0 ∧ ((0 ≤ (x3_29 + 1) ∧ (0 = 0 ∨ (0 = 1 ∧ fi 24 = 0 ∧ fi 20 = 1 ∧ (lenS.getD sx 0 : Nat) = fi 23 - fi 22))) ∧ WI (fa 16) (fi 19) (fi 24) (fi 22) sx 0 (x3_29 + 1)) from ⟨(by omega), (by omega), (by first | exact ⟨by omega, wi_s1 hsx hWI (by omega) (by omega) (by omega) hC (by omega) rfl rfl⟩ | exact ⟨by omega, wi_s0 hsx hWI (by omega) (by omega) (by omega) hC (by omega) rfl⟩)⟩) _ _ _ hP hD hS hl
            · refine lv_iconst (v := Int32.ofInt 1) hx hb dX10_is_70 (by decide +kernel) ?_
              refine lv_goto (tgt := 75) hx hb dX10_is_71 (by decide) ?_
              refine lv_istore_n (lv' := [(2, .int (Int32.ofInt (1))), (3, .int (Int32.ofInt (x3_29))), (0, .ref (ar 71)), (1, .ref (k (111 + sx)))]) hx hb dX10_is_75 rfl hl (by decide) rfl (fun ls hl => ?_)
              refine lv_iinc (v := Int32.ofInt (x3_29 + 1)) (lv' := [(3, .int (Int32.ofInt ((x3_29 + 1)))), (2, .int (Int32.ofInt (1))), (0, .ref (ar 71)), (1, .ref (k (111 + sx)))]) hx hb dX10_is_76 hl (k := 1) rfl (Int32.ofInt_add _ _).symm (by decide) rfl (fun ls hl => ?_)
              refine lv_goto (tgt := 39) hx hb dX10_is_79 (by decide) ?_
              have hl : lv_has ls 4 [(3, .int (Int32.ofInt ((x3_29 + 1)))), (2, .int (Int32.ofInt (1))), (0, .ref (ar 71)), (1, .ref (k (111 + sx)))] := lv_sub hl [0, 1, 2, 3] rfl
              exact ih ((x3_29 + 1), 1) (show ((lenS.getD sx 0 : Nat) + 1 - (x3_29 + 1)).toNat < ((lenS.getD sx 0 : Nat) + 1 - x3_29).toNat from by omega) (show inR (x3_29 + 1) ∧ inR 1 ∧ ((0 ≤ (x3_29 + 1) ∧ (1 = 0 ∨ (1 = 1 ∧ fi 24 = 0 ∧ fi 20 = 1 ∧ (lenS.getD sx 0 : Nat) = fi 23 - fi 22))) ∧ WI (fa 16) (fi 19) (fi 24) (fi 22) sx 1 (x3_29 + 1)) from ⟨(by omega), (by omega), (by first | exact ⟨by omega, wi_s1 hsx hWI (by omega) (by omega) (by omega) hC (by omega) rfl rfl⟩ | exact ⟨by omega, wi_s0 hsx hWI (by omega) (by omega) (by omega) hC (by omega) rfl⟩)⟩) _ _ _ hP hD hS hl

set_option maxHeartbeats 4000000 in
set_option maxRecDepth 100000 in
theorem mX10_which_0 (l : Launch) (G : va_G) (k : Nat → ClassId) (ar : Nat → Nat) (fi : Nat → Int) (fa : Nat → Int → Int) (fl : Nat → Int64) (sz : Nat) (hR : ∀ j, inR (fi j)) (hRa : ∀ j t, inR (fa j t)) (hk1 : fi 20 = 1 → 0 ≤ fi 22 ∧ fi 22 ≤ fi 23 ∧ fi 23 ≤ 600) (hty : TS (fa 16) (fi 19) (fi 24) (fi 22) (fi 23) (fi 20) (fi 21)) : CNi l G k (EZ k) yX10_which wzX10_which ({ frames := 5, cells := 0, slots := 0, locals := 108 }) [.ref (ar 71), .ref (ar 0)] sz (wM k ar fi fa fl) (fun (r0 : Int32) (u : Int) => r0 = Int32.ofInt (u) ∧ (inR u) ∧ ((u = -1 ∨ (0 ≤ u ∧ u < 12 ∧ fi 24 = 0 ∧ fi 20 = 1)) ∧ Wh (fa 16) (fi 19) (fi 24) (fi 22) ixC 12 u)) (fun (u : Int) => (wM k ar fi fa fl)) := by
  refine Met.ofW (cc := cX10_which) (maxL := 3) (ret := (some .int)) (by decide) rfl ?_
  intro p e s m args below meth c s₁ B hml hv
  obtain ⟨rfl, hsz, hP, hX, hD0, hZ0⟩ := hv
  have hx := B.exec
  have hb := B.bytes
  have hr := B.returns
  have hts := atoms_spec (ws := wzX10_which) B.pre
  have hown : s.vm.findClass RX10 = some m.cls := findClass_of_methodNamed B.named
  subst hsz
  have hD := hD0.self (sz := s.heap.size)
  have hZ := hZ0
  generalize hAe : va_A (wM k ar fi fa fl) s.heap.size = A at hD hZ ⊢
  have hA : ∀ q : Nat, s.heap.size ≤ q → A q := fun q h => by rw [← hAe]; exact Or.inr h
  have hS : va_S A s.heap s.heap [] := va_S.rf
  have hl := lv_entry ([.ref (ar 71), .ref (ar 0)]) (n := 3) (Nat.le_of_ble_eq_true rfl)
  rw [lg_entry_eq]
  generalize (lg_sl ([.ref (ar 71), .ref (ar 0)]) ++ List.replicate (3 - (lg_sl ([.ref (ar 71), .ref (ar 0)])).length) Slot.unset).toArray = ls at hl ⊢
  have hl : lv_has ls 3 [(0, .ref (ar 71)), (1, .ref (ar 0))] := hl
  obtain ⟨H, eH⟩ : ∃ H, H = s.heap := ⟨_, rfl⟩
  rw [← eH] at hP
  have hS : va_S A s.heap H [] := by rw [eH]; exact hS
  have gW : s.heap = H := eH.symm
  refine iv_heap gW ?_
  refine lv_iconst (v := Int32.ofInt 0) hx hb dX10_which_0 (by decide +kernel) ?_
  refine lv_istore_n (lv' := [(2, .int (Int32.ofInt (0))), (0, .ref (ar 71)), (1, .ref (ar 0))]) hx hb dX10_which_1 rfl hl (by decide) rfl (fun ls hl => ?_)
  refine iv_loop (α := Int) (nL := 3) (fun b9 => (wM k ar fi fa fl)) (fun b9 => [(2, .int (Int32.ofInt (b9))), (0, .ref (ar 71)), (1, .ref (ar 0))]) (fun b9 => (12 - b9).toNat) (fun b9 => inR b9 ∧ ((0 ≤ b9 ∧ b9 ≤ 12) ∧ Wn (fa 16) (fi 19) (fi 24) (fi 22) ixC b9)) ?_ (0) (show inR 0 ∧ ((0 ≤ 0 ∧ 0 ≤ 12) ∧ Wn (fa 16) (fi 19) (fi 24) (fi 22) ixC 0) from ⟨(by omega), (by exact ⟨by omega, wn_0 (by omega)⟩)⟩) hP hD hS hl
  intro x2_1 ih hi9 H locs ls hP hD hS hl
  obtain ⟨r_x2_1, hinv⟩ : inR x2_1 ∧ ((0 ≤ x2_1 ∧ x2_1 ≤ 12) ∧ Wn (fa 16) (fi 19) (fi 24) (fi 22) ixC x2_1) := hi9
  obtain ⟨hJ1, hWn⟩ := hinv
  obtain ⟨hP, hD⟩ : va_P G vwCl (wM k ar fi fa fl) H ∧ va_D A (wM k ar fi fa fl) := ⟨hP, hD⟩
  have hl : lv_has ls 3 [(2, .int (Int32.ofInt (x2_1))), (0, .ref (ar 71)), (1, .ref (ar 0))] := hl
  refine lv_iload_n hx hb dX10_which_2 rfl (lv_at hl 0 rfl) ?_
  refine lv_aload_n hx hb dX10_which_3 rfl (lv_at hl 2 rfl) ?_
  refine iv_alenS (v := Int32.ofInt 12) hx hb hZ.2.2.2.2.1 hP 37 rfl (by decide) dX10_which_4 ?_
  refine iv_icmp_ge (tgt := 26) hx hb (by omega) (by omega) dX10_which_5 (by decide) (fun q2 => ?_) (fun q2 => ?_)
  · refine lv_iconst (v := Int32.ofInt (-1)) hx hb dX10_which_26 (by decide +kernel) ?_
    exact W.iret (v := Int32.ofInt ((-1))) hx hb hr (fun t ht hW => ⟨⟨Int32.ofInt ((-1)), ((-1)), rfl, ⟨rfl, (show (inR (-1)) ∧ (((-1) = -1 ∨ (0 ≤ (-1) ∧ (-1) < 12 ∧ fi 24 = 0 ∧ fi 20 = 1)) ∧ Wh (fa 16) (fi 19) (fi 24) (fi 22) ixC 12 (-1)) from ⟨(by omega), (by first | exact ⟨by omega, wh_y hix hI12 (by omega) (by omega)⟩ | exact ⟨by omega, wh_n hWn (by omega) rfl⟩)⟩)⟩, by rw [ht]; exact hP, hD⟩, hS.F ht⟩) hS.2.2 dX10_which_27
  · refine lv_aload_n hx hb dX10_which_8 rfl (lv_at hl 1 rfl) ?_
    refine lv_aload_n hx hb dX10_which_9 rfl (lv_at hl 2 rfl) ?_
    refine lv_iload_n hx hb dX10_which_10 rfl (lv_at hl 0 rfl) ?_
    refine iv_ald0e hx hb hZ hP 37 rfl (by omega) (by omega) dX10_which_11 (fun z3 hz3 hix => ?_)
    refine cr_i (va_runV (As := [.ref (k (111 + z3))]) (rest := []) ⟨hx, hb, hml, hown, hts⟩ (mX10_is l G k ar fi fa fl z3 H.size hR hRa (show z3 < 47 from by omega) (show (fi 20) = 1 → 0 ≤ (fi 22) ∧ (fi 22) ≤ (fi 23) ∧ (fi 23) ≤ 600 from by omega) (show TS ((fa 16)) ((fi 19)) ((fi 24)) ((fi 22)) ((fi 23)) ((fi 20)) ((fi 21)) from by assumption)) (cwV 1 hts (gz [.methodLink RX10 237 yX10_is, .instanceMethod yX10_is, .selects RX10 yX10_is yX10_is, .initialized RX10] (.code yX10_is cX10_is 4 (some .boolean)) [(18, 6), (18, 7), (18, 8), (0, 5), (18, 9)] rfl) rfl rfl rfl (by decide +kernel) ⟨Nat.le_of_ble_eq_true rfl, Nat.le_of_ble_eq_true rfl⟩) (cr_preV (EZ_ok k) hZ hS hX hP hD hA (ci := 7) (q0 := 0) rfl rfl) rfl rfl hl.1 rfl (lv_room (Nat.le_of_ble_eq_true rfl)) dX10_which_12 ⟨Nat.le_of_ble_eq_true rfl, Nat.le_of_ble_eq_true rfl⟩) hD hS hA (fun r u H locs hp hP hD hS => ?_)
    obtain ⟨c4, rfl⟩ : ∃ z, z = u := ⟨_, rfl⟩
    obtain ⟨h9, rc4, hp4⟩ : r = Int32.ofInt c4 ∧ (inR c4) ∧ (((c4 = 0 ∨ c4 = 1) ∧ (c4 = 1 → (fi 24) = 0 ∧ (fi 20) = 1)) ∧ Isr c4 ((fi 24)) (isWd ((fa 16)) ((fi 19)) z3 ((fi 22)))) := hp
    subst h9
    obtain ⟨hp4, hI12⟩ := hp4
    refine iv_if_eq (tgt := 20) hx hb (by omega) dX10_which_15 (by decide) (fun q5 => ?_) (fun q5 => ?_)
    · refine lv_iinc (v := Int32.ofInt (x2_1 + 1)) (lv' := [(2, .int (Int32.ofInt ((x2_1 + 1)))), (0, .ref (ar 71)), (1, .ref (ar 0))]) hx hb dX10_which_20 hl (k := 0) rfl (Int32.ofInt_add _ _).symm (by decide) rfl (fun ls hl => ?_)
      refine lv_goto (tgt := 2) hx hb dX10_which_23 (by decide) ?_
      have hl : lv_has ls 3 [(2, .int (Int32.ofInt ((x2_1 + 1)))), (0, .ref (ar 71)), (1, .ref (ar 0))] := lv_sub hl [0, 1, 2] rfl
      exact ih ((x2_1 + 1)) (show (12 - (x2_1 + 1)).toNat < (12 - x2_1).toNat from by omega) (show inR (x2_1 + 1) ∧ ((0 ≤ (x2_1 + 1) ∧ (x2_1 + 1) ≤ 12) ∧ Wn (fa 16) (fi 19) (fi 24) (fi 22) ixC (x2_1 + 1)) from ⟨(by omega), (by exact ⟨by omega, wn_s hWn (by omega) hix hI12 (by omega) rfl⟩)⟩) _ _ _ hP hD hS hl
    · refine lv_iload_n hx hb dX10_which_18 rfl (lv_at hl 0 rfl) ?_
      exact W.iret (v := Int32.ofInt (x2_1)) hx hb hr (fun t ht hW => ⟨⟨Int32.ofInt (x2_1), (x2_1), rfl, ⟨rfl, (show (inR x2_1) ∧ ((x2_1 = -1 ∨ (0 ≤ x2_1 ∧ x2_1 < 12 ∧ fi 24 = 0 ∧ fi 20 = 1)) ∧ Wh (fa 16) (fi 19) (fi 24) (fi 22) ixC 12 x2_1) from ⟨(by omega), (by first | exact ⟨by omega, wh_y hix hI12 (by omega) (by omega)⟩ | exact ⟨by omega, wh_n hWn (by omega) rfl⟩)⟩)⟩, by rw [ht]; exact hP, hD⟩, hS.F ht⟩) hS.2.2 dX10_which_19

set_option maxHeartbeats 4000000 in
set_option maxRecDepth 100000 in
theorem mX10_which_1 (l : Launch) (G : va_G) (k : Nat → ClassId) (ar : Nat → Nat) (fi : Nat → Int) (fa : Nat → Int → Int) (fl : Nat → Int64) (sz : Nat) (hR : ∀ j, inR (fi j)) (hRa : ∀ j t, inR (fa j t)) (hk1 : fi 20 = 1 → 0 ≤ fi 22 ∧ fi 22 ≤ fi 23 ∧ fi 23 ≤ 600) (hty : TS (fa 16) (fi 19) (fi 24) (fi 22) (fi 23) (fi 20) (fi 21)) : CNi l G k (EZ k) yX10_which wzX10_which ({ frames := 5, cells := 0, slots := 0, locals := 108 }) [.ref (ar 71), .ref (ar 1)] sz (wM k ar fi fa fl) (fun (r0 : Int32) (u : Int) => r0 = Int32.ofInt (u) ∧ (inR u) ∧ ((u = -1 ∨ (0 ≤ u ∧ u < 7 ∧ fi 24 = 0 ∧ fi 20 = 1)) ∧ Wh (fa 16) (fi 19) (fi 24) (fi 22) vwI 7 u)) (fun (u : Int) => (wM k ar fi fa fl)) := by
  refine Met.ofW (cc := cX10_which) (maxL := 3) (ret := (some .int)) (by decide) rfl ?_
  intro p e s m args below meth c s₁ B hml hv
  obtain ⟨rfl, hsz, hP, hX, hD0, hZ0⟩ := hv
  have hx := B.exec
  have hb := B.bytes
  have hr := B.returns
  have hts := atoms_spec (ws := wzX10_which) B.pre
  have hown : s.vm.findClass RX10 = some m.cls := findClass_of_methodNamed B.named
  subst hsz
  have hD := hD0.self (sz := s.heap.size)
  have hZ := hZ0
  generalize hAe : va_A (wM k ar fi fa fl) s.heap.size = A at hD hZ ⊢
  have hA : ∀ q : Nat, s.heap.size ≤ q → A q := fun q h => by rw [← hAe]; exact Or.inr h
  have hS : va_S A s.heap s.heap [] := va_S.rf
  have hl := lv_entry ([.ref (ar 71), .ref (ar 1)]) (n := 3) (Nat.le_of_ble_eq_true rfl)
  rw [lg_entry_eq]
  generalize (lg_sl ([.ref (ar 71), .ref (ar 1)]) ++ List.replicate (3 - (lg_sl ([.ref (ar 71), .ref (ar 1)])).length) Slot.unset).toArray = ls at hl ⊢
  have hl : lv_has ls 3 [(0, .ref (ar 71)), (1, .ref (ar 1))] := hl
  obtain ⟨H, eH⟩ : ∃ H, H = s.heap := ⟨_, rfl⟩
  rw [← eH] at hP
  have hS : va_S A s.heap H [] := by rw [eH]; exact hS
  have gW : s.heap = H := eH.symm
  refine iv_heap gW ?_
  refine lv_iconst (v := Int32.ofInt 0) hx hb dX10_which_0 (by decide +kernel) ?_
  refine lv_istore_n (lv' := [(2, .int (Int32.ofInt (0))), (0, .ref (ar 71)), (1, .ref (ar 1))]) hx hb dX10_which_1 rfl hl (by decide) rfl (fun ls hl => ?_)
  refine iv_loop (α := Int) (nL := 3) (fun b9 => (wM k ar fi fa fl)) (fun b9 => [(2, .int (Int32.ofInt (b9))), (0, .ref (ar 71)), (1, .ref (ar 1))]) (fun b9 => (7 - b9).toNat) (fun b9 => inR b9 ∧ ((0 ≤ b9 ∧ b9 ≤ 7) ∧ Wn (fa 16) (fi 19) (fi 24) (fi 22) vwI b9)) ?_ (0) (show inR 0 ∧ ((0 ≤ 0 ∧ 0 ≤ 7) ∧ Wn (fa 16) (fi 19) (fi 24) (fi 22) vwI 0) from ⟨(by omega), (by exact ⟨by omega, wn_0 (by omega)⟩)⟩) hP hD hS hl
  intro x2_1 ih hi9 H locs ls hP hD hS hl
  obtain ⟨r_x2_1, hinv⟩ : inR x2_1 ∧ ((0 ≤ x2_1 ∧ x2_1 ≤ 7) ∧ Wn (fa 16) (fi 19) (fi 24) (fi 22) vwI x2_1) := hi9
  obtain ⟨hJ1, hWn⟩ := hinv
  obtain ⟨hP, hD⟩ : va_P G vwCl (wM k ar fi fa fl) H ∧ va_D A (wM k ar fi fa fl) := ⟨hP, hD⟩
  have hl : lv_has ls 3 [(2, .int (Int32.ofInt (x2_1))), (0, .ref (ar 71)), (1, .ref (ar 1))] := hl
  refine lv_iload_n hx hb dX10_which_2 rfl (lv_at hl 0 rfl) ?_
  refine lv_aload_n hx hb dX10_which_3 rfl (lv_at hl 2 rfl) ?_
  refine iv_alenS (v := Int32.ofInt 7) hx hb hZ.2.2.2.2.2 hP 38 rfl (by decide) dX10_which_4 ?_
  refine iv_icmp_ge (tgt := 26) hx hb (by omega) (by omega) dX10_which_5 (by decide) (fun q2 => ?_) (fun q2 => ?_)
  · refine lv_iconst (v := Int32.ofInt (-1)) hx hb dX10_which_26 (by decide +kernel) ?_
    exact W.iret (v := Int32.ofInt ((-1))) hx hb hr (fun t ht hW => ⟨⟨Int32.ofInt ((-1)), ((-1)), rfl, ⟨rfl, (show (inR (-1)) ∧ (((-1) = -1 ∨ (0 ≤ (-1) ∧ (-1) < 7 ∧ fi 24 = 0 ∧ fi 20 = 1)) ∧ Wh (fa 16) (fi 19) (fi 24) (fi 22) vwI 7 (-1)) from ⟨(by omega), (by first | exact ⟨by omega, wh_y hix hI12 (by omega) (by omega)⟩ | exact ⟨by omega, wh_n hWn (by omega) rfl⟩)⟩)⟩, by rw [ht]; exact hP, hD⟩, hS.F ht⟩) hS.2.2 dX10_which_27
  · refine lv_aload_n hx hb dX10_which_8 rfl (lv_at hl 1 rfl) ?_
    refine lv_aload_n hx hb dX10_which_9 rfl (lv_at hl 2 rfl) ?_
    refine lv_iload_n hx hb dX10_which_10 rfl (lv_at hl 0 rfl) ?_
    refine iv_ald1e hx hb hZ hP 38 rfl (by omega) (by omega) dX10_which_11 (fun z3 hz3 hix => ?_)
    refine cr_i (va_runV (As := [.ref (k (111 + z3))]) (rest := []) ⟨hx, hb, hml, hown, hts⟩ (mX10_is l G k ar fi fa fl z3 H.size hR hRa (show z3 < 47 from by omega) (show (fi 20) = 1 → 0 ≤ (fi 22) ∧ (fi 22) ≤ (fi 23) ∧ (fi 23) ≤ 600 from by omega) (show TS ((fa 16)) ((fi 19)) ((fi 24)) ((fi 22)) ((fi 23)) ((fi 20)) ((fi 21)) from by assumption)) (cwV 1 hts (gz [.methodLink RX10 237 yX10_is, .instanceMethod yX10_is, .selects RX10 yX10_is yX10_is, .initialized RX10] (.code yX10_is cX10_is 4 (some .boolean)) [(18, 6), (18, 7), (18, 8), (0, 5), (18, 9)] rfl) rfl rfl rfl (by decide +kernel) ⟨Nat.le_of_ble_eq_true rfl, Nat.le_of_ble_eq_true rfl⟩) (cr_preV (EZ_ok k) hZ hS hX hP hD hA (ci := 7) (q0 := 0) rfl rfl) rfl rfl hl.1 rfl (lv_room (Nat.le_of_ble_eq_true rfl)) dX10_which_12 ⟨Nat.le_of_ble_eq_true rfl, Nat.le_of_ble_eq_true rfl⟩) hD hS hA (fun r u H locs hp hP hD hS => ?_)
    obtain ⟨c4, rfl⟩ : ∃ z, z = u := ⟨_, rfl⟩
    obtain ⟨h9, rc4, hp4⟩ : r = Int32.ofInt c4 ∧ (inR c4) ∧ (((c4 = 0 ∨ c4 = 1) ∧ (c4 = 1 → (fi 24) = 0 ∧ (fi 20) = 1)) ∧ Isr c4 ((fi 24)) (isWd ((fa 16)) ((fi 19)) z3 ((fi 22)))) := hp
    subst h9
    obtain ⟨hp4, hI12⟩ := hp4
    refine iv_if_eq (tgt := 20) hx hb (by omega) dX10_which_15 (by decide) (fun q5 => ?_) (fun q5 => ?_)
    · refine lv_iinc (v := Int32.ofInt (x2_1 + 1)) (lv' := [(2, .int (Int32.ofInt ((x2_1 + 1)))), (0, .ref (ar 71)), (1, .ref (ar 1))]) hx hb dX10_which_20 hl (k := 0) rfl (Int32.ofInt_add _ _).symm (by decide) rfl (fun ls hl => ?_)
      refine lv_goto (tgt := 2) hx hb dX10_which_23 (by decide) ?_
      have hl : lv_has ls 3 [(2, .int (Int32.ofInt ((x2_1 + 1)))), (0, .ref (ar 71)), (1, .ref (ar 1))] := lv_sub hl [0, 1, 2] rfl
      exact ih ((x2_1 + 1)) (show (7 - (x2_1 + 1)).toNat < (7 - x2_1).toNat from by omega) (show inR (x2_1 + 1) ∧ ((0 ≤ (x2_1 + 1) ∧ (x2_1 + 1) ≤ 7) ∧ Wn (fa 16) (fi 19) (fi 24) (fi 22) vwI (x2_1 + 1)) from ⟨(by omega), (by exact ⟨by omega, wn_s hWn (by omega) hix hI12 (by omega) rfl⟩)⟩) _ _ _ hP hD hS hl
    · refine lv_iload_n hx hb dX10_which_18 rfl (lv_at hl 0 rfl) ?_
      exact W.iret (v := Int32.ofInt (x2_1)) hx hb hr (fun t ht hW => ⟨⟨Int32.ofInt (x2_1), (x2_1), rfl, ⟨rfl, (show (inR x2_1) ∧ ((x2_1 = -1 ∨ (0 ≤ x2_1 ∧ x2_1 < 7 ∧ fi 24 = 0 ∧ fi 20 = 1)) ∧ Wh (fa 16) (fi 19) (fi 24) (fi 22) vwI 7 x2_1) from ⟨(by omega), (by first | exact ⟨by omega, wh_y hix hI12 (by omega) (by omega)⟩ | exact ⟨by omega, wh_n hWn (by omega) rfl⟩)⟩)⟩, by rw [ht]; exact hP, hD⟩, hS.F ht⟩) hS.2.2 dX10_which_19

set_option maxHeartbeats 4000000 in
set_option maxRecDepth 100000 in
theorem mX10_passes (l : Launch) (G : va_G) (k : Nat → ClassId) (ar : Nat → Nat) (fi : Nat → Int) (fa : Nat → Int → Int) (fl : Nat → Int64) (sx : Nat) (sz : Nat) (hR : ∀ j, inR (fi j)) (hRa : ∀ j t, inR (fa j t)) (hsx : sx < 47) (htk : 0 ≤ fi 22 ∧ fi 22 ≤ fi 23 ∧ fi 23 ≤ fi 19 ∧ fi 19 ≤ 600 ∧ fi 18 = fi 23 ∧ 0 ≤ fi 20 ∧ fi 20 ≤ 4 ∧ (¬ fi 20 = 0 → fi 22 < fi 23)) (hT : ∀ t, 0 ≤ t → t < fi 19 → 0 ≤ fa 16 t ∧ fa 16 t ≤ 255) (hty : TS (fa 16) (fi 19) (fi 24) (fi 22) (fi 23) (fi 20) (fi 21)) : CNi l G k (EZ k) yX10_passes wzX10_passes ({ frames := 5, cells := 0, slots := 0, locals := 108 }) [.ref (ar 71), .ref (k (111 + sx))] sz (wM k ar fi fa fl) (fun (r0 : Int32) (u : Int × Int × Int × Int × Int × Int) => r0 = Int32.ofInt (u.1) ∧ (inR u.1) ∧ (inR u.2.1) ∧ (inR u.2.2.1) ∧ (inR u.2.2.2.1) ∧ (inR u.2.2.2.2.1) ∧ (inR u.2.2.2.2.2) ∧ (((u.1 = 0 ∨ u.1 = 1) ∧ (0 ≤ u.2.2.2.2.1 ∧ u.2.2.2.2.1 ≤ u.2.2.2.2.2 ∧ u.2.2.2.2.2 ≤ fi 19 ∧ fi 19 ≤ 600 ∧ u.2.1 = u.2.2.2.2.2 ∧ 0 ≤ u.2.2.1 ∧ u.2.2.1 ≤ 4 ∧ (¬ u.2.2.1 = 0 → u.2.2.2.2.1 < u.2.2.2.2.2)) ∧ fi 22 ≤ u.2.2.2.2.1) ∧ TS (fa 16) (fi 19) (fi 24) u.2.2.2.2.1 u.2.2.2.2.2 u.2.2.1 u.2.2.2.1 ∧ val (fi 24) (fi 25) u.2.2.2.2.1 = bd (val (fi 24) (fi 25) (fi 22)) (mayF (fa 16) (fi 19) sx) ∧ Isr u.1 (fi 24) (isWd (fa 16) (fi 19) sx (fi 22)))) (fun (u : Int × Int × Int × Int × Int × Int) => (wM k ar (uF (uF (uF (uF (uF fi 18 (u.2.1)) 20 (u.2.2.1)) 21 (u.2.2.2.1)) 22 (u.2.2.2.2.1)) 23 (u.2.2.2.2.2)) fa fl)) := by
  refine Met.ofW (cc := cX10_passes) (maxL := 3) (ret := (some .boolean)) (by decide) rfl ?_
  intro p e s m args below meth c s₁ B hml hv
  obtain ⟨rfl, hsz, hP, hX, hD0, hZ0⟩ := hv
  have hx := B.exec
  have hb := B.bytes
  have hr := B.returns
  have hts := atoms_spec (ws := wzX10_passes) B.pre
  have hown : s.vm.findClass RX10 = some m.cls := findClass_of_methodNamed B.named
  subst hsz
  have hD := hD0.self (sz := s.heap.size)
  have hZ := hZ0
  generalize hAe : va_A (wM k ar fi fa fl) s.heap.size = A at hD hZ ⊢
  have hA : ∀ q : Nat, s.heap.size ≤ q → A q := fun q h => by rw [← hAe]; exact Or.inr h
  have hS : va_S A s.heap s.heap [] := va_S.rf
  have hl := lv_entry ([.ref (ar 71), .ref (k (111 + sx))]) (n := 3) (Nat.le_of_ble_eq_true rfl)
  rw [lg_entry_eq]
  generalize (lg_sl ([.ref (ar 71), .ref (k (111 + sx))]) ++ List.replicate (3 - (lg_sl ([.ref (ar 71), .ref (k (111 + sx))])).length) Slot.unset).toArray = ls at hl ⊢
  have hl : lv_has ls 3 [(0, .ref (ar 71)), (1, .ref (k (111 + sx)))] := hl
  obtain ⟨H, eH⟩ : ∃ H, H = s.heap := ⟨_, rfl⟩
  rw [← eH] at hP
  have hS : va_S A s.heap H [] := by rw [eH]; exact hS
  have gW : s.heap = H := eH.symm
  refine iv_heap gW ?_
  refine lv_aload_n hx hb dX10_passes_0 rfl (lv_at hl 0 rfl) ?_
  refine lv_aload_n hx hb dX10_passes_1 rfl (lv_at hl 1 rfl) ?_
  refine cr_i (va_runV (As := [.ref (k (111 + sx))]) (rest := []) ⟨hx, hb, hml, hown, hts⟩ (mX10_is l G k ar fi fa fl sx H.size hR hRa (show sx < 47 from by omega) (show (fi 20) = 1 → 0 ≤ (fi 22) ∧ (fi 22) ≤ (fi 23) ∧ (fi 23) ≤ 600 from by omega) (show TS ((fa 16)) ((fi 19)) ((fi 24)) ((fi 22)) ((fi 23)) ((fi 20)) ((fi 21)) from by assumption)) (cwV 1 hts (gz [.methodLink RX10 237 yX10_is, .instanceMethod yX10_is, .selects RX10 yX10_is yX10_is, .initialized RX10] (.code yX10_is cX10_is 4 (some .boolean)) [(18, 6), (18, 7), (18, 8), (0, 5), (18, 9)] rfl) rfl rfl rfl (by decide +kernel) ⟨Nat.le_of_ble_eq_true rfl, Nat.le_of_ble_eq_true rfl⟩) (cr_preV (EZ_ok k) hZ hS hX hP hD hA (ci := 7) (q0 := 0) rfl rfl) rfl rfl hl.1 rfl (lv_room (Nat.le_of_ble_eq_true rfl)) dX10_passes_2 ⟨Nat.le_of_ble_eq_true rfl, Nat.le_of_ble_eq_true rfl⟩) hD hS hA (fun r u H locs hp hP hD hS => ?_)
  obtain ⟨c1, rfl⟩ : ∃ z, z = u := ⟨_, rfl⟩
  obtain ⟨h9, rc1, hp1⟩ : r = Int32.ofInt c1 ∧ (inR c1) ∧ (((c1 = 0 ∨ c1 = 1) ∧ (c1 = 1 → (fi 24) = 0 ∧ (fi 20) = 1)) ∧ Isr c1 ((fi 24)) (isWd ((fa 16)) ((fi 19)) sx ((fi 22)))) := hp
  subst h9
  obtain ⟨hp1, hI2⟩ := hp1
  refine lv_istore_n (lv' := [(2, .int (Int32.ofInt (c1))), (0, .ref (ar 71)), (1, .ref (k (111 + sx)))]) hx hb dX10_passes_5 rfl hl (by decide) rfl (fun ls hl => ?_)
  refine lv_iload_n hx hb dX10_passes_6 rfl (lv_at hl 0 rfl) ?_
  refine iv_if_eq (tgt := 14) hx hb (by omega) dX10_passes_7 (by decide) (fun q2 => ?_) (fun q2 => ?_)
  · refine lv_iload_n hx hb dX10_passes_14 rfl (lv_at hl 0 rfl) ?_
    exact W.zret (v := Int32.ofInt (c1)) hx hb hr (nz_bool (by omega)) (fun t ht hW => ⟨⟨Int32.ofInt (c1), (c1, fi 18, fi 20, fi 21, fi 22, fi 23), rfl, ⟨rfl, (show (inR c1) ∧ (inR (fi 18)) ∧ (inR (fi 20)) ∧ (inR (fi 21)) ∧ (inR (fi 22)) ∧ (inR (fi 23)) ∧ (((c1 = 0 ∨ c1 = 1) ∧ (0 ≤ (fi 22) ∧ (fi 22) ≤ (fi 23) ∧ (fi 23) ≤ fi 19 ∧ fi 19 ≤ 600 ∧ (fi 18) = (fi 23) ∧ 0 ≤ (fi 20) ∧ (fi 20) ≤ 4 ∧ (¬ (fi 20) = 0 → (fi 22) < (fi 23))) ∧ fi 22 ≤ (fi 22)) ∧ TS (fa 16) (fi 19) (fi 24) (fi 22) (fi 23) (fi 20) (fi 21) ∧ val (fi 24) (fi 25) (fi 22) = bd (val (fi 24) (fi 25) (fi 22)) (mayF (fa 16) (fi 19) sx) ∧ Isr c1 (fi 24) (isWd (fa 16) (fi 19) sx (fi 22))) from ⟨(by omega), (hR 18), (hR 20), (hR 21), (hR 22), (hR 23), (by first | exact ⟨by omega, TS_any hT11, fv_may1 hty hI2 (by omega) hV11 (by omega), hI2⟩ | exact ⟨by omega, hty, fv_may0 hI2 (by omega), hI2⟩)⟩)⟩, by rw [ht]; exact hP, hD⟩, hS.F ht⟩) hS.2.2 dX10_passes_15
  · refine lv_aload_n hx hb dX10_passes_10 rfl (lv_at hl 1 rfl) ?_
    refine cr_v (va_runV (As := []) (rest := []) ⟨hx, hb, hml, hown, hts⟩ (mX10_stepOn l G k ar fi fa fl H.size hR hRa (show 0 ≤ (fi 18) from by omega) (show (fi 18) ≤ (fi 19) from by omega) (show (fi 19) ≤ 600 from by omega) (show ∀ t, 0 ≤ t → t < (fi 19) → 0 ≤ (fa 16) t ∧ (fa 16) t ≤ 255 from by first | exact hT | omega)) (cwV 0 hts (gz [.methodLink RX10 241 yX10_stepOn, .instanceMethod yX10_stepOn, .selects RX10 yX10_stepOn yX10_stepOn, .initialized RX10] (.code yX10_stepOn cX10_stepOn 2 none) [(16, 21), (16, 22), (16, 23), (0, 5), (17, 0)] rfl) rfl rfl rfl (by decide +kernel) ⟨Nat.le_of_ble_eq_true rfl, Nat.le_of_ble_eq_true rfl⟩) (cr_preV (EZ_ok k) hZ hS hX hP hD hA (ci := 7) (q0 := 0) rfl rfl) rfl rfl hl.1 rfl (lv_room (Nat.le_of_ble_eq_true rfl)) dX10_passes_11 ⟨Nat.le_of_ble_eq_true rfl, Nat.le_of_ble_eq_true rfl⟩) hD hS hA (fun u H locs hp hP hD hS => ?_)
    obtain ⟨c3, c4, c5, c6, c7⟩ := u
    obtain ⟨hP, hD⟩ : va_P G vwCl (wM k ar (uF (uF (uF (uF (uF fi 18 (c3)) 20 (c4)) 21 (c5)) 22 (c6)) 23 (c7)) fa fl) H ∧ va_D A (wM k ar (uF (uF (uF (uF (uF fi 18 (c3)) 20 (c4)) 21 (c5)) 22 (c6)) 23 (c7)) fa fl) := ⟨hP, hD⟩
    obtain ⟨rc3, rc4, rc5, rc6, rc7, hp7⟩ : (inR c3) ∧ (inR c4) ∧ (inR c5) ∧ (inR c6) ∧ (inR c7) ∧ (((fi 18) ≤ c6 ∧ c6 ≤ c7 ∧ c7 ≤ (fi 19) ∧ c3 = c7 ∧ 0 ≤ c4 ∧ c4 ≤ 4 ∧ (¬ c4 = 0 → c6 < c7)) ∧ c6 = sk ((fa 16)) ((fi 19)) ((fi 18)) ∧ TS ((fa 16)) ((fi 19)) 0 c6 c7 c4 c5) := hp
    obtain ⟨hp7, hV11, hT11⟩ := hp7
    refine lv_iload_n hx hb dX10_passes_14 rfl (lv_at hl 0 rfl) ?_
    exact W.zret (v := Int32.ofInt (c1)) hx hb hr (nz_bool (by omega)) (fun t ht hW => ⟨⟨Int32.ofInt (c1), (c1, c3, c4, c5, c6, c7), rfl, ⟨rfl, (show (inR c1) ∧ (inR c3) ∧ (inR c4) ∧ (inR c5) ∧ (inR c6) ∧ (inR c7) ∧ (((c1 = 0 ∨ c1 = 1) ∧ (0 ≤ c6 ∧ c6 ≤ c7 ∧ c7 ≤ fi 19 ∧ fi 19 ≤ 600 ∧ c3 = c7 ∧ 0 ≤ c4 ∧ c4 ≤ 4 ∧ (¬ c4 = 0 → c6 < c7)) ∧ fi 22 ≤ c6) ∧ TS (fa 16) (fi 19) (fi 24) c6 c7 c4 c5 ∧ val (fi 24) (fi 25) c6 = bd (val (fi 24) (fi 25) (fi 22)) (mayF (fa 16) (fi 19) sx) ∧ Isr c1 (fi 24) (isWd (fa 16) (fi 19) sx (fi 22))) from ⟨(by omega), (by omega), (by omega), (by omega), (by omega), (by omega), (by first | exact ⟨by omega, TS_any hT11, fv_may1 hty hI2 (by omega) hV11 (by omega), hI2⟩ | exact ⟨by omega, hty, fv_may0 hI2 (by omega), hI2⟩)⟩)⟩, by rw [ht]; exact hP, hD⟩, hS.F ht⟩) hS.2.2 dX10_passes_15

set_option maxHeartbeats 4000000 in
set_option maxRecDepth 100000 in
theorem mX10_wordIs (l : Launch) (G : va_G) (k : Nat → ClassId) (ar : Nat → Nat) (fi : Nat → Int) (fa : Nat → Int → Int) (fl : Nat → Int64) (sx : Nat) (sz : Nat) (hR : ∀ j, inR (fi j)) (hRa : ∀ j t, inR (fa j t)) (hsx : sx < 47) (htk : 0 ≤ fi 22 ∧ fi 22 ≤ fi 23 ∧ fi 23 ≤ fi 19 ∧ fi 19 ≤ 600 ∧ fi 18 = fi 23 ∧ 0 ≤ fi 20 ∧ fi 20 ≤ 4 ∧ (¬ fi 20 = 0 → fi 22 < fi 23)) (hT : ∀ t, 0 ≤ t → t < fi 19 → 0 ≤ fa 16 t ∧ fa 16 t ≤ 255) (hty : TS (fa 16) (fi 19) (fi 24) (fi 22) (fi 23) (fi 20) (fi 21)) : CNv l G k (EZ k) yX10_wordIs wzX10_wordIs ({ frames := 5, cells := 0, slots := 0, locals := 108 }) [.ref (ar 71), .ref (k (111 + sx))] sz (wM k ar fi fa fl) (fun (u : Int × Int × Int × Int × Int × Int × Int) => (inR u.1) ∧ (inR u.2.1) ∧ (inR u.2.2.1) ∧ (inR u.2.2.2.1) ∧ (inR u.2.2.2.2.1) ∧ (inR u.2.2.2.2.2.1) ∧ (inR u.2.2.2.2.2.2) ∧ (((0 ≤ u.2.2.2.1 ∧ u.2.2.2.1 ≤ u.2.2.2.2.1 ∧ u.2.2.2.2.1 ≤ fi 19 ∧ fi 19 ≤ 600 ∧ u.1 = u.2.2.2.2.1 ∧ 0 ≤ u.2.1 ∧ u.2.1 ≤ 4 ∧ (¬ u.2.1 = 0 → u.2.2.2.1 < u.2.2.2.2.1)) ∧ fi 22 ≤ u.2.2.2.1 ∧ (u.2.2.2.2.2.1 = 0 → fi 24 = 0)) ∧ TS (fa 16) (fi 19) u.2.2.2.2.2.1 u.2.2.2.1 u.2.2.2.2.1 u.2.1 u.2.2.1 ∧ val u.2.2.2.2.2.1 u.2.2.2.2.2.2 u.2.2.2.1 = bd (val (fi 24) (fi 25) (fi 22)) (wdF (fa 16) (fi 19) sx))) (fun (u : Int × Int × Int × Int × Int × Int × Int) => (wM k ar (uF (uF (uF (uF (uF (uF (uF fi 18 (u.1)) 20 (u.2.1)) 21 (u.2.2.1)) 22 (u.2.2.2.1)) 23 (u.2.2.2.2.1)) 24 (u.2.2.2.2.2.1)) 25 (u.2.2.2.2.2.2)) fa fl)) := by
  refine Met.ofW (cc := cX10_wordIs) (maxL := 2) (ret := none) (by decide) rfl ?_
  intro p e s m args below meth c s₁ B hml hv
  obtain ⟨rfl, hsz, hP, hX, hD0, hZ0⟩ := hv
  have hx := B.exec
  have hb := B.bytes
  have hr := B.returns
  have hts := atoms_spec (ws := wzX10_wordIs) B.pre
  have hown : s.vm.findClass RX10 = some m.cls := findClass_of_methodNamed B.named
  subst hsz
  have hD := hD0.self (sz := s.heap.size)
  have hZ := hZ0
  generalize hAe : va_A (wM k ar fi fa fl) s.heap.size = A at hD hZ ⊢
  have hA : ∀ q : Nat, s.heap.size ≤ q → A q := fun q h => by rw [← hAe]; exact Or.inr h
  have hS : va_S A s.heap s.heap [] := va_S.rf
  have hl := lv_entry ([.ref (ar 71), .ref (k (111 + sx))]) (n := 2) (Nat.le_of_ble_eq_true rfl)
  rw [lg_entry_eq]
  generalize (lg_sl ([.ref (ar 71), .ref (k (111 + sx))]) ++ List.replicate (2 - (lg_sl ([.ref (ar 71), .ref (k (111 + sx))])).length) Slot.unset).toArray = ls at hl ⊢
  have hl : lv_has ls 2 [(0, .ref (ar 71)), (1, .ref (k (111 + sx)))] := hl
  obtain ⟨H, eH⟩ : ∃ H, H = s.heap := ⟨_, rfl⟩
  rw [← eH] at hP
  have hS : va_S A s.heap H [] := by rw [eH]; exact hS
  have gW : s.heap = H := eH.symm
  refine iv_heap gW ?_
  have h0w := hts (.fieldLink RX10 223 "RopeTownModel" "bad" "I") (wz_at 16 11 rfl)
  have h1w : ∀ w ∈ wsX100, w ∈ wzX10_wordIs := fun w h => List.mem_cons_of_mem _ (inlX10 w h)
  refine lv_aload_n hx hb dX10_wordIs_0 rfl (lv_at hl 0 rfl) ?_
  refine va_get (D := G) (ci := 7) (v := .int (Int32.ofInt (fi 24))) (C := RX10) (T := TX10) (N := 71) (ref := RX10) hx hb hts h1w hown hX.1 hP 0 rfl rfl 24 (by decide) h0w (fun _ h9 => h9) rfl dX10_wordIs_1 ?_
  have rf24 := hR 24
  refine iv_if_ne (tgt := 20) hx hb (by omega) dX10_wordIs_4 (by decide) (fun q1 => ?_) (fun q1 => ?_)
  · refine lv_aload_n hx hb dX10_wordIs_20 rfl (lv_at hl 0 rfl) ?_
    refine va_get (D := G) (ci := 7) (v := .int (Int32.ofInt (fi 24))) (C := RX10) (T := TX10) (N := 71) (ref := RX10) hx hb hts h1w hown hX.1 hP 0 rfl rfl 24 (by decide) h0w (fun _ h9 => h9) rfl dX10_wordIs_21 ?_
    have rf24 := hR 24
    refine iv_if_ne (tgt := 31) hx hb (by omega) dX10_wordIs_24 (by decide) (fun q2 => ?_) (fun q2 => ?_)
    · exact W.vret hx hb hr (fun t ht hW => ⟨⟨(fi 18, fi 20, fi 21, fi 22, fi 23, fi 24, fi 25), rfl, (show (inR (fi 18)) ∧ (inR (fi 20)) ∧ (inR (fi 21)) ∧ (inR (fi 22)) ∧ (inR (fi 23)) ∧ (inR (fi 24)) ∧ (inR (fi 25)) ∧ (((0 ≤ (fi 22) ∧ (fi 22) ≤ (fi 23) ∧ (fi 23) ≤ fi 19 ∧ fi 19 ≤ 600 ∧ (fi 18) = (fi 23) ∧ 0 ≤ (fi 20) ∧ (fi 20) ≤ 4 ∧ (¬ (fi 20) = 0 → (fi 22) < (fi 23))) ∧ fi 22 ≤ (fi 22) ∧ ((fi 24) = 0 → fi 24 = 0)) ∧ TS (fa 16) (fi 19) (fi 24) (fi 22) (fi 23) (fi 20) (fi 21) ∧ val (fi 24) (fi 25) (fi 22) = bd (val (fi 24) (fi 25) (fi 22)) (wdF (fa 16) (fi 19) sx)) from ⟨(hR 18), (hR 20), (hR 21), (hR 22), (hR 23), (hR 24), (hR 25), (by first | exact ⟨by omega, TS_any hT28, fv_wd1 hty hI9 (by omega) hV28 (by omega)⟩ | exact ⟨by omega, TS_no (by omega), fv_wd0 (by omega) hI9 (by omega) hV17⟩ | exact ⟨by omega, TS_no (by omega), fv_no (by omega)⟩ | (exfalso; omega))⟩), by rw [ht]; exact hP, hD⟩, hS.F ht⟩) hS.2.2 dX10_wordIs_31
    · refine lv_aload_n hx hb dX10_wordIs_27 rfl (lv_at hl 0 rfl) ?_
      refine cr_v (va_runV (As := []) (rest := []) ⟨hx, hb, hml, hown, hts⟩ (mX10_stepOn l G k ar fi fa fl H.size hR hRa (show 0 ≤ (fi 18) from by omega) (show (fi 18) ≤ (fi 19) from by omega) (show (fi 19) ≤ 600 from by omega) (show ∀ t, 0 ≤ t → t < (fi 19) → 0 ≤ (fa 16) t ∧ (fa 16) t ≤ 255 from by first | exact hT | omega)) (cwV 0 hts (gz [.methodLink RX10 241 yX10_stepOn, .instanceMethod yX10_stepOn, .selects RX10 yX10_stepOn yX10_stepOn, .initialized RX10] (.code yX10_stepOn cX10_stepOn 2 none) [(16, 21), (16, 22), (16, 23), (0, 5), (17, 0)] rfl) rfl rfl rfl (by decide +kernel) ⟨Nat.le_of_ble_eq_true rfl, Nat.le_of_ble_eq_true rfl⟩) (cr_preV (EZ_ok k) hZ hS hX hP hD hA (ci := 7) (q0 := 0) rfl rfl) rfl rfl hl.1 rfl (lv_room (Nat.le_of_ble_eq_true rfl)) dX10_wordIs_28 ⟨Nat.le_of_ble_eq_true rfl, Nat.le_of_ble_eq_true rfl⟩) hD hS hA (fun u H locs hp hP hD hS => ?_)
      obtain ⟨c3, c4, c5, c6, c7⟩ := u
      obtain ⟨hP, hD⟩ : va_P G vwCl (wM k ar (uF (uF (uF (uF (uF fi 18 (c3)) 20 (c4)) 21 (c5)) 22 (c6)) 23 (c7)) fa fl) H ∧ va_D A (wM k ar (uF (uF (uF (uF (uF fi 18 (c3)) 20 (c4)) 21 (c5)) 22 (c6)) 23 (c7)) fa fl) := ⟨hP, hD⟩
      obtain ⟨rc3, rc4, rc5, rc6, rc7, hp7⟩ : (inR c3) ∧ (inR c4) ∧ (inR c5) ∧ (inR c6) ∧ (inR c7) ∧ (((fi 18) ≤ c6 ∧ c6 ≤ c7 ∧ c7 ≤ (fi 19) ∧ c3 = c7 ∧ 0 ≤ c4 ∧ c4 ≤ 4 ∧ (¬ c4 = 0 → c6 < c7)) ∧ c6 = sk ((fa 16)) ((fi 19)) ((fi 18)) ∧ TS ((fa 16)) ((fi 19)) 0 c6 c7 c4 c5) := hp
      obtain ⟨hp7, hV28, hT28⟩ := hp7
      exact W.vret hx hb hr (fun t ht hW => ⟨⟨(c3, c4, c5, c6, c7, fi 24, fi 25), rfl, (show (inR c3) ∧ (inR c4) ∧ (inR c5) ∧ (inR c6) ∧ (inR c7) ∧ (inR (fi 24)) ∧ (inR (fi 25)) ∧ (((0 ≤ c6 ∧ c6 ≤ c7 ∧ c7 ≤ fi 19 ∧ fi 19 ≤ 600 ∧ c3 = c7 ∧ 0 ≤ c4 ∧ c4 ≤ 4 ∧ (¬ c4 = 0 → c6 < c7)) ∧ fi 22 ≤ c6 ∧ ((fi 24) = 0 → fi 24 = 0)) ∧ TS (fa 16) (fi 19) (fi 24) c6 c7 c4 c5 ∧ val (fi 24) (fi 25) c6 = bd (val (fi 24) (fi 25) (fi 22)) (wdF (fa 16) (fi 19) sx)) from ⟨(by omega), (by omega), (by omega), (by omega), (by omega), (hR 24), (hR 25), (by first | exact ⟨by omega, TS_any hT28, fv_wd1 hty hI9 (by omega) hV28 (by omega)⟩ | exact ⟨by omega, TS_no (by omega), fv_wd0 (by omega) hI9 (by omega) hV17⟩ | exact ⟨by omega, TS_no (by omega), fv_no (by omega)⟩ | (exfalso; omega))⟩), by rw [ht]; exact hP, hD⟩, hS.F ht⟩) hS.2.2 dX10_wordIs_31
  · refine lv_aload_n hx hb dX10_wordIs_7 rfl (lv_at hl 0 rfl) ?_
    refine lv_aload_n hx hb dX10_wordIs_8 rfl (lv_at hl 1 rfl) ?_
    refine cr_i (va_runV (As := [.ref (k (111 + sx))]) (rest := []) ⟨hx, hb, hml, hown, hts⟩ (mX10_is l G k ar fi fa fl sx H.size hR hRa (show sx < 47 from by omega) (show (fi 20) = 1 → 0 ≤ (fi 22) ∧ (fi 22) ≤ (fi 23) ∧ (fi 23) ≤ 600 from by omega) (show TS ((fa 16)) ((fi 19)) ((fi 24)) ((fi 22)) ((fi 23)) ((fi 20)) ((fi 21)) from by assumption)) (cwV 1 hts (gz [.methodLink RX10 237 yX10_is, .instanceMethod yX10_is, .selects RX10 yX10_is yX10_is, .initialized RX10] (.code yX10_is cX10_is 4 (some .boolean)) [(18, 6), (18, 7), (18, 8), (0, 5), (18, 9)] rfl) rfl rfl rfl (by decide +kernel) ⟨Nat.le_of_ble_eq_true rfl, Nat.le_of_ble_eq_true rfl⟩) (cr_preV (EZ_ok k) hZ hS hX hP hD hA (ci := 7) (q0 := 0) rfl rfl) rfl rfl hl.1 rfl (lv_room (Nat.le_of_ble_eq_true rfl)) dX10_wordIs_9 ⟨Nat.le_of_ble_eq_true rfl, Nat.le_of_ble_eq_true rfl⟩) hD hS hA (fun r u H locs hp hP hD hS => ?_)
    obtain ⟨c8, rfl⟩ : ∃ z, z = u := ⟨_, rfl⟩
    obtain ⟨h9, rc8, hp8⟩ : r = Int32.ofInt c8 ∧ (inR c8) ∧ (((c8 = 0 ∨ c8 = 1) ∧ (c8 = 1 → (fi 24) = 0 ∧ (fi 20) = 1)) ∧ Isr c8 ((fi 24)) (isWd ((fa 16)) ((fi 19)) sx ((fi 22)))) := hp
    subst h9
    obtain ⟨hp8, hI9⟩ := hp8
    refine iv_if_ne (tgt := 20) hx hb (by omega) dX10_wordIs_12 (by decide) (fun q9 => ?_) (fun q9 => ?_)
    · refine lv_aload_n hx hb dX10_wordIs_20 rfl (lv_at hl 0 rfl) ?_
      refine va_get (D := G) (ci := 7) (v := .int (Int32.ofInt (fi 24))) (C := RX10) (T := TX10) (N := 71) (ref := RX10) hx hb hts h1w hown hX.1 hP 0 rfl rfl 24 (by decide) h0w (fun _ h9 => h9) rfl dX10_wordIs_21 ?_
      have rf24 := hR 24
      refine iv_if_ne (tgt := 31) hx hb (by omega) dX10_wordIs_24 (by decide) (fun q10 => ?_) (fun q10 => ?_)
      · exact W.vret hx hb hr (fun t ht hW => ⟨⟨(fi 18, fi 20, fi 21, fi 22, fi 23, fi 24, fi 25), rfl, (show (inR (fi 18)) ∧ (inR (fi 20)) ∧ (inR (fi 21)) ∧ (inR (fi 22)) ∧ (inR (fi 23)) ∧ (inR (fi 24)) ∧ (inR (fi 25)) ∧ (((0 ≤ (fi 22) ∧ (fi 22) ≤ (fi 23) ∧ (fi 23) ≤ fi 19 ∧ fi 19 ≤ 600 ∧ (fi 18) = (fi 23) ∧ 0 ≤ (fi 20) ∧ (fi 20) ≤ 4 ∧ (¬ (fi 20) = 0 → (fi 22) < (fi 23))) ∧ fi 22 ≤ (fi 22) ∧ ((fi 24) = 0 → fi 24 = 0)) ∧ TS (fa 16) (fi 19) (fi 24) (fi 22) (fi 23) (fi 20) (fi 21) ∧ val (fi 24) (fi 25) (fi 22) = bd (val (fi 24) (fi 25) (fi 22)) (wdF (fa 16) (fi 19) sx)) from ⟨(hR 18), (hR 20), (hR 21), (hR 22), (hR 23), (hR 24), (hR 25), (by first | exact ⟨by omega, TS_any hT28, fv_wd1 hty hI9 (by omega) hV28 (by omega)⟩ | exact ⟨by omega, TS_no (by omega), fv_wd0 (by omega) hI9 (by omega) hV17⟩ | exact ⟨by omega, TS_no (by omega), fv_no (by omega)⟩ | (exfalso; omega))⟩), by rw [ht]; exact hP, hD⟩, hS.F ht⟩) hS.2.2 dX10_wordIs_31
      · refine lv_aload_n hx hb dX10_wordIs_27 rfl (lv_at hl 0 rfl) ?_
        refine cr_v (va_runV (As := []) (rest := []) ⟨hx, hb, hml, hown, hts⟩ (mX10_stepOn l G k ar fi fa fl H.size hR hRa (show 0 ≤ (fi 18) from by omega) (show (fi 18) ≤ (fi 19) from by omega) (show (fi 19) ≤ 600 from by omega) (show ∀ t, 0 ≤ t → t < (fi 19) → 0 ≤ (fa 16) t ∧ (fa 16) t ≤ 255 from by first | exact hT | omega)) (cwV 0 hts (gz [.methodLink RX10 241 yX10_stepOn, .instanceMethod yX10_stepOn, .selects RX10 yX10_stepOn yX10_stepOn, .initialized RX10] (.code yX10_stepOn cX10_stepOn 2 none) [(16, 21), (16, 22), (16, 23), (0, 5), (17, 0)] rfl) rfl rfl rfl (by decide +kernel) ⟨Nat.le_of_ble_eq_true rfl, Nat.le_of_ble_eq_true rfl⟩) (cr_preV (EZ_ok k) hZ hS hX hP hD hA (ci := 7) (q0 := 0) rfl rfl) rfl rfl hl.1 rfl (lv_room (Nat.le_of_ble_eq_true rfl)) dX10_wordIs_28 ⟨Nat.le_of_ble_eq_true rfl, Nat.le_of_ble_eq_true rfl⟩) hD hS hA (fun u H locs hp hP hD hS => ?_)
        obtain ⟨c11, c12, c13, c14, c15⟩ := u
        obtain ⟨hP, hD⟩ : va_P G vwCl (wM k ar (uF (uF (uF (uF (uF fi 18 (c11)) 20 (c12)) 21 (c13)) 22 (c14)) 23 (c15)) fa fl) H ∧ va_D A (wM k ar (uF (uF (uF (uF (uF fi 18 (c11)) 20 (c12)) 21 (c13)) 22 (c14)) 23 (c15)) fa fl) := ⟨hP, hD⟩
        obtain ⟨rc11, rc12, rc13, rc14, rc15, hp15⟩ : (inR c11) ∧ (inR c12) ∧ (inR c13) ∧ (inR c14) ∧ (inR c15) ∧ (((fi 18) ≤ c14 ∧ c14 ≤ c15 ∧ c15 ≤ (fi 19) ∧ c11 = c15 ∧ 0 ≤ c12 ∧ c12 ≤ 4 ∧ (¬ c12 = 0 → c14 < c15)) ∧ c14 = sk ((fa 16)) ((fi 19)) ((fi 18)) ∧ TS ((fa 16)) ((fi 19)) 0 c14 c15 c12 c13) := hp
        obtain ⟨hp15, hV28, hT28⟩ := hp15
        exact W.vret hx hb hr (fun t ht hW => ⟨⟨(c11, c12, c13, c14, c15, fi 24, fi 25), rfl, (show (inR c11) ∧ (inR c12) ∧ (inR c13) ∧ (inR c14) ∧ (inR c15) ∧ (inR (fi 24)) ∧ (inR (fi 25)) ∧ (((0 ≤ c14 ∧ c14 ≤ c15 ∧ c15 ≤ fi 19 ∧ fi 19 ≤ 600 ∧ c11 = c15 ∧ 0 ≤ c12 ∧ c12 ≤ 4 ∧ (¬ c12 = 0 → c14 < c15)) ∧ fi 22 ≤ c14 ∧ ((fi 24) = 0 → fi 24 = 0)) ∧ TS (fa 16) (fi 19) (fi 24) c14 c15 c12 c13 ∧ val (fi 24) (fi 25) c14 = bd (val (fi 24) (fi 25) (fi 22)) (wdF (fa 16) (fi 19) sx)) from ⟨(by omega), (by omega), (by omega), (by omega), (by omega), (hR 24), (hR 25), (by first | exact ⟨by omega, TS_any hT28, fv_wd1 hty hI9 (by omega) hV28 (by omega)⟩ | exact ⟨by omega, TS_no (by omega), fv_wd0 (by omega) hI9 (by omega) hV17⟩ | exact ⟨by omega, TS_no (by omega), fv_no (by omega)⟩ | (exfalso; omega))⟩), by rw [ht]; exact hP, hD⟩, hS.F ht⟩) hS.2.2 dX10_wordIs_31
    · refine lv_aload_n hx hb dX10_wordIs_15 rfl (lv_at hl 0 rfl) ?_
      refine lv_iconst (v := Int32.ofInt 1) hx hb dX10_wordIs_16 (by decide +kernel) ?_
      refine cr_v (va_runV (As := [.int (Int32.ofInt (1))]) (rest := []) ⟨hx, hb, hml, hown, hts⟩ (mX10_wrong l G k ar fi fa fl 1 H.size hR hRa (by omega) (show ¬ 1 = 0 from by omega)) (cwV 1 hts (gz [.methodLink RX10 244 yX10_wrong, .instanceMethod yX10_wrong, .selects RX10 yX10_wrong yX10_wrong, .initialized RX10] (.code yX10_wrong cX10_wrong 2 none) [(18, 12), (18, 13), (18, 14), (0, 5), (18, 15)] rfl) rfl rfl rfl (by decide +kernel) ⟨Nat.le_of_ble_eq_true rfl, Nat.le_of_ble_eq_true rfl⟩) (cr_preV (EZ_ok k) hZ hS hX hP hD hA (ci := 7) (q0 := 0) rfl rfl) rfl rfl hl.1 rfl (lv_room (Nat.le_of_ble_eq_true rfl)) dX10_wordIs_17 ⟨Nat.le_of_ble_eq_true rfl, Nat.le_of_ble_eq_true rfl⟩) hD hS hA (fun u H locs hp hP hD hS => ?_)
      obtain ⟨c16, c17⟩ := u
      obtain ⟨hP, hD⟩ : va_P G vwCl (wM k ar (uF (uF fi 24 (c16)) 25 (c17)) fa fl) H ∧ va_D A (wM k ar (uF (uF fi 24 (c16)) 25 (c17)) fa fl) := ⟨hP, hD⟩
      obtain ⟨rc16, rc17, hp17⟩ : (inR c16) ∧ (inR c17) ∧ (((¬ (fi 24) = 0 → c16 = (fi 24)) ∧ ((fi 24) = 0 → c16 = 1)) ∧ val c16 c17 ((fi 22)) = bd (val ((fi 24)) ((fi 25)) ((fi 22))) (fun s => (1, s))) := hp
      obtain ⟨hp17, hV17⟩ := hp17
      refine lv_aload_n hx hb dX10_wordIs_20 rfl (lv_at hl 0 rfl) ?_
      refine va_get (D := G) (ci := 7) (v := .int (Int32.ofInt (c16))) (C := RX10) (T := TX10) (N := 71) (ref := RX10) hx hb hts h1w hown hX.1 hP 0 rfl rfl 24 (by decide) h0w (fun _ h9 => h9) rfl dX10_wordIs_21 ?_
      refine iv_if_ne (tgt := 31) hx hb (by omega) dX10_wordIs_24 (by decide) (fun q18 => ?_) (fun q18 => ?_)
      · exact W.vret hx hb hr (fun t ht hW => ⟨⟨(fi 18, fi 20, fi 21, fi 22, fi 23, c16, c17), rfl, (show (inR (fi 18)) ∧ (inR (fi 20)) ∧ (inR (fi 21)) ∧ (inR (fi 22)) ∧ (inR (fi 23)) ∧ (inR c16) ∧ (inR c17) ∧ (((0 ≤ (fi 22) ∧ (fi 22) ≤ (fi 23) ∧ (fi 23) ≤ fi 19 ∧ fi 19 ≤ 600 ∧ (fi 18) = (fi 23) ∧ 0 ≤ (fi 20) ∧ (fi 20) ≤ 4 ∧ (¬ (fi 20) = 0 → (fi 22) < (fi 23))) ∧ fi 22 ≤ (fi 22) ∧ (c16 = 0 → fi 24 = 0)) ∧ TS (fa 16) (fi 19) c16 (fi 22) (fi 23) (fi 20) (fi 21) ∧ val c16 c17 (fi 22) = bd (val (fi 24) (fi 25) (fi 22)) (wdF (fa 16) (fi 19) sx)) from ⟨(hR 18), (hR 20), (hR 21), (hR 22), (hR 23), (by omega), (by omega), (by first | exact ⟨by omega, TS_any hT28, fv_wd1 hty hI9 (by omega) hV28 (by omega)⟩ | exact ⟨by omega, TS_no (by omega), fv_wd0 (by omega) hI9 (by omega) hV17⟩ | exact ⟨by omega, TS_no (by omega), fv_no (by omega)⟩ | (exfalso; omega))⟩), by rw [ht]; exact hP, hD⟩, hS.F ht⟩) hS.2.2 dX10_wordIs_31
      · refine lv_aload_n hx hb dX10_wordIs_27 rfl (lv_at hl 0 rfl) ?_
        refine cr_v (va_runV (As := []) (rest := []) ⟨hx, hb, hml, hown, hts⟩ (mX10_stepOn l G k ar (uF (uF fi 24 (c16)) 25 (c17)) fa fl H.size (iF (iF hR (by omega)) (by omega)) hRa (show 0 ≤ (fi 18) from by omega) (show (fi 18) ≤ (fi 19) from by omega) (show (fi 19) ≤ 600 from by omega) (show ∀ t, 0 ≤ t → t < (fi 19) → 0 ≤ (fa 16) t ∧ (fa 16) t ≤ 255 from by first | exact hT | omega)) (cwV 0 hts (gz [.methodLink RX10 241 yX10_stepOn, .instanceMethod yX10_stepOn, .selects RX10 yX10_stepOn yX10_stepOn, .initialized RX10] (.code yX10_stepOn cX10_stepOn 2 none) [(16, 21), (16, 22), (16, 23), (0, 5), (17, 0)] rfl) rfl rfl rfl (by decide +kernel) ⟨Nat.le_of_ble_eq_true rfl, Nat.le_of_ble_eq_true rfl⟩) (cr_preV (EZ_ok k) hZ hS hX hP hD hA (ci := 7) (q0 := 0) rfl rfl) rfl rfl hl.1 rfl (lv_room (Nat.le_of_ble_eq_true rfl)) dX10_wordIs_28 ⟨Nat.le_of_ble_eq_true rfl, Nat.le_of_ble_eq_true rfl⟩) hD hS hA (fun u H locs hp hP hD hS => ?_)
        obtain ⟨c19, c20, c21, c22, c23⟩ := u
        obtain ⟨hP, hD⟩ : va_P G vwCl (wM k ar (uF (uF (uF (uF (uF (uF (uF fi 18 (c19)) 20 (c20)) 21 (c21)) 22 (c22)) 23 (c23)) 24 (c16)) 25 (c17)) fa fl) H ∧ va_D A (wM k ar (uF (uF (uF (uF (uF (uF (uF fi 18 (c19)) 20 (c20)) 21 (c21)) 22 (c22)) 23 (c23)) 24 (c16)) 25 (c17)) fa fl) := ⟨hP, hD⟩
        obtain ⟨rc19, rc20, rc21, rc22, rc23, hp23⟩ : (inR c19) ∧ (inR c20) ∧ (inR c21) ∧ (inR c22) ∧ (inR c23) ∧ (((fi 18) ≤ c22 ∧ c22 ≤ c23 ∧ c23 ≤ (fi 19) ∧ c19 = c23 ∧ 0 ≤ c20 ∧ c20 ≤ 4 ∧ (¬ c20 = 0 → c22 < c23)) ∧ c22 = sk ((fa 16)) ((fi 19)) ((fi 18)) ∧ TS ((fa 16)) ((fi 19)) 0 c22 c23 c20 c21) := hp
        obtain ⟨hp23, hV28, hT28⟩ := hp23
        exact W.vret hx hb hr (fun t ht hW => ⟨⟨(c19, c20, c21, c22, c23, c16, c17), rfl, (show (inR c19) ∧ (inR c20) ∧ (inR c21) ∧ (inR c22) ∧ (inR c23) ∧ (inR c16) ∧ (inR c17) ∧ (((0 ≤ c22 ∧ c22 ≤ c23 ∧ c23 ≤ fi 19 ∧ fi 19 ≤ 600 ∧ c19 = c23 ∧ 0 ≤ c20 ∧ c20 ≤ 4 ∧ (¬ c20 = 0 → c22 < c23)) ∧ fi 22 ≤ c22 ∧ (c16 = 0 → fi 24 = 0)) ∧ TS (fa 16) (fi 19) c16 c22 c23 c20 c21 ∧ val c16 c17 c22 = bd (val (fi 24) (fi 25) (fi 22)) (wdF (fa 16) (fi 19) sx)) from ⟨(by omega), (by omega), (by omega), (by omega), (by omega), (by omega), (by omega), (by first | exact ⟨by omega, TS_any hT28, fv_wd1 hty hI9 (by omega) hV28 (by omega)⟩ | exact ⟨by omega, TS_no (by omega), fv_wd0 (by omega) hI9 (by omega) hV17⟩ | exact ⟨by omega, TS_no (by omega), fv_no (by omega)⟩ | (exfalso; omega))⟩), by rw [ht]; exact hP, hD⟩, hS.F ht⟩) hS.2.2 dX10_wordIs_31

set_option maxHeartbeats 4000000 in
set_option maxRecDepth 100000 in
theorem mX10_mark (l : Launch) (G : va_G) (k : Nat → ClassId) (ar : Nat → Nat) (fi : Nat → Int) (fa : Nat → Int → Int) (fl : Nat → Int64) (c0 : Int) (sz : Nat) (hR : ∀ j, inR (fi j)) (hRa : ∀ j t, inR (fa j t)) (hr_c0 : inR c0) (htk : 0 ≤ fi 22 ∧ fi 22 ≤ fi 23 ∧ fi 23 ≤ fi 19 ∧ fi 19 ≤ 600 ∧ fi 18 = fi 23 ∧ 0 ≤ fi 20 ∧ fi 20 ≤ 4 ∧ (¬ fi 20 = 0 → fi 22 < fi 23)) (hT : ∀ t, 0 ≤ t → t < fi 19 → 0 ≤ fa 16 t ∧ fa 16 t ≤ 255) (hty : TS (fa 16) (fi 19) (fi 24) (fi 22) (fi 23) (fi 20) (fi 21)) : CNv l G k (EZ k) yX10_mark wzX10_mark ({ frames := 2, cells := 0, slots := 0, locals := 45 }) [.ref (ar 71), .int (Int32.ofInt (c0))] sz (wM k ar fi fa fl) (fun (u : Int × Int × Int × Int × Int × Int × Int) => (inR u.1) ∧ (inR u.2.1) ∧ (inR u.2.2.1) ∧ (inR u.2.2.2.1) ∧ (inR u.2.2.2.2.1) ∧ (inR u.2.2.2.2.2.1) ∧ (inR u.2.2.2.2.2.2) ∧ (((0 ≤ u.2.2.2.1 ∧ u.2.2.2.1 ≤ u.2.2.2.2.1 ∧ u.2.2.2.2.1 ≤ fi 19 ∧ fi 19 ≤ 600 ∧ u.1 = u.2.2.2.2.1 ∧ 0 ≤ u.2.1 ∧ u.2.1 ≤ 4 ∧ (¬ u.2.1 = 0 → u.2.2.2.1 < u.2.2.2.2.1)) ∧ fi 22 ≤ u.2.2.2.1 ∧ (u.2.2.2.2.2.1 = 0 → fi 24 = 0 ∧ fi 22 < u.2.2.2.1)) ∧ TS (fa 16) (fi 19) u.2.2.2.2.2.1 u.2.2.2.1 u.2.2.2.2.1 u.2.1 u.2.2.1 ∧ val u.2.2.2.2.2.1 u.2.2.2.2.2.2 u.2.2.2.1 = bd (val (fi 24) (fi 25) (fi 22)) (mkF (fa 16) (fi 19) c0))) (fun (u : Int × Int × Int × Int × Int × Int × Int) => (wM k ar (uF (uF (uF (uF (uF (uF (uF fi 18 (u.1)) 20 (u.2.1)) 21 (u.2.2.1)) 22 (u.2.2.2.1)) 23 (u.2.2.2.2.1)) 24 (u.2.2.2.2.2.1)) 25 (u.2.2.2.2.2.2)) fa fl)) := by
  refine Met.ofW (cc := cX10_mark) (maxL := 2) (ret := none) (by decide) rfl ?_
  intro p e s m args below meth c s₁ B hml hv
  obtain ⟨rfl, hsz, hP, hX, hD0, hZ0⟩ := hv
  have hx := B.exec
  have hb := B.bytes
  have hr := B.returns
  have hts := atoms_spec (ws := wzX10_mark) B.pre
  have hown : s.vm.findClass RX10 = some m.cls := findClass_of_methodNamed B.named
  subst hsz
  have hD := hD0.self (sz := s.heap.size)
  have hZ := hZ0
  generalize hAe : va_A (wM k ar fi fa fl) s.heap.size = A at hD hZ ⊢
  have hA : ∀ q : Nat, s.heap.size ≤ q → A q := fun q h => by rw [← hAe]; exact Or.inr h
  have hS : va_S A s.heap s.heap [] := va_S.rf
  have hl := lv_entry ([.ref (ar 71), .int (Int32.ofInt (c0))]) (n := 2) (Nat.le_of_ble_eq_true rfl)
  rw [lg_entry_eq]
  generalize (lg_sl ([.ref (ar 71), .int (Int32.ofInt (c0))]) ++ List.replicate (2 - (lg_sl ([.ref (ar 71), .int (Int32.ofInt (c0))])).length) Slot.unset).toArray = ls at hl ⊢
  have hl : lv_has ls 2 [(0, .ref (ar 71)), (1, .int (Int32.ofInt (c0)))] := hl
  obtain ⟨H, eH⟩ : ∃ H, H = s.heap := ⟨_, rfl⟩
  rw [← eH] at hP
  have hS : va_S A s.heap H [] := by rw [eH]; exact hS
  have gW : s.heap = H := eH.symm
  refine iv_heap gW ?_
  have h0w := hts (.fieldLink RX10 223 "RopeTownModel" "bad" "I") (wz_at 16 11 rfl)
  have h1w : ∀ w ∈ wsX100, w ∈ wzX10_mark := fun w h => List.mem_cons_of_mem _ (inlX10 w h)
  refine lv_aload_n hx hb dX10_mark_0 rfl (lv_at hl 0 rfl) ?_
  refine va_get (D := G) (ci := 7) (v := .int (Int32.ofInt (fi 24))) (C := RX10) (T := TX10) (N := 71) (ref := RX10) hx hb hts h1w hown hX.1 hP 0 rfl rfl 24 (by decide) h0w (fun _ h9 => h9) rfl dX10_mark_1 ?_
  have rf24 := hR 24
  refine iv_if_ne (tgt := 20) hx hb (by omega) dX10_mark_4 (by decide) (fun q1 => ?_) (fun q1 => ?_)
  · refine lv_aload_n hx hb dX10_mark_20 rfl (lv_at hl 0 rfl) ?_
    refine va_get (D := G) (ci := 7) (v := .int (Int32.ofInt (fi 24))) (C := RX10) (T := TX10) (N := 71) (ref := RX10) hx hb hts h1w hown hX.1 hP 0 rfl rfl 24 (by decide) h0w (fun _ h9 => h9) rfl dX10_mark_21 ?_
    have rf24 := hR 24
    refine iv_if_ne (tgt := 31) hx hb (by omega) dX10_mark_24 (by decide) (fun q2 => ?_) (fun q2 => ?_)
    · exact W.vret hx hb hr (fun t ht hW => ⟨⟨(fi 18, fi 20, fi 21, fi 22, fi 23, fi 24, fi 25), rfl, (show (inR (fi 18)) ∧ (inR (fi 20)) ∧ (inR (fi 21)) ∧ (inR (fi 22)) ∧ (inR (fi 23)) ∧ (inR (fi 24)) ∧ (inR (fi 25)) ∧ (((0 ≤ (fi 22) ∧ (fi 22) ≤ (fi 23) ∧ (fi 23) ≤ fi 19 ∧ fi 19 ≤ 600 ∧ (fi 18) = (fi 23) ∧ 0 ≤ (fi 20) ∧ (fi 20) ≤ 4 ∧ (¬ (fi 20) = 0 → (fi 22) < (fi 23))) ∧ fi 22 ≤ (fi 22) ∧ ((fi 24) = 0 → fi 24 = 0 ∧ fi 22 < (fi 22))) ∧ TS (fa 16) (fi 19) (fi 24) (fi 22) (fi 23) (fi 20) (fi 21) ∧ val (fi 24) (fi 25) (fi 22) = bd (val (fi 24) (fi 25) (fi 22)) (mkF (fa 16) (fi 19) c0)) from ⟨(hR 18), (hR 20), (hR 21), (hR 22), (hR 23), (hR 24), (hR 25), (by first | exact ⟨by omega, TS_any hT28, fv_mk1 hty hI9 (by omega) hV28 (by omega)⟩ | exact ⟨by omega, TS_no (by omega), fv_mk0 (by omega) hI9 (by omega) hV17⟩ | exact ⟨by omega, TS_no (by omega), fv_no (by omega)⟩ | (exfalso; omega))⟩), by rw [ht]; exact hP, hD⟩, hS.F ht⟩) hS.2.2 dX10_mark_31
    · refine lv_aload_n hx hb dX10_mark_27 rfl (lv_at hl 0 rfl) ?_
      refine cr_v (va_runV (As := []) (rest := []) ⟨hx, hb, hml, hown, hts⟩ (mX10_stepOn l G k ar fi fa fl H.size hR hRa (show 0 ≤ (fi 18) from by omega) (show (fi 18) ≤ (fi 19) from by omega) (show (fi 19) ≤ 600 from by omega) (show ∀ t, 0 ≤ t → t < (fi 19) → 0 ≤ (fa 16) t ∧ (fa 16) t ≤ 255 from by first | exact hT | omega)) (cwV 0 hts (gz [.methodLink RX10 241 yX10_stepOn, .instanceMethod yX10_stepOn, .selects RX10 yX10_stepOn yX10_stepOn, .initialized RX10] (.code yX10_stepOn cX10_stepOn 2 none) [(16, 21), (16, 22), (16, 23), (0, 5), (17, 0)] rfl) rfl rfl rfl (by decide +kernel) ⟨Nat.le_of_ble_eq_true rfl, Nat.le_of_ble_eq_true rfl⟩) (cr_preV (EZ_ok k) hZ hS hX hP hD hA (ci := 7) (q0 := 0) rfl rfl) rfl rfl hl.1 rfl (lv_room (Nat.le_of_ble_eq_true rfl)) dX10_mark_28 ⟨Nat.le_of_ble_eq_true rfl, Nat.le_of_ble_eq_true rfl⟩) hD hS hA (fun u H locs hp hP hD hS => ?_)
      obtain ⟨c3, c4, c5, c6, c7⟩ := u
      obtain ⟨hP, hD⟩ : va_P G vwCl (wM k ar (uF (uF (uF (uF (uF fi 18 (c3)) 20 (c4)) 21 (c5)) 22 (c6)) 23 (c7)) fa fl) H ∧ va_D A (wM k ar (uF (uF (uF (uF (uF fi 18 (c3)) 20 (c4)) 21 (c5)) 22 (c6)) 23 (c7)) fa fl) := ⟨hP, hD⟩
      obtain ⟨rc3, rc4, rc5, rc6, rc7, hp7⟩ : (inR c3) ∧ (inR c4) ∧ (inR c5) ∧ (inR c6) ∧ (inR c7) ∧ (((fi 18) ≤ c6 ∧ c6 ≤ c7 ∧ c7 ≤ (fi 19) ∧ c3 = c7 ∧ 0 ≤ c4 ∧ c4 ≤ 4 ∧ (¬ c4 = 0 → c6 < c7)) ∧ c6 = sk ((fa 16)) ((fi 19)) ((fi 18)) ∧ TS ((fa 16)) ((fi 19)) 0 c6 c7 c4 c5) := hp
      obtain ⟨hp7, hV28, hT28⟩ := hp7
      exact W.vret hx hb hr (fun t ht hW => ⟨⟨(c3, c4, c5, c6, c7, fi 24, fi 25), rfl, (show (inR c3) ∧ (inR c4) ∧ (inR c5) ∧ (inR c6) ∧ (inR c7) ∧ (inR (fi 24)) ∧ (inR (fi 25)) ∧ (((0 ≤ c6 ∧ c6 ≤ c7 ∧ c7 ≤ fi 19 ∧ fi 19 ≤ 600 ∧ c3 = c7 ∧ 0 ≤ c4 ∧ c4 ≤ 4 ∧ (¬ c4 = 0 → c6 < c7)) ∧ fi 22 ≤ c6 ∧ ((fi 24) = 0 → fi 24 = 0 ∧ fi 22 < c6)) ∧ TS (fa 16) (fi 19) (fi 24) c6 c7 c4 c5 ∧ val (fi 24) (fi 25) c6 = bd (val (fi 24) (fi 25) (fi 22)) (mkF (fa 16) (fi 19) c0)) from ⟨(by omega), (by omega), (by omega), (by omega), (by omega), (hR 24), (hR 25), (by first | exact ⟨by omega, TS_any hT28, fv_mk1 hty hI9 (by omega) hV28 (by omega)⟩ | exact ⟨by omega, TS_no (by omega), fv_mk0 (by omega) hI9 (by omega) hV17⟩ | exact ⟨by omega, TS_no (by omega), fv_no (by omega)⟩ | (exfalso; omega))⟩), by rw [ht]; exact hP, hD⟩, hS.F ht⟩) hS.2.2 dX10_mark_31
  · refine lv_aload_n hx hb dX10_mark_7 rfl (lv_at hl 0 rfl) ?_
    refine lv_iload_n hx hb dX10_mark_8 rfl (lv_at hl 1 rfl) ?_
    refine cr_i (va_runV (As := [.int (Int32.ofInt (c0))]) (rest := []) ⟨hx, hb, hml, hown, hts⟩ (mX10_isMarked l G k ar fi fa fl c0 H.size hR hRa (by omega) (show (fi 20) = 3 → 0 ≤ (fi 22) ∧ (fi 22) < 600 from by omega) (show TS ((fa 16)) ((fi 19)) ((fi 24)) ((fi 22)) ((fi 23)) ((fi 20)) ((fi 21)) from by assumption)) (cwV 1 hts (gz [.methodLink RX10 247 yX10_isMarked, .instanceMethod yX10_isMarked, .selects RX10 yX10_isMarked yX10_isMarked, .initialized RX10] (.code yX10_isMarked cX10_isMarked 2 (some .boolean)) [(19, 23), (20, 0), (20, 1), (0, 5), (20, 2)] rfl) rfl rfl rfl (by decide +kernel) ⟨Nat.le_of_ble_eq_true rfl, Nat.le_of_ble_eq_true rfl⟩) (cr_preV (EZ_ok k) hZ hS hX hP hD hA (ci := 7) (q0 := 0) rfl rfl) rfl rfl hl.1 rfl (lv_room (Nat.le_of_ble_eq_true rfl)) dX10_mark_9 ⟨Nat.le_of_ble_eq_true rfl, Nat.le_of_ble_eq_true rfl⟩) hD hS hA (fun r u H locs hp hP hD hS => ?_)
    obtain ⟨c8, rfl⟩ : ∃ z, z = u := ⟨_, rfl⟩
    obtain ⟨h9, rc8, hp8⟩ : r = Int32.ofInt c8 ∧ (inR c8) ∧ (((c8 = 0 ∨ c8 = 1) ∧ (c8 = 1 → (fi 24) = 0 ∧ (fi 20) = 3)) ∧ Isr c8 ((fi 24)) (isM ((fa 16)) ((fi 19)) c0 ((fi 22)))) := hp
    subst h9
    obtain ⟨hp8, hI9⟩ := hp8
    refine iv_if_ne (tgt := 20) hx hb (by omega) dX10_mark_12 (by decide) (fun q9 => ?_) (fun q9 => ?_)
    · refine lv_aload_n hx hb dX10_mark_20 rfl (lv_at hl 0 rfl) ?_
      refine va_get (D := G) (ci := 7) (v := .int (Int32.ofInt (fi 24))) (C := RX10) (T := TX10) (N := 71) (ref := RX10) hx hb hts h1w hown hX.1 hP 0 rfl rfl 24 (by decide) h0w (fun _ h9 => h9) rfl dX10_mark_21 ?_
      have rf24 := hR 24
      refine iv_if_ne (tgt := 31) hx hb (by omega) dX10_mark_24 (by decide) (fun q10 => ?_) (fun q10 => ?_)
      · exact W.vret hx hb hr (fun t ht hW => ⟨⟨(fi 18, fi 20, fi 21, fi 22, fi 23, fi 24, fi 25), rfl, (show (inR (fi 18)) ∧ (inR (fi 20)) ∧ (inR (fi 21)) ∧ (inR (fi 22)) ∧ (inR (fi 23)) ∧ (inR (fi 24)) ∧ (inR (fi 25)) ∧ (((0 ≤ (fi 22) ∧ (fi 22) ≤ (fi 23) ∧ (fi 23) ≤ fi 19 ∧ fi 19 ≤ 600 ∧ (fi 18) = (fi 23) ∧ 0 ≤ (fi 20) ∧ (fi 20) ≤ 4 ∧ (¬ (fi 20) = 0 → (fi 22) < (fi 23))) ∧ fi 22 ≤ (fi 22) ∧ ((fi 24) = 0 → fi 24 = 0 ∧ fi 22 < (fi 22))) ∧ TS (fa 16) (fi 19) (fi 24) (fi 22) (fi 23) (fi 20) (fi 21) ∧ val (fi 24) (fi 25) (fi 22) = bd (val (fi 24) (fi 25) (fi 22)) (mkF (fa 16) (fi 19) c0)) from ⟨(hR 18), (hR 20), (hR 21), (hR 22), (hR 23), (hR 24), (hR 25), (by first | exact ⟨by omega, TS_any hT28, fv_mk1 hty hI9 (by omega) hV28 (by omega)⟩ | exact ⟨by omega, TS_no (by omega), fv_mk0 (by omega) hI9 (by omega) hV17⟩ | exact ⟨by omega, TS_no (by omega), fv_no (by omega)⟩ | (exfalso; omega))⟩), by rw [ht]; exact hP, hD⟩, hS.F ht⟩) hS.2.2 dX10_mark_31
      · refine lv_aload_n hx hb dX10_mark_27 rfl (lv_at hl 0 rfl) ?_
        refine cr_v (va_runV (As := []) (rest := []) ⟨hx, hb, hml, hown, hts⟩ (mX10_stepOn l G k ar fi fa fl H.size hR hRa (show 0 ≤ (fi 18) from by omega) (show (fi 18) ≤ (fi 19) from by omega) (show (fi 19) ≤ 600 from by omega) (show ∀ t, 0 ≤ t → t < (fi 19) → 0 ≤ (fa 16) t ∧ (fa 16) t ≤ 255 from by first | exact hT | omega)) (cwV 0 hts (gz [.methodLink RX10 241 yX10_stepOn, .instanceMethod yX10_stepOn, .selects RX10 yX10_stepOn yX10_stepOn, .initialized RX10] (.code yX10_stepOn cX10_stepOn 2 none) [(16, 21), (16, 22), (16, 23), (0, 5), (17, 0)] rfl) rfl rfl rfl (by decide +kernel) ⟨Nat.le_of_ble_eq_true rfl, Nat.le_of_ble_eq_true rfl⟩) (cr_preV (EZ_ok k) hZ hS hX hP hD hA (ci := 7) (q0 := 0) rfl rfl) rfl rfl hl.1 rfl (lv_room (Nat.le_of_ble_eq_true rfl)) dX10_mark_28 ⟨Nat.le_of_ble_eq_true rfl, Nat.le_of_ble_eq_true rfl⟩) hD hS hA (fun u H locs hp hP hD hS => ?_)
        obtain ⟨c11, c12, c13, c14, c15⟩ := u
        obtain ⟨hP, hD⟩ : va_P G vwCl (wM k ar (uF (uF (uF (uF (uF fi 18 (c11)) 20 (c12)) 21 (c13)) 22 (c14)) 23 (c15)) fa fl) H ∧ va_D A (wM k ar (uF (uF (uF (uF (uF fi 18 (c11)) 20 (c12)) 21 (c13)) 22 (c14)) 23 (c15)) fa fl) := ⟨hP, hD⟩
        obtain ⟨rc11, rc12, rc13, rc14, rc15, hp15⟩ : (inR c11) ∧ (inR c12) ∧ (inR c13) ∧ (inR c14) ∧ (inR c15) ∧ (((fi 18) ≤ c14 ∧ c14 ≤ c15 ∧ c15 ≤ (fi 19) ∧ c11 = c15 ∧ 0 ≤ c12 ∧ c12 ≤ 4 ∧ (¬ c12 = 0 → c14 < c15)) ∧ c14 = sk ((fa 16)) ((fi 19)) ((fi 18)) ∧ TS ((fa 16)) ((fi 19)) 0 c14 c15 c12 c13) := hp
        obtain ⟨hp15, hV28, hT28⟩ := hp15
        exact W.vret hx hb hr (fun t ht hW => ⟨⟨(c11, c12, c13, c14, c15, fi 24, fi 25), rfl, (show (inR c11) ∧ (inR c12) ∧ (inR c13) ∧ (inR c14) ∧ (inR c15) ∧ (inR (fi 24)) ∧ (inR (fi 25)) ∧ (((0 ≤ c14 ∧ c14 ≤ c15 ∧ c15 ≤ fi 19 ∧ fi 19 ≤ 600 ∧ c11 = c15 ∧ 0 ≤ c12 ∧ c12 ≤ 4 ∧ (¬ c12 = 0 → c14 < c15)) ∧ fi 22 ≤ c14 ∧ ((fi 24) = 0 → fi 24 = 0 ∧ fi 22 < c14)) ∧ TS (fa 16) (fi 19) (fi 24) c14 c15 c12 c13 ∧ val (fi 24) (fi 25) c14 = bd (val (fi 24) (fi 25) (fi 22)) (mkF (fa 16) (fi 19) c0)) from ⟨(by omega), (by omega), (by omega), (by omega), (by omega), (hR 24), (hR 25), (by first | exact ⟨by omega, TS_any hT28, fv_mk1 hty hI9 (by omega) hV28 (by omega)⟩ | exact ⟨by omega, TS_no (by omega), fv_mk0 (by omega) hI9 (by omega) hV17⟩ | exact ⟨by omega, TS_no (by omega), fv_no (by omega)⟩ | (exfalso; omega))⟩), by rw [ht]; exact hP, hD⟩, hS.F ht⟩) hS.2.2 dX10_mark_31
    · refine lv_aload_n hx hb dX10_mark_15 rfl (lv_at hl 0 rfl) ?_
      refine lv_iconst (v := Int32.ofInt 1) hx hb dX10_mark_16 (by decide +kernel) ?_
      refine cr_v (va_runV (As := [.int (Int32.ofInt (1))]) (rest := []) ⟨hx, hb, hml, hown, hts⟩ (mX10_wrong l G k ar fi fa fl 1 H.size hR hRa (by omega) (show ¬ 1 = 0 from by omega)) (cwV 1 hts (gz [.methodLink RX10 244 yX10_wrong, .instanceMethod yX10_wrong, .selects RX10 yX10_wrong yX10_wrong, .initialized RX10] (.code yX10_wrong cX10_wrong 2 none) [(18, 12), (18, 13), (18, 14), (0, 5), (18, 15)] rfl) rfl rfl rfl (by decide +kernel) ⟨Nat.le_of_ble_eq_true rfl, Nat.le_of_ble_eq_true rfl⟩) (cr_preV (EZ_ok k) hZ hS hX hP hD hA (ci := 7) (q0 := 0) rfl rfl) rfl rfl hl.1 rfl (lv_room (Nat.le_of_ble_eq_true rfl)) dX10_mark_17 ⟨Nat.le_of_ble_eq_true rfl, Nat.le_of_ble_eq_true rfl⟩) hD hS hA (fun u H locs hp hP hD hS => ?_)
      obtain ⟨c16, c17⟩ := u
      obtain ⟨hP, hD⟩ : va_P G vwCl (wM k ar (uF (uF fi 24 (c16)) 25 (c17)) fa fl) H ∧ va_D A (wM k ar (uF (uF fi 24 (c16)) 25 (c17)) fa fl) := ⟨hP, hD⟩
      obtain ⟨rc16, rc17, hp17⟩ : (inR c16) ∧ (inR c17) ∧ (((¬ (fi 24) = 0 → c16 = (fi 24)) ∧ ((fi 24) = 0 → c16 = 1)) ∧ val c16 c17 ((fi 22)) = bd (val ((fi 24)) ((fi 25)) ((fi 22))) (fun s => (1, s))) := hp
      obtain ⟨hp17, hV17⟩ := hp17
      refine lv_aload_n hx hb dX10_mark_20 rfl (lv_at hl 0 rfl) ?_
      refine va_get (D := G) (ci := 7) (v := .int (Int32.ofInt (c16))) (C := RX10) (T := TX10) (N := 71) (ref := RX10) hx hb hts h1w hown hX.1 hP 0 rfl rfl 24 (by decide) h0w (fun _ h9 => h9) rfl dX10_mark_21 ?_
      refine iv_if_ne (tgt := 31) hx hb (by omega) dX10_mark_24 (by decide) (fun q18 => ?_) (fun q18 => ?_)
      · exact W.vret hx hb hr (fun t ht hW => ⟨⟨(fi 18, fi 20, fi 21, fi 22, fi 23, c16, c17), rfl, (show (inR (fi 18)) ∧ (inR (fi 20)) ∧ (inR (fi 21)) ∧ (inR (fi 22)) ∧ (inR (fi 23)) ∧ (inR c16) ∧ (inR c17) ∧ (((0 ≤ (fi 22) ∧ (fi 22) ≤ (fi 23) ∧ (fi 23) ≤ fi 19 ∧ fi 19 ≤ 600 ∧ (fi 18) = (fi 23) ∧ 0 ≤ (fi 20) ∧ (fi 20) ≤ 4 ∧ (¬ (fi 20) = 0 → (fi 22) < (fi 23))) ∧ fi 22 ≤ (fi 22) ∧ (c16 = 0 → fi 24 = 0 ∧ fi 22 < (fi 22))) ∧ TS (fa 16) (fi 19) c16 (fi 22) (fi 23) (fi 20) (fi 21) ∧ val c16 c17 (fi 22) = bd (val (fi 24) (fi 25) (fi 22)) (mkF (fa 16) (fi 19) c0)) from ⟨(hR 18), (hR 20), (hR 21), (hR 22), (hR 23), (by omega), (by omega), (by first | exact ⟨by omega, TS_any hT28, fv_mk1 hty hI9 (by omega) hV28 (by omega)⟩ | exact ⟨by omega, TS_no (by omega), fv_mk0 (by omega) hI9 (by omega) hV17⟩ | exact ⟨by omega, TS_no (by omega), fv_no (by omega)⟩ | (exfalso; omega))⟩), by rw [ht]; exact hP, hD⟩, hS.F ht⟩) hS.2.2 dX10_mark_31
      · refine lv_aload_n hx hb dX10_mark_27 rfl (lv_at hl 0 rfl) ?_
        refine cr_v (va_runV (As := []) (rest := []) ⟨hx, hb, hml, hown, hts⟩ (mX10_stepOn l G k ar (uF (uF fi 24 (c16)) 25 (c17)) fa fl H.size (iF (iF hR (by omega)) (by omega)) hRa (show 0 ≤ (fi 18) from by omega) (show (fi 18) ≤ (fi 19) from by omega) (show (fi 19) ≤ 600 from by omega) (show ∀ t, 0 ≤ t → t < (fi 19) → 0 ≤ (fa 16) t ∧ (fa 16) t ≤ 255 from by first | exact hT | omega)) (cwV 0 hts (gz [.methodLink RX10 241 yX10_stepOn, .instanceMethod yX10_stepOn, .selects RX10 yX10_stepOn yX10_stepOn, .initialized RX10] (.code yX10_stepOn cX10_stepOn 2 none) [(16, 21), (16, 22), (16, 23), (0, 5), (17, 0)] rfl) rfl rfl rfl (by decide +kernel) ⟨Nat.le_of_ble_eq_true rfl, Nat.le_of_ble_eq_true rfl⟩) (cr_preV (EZ_ok k) hZ hS hX hP hD hA (ci := 7) (q0 := 0) rfl rfl) rfl rfl hl.1 rfl (lv_room (Nat.le_of_ble_eq_true rfl)) dX10_mark_28 ⟨Nat.le_of_ble_eq_true rfl, Nat.le_of_ble_eq_true rfl⟩) hD hS hA (fun u H locs hp hP hD hS => ?_)
        obtain ⟨c19, c20, c21, c22, c23⟩ := u
        obtain ⟨hP, hD⟩ : va_P G vwCl (wM k ar (uF (uF (uF (uF (uF (uF (uF fi 18 (c19)) 20 (c20)) 21 (c21)) 22 (c22)) 23 (c23)) 24 (c16)) 25 (c17)) fa fl) H ∧ va_D A (wM k ar (uF (uF (uF (uF (uF (uF (uF fi 18 (c19)) 20 (c20)) 21 (c21)) 22 (c22)) 23 (c23)) 24 (c16)) 25 (c17)) fa fl) := ⟨hP, hD⟩
        obtain ⟨rc19, rc20, rc21, rc22, rc23, hp23⟩ : (inR c19) ∧ (inR c20) ∧ (inR c21) ∧ (inR c22) ∧ (inR c23) ∧ (((fi 18) ≤ c22 ∧ c22 ≤ c23 ∧ c23 ≤ (fi 19) ∧ c19 = c23 ∧ 0 ≤ c20 ∧ c20 ≤ 4 ∧ (¬ c20 = 0 → c22 < c23)) ∧ c22 = sk ((fa 16)) ((fi 19)) ((fi 18)) ∧ TS ((fa 16)) ((fi 19)) 0 c22 c23 c20 c21) := hp
        obtain ⟨hp23, hV28, hT28⟩ := hp23
        exact W.vret hx hb hr (fun t ht hW => ⟨⟨(c19, c20, c21, c22, c23, c16, c17), rfl, (show (inR c19) ∧ (inR c20) ∧ (inR c21) ∧ (inR c22) ∧ (inR c23) ∧ (inR c16) ∧ (inR c17) ∧ (((0 ≤ c22 ∧ c22 ≤ c23 ∧ c23 ≤ fi 19 ∧ fi 19 ≤ 600 ∧ c19 = c23 ∧ 0 ≤ c20 ∧ c20 ≤ 4 ∧ (¬ c20 = 0 → c22 < c23)) ∧ fi 22 ≤ c22 ∧ (c16 = 0 → fi 24 = 0 ∧ fi 22 < c22)) ∧ TS (fa 16) (fi 19) c16 c22 c23 c20 c21 ∧ val c16 c17 c22 = bd (val (fi 24) (fi 25) (fi 22)) (mkF (fa 16) (fi 19) c0)) from ⟨(by omega), (by omega), (by omega), (by omega), (by omega), (by omega), (by omega), (by first | exact ⟨by omega, TS_any hT28, fv_mk1 hty hI9 (by omega) hV28 (by omega)⟩ | exact ⟨by omega, TS_no (by omega), fv_mk0 (by omega) hI9 (by omega) hV17⟩ | exact ⟨by omega, TS_no (by omega), fv_no (by omega)⟩ | (exfalso; omega))⟩), by rw [ht]; exact hP, hD⟩, hS.F ht⟩) hS.2.2 dX10_mark_31

set_option maxHeartbeats 4000000 in
set_option maxRecDepth 100000 in
theorem mX10_readNumber (l : Launch) (G : va_G) (k : Nat → ClassId) (ar : Nat → Nat) (fi : Nat → Int) (fa : Nat → Int → Int) (fl : Nat → Int64) (l0 : Int) (t0 : Int) (sz : Nat) (hR : ∀ j, inR (fi j)) (hRa : ∀ j t, inR (fa j t)) (hr_l0 : inR l0) (hr_t0 : inR t0) (htk : 0 ≤ fi 22 ∧ fi 22 ≤ fi 23 ∧ fi 23 ≤ fi 19 ∧ fi 19 ≤ 600 ∧ fi 18 = fi 23 ∧ 0 ≤ fi 20 ∧ fi 20 ≤ 4 ∧ (¬ fi 20 = 0 → fi 22 < fi 23)) (hT : ∀ t, 0 ≤ t → t < fi 19 → 0 ≤ fa 16 t ∧ fa 16 t ≤ 255) (hty : TS (fa 16) (fi 19) (fi 24) (fi 22) (fi 23) (fi 20) (fi 21)) : CNi l G k (EZ k) yX10_readNumber wzX10_readNumber ({ frames := 2, cells := 0, slots := 0, locals := 45 }) [.ref (ar 71), .int (Int32.ofInt (l0)), .int (Int32.ofInt (t0))] sz (wM k ar fi fa fl) (fun (r0 : Int32) (u : Int × Int × Int × Int × Int × Int × Int × Int) => r0 = Int32.ofInt (u.1) ∧ (inR u.1) ∧ (inR u.2.1) ∧ (inR u.2.2.1) ∧ (inR u.2.2.2.1) ∧ (inR u.2.2.2.2.1) ∧ (inR u.2.2.2.2.2.1) ∧ (inR u.2.2.2.2.2.2.1) ∧ (inR u.2.2.2.2.2.2.2) ∧ (((0 ≤ u.2.2.2.2.1 ∧ u.2.2.2.2.1 ≤ u.2.2.2.2.2.1 ∧ u.2.2.2.2.2.1 ≤ fi 19 ∧ fi 19 ≤ 600 ∧ u.2.1 = u.2.2.2.2.2.1 ∧ 0 ≤ u.2.2.1 ∧ u.2.2.1 ≤ 4 ∧ (¬ u.2.2.1 = 0 → u.2.2.2.2.1 < u.2.2.2.2.2.1)) ∧ fi 22 ≤ u.2.2.2.2.1 ∧ (u.2.2.2.2.2.2.1 = 0 → fi 24 = 0 ∧ fi 22 < u.2.2.2.2.1 ∧ l0 ≤ u.1 ∧ u.1 ≤ t0)) ∧ TS (fa 16) (fi 19) u.2.2.2.2.2.2.1 u.2.2.2.2.1 u.2.2.2.2.2.1 u.2.2.1 u.2.2.2.1 ∧ val u.2.2.2.2.2.2.1 u.2.2.2.2.2.2.2 u.2.2.2.2.1 = bd (val (fi 24) (fi 25) (fi 22)) (numF (fa 16) (fi 19) l0 t0) ∧ Nvr u.2.2.2.2.2.2.1 u.1 (dv (fa 16) (fi 22) (en (fa 16) (fi 19) (fi 22))))) (fun (u : Int × Int × Int × Int × Int × Int × Int × Int) => (wM k ar (uF (uF (uF (uF (uF (uF (uF fi 18 (u.2.1)) 20 (u.2.2.1)) 21 (u.2.2.2.1)) 22 (u.2.2.2.2.1)) 23 (u.2.2.2.2.2.1)) 24 (u.2.2.2.2.2.2.1)) 25 (u.2.2.2.2.2.2.2)) fa fl)) := by
  refine Met.ofW (cc := cX10_readNumber) (maxL := 4) (ret := (some .int)) (by decide) rfl ?_
  intro p e s m args below meth c s₁ B hml hv
  obtain ⟨rfl, hsz, hP, hX, hD0, hZ0⟩ := hv
  have hx := B.exec
  have hb := B.bytes
  have hr := B.returns
  have hts := atoms_spec (ws := wzX10_readNumber) B.pre
  have hown : s.vm.findClass RX10 = some m.cls := findClass_of_methodNamed B.named
  subst hsz
  have hD := hD0.self (sz := s.heap.size)
  have hZ := hZ0
  generalize hAe : va_A (wM k ar fi fa fl) s.heap.size = A at hD hZ ⊢
  have hA : ∀ q : Nat, s.heap.size ≤ q → A q := fun q h => by rw [← hAe]; exact Or.inr h
  have hS : va_S A s.heap s.heap [] := va_S.rf
  have hl := lv_entry ([.ref (ar 71), .int (Int32.ofInt (l0)), .int (Int32.ofInt (t0))]) (n := 4) (Nat.le_of_ble_eq_true rfl)
  rw [lg_entry_eq]
  generalize (lg_sl ([.ref (ar 71), .int (Int32.ofInt (l0)), .int (Int32.ofInt (t0))]) ++ List.replicate (4 - (lg_sl ([.ref (ar 71), .int (Int32.ofInt (l0)), .int (Int32.ofInt (t0))])).length) Slot.unset).toArray = ls at hl ⊢
  have hl : lv_has ls 4 [(0, .ref (ar 71)), (1, .int (Int32.ofInt (l0))), (2, .int (Int32.ofInt (t0)))] := hl
  obtain ⟨H, eH⟩ : ∃ H, H = s.heap := ⟨_, rfl⟩
  rw [← eH] at hP
  have hS : va_S A s.heap H [] := by rw [eH]; exact hS
  have gW : s.heap = H := eH.symm
  refine iv_heap gW ?_
  have h0w := hts (.fieldLink RX10 223 "RopeTownModel" "bad" "I") (wz_at 16 11 rfl)
  have h1w : ∀ w ∈ wsX100, w ∈ wzX10_readNumber := fun w h => List.mem_cons_of_mem _ (inlX10 w h)
  have h2w := hts (.fieldLink RX10 197 "RopeTownModel" "token" "I") (wz_at 16 15 rfl)
  have h3w := hts (.fieldLink RX10 220 "RopeTownModel" "ends" "I") (wz_at 17 8 rfl)
  have h4w := hts (.fieldLink RX10 194 "RopeTownModel" "begins" "I") (wz_at 17 1 rfl)
  have h5w := hts (.fieldLink RX10 207 "RopeTownModel" "number" "I") (wz_at 17 2 rfl)
  refine lv_aload_n hx hb dX10_readNumber_0 rfl (lv_at hl 0 rfl) ?_
  refine va_get (D := G) (ci := 7) (v := .int (Int32.ofInt (fi 24))) (C := RX10) (T := TX10) (N := 71) (ref := RX10) hx hb hts h1w hown hX.1 hP 0 rfl rfl 24 (by decide) h0w (fun _ h9 => h9) rfl dX10_readNumber_1 ?_
  have rf24 := hR 24
  refine iv_if_eq (tgt := 9) hx hb (by omega) dX10_readNumber_4 (by decide) (fun q1 => ?_) (fun q1 => ?_)
  · refine lv_aload_n hx hb dX10_readNumber_9 rfl (lv_at hl 0 rfl) ?_
    refine va_get (D := G) (ci := 7) (v := .int (Int32.ofInt (fi 20))) (C := RX10) (T := TX10) (N := 71) (ref := RX10) hx hb hts h1w hown hX.1 hP 0 rfl rfl 20 (by decide) h2w (fun _ h9 => h9) rfl dX10_readNumber_10 ?_
    have rf20 := hR 20
    refine lv_iconst (v := Int32.ofInt 2) hx hb dX10_readNumber_13 (by decide +kernel) ?_
    refine iv_icmp_eq (tgt := 25) hx hb (by omega) (by omega) dX10_readNumber_14 (by decide) (fun q2 => ?_) (fun q2 => ?_)
    · refine lv_aload_n hx hb dX10_readNumber_25 rfl (lv_at hl 0 rfl) ?_
      refine va_get (D := G) (ci := 7) (v := .int (Int32.ofInt (fi 23))) (C := RX10) (T := TX10) (N := 71) (ref := RX10) hx hb hts h1w hown hX.1 hP 0 rfl rfl 23 (by decide) h3w (fun _ h9 => h9) rfl dX10_readNumber_26 ?_
      have rf23 := hR 23
      refine lv_aload_n hx hb dX10_readNumber_29 rfl (lv_at hl 0 rfl) ?_
      refine va_get (D := G) (ci := 7) (v := .int (Int32.ofInt (fi 22))) (C := RX10) (T := TX10) (N := 71) (ref := RX10) hx hb hts h1w hown hX.1 hP 0 rfl rfl 22 (by decide) h4w (fun _ h9 => h9) rfl dX10_readNumber_30 ?_
      have rf22 := hR 22
      refine iv_sub (x := fi 23) (y := fi 22) hx hb dX10_readNumber_33 ?_
      refine lv_iconst (v := Int32.ofInt 4) hx hb dX10_readNumber_34 (by decide +kernel) ?_
      refine iv_icmp_gt (tgt := 54) hx hb (by omega) (by omega) dX10_readNumber_35 (by decide) (fun q3 => ?_) (fun q3 => ?_)
      · refine lv_aload_n hx hb dX10_readNumber_54 rfl (lv_at hl 0 rfl) ?_
        refine lv_iconst (v := Int32.ofInt 2) hx hb dX10_readNumber_55 (by decide +kernel) ?_
        refine cr_v (va_runV (As := [.int (Int32.ofInt (2))]) (rest := []) ⟨hx, hb, hml, hown, hts⟩ (mX10_wrong l G k ar fi fa fl 2 H.size hR hRa (by omega) (show ¬ 2 = 0 from by omega)) (cwV 1 hts (gz [.methodLink RX10 244 yX10_wrong, .instanceMethod yX10_wrong, .selects RX10 yX10_wrong yX10_wrong, .initialized RX10] (.code yX10_wrong cX10_wrong 2 none) [(18, 12), (18, 13), (18, 14), (0, 5), (18, 15)] rfl) rfl rfl rfl (by decide +kernel) ⟨Nat.le_of_ble_eq_true rfl, Nat.le_of_ble_eq_true rfl⟩) (cr_preV (EZ_ok k) hZ hS hX hP hD hA (ci := 7) (q0 := 0) rfl rfl) rfl rfl hl.1 rfl (lv_room (Nat.le_of_ble_eq_true rfl)) dX10_readNumber_56 ⟨Nat.le_of_ble_eq_true rfl, Nat.le_of_ble_eq_true rfl⟩) hD hS hA (fun u H locs hp hP hD hS => ?_)
        obtain ⟨c4, c5⟩ := u
        obtain ⟨hP, hD⟩ : va_P G vwCl (wM k ar (uF (uF fi 24 (c4)) 25 (c5)) fa fl) H ∧ va_D A (wM k ar (uF (uF fi 24 (c4)) 25 (c5)) fa fl) := ⟨hP, hD⟩
        obtain ⟨rc4, rc5, hp5⟩ : (inR c4) ∧ (inR c5) ∧ (((¬ (fi 24) = 0 → c4 = (fi 24)) ∧ ((fi 24) = 0 → c4 = 2)) ∧ val c4 c5 ((fi 22)) = bd (val ((fi 24)) ((fi 25)) ((fi 22))) (fun s => (2, s))) := hp
        obtain ⟨hp5, hV56⟩ := hp5
        refine lv_aload_n hx hb dX10_readNumber_59 rfl (lv_at hl 0 rfl) ?_
        refine va_get (D := G) (ci := 7) (v := .int (Int32.ofInt (fi 21))) (C := RX10) (T := TX10) (N := 71) (ref := RX10) hx hb hts h1w hown hX.1 hP 0 rfl rfl 21 (by decide) h5w (fun _ h9 => h9) rfl dX10_readNumber_60 ?_
        have rf21 := hR 21
        refine lv_istore_n (lv' := [(3, .int (Int32.ofInt (fi 21))), (0, .ref (ar 71)), (1, .int (Int32.ofInt (l0))), (2, .int (Int32.ofInt (t0)))]) hx hb dX10_readNumber_63 rfl hl (by decide) rfl (fun ls hl => ?_)
        refine lv_aload_n hx hb dX10_readNumber_64 rfl (lv_at hl 1 rfl) ?_
        refine va_get (D := G) (ci := 7) (v := .int (Int32.ofInt (c4))) (C := RX10) (T := TX10) (N := 71) (ref := RX10) hx hb hts h1w hown hX.1 hP 0 rfl rfl 24 (by decide) h0w (fun _ h9 => h9) rfl dX10_readNumber_65 ?_
        refine iv_if_ne (tgt := 75) hx hb (by omega) dX10_readNumber_68 (by decide) (fun q6 => ?_) (fun q6 => ?_)
        · refine lv_iload_n hx hb dX10_readNumber_75 rfl (lv_at hl 0 rfl) ?_
          exact W.iret (v := Int32.ofInt (fi 21)) hx hb hr (fun t ht hW => ⟨⟨Int32.ofInt (fi 21), (fi 21, fi 18, fi 20, fi 21, fi 22, fi 23, c4, c5), rfl, ⟨rfl, (show (inR (fi 21)) ∧ (inR (fi 18)) ∧ (inR (fi 20)) ∧ (inR (fi 21)) ∧ (inR (fi 22)) ∧ (inR (fi 23)) ∧ (inR c4) ∧ (inR c5) ∧ (((0 ≤ (fi 22) ∧ (fi 22) ≤ (fi 23) ∧ (fi 23) ≤ fi 19 ∧ fi 19 ≤ 600 ∧ (fi 18) = (fi 23) ∧ 0 ≤ (fi 20) ∧ (fi 20) ≤ 4 ∧ (¬ (fi 20) = 0 → (fi 22) < (fi 23))) ∧ fi 22 ≤ (fi 22) ∧ (c4 = 0 → fi 24 = 0 ∧ fi 22 < (fi 22) ∧ l0 ≤ (fi 21) ∧ (fi 21) ≤ t0)) ∧ TS (fa 16) (fi 19) c4 (fi 22) (fi 23) (fi 20) (fi 21) ∧ val c4 c5 (fi 22) = bd (val (fi 24) (fi 25) (fi 22)) (numF (fa 16) (fi 19) l0 t0) ∧ Nvr c4 (fi 21) (dv (fa 16) (fi 22) (en (fa 16) (fi 19) (fi 22)))) from ⟨(hR 21), (hR 18), (hR 20), (hR 21), (hR 22), (hR 23), (by omega), (by omega), (by first | exact ⟨by omega, TS_any hT72, (fv_num1 hty (by omega) (by omega) (by omega) (by omega) (by omega) hV72 (by omega)).1, fun _ => (fv_num1 (p := 0) (l := l0) (t := t0) hty (by omega) (by omega) (by omega) (by omega) (by omega) hV72 (by omega)).2⟩ | exact ⟨by omega, TS_no (by omega), fv_num2 hty (by omega) (by omega) (by omega) hV56, fun z => absurd z (by omega)⟩ | exact ⟨by omega, TS_no (by omega), fv_num0 hty (by omega) (by omega) hV19, fun z => absurd z (by omega)⟩ | exact ⟨by omega, TS_no (by omega), fv_no (by omega), fun z => absurd z (by omega)⟩ | (exfalso; omega))⟩)⟩, by rw [ht]; exact hP, hD⟩, hS.F ht⟩) hS.2.2 dX10_readNumber_76
        · refine lv_aload_n hx hb dX10_readNumber_71 rfl (lv_at hl 1 rfl) ?_
          refine cr_v (va_runV (As := []) (rest := []) ⟨hx, hb, hml, hown, hts⟩ (mX10_stepOn l G k ar (uF (uF fi 24 (c4)) 25 (c5)) fa fl H.size (iF (iF hR (by omega)) (by omega)) hRa (show 0 ≤ (fi 18) from by omega) (show (fi 18) ≤ (fi 19) from by omega) (show (fi 19) ≤ 600 from by omega) (show ∀ t, 0 ≤ t → t < (fi 19) → 0 ≤ (fa 16) t ∧ (fa 16) t ≤ 255 from by first | exact hT | omega)) (cwV 0 hts (gz [.methodLink RX10 241 yX10_stepOn, .instanceMethod yX10_stepOn, .selects RX10 yX10_stepOn yX10_stepOn, .initialized RX10] (.code yX10_stepOn cX10_stepOn 2 none) [(16, 21), (16, 22), (16, 23), (0, 5), (17, 0)] rfl) rfl rfl rfl (by decide +kernel) ⟨Nat.le_of_ble_eq_true rfl, Nat.le_of_ble_eq_true rfl⟩) (cr_preV (EZ_ok k) hZ hS hX hP hD hA (ci := 7) (q0 := 0) rfl rfl) rfl rfl hl.1 rfl (lv_room (Nat.le_of_ble_eq_true rfl)) dX10_readNumber_72 ⟨Nat.le_of_ble_eq_true rfl, Nat.le_of_ble_eq_true rfl⟩) hD hS hA (fun u H locs hp hP hD hS => ?_)
          obtain ⟨c7, c8, c9, c10, c11⟩ := u
          obtain ⟨hP, hD⟩ : va_P G vwCl (wM k ar (uF (uF (uF (uF (uF (uF (uF fi 18 (c7)) 20 (c8)) 21 (c9)) 22 (c10)) 23 (c11)) 24 (c4)) 25 (c5)) fa fl) H ∧ va_D A (wM k ar (uF (uF (uF (uF (uF (uF (uF fi 18 (c7)) 20 (c8)) 21 (c9)) 22 (c10)) 23 (c11)) 24 (c4)) 25 (c5)) fa fl) := ⟨hP, hD⟩
          obtain ⟨rc7, rc8, rc9, rc10, rc11, hp11⟩ : (inR c7) ∧ (inR c8) ∧ (inR c9) ∧ (inR c10) ∧ (inR c11) ∧ (((fi 18) ≤ c10 ∧ c10 ≤ c11 ∧ c11 ≤ (fi 19) ∧ c7 = c11 ∧ 0 ≤ c8 ∧ c8 ≤ 4 ∧ (¬ c8 = 0 → c10 < c11)) ∧ c10 = sk ((fa 16)) ((fi 19)) ((fi 18)) ∧ TS ((fa 16)) ((fi 19)) 0 c10 c11 c8 c9) := hp
          obtain ⟨hp11, hV72, hT72⟩ := hp11
          refine lv_iload_n hx hb dX10_readNumber_75 rfl (lv_at hl 0 rfl) ?_
          exact W.iret (v := Int32.ofInt (fi 21)) hx hb hr (fun t ht hW => ⟨⟨Int32.ofInt (fi 21), (fi 21, c7, c8, c9, c10, c11, c4, c5), rfl, ⟨rfl, (show (inR (fi 21)) ∧ (inR c7) ∧ (inR c8) ∧ (inR c9) ∧ (inR c10) ∧ (inR c11) ∧ (inR c4) ∧ (inR c5) ∧ (((0 ≤ c10 ∧ c10 ≤ c11 ∧ c11 ≤ fi 19 ∧ fi 19 ≤ 600 ∧ c7 = c11 ∧ 0 ≤ c8 ∧ c8 ≤ 4 ∧ (¬ c8 = 0 → c10 < c11)) ∧ fi 22 ≤ c10 ∧ (c4 = 0 → fi 24 = 0 ∧ fi 22 < c10 ∧ l0 ≤ (fi 21) ∧ (fi 21) ≤ t0)) ∧ TS (fa 16) (fi 19) c4 c10 c11 c8 c9 ∧ val c4 c5 c10 = bd (val (fi 24) (fi 25) (fi 22)) (numF (fa 16) (fi 19) l0 t0) ∧ Nvr c4 (fi 21) (dv (fa 16) (fi 22) (en (fa 16) (fi 19) (fi 22)))) from ⟨(hR 21), (by omega), (by omega), (by omega), (by omega), (by omega), (by omega), (by omega), (by first | exact ⟨by omega, TS_any hT72, (fv_num1 hty (by omega) (by omega) (by omega) (by omega) (by omega) hV72 (by omega)).1, fun _ => (fv_num1 (p := 0) (l := l0) (t := t0) hty (by omega) (by omega) (by omega) (by omega) (by omega) hV72 (by omega)).2⟩ | exact ⟨by omega, TS_no (by omega), fv_num2 hty (by omega) (by omega) (by omega) hV56, fun z => absurd z (by omega)⟩ | exact ⟨by omega, TS_no (by omega), fv_num0 hty (by omega) (by omega) hV19, fun z => absurd z (by omega)⟩ | exact ⟨by omega, TS_no (by omega), fv_no (by omega), fun z => absurd z (by omega)⟩ | (exfalso; omega))⟩)⟩, by rw [ht]; exact hP, hD⟩, hS.F ht⟩) hS.2.2 dX10_readNumber_76
      · refine lv_aload_n hx hb dX10_readNumber_38 rfl (lv_at hl 0 rfl) ?_
        refine va_get (D := G) (ci := 7) (v := .int (Int32.ofInt (fi 21))) (C := RX10) (T := TX10) (N := 71) (ref := RX10) hx hb hts h1w hown hX.1 hP 0 rfl rfl 21 (by decide) h5w (fun _ h9 => h9) rfl dX10_readNumber_39 ?_
        have rf21 := hR 21
        refine lv_iload_n hx hb dX10_readNumber_42 rfl (lv_at hl 1 rfl) ?_
        refine iv_icmp_lt (tgt := 54) hx hb (by omega) (by omega) dX10_readNumber_43 (by decide) (fun q12 => ?_) (fun q12 => ?_)
        · refine lv_aload_n hx hb dX10_readNumber_54 rfl (lv_at hl 0 rfl) ?_
          refine lv_iconst (v := Int32.ofInt 2) hx hb dX10_readNumber_55 (by decide +kernel) ?_
          refine cr_v (va_runV (As := [.int (Int32.ofInt (2))]) (rest := []) ⟨hx, hb, hml, hown, hts⟩ (mX10_wrong l G k ar fi fa fl 2 H.size hR hRa (by omega) (show ¬ 2 = 0 from by omega)) (cwV 1 hts (gz [.methodLink RX10 244 yX10_wrong, .instanceMethod yX10_wrong, .selects RX10 yX10_wrong yX10_wrong, .initialized RX10] (.code yX10_wrong cX10_wrong 2 none) [(18, 12), (18, 13), (18, 14), (0, 5), (18, 15)] rfl) rfl rfl rfl (by decide +kernel) ⟨Nat.le_of_ble_eq_true rfl, Nat.le_of_ble_eq_true rfl⟩) (cr_preV (EZ_ok k) hZ hS hX hP hD hA (ci := 7) (q0 := 0) rfl rfl) rfl rfl hl.1 rfl (lv_room (Nat.le_of_ble_eq_true rfl)) dX10_readNumber_56 ⟨Nat.le_of_ble_eq_true rfl, Nat.le_of_ble_eq_true rfl⟩) hD hS hA (fun u H locs hp hP hD hS => ?_)
          obtain ⟨c13, c14⟩ := u
          obtain ⟨hP, hD⟩ : va_P G vwCl (wM k ar (uF (uF fi 24 (c13)) 25 (c14)) fa fl) H ∧ va_D A (wM k ar (uF (uF fi 24 (c13)) 25 (c14)) fa fl) := ⟨hP, hD⟩
          obtain ⟨rc13, rc14, hp14⟩ : (inR c13) ∧ (inR c14) ∧ (((¬ (fi 24) = 0 → c13 = (fi 24)) ∧ ((fi 24) = 0 → c13 = 2)) ∧ val c13 c14 ((fi 22)) = bd (val ((fi 24)) ((fi 25)) ((fi 22))) (fun s => (2, s))) := hp
          obtain ⟨hp14, hV56⟩ := hp14
          refine lv_aload_n hx hb dX10_readNumber_59 rfl (lv_at hl 0 rfl) ?_
          refine va_get (D := G) (ci := 7) (v := .int (Int32.ofInt (fi 21))) (C := RX10) (T := TX10) (N := 71) (ref := RX10) hx hb hts h1w hown hX.1 hP 0 rfl rfl 21 (by decide) h5w (fun _ h9 => h9) rfl dX10_readNumber_60 ?_
          have rf21 := hR 21
          refine lv_istore_n (lv' := [(3, .int (Int32.ofInt (fi 21))), (0, .ref (ar 71)), (1, .int (Int32.ofInt (l0))), (2, .int (Int32.ofInt (t0)))]) hx hb dX10_readNumber_63 rfl hl (by decide) rfl (fun ls hl => ?_)
          refine lv_aload_n hx hb dX10_readNumber_64 rfl (lv_at hl 1 rfl) ?_
          refine va_get (D := G) (ci := 7) (v := .int (Int32.ofInt (c13))) (C := RX10) (T := TX10) (N := 71) (ref := RX10) hx hb hts h1w hown hX.1 hP 0 rfl rfl 24 (by decide) h0w (fun _ h9 => h9) rfl dX10_readNumber_65 ?_
          refine iv_if_ne (tgt := 75) hx hb (by omega) dX10_readNumber_68 (by decide) (fun q15 => ?_) (fun q15 => ?_)
          · refine lv_iload_n hx hb dX10_readNumber_75 rfl (lv_at hl 0 rfl) ?_
            exact W.iret (v := Int32.ofInt (fi 21)) hx hb hr (fun t ht hW => ⟨⟨Int32.ofInt (fi 21), (fi 21, fi 18, fi 20, fi 21, fi 22, fi 23, c13, c14), rfl, ⟨rfl, (show (inR (fi 21)) ∧ (inR (fi 18)) ∧ (inR (fi 20)) ∧ (inR (fi 21)) ∧ (inR (fi 22)) ∧ (inR (fi 23)) ∧ (inR c13) ∧ (inR c14) ∧ (((0 ≤ (fi 22) ∧ (fi 22) ≤ (fi 23) ∧ (fi 23) ≤ fi 19 ∧ fi 19 ≤ 600 ∧ (fi 18) = (fi 23) ∧ 0 ≤ (fi 20) ∧ (fi 20) ≤ 4 ∧ (¬ (fi 20) = 0 → (fi 22) < (fi 23))) ∧ fi 22 ≤ (fi 22) ∧ (c13 = 0 → fi 24 = 0 ∧ fi 22 < (fi 22) ∧ l0 ≤ (fi 21) ∧ (fi 21) ≤ t0)) ∧ TS (fa 16) (fi 19) c13 (fi 22) (fi 23) (fi 20) (fi 21) ∧ val c13 c14 (fi 22) = bd (val (fi 24) (fi 25) (fi 22)) (numF (fa 16) (fi 19) l0 t0) ∧ Nvr c13 (fi 21) (dv (fa 16) (fi 22) (en (fa 16) (fi 19) (fi 22)))) from ⟨(hR 21), (hR 18), (hR 20), (hR 21), (hR 22), (hR 23), (by omega), (by omega), (by first | exact ⟨by omega, TS_any hT72, (fv_num1 hty (by omega) (by omega) (by omega) (by omega) (by omega) hV72 (by omega)).1, fun _ => (fv_num1 (p := 0) (l := l0) (t := t0) hty (by omega) (by omega) (by omega) (by omega) (by omega) hV72 (by omega)).2⟩ | exact ⟨by omega, TS_no (by omega), fv_num2 hty (by omega) (by omega) (by omega) hV56, fun z => absurd z (by omega)⟩ | exact ⟨by omega, TS_no (by omega), fv_num0 hty (by omega) (by omega) hV19, fun z => absurd z (by omega)⟩ | exact ⟨by omega, TS_no (by omega), fv_no (by omega), fun z => absurd z (by omega)⟩ | (exfalso; omega))⟩)⟩, by rw [ht]; exact hP, hD⟩, hS.F ht⟩) hS.2.2 dX10_readNumber_76
          · refine lv_aload_n hx hb dX10_readNumber_71 rfl (lv_at hl 1 rfl) ?_
            refine cr_v (va_runV (As := []) (rest := []) ⟨hx, hb, hml, hown, hts⟩ (mX10_stepOn l G k ar (uF (uF fi 24 (c13)) 25 (c14)) fa fl H.size (iF (iF hR (by omega)) (by omega)) hRa (show 0 ≤ (fi 18) from by omega) (show (fi 18) ≤ (fi 19) from by omega) (show (fi 19) ≤ 600 from by omega) (show ∀ t, 0 ≤ t → t < (fi 19) → 0 ≤ (fa 16) t ∧ (fa 16) t ≤ 255 from by first | exact hT | omega)) (cwV 0 hts (gz [.methodLink RX10 241 yX10_stepOn, .instanceMethod yX10_stepOn, .selects RX10 yX10_stepOn yX10_stepOn, .initialized RX10] (.code yX10_stepOn cX10_stepOn 2 none) [(16, 21), (16, 22), (16, 23), (0, 5), (17, 0)] rfl) rfl rfl rfl (by decide +kernel) ⟨Nat.le_of_ble_eq_true rfl, Nat.le_of_ble_eq_true rfl⟩) (cr_preV (EZ_ok k) hZ hS hX hP hD hA (ci := 7) (q0 := 0) rfl rfl) rfl rfl hl.1 rfl (lv_room (Nat.le_of_ble_eq_true rfl)) dX10_readNumber_72 ⟨Nat.le_of_ble_eq_true rfl, Nat.le_of_ble_eq_true rfl⟩) hD hS hA (fun u H locs hp hP hD hS => ?_)
            obtain ⟨c16, c17, c18, c19, c20⟩ := u
            obtain ⟨hP, hD⟩ : va_P G vwCl (wM k ar (uF (uF (uF (uF (uF (uF (uF fi 18 (c16)) 20 (c17)) 21 (c18)) 22 (c19)) 23 (c20)) 24 (c13)) 25 (c14)) fa fl) H ∧ va_D A (wM k ar (uF (uF (uF (uF (uF (uF (uF fi 18 (c16)) 20 (c17)) 21 (c18)) 22 (c19)) 23 (c20)) 24 (c13)) 25 (c14)) fa fl) := ⟨hP, hD⟩
            obtain ⟨rc16, rc17, rc18, rc19, rc20, hp20⟩ : (inR c16) ∧ (inR c17) ∧ (inR c18) ∧ (inR c19) ∧ (inR c20) ∧ (((fi 18) ≤ c19 ∧ c19 ≤ c20 ∧ c20 ≤ (fi 19) ∧ c16 = c20 ∧ 0 ≤ c17 ∧ c17 ≤ 4 ∧ (¬ c17 = 0 → c19 < c20)) ∧ c19 = sk ((fa 16)) ((fi 19)) ((fi 18)) ∧ TS ((fa 16)) ((fi 19)) 0 c19 c20 c17 c18) := hp
            obtain ⟨hp20, hV72, hT72⟩ := hp20
            refine lv_iload_n hx hb dX10_readNumber_75 rfl (lv_at hl 0 rfl) ?_
            exact W.iret (v := Int32.ofInt (fi 21)) hx hb hr (fun t ht hW => ⟨⟨Int32.ofInt (fi 21), (fi 21, c16, c17, c18, c19, c20, c13, c14), rfl, ⟨rfl, (show (inR (fi 21)) ∧ (inR c16) ∧ (inR c17) ∧ (inR c18) ∧ (inR c19) ∧ (inR c20) ∧ (inR c13) ∧ (inR c14) ∧ (((0 ≤ c19 ∧ c19 ≤ c20 ∧ c20 ≤ fi 19 ∧ fi 19 ≤ 600 ∧ c16 = c20 ∧ 0 ≤ c17 ∧ c17 ≤ 4 ∧ (¬ c17 = 0 → c19 < c20)) ∧ fi 22 ≤ c19 ∧ (c13 = 0 → fi 24 = 0 ∧ fi 22 < c19 ∧ l0 ≤ (fi 21) ∧ (fi 21) ≤ t0)) ∧ TS (fa 16) (fi 19) c13 c19 c20 c17 c18 ∧ val c13 c14 c19 = bd (val (fi 24) (fi 25) (fi 22)) (numF (fa 16) (fi 19) l0 t0) ∧ Nvr c13 (fi 21) (dv (fa 16) (fi 22) (en (fa 16) (fi 19) (fi 22)))) from ⟨(hR 21), (by omega), (by omega), (by omega), (by omega), (by omega), (by omega), (by omega), (by first | exact ⟨by omega, TS_any hT72, (fv_num1 hty (by omega) (by omega) (by omega) (by omega) (by omega) hV72 (by omega)).1, fun _ => (fv_num1 (p := 0) (l := l0) (t := t0) hty (by omega) (by omega) (by omega) (by omega) (by omega) hV72 (by omega)).2⟩ | exact ⟨by omega, TS_no (by omega), fv_num2 hty (by omega) (by omega) (by omega) hV56, fun z => absurd z (by omega)⟩ | exact ⟨by omega, TS_no (by omega), fv_num0 hty (by omega) (by omega) hV19, fun z => absurd z (by omega)⟩ | exact ⟨by omega, TS_no (by omega), fv_no (by omega), fun z => absurd z (by omega)⟩ | (exfalso; omega))⟩)⟩, by rw [ht]; exact hP, hD⟩, hS.F ht⟩) hS.2.2 dX10_readNumber_76
        · refine lv_aload_n hx hb dX10_readNumber_46 rfl (lv_at hl 0 rfl) ?_
          refine va_get (D := G) (ci := 7) (v := .int (Int32.ofInt (fi 21))) (C := RX10) (T := TX10) (N := 71) (ref := RX10) hx hb hts h1w hown hX.1 hP 0 rfl rfl 21 (by decide) h5w (fun _ h9 => h9) rfl dX10_readNumber_47 ?_
          have rf21 := hR 21
          refine lv_iload_n hx hb dX10_readNumber_50 rfl (lv_at hl 2 rfl) ?_
          refine iv_icmp_le (tgt := 59) hx hb (by omega) (by omega) dX10_readNumber_51 (by decide) (fun q21 => ?_) (fun q21 => ?_)
          · refine lv_aload_n hx hb dX10_readNumber_59 rfl (lv_at hl 0 rfl) ?_
            refine va_get (D := G) (ci := 7) (v := .int (Int32.ofInt (fi 21))) (C := RX10) (T := TX10) (N := 71) (ref := RX10) hx hb hts h1w hown hX.1 hP 0 rfl rfl 21 (by decide) h5w (fun _ h9 => h9) rfl dX10_readNumber_60 ?_
            have rf21 := hR 21
            refine lv_istore_n (lv' := [(3, .int (Int32.ofInt (fi 21))), (0, .ref (ar 71)), (1, .int (Int32.ofInt (l0))), (2, .int (Int32.ofInt (t0)))]) hx hb dX10_readNumber_63 rfl hl (by decide) rfl (fun ls hl => ?_)
            refine lv_aload_n hx hb dX10_readNumber_64 rfl (lv_at hl 1 rfl) ?_
            refine va_get (D := G) (ci := 7) (v := .int (Int32.ofInt (fi 24))) (C := RX10) (T := TX10) (N := 71) (ref := RX10) hx hb hts h1w hown hX.1 hP 0 rfl rfl 24 (by decide) h0w (fun _ h9 => h9) rfl dX10_readNumber_65 ?_
            have rf24 := hR 24
            refine iv_if_ne (tgt := 75) hx hb (by omega) dX10_readNumber_68 (by decide) (fun q22 => ?_) (fun q22 => ?_)
            · refine lv_iload_n hx hb dX10_readNumber_75 rfl (lv_at hl 0 rfl) ?_
              exact W.iret (v := Int32.ofInt (fi 21)) hx hb hr (fun t ht hW => ⟨⟨Int32.ofInt (fi 21), (fi 21, fi 18, fi 20, fi 21, fi 22, fi 23, fi 24, fi 25), rfl, ⟨rfl, (show (inR (fi 21)) ∧ (inR (fi 18)) ∧ (inR (fi 20)) ∧ (inR (fi 21)) ∧ (inR (fi 22)) ∧ (inR (fi 23)) ∧ (inR (fi 24)) ∧ (inR (fi 25)) ∧ (((0 ≤ (fi 22) ∧ (fi 22) ≤ (fi 23) ∧ (fi 23) ≤ fi 19 ∧ fi 19 ≤ 600 ∧ (fi 18) = (fi 23) ∧ 0 ≤ (fi 20) ∧ (fi 20) ≤ 4 ∧ (¬ (fi 20) = 0 → (fi 22) < (fi 23))) ∧ fi 22 ≤ (fi 22) ∧ ((fi 24) = 0 → fi 24 = 0 ∧ fi 22 < (fi 22) ∧ l0 ≤ (fi 21) ∧ (fi 21) ≤ t0)) ∧ TS (fa 16) (fi 19) (fi 24) (fi 22) (fi 23) (fi 20) (fi 21) ∧ val (fi 24) (fi 25) (fi 22) = bd (val (fi 24) (fi 25) (fi 22)) (numF (fa 16) (fi 19) l0 t0) ∧ Nvr (fi 24) (fi 21) (dv (fa 16) (fi 22) (en (fa 16) (fi 19) (fi 22)))) from ⟨(hR 21), (hR 18), (hR 20), (hR 21), (hR 22), (hR 23), (hR 24), (hR 25), (by first | exact ⟨by omega, TS_any hT72, (fv_num1 hty (by omega) (by omega) (by omega) (by omega) (by omega) hV72 (by omega)).1, fun _ => (fv_num1 (p := 0) (l := l0) (t := t0) hty (by omega) (by omega) (by omega) (by omega) (by omega) hV72 (by omega)).2⟩ | exact ⟨by omega, TS_no (by omega), fv_num2 hty (by omega) (by omega) (by omega) hV56, fun z => absurd z (by omega)⟩ | exact ⟨by omega, TS_no (by omega), fv_num0 hty (by omega) (by omega) hV19, fun z => absurd z (by omega)⟩ | exact ⟨by omega, TS_no (by omega), fv_no (by omega), fun z => absurd z (by omega)⟩ | (exfalso; omega))⟩)⟩, by rw [ht]; exact hP, hD⟩, hS.F ht⟩) hS.2.2 dX10_readNumber_76
            · refine lv_aload_n hx hb dX10_readNumber_71 rfl (lv_at hl 1 rfl) ?_
              refine cr_v (va_runV (As := []) (rest := []) ⟨hx, hb, hml, hown, hts⟩ (mX10_stepOn l G k ar fi fa fl H.size hR hRa (show 0 ≤ (fi 18) from by omega) (show (fi 18) ≤ (fi 19) from by omega) (show (fi 19) ≤ 600 from by omega) (show ∀ t, 0 ≤ t → t < (fi 19) → 0 ≤ (fa 16) t ∧ (fa 16) t ≤ 255 from by first | exact hT | omega)) (cwV 0 hts (gz [.methodLink RX10 241 yX10_stepOn, .instanceMethod yX10_stepOn, .selects RX10 yX10_stepOn yX10_stepOn, .initialized RX10] (.code yX10_stepOn cX10_stepOn 2 none) [(16, 21), (16, 22), (16, 23), (0, 5), (17, 0)] rfl) rfl rfl rfl (by decide +kernel) ⟨Nat.le_of_ble_eq_true rfl, Nat.le_of_ble_eq_true rfl⟩) (cr_preV (EZ_ok k) hZ hS hX hP hD hA (ci := 7) (q0 := 0) rfl rfl) rfl rfl hl.1 rfl (lv_room (Nat.le_of_ble_eq_true rfl)) dX10_readNumber_72 ⟨Nat.le_of_ble_eq_true rfl, Nat.le_of_ble_eq_true rfl⟩) hD hS hA (fun u H locs hp hP hD hS => ?_)
              obtain ⟨c23, c24, c25, c26, c27⟩ := u
              obtain ⟨hP, hD⟩ : va_P G vwCl (wM k ar (uF (uF (uF (uF (uF fi 18 (c23)) 20 (c24)) 21 (c25)) 22 (c26)) 23 (c27)) fa fl) H ∧ va_D A (wM k ar (uF (uF (uF (uF (uF fi 18 (c23)) 20 (c24)) 21 (c25)) 22 (c26)) 23 (c27)) fa fl) := ⟨hP, hD⟩
              obtain ⟨rc23, rc24, rc25, rc26, rc27, hp27⟩ : (inR c23) ∧ (inR c24) ∧ (inR c25) ∧ (inR c26) ∧ (inR c27) ∧ (((fi 18) ≤ c26 ∧ c26 ≤ c27 ∧ c27 ≤ (fi 19) ∧ c23 = c27 ∧ 0 ≤ c24 ∧ c24 ≤ 4 ∧ (¬ c24 = 0 → c26 < c27)) ∧ c26 = sk ((fa 16)) ((fi 19)) ((fi 18)) ∧ TS ((fa 16)) ((fi 19)) 0 c26 c27 c24 c25) := hp
              obtain ⟨hp27, hV72, hT72⟩ := hp27
              refine lv_iload_n hx hb dX10_readNumber_75 rfl (lv_at hl 0 rfl) ?_
              exact W.iret (v := Int32.ofInt (fi 21)) hx hb hr (fun t ht hW => ⟨⟨Int32.ofInt (fi 21), (fi 21, c23, c24, c25, c26, c27, fi 24, fi 25), rfl, ⟨rfl, (show (inR (fi 21)) ∧ (inR c23) ∧ (inR c24) ∧ (inR c25) ∧ (inR c26) ∧ (inR c27) ∧ (inR (fi 24)) ∧ (inR (fi 25)) ∧ (((0 ≤ c26 ∧ c26 ≤ c27 ∧ c27 ≤ fi 19 ∧ fi 19 ≤ 600 ∧ c23 = c27 ∧ 0 ≤ c24 ∧ c24 ≤ 4 ∧ (¬ c24 = 0 → c26 < c27)) ∧ fi 22 ≤ c26 ∧ ((fi 24) = 0 → fi 24 = 0 ∧ fi 22 < c26 ∧ l0 ≤ (fi 21) ∧ (fi 21) ≤ t0)) ∧ TS (fa 16) (fi 19) (fi 24) c26 c27 c24 c25 ∧ val (fi 24) (fi 25) c26 = bd (val (fi 24) (fi 25) (fi 22)) (numF (fa 16) (fi 19) l0 t0) ∧ Nvr (fi 24) (fi 21) (dv (fa 16) (fi 22) (en (fa 16) (fi 19) (fi 22)))) from ⟨(hR 21), (by omega), (by omega), (by omega), (by omega), (by omega), (hR 24), (hR 25), (by first | exact ⟨by omega, TS_any hT72, (fv_num1 hty (by omega) (by omega) (by omega) (by omega) (by omega) hV72 (by omega)).1, fun _ => (fv_num1 (p := 0) (l := l0) (t := t0) hty (by omega) (by omega) (by omega) (by omega) (by omega) hV72 (by omega)).2⟩ | exact ⟨by omega, TS_no (by omega), fv_num2 hty (by omega) (by omega) (by omega) hV56, fun z => absurd z (by omega)⟩ | exact ⟨by omega, TS_no (by omega), fv_num0 hty (by omega) (by omega) hV19, fun z => absurd z (by omega)⟩ | exact ⟨by omega, TS_no (by omega), fv_no (by omega), fun z => absurd z (by omega)⟩ | (exfalso; omega))⟩)⟩, by rw [ht]; exact hP, hD⟩, hS.F ht⟩) hS.2.2 dX10_readNumber_76
          · refine lv_aload_n hx hb dX10_readNumber_54 rfl (lv_at hl 0 rfl) ?_
            refine lv_iconst (v := Int32.ofInt 2) hx hb dX10_readNumber_55 (by decide +kernel) ?_
            refine cr_v (va_runV (As := [.int (Int32.ofInt (2))]) (rest := []) ⟨hx, hb, hml, hown, hts⟩ (mX10_wrong l G k ar fi fa fl 2 H.size hR hRa (by omega) (show ¬ 2 = 0 from by omega)) (cwV 1 hts (gz [.methodLink RX10 244 yX10_wrong, .instanceMethod yX10_wrong, .selects RX10 yX10_wrong yX10_wrong, .initialized RX10] (.code yX10_wrong cX10_wrong 2 none) [(18, 12), (18, 13), (18, 14), (0, 5), (18, 15)] rfl) rfl rfl rfl (by decide +kernel) ⟨Nat.le_of_ble_eq_true rfl, Nat.le_of_ble_eq_true rfl⟩) (cr_preV (EZ_ok k) hZ hS hX hP hD hA (ci := 7) (q0 := 0) rfl rfl) rfl rfl hl.1 rfl (lv_room (Nat.le_of_ble_eq_true rfl)) dX10_readNumber_56 ⟨Nat.le_of_ble_eq_true rfl, Nat.le_of_ble_eq_true rfl⟩) hD hS hA (fun u H locs hp hP hD hS => ?_)
            obtain ⟨c28, c29⟩ := u
            obtain ⟨hP, hD⟩ : va_P G vwCl (wM k ar (uF (uF fi 24 (c28)) 25 (c29)) fa fl) H ∧ va_D A (wM k ar (uF (uF fi 24 (c28)) 25 (c29)) fa fl) := ⟨hP, hD⟩
            obtain ⟨rc28, rc29, hp29⟩ : (inR c28) ∧ (inR c29) ∧ (((¬ (fi 24) = 0 → c28 = (fi 24)) ∧ ((fi 24) = 0 → c28 = 2)) ∧ val c28 c29 ((fi 22)) = bd (val ((fi 24)) ((fi 25)) ((fi 22))) (fun s => (2, s))) := hp
            obtain ⟨hp29, hV56⟩ := hp29
            refine lv_aload_n hx hb dX10_readNumber_59 rfl (lv_at hl 0 rfl) ?_
            refine va_get (D := G) (ci := 7) (v := .int (Int32.ofInt (fi 21))) (C := RX10) (T := TX10) (N := 71) (ref := RX10) hx hb hts h1w hown hX.1 hP 0 rfl rfl 21 (by decide) h5w (fun _ h9 => h9) rfl dX10_readNumber_60 ?_
            have rf21 := hR 21
            refine lv_istore_n (lv' := [(3, .int (Int32.ofInt (fi 21))), (0, .ref (ar 71)), (1, .int (Int32.ofInt (l0))), (2, .int (Int32.ofInt (t0)))]) hx hb dX10_readNumber_63 rfl hl (by decide) rfl (fun ls hl => ?_)
            refine lv_aload_n hx hb dX10_readNumber_64 rfl (lv_at hl 1 rfl) ?_
            refine va_get (D := G) (ci := 7) (v := .int (Int32.ofInt (c28))) (C := RX10) (T := TX10) (N := 71) (ref := RX10) hx hb hts h1w hown hX.1 hP 0 rfl rfl 24 (by decide) h0w (fun _ h9 => h9) rfl dX10_readNumber_65 ?_
            refine iv_if_ne (tgt := 75) hx hb (by omega) dX10_readNumber_68 (by decide) (fun q30 => ?_) (fun q30 => ?_)
            · refine lv_iload_n hx hb dX10_readNumber_75 rfl (lv_at hl 0 rfl) ?_
              exact W.iret (v := Int32.ofInt (fi 21)) hx hb hr (fun t ht hW => ⟨⟨Int32.ofInt (fi 21), (fi 21, fi 18, fi 20, fi 21, fi 22, fi 23, c28, c29), rfl, ⟨rfl, (show (inR (fi 21)) ∧ (inR (fi 18)) ∧ (inR (fi 20)) ∧ (inR (fi 21)) ∧ (inR (fi 22)) ∧ (inR (fi 23)) ∧ (inR c28) ∧ (inR c29) ∧ (((0 ≤ (fi 22) ∧ (fi 22) ≤ (fi 23) ∧ (fi 23) ≤ fi 19 ∧ fi 19 ≤ 600 ∧ (fi 18) = (fi 23) ∧ 0 ≤ (fi 20) ∧ (fi 20) ≤ 4 ∧ (¬ (fi 20) = 0 → (fi 22) < (fi 23))) ∧ fi 22 ≤ (fi 22) ∧ (c28 = 0 → fi 24 = 0 ∧ fi 22 < (fi 22) ∧ l0 ≤ (fi 21) ∧ (fi 21) ≤ t0)) ∧ TS (fa 16) (fi 19) c28 (fi 22) (fi 23) (fi 20) (fi 21) ∧ val c28 c29 (fi 22) = bd (val (fi 24) (fi 25) (fi 22)) (numF (fa 16) (fi 19) l0 t0) ∧ Nvr c28 (fi 21) (dv (fa 16) (fi 22) (en (fa 16) (fi 19) (fi 22)))) from ⟨(hR 21), (hR 18), (hR 20), (hR 21), (hR 22), (hR 23), (by omega), (by omega), (by first | exact ⟨by omega, TS_any hT72, (fv_num1 hty (by omega) (by omega) (by omega) (by omega) (by omega) hV72 (by omega)).1, fun _ => (fv_num1 (p := 0) (l := l0) (t := t0) hty (by omega) (by omega) (by omega) (by omega) (by omega) hV72 (by omega)).2⟩ | exact ⟨by omega, TS_no (by omega), fv_num2 hty (by omega) (by omega) (by omega) hV56, fun z => absurd z (by omega)⟩ | exact ⟨by omega, TS_no (by omega), fv_num0 hty (by omega) (by omega) hV19, fun z => absurd z (by omega)⟩ | exact ⟨by omega, TS_no (by omega), fv_no (by omega), fun z => absurd z (by omega)⟩ | (exfalso; omega))⟩)⟩, by rw [ht]; exact hP, hD⟩, hS.F ht⟩) hS.2.2 dX10_readNumber_76
            · refine lv_aload_n hx hb dX10_readNumber_71 rfl (lv_at hl 1 rfl) ?_
              refine cr_v (va_runV (As := []) (rest := []) ⟨hx, hb, hml, hown, hts⟩ (mX10_stepOn l G k ar (uF (uF fi 24 (c28)) 25 (c29)) fa fl H.size (iF (iF hR (by omega)) (by omega)) hRa (show 0 ≤ (fi 18) from by omega) (show (fi 18) ≤ (fi 19) from by omega) (show (fi 19) ≤ 600 from by omega) (show ∀ t, 0 ≤ t → t < (fi 19) → 0 ≤ (fa 16) t ∧ (fa 16) t ≤ 255 from by first | exact hT | omega)) (cwV 0 hts (gz [.methodLink RX10 241 yX10_stepOn, .instanceMethod yX10_stepOn, .selects RX10 yX10_stepOn yX10_stepOn, .initialized RX10] (.code yX10_stepOn cX10_stepOn 2 none) [(16, 21), (16, 22), (16, 23), (0, 5), (17, 0)] rfl) rfl rfl rfl (by decide +kernel) ⟨Nat.le_of_ble_eq_true rfl, Nat.le_of_ble_eq_true rfl⟩) (cr_preV (EZ_ok k) hZ hS hX hP hD hA (ci := 7) (q0 := 0) rfl rfl) rfl rfl hl.1 rfl (lv_room (Nat.le_of_ble_eq_true rfl)) dX10_readNumber_72 ⟨Nat.le_of_ble_eq_true rfl, Nat.le_of_ble_eq_true rfl⟩) hD hS hA (fun u H locs hp hP hD hS => ?_)
              obtain ⟨c31, c32, c33, c34, c35⟩ := u
              obtain ⟨hP, hD⟩ : va_P G vwCl (wM k ar (uF (uF (uF (uF (uF (uF (uF fi 18 (c31)) 20 (c32)) 21 (c33)) 22 (c34)) 23 (c35)) 24 (c28)) 25 (c29)) fa fl) H ∧ va_D A (wM k ar (uF (uF (uF (uF (uF (uF (uF fi 18 (c31)) 20 (c32)) 21 (c33)) 22 (c34)) 23 (c35)) 24 (c28)) 25 (c29)) fa fl) := ⟨hP, hD⟩
              obtain ⟨rc31, rc32, rc33, rc34, rc35, hp35⟩ : (inR c31) ∧ (inR c32) ∧ (inR c33) ∧ (inR c34) ∧ (inR c35) ∧ (((fi 18) ≤ c34 ∧ c34 ≤ c35 ∧ c35 ≤ (fi 19) ∧ c31 = c35 ∧ 0 ≤ c32 ∧ c32 ≤ 4 ∧ (¬ c32 = 0 → c34 < c35)) ∧ c34 = sk ((fa 16)) ((fi 19)) ((fi 18)) ∧ TS ((fa 16)) ((fi 19)) 0 c34 c35 c32 c33) := hp
              obtain ⟨hp35, hV72, hT72⟩ := hp35
              refine lv_iload_n hx hb dX10_readNumber_75 rfl (lv_at hl 0 rfl) ?_
              exact W.iret (v := Int32.ofInt (fi 21)) hx hb hr (fun t ht hW => ⟨⟨Int32.ofInt (fi 21), (fi 21, c31, c32, c33, c34, c35, c28, c29), rfl, ⟨rfl, (show (inR (fi 21)) ∧ (inR c31) ∧ (inR c32) ∧ (inR c33) ∧ (inR c34) ∧ (inR c35) ∧ (inR c28) ∧ (inR c29) ∧ (((0 ≤ c34 ∧ c34 ≤ c35 ∧ c35 ≤ fi 19 ∧ fi 19 ≤ 600 ∧ c31 = c35 ∧ 0 ≤ c32 ∧ c32 ≤ 4 ∧ (¬ c32 = 0 → c34 < c35)) ∧ fi 22 ≤ c34 ∧ (c28 = 0 → fi 24 = 0 ∧ fi 22 < c34 ∧ l0 ≤ (fi 21) ∧ (fi 21) ≤ t0)) ∧ TS (fa 16) (fi 19) c28 c34 c35 c32 c33 ∧ val c28 c29 c34 = bd (val (fi 24) (fi 25) (fi 22)) (numF (fa 16) (fi 19) l0 t0) ∧ Nvr c28 (fi 21) (dv (fa 16) (fi 22) (en (fa 16) (fi 19) (fi 22)))) from ⟨(hR 21), (by omega), (by omega), (by omega), (by omega), (by omega), (by omega), (by omega), (by first | exact ⟨by omega, TS_any hT72, (fv_num1 hty (by omega) (by omega) (by omega) (by omega) (by omega) hV72 (by omega)).1, fun _ => (fv_num1 (p := 0) (l := l0) (t := t0) hty (by omega) (by omega) (by omega) (by omega) (by omega) hV72 (by omega)).2⟩ | exact ⟨by omega, TS_no (by omega), fv_num2 hty (by omega) (by omega) (by omega) hV56, fun z => absurd z (by omega)⟩ | exact ⟨by omega, TS_no (by omega), fv_num0 hty (by omega) (by omega) hV19, fun z => absurd z (by omega)⟩ | exact ⟨by omega, TS_no (by omega), fv_no (by omega), fun z => absurd z (by omega)⟩ | (exfalso; omega))⟩)⟩, by rw [ht]; exact hP, hD⟩, hS.F ht⟩) hS.2.2 dX10_readNumber_76
    · refine lv_aload_n hx hb dX10_readNumber_17 rfl (lv_at hl 0 rfl) ?_
      refine lv_iconst (v := Int32.ofInt 1) hx hb dX10_readNumber_18 (by decide +kernel) ?_
      refine cr_v (va_runV (As := [.int (Int32.ofInt (1))]) (rest := []) ⟨hx, hb, hml, hown, hts⟩ (mX10_wrong l G k ar fi fa fl 1 H.size hR hRa (by omega) (show ¬ 1 = 0 from by omega)) (cwV 1 hts (gz [.methodLink RX10 244 yX10_wrong, .instanceMethod yX10_wrong, .selects RX10 yX10_wrong yX10_wrong, .initialized RX10] (.code yX10_wrong cX10_wrong 2 none) [(18, 12), (18, 13), (18, 14), (0, 5), (18, 15)] rfl) rfl rfl rfl (by decide +kernel) ⟨Nat.le_of_ble_eq_true rfl, Nat.le_of_ble_eq_true rfl⟩) (cr_preV (EZ_ok k) hZ hS hX hP hD hA (ci := 7) (q0 := 0) rfl rfl) rfl rfl hl.1 rfl (lv_room (Nat.le_of_ble_eq_true rfl)) dX10_readNumber_19 ⟨Nat.le_of_ble_eq_true rfl, Nat.le_of_ble_eq_true rfl⟩) hD hS hA (fun u H locs hp hP hD hS => ?_)
      obtain ⟨c36, c37⟩ := u
      obtain ⟨hP, hD⟩ : va_P G vwCl (wM k ar (uF (uF fi 24 (c36)) 25 (c37)) fa fl) H ∧ va_D A (wM k ar (uF (uF fi 24 (c36)) 25 (c37)) fa fl) := ⟨hP, hD⟩
      obtain ⟨rc36, rc37, hp37⟩ : (inR c36) ∧ (inR c37) ∧ (((¬ (fi 24) = 0 → c36 = (fi 24)) ∧ ((fi 24) = 0 → c36 = 1)) ∧ val c36 c37 ((fi 22)) = bd (val ((fi 24)) ((fi 25)) ((fi 22))) (fun s => (1, s))) := hp
      obtain ⟨hp37, hV19⟩ := hp37
      refine lv_goto (tgt := 59) hx hb dX10_readNumber_22 (by decide) ?_
      refine lv_aload_n hx hb dX10_readNumber_59 rfl (lv_at hl 0 rfl) ?_
      refine va_get (D := G) (ci := 7) (v := .int (Int32.ofInt (fi 21))) (C := RX10) (T := TX10) (N := 71) (ref := RX10) hx hb hts h1w hown hX.1 hP 0 rfl rfl 21 (by decide) h5w (fun _ h9 => h9) rfl dX10_readNumber_60 ?_
      have rf21 := hR 21
      refine lv_istore_n (lv' := [(3, .int (Int32.ofInt (fi 21))), (0, .ref (ar 71)), (1, .int (Int32.ofInt (l0))), (2, .int (Int32.ofInt (t0)))]) hx hb dX10_readNumber_63 rfl hl (by decide) rfl (fun ls hl => ?_)
      refine lv_aload_n hx hb dX10_readNumber_64 rfl (lv_at hl 1 rfl) ?_
      refine va_get (D := G) (ci := 7) (v := .int (Int32.ofInt (c36))) (C := RX10) (T := TX10) (N := 71) (ref := RX10) hx hb hts h1w hown hX.1 hP 0 rfl rfl 24 (by decide) h0w (fun _ h9 => h9) rfl dX10_readNumber_65 ?_
      refine iv_if_ne (tgt := 75) hx hb (by omega) dX10_readNumber_68 (by decide) (fun q38 => ?_) (fun q38 => ?_)
      · refine lv_iload_n hx hb dX10_readNumber_75 rfl (lv_at hl 0 rfl) ?_
        exact W.iret (v := Int32.ofInt (fi 21)) hx hb hr (fun t ht hW => ⟨⟨Int32.ofInt (fi 21), (fi 21, fi 18, fi 20, fi 21, fi 22, fi 23, c36, c37), rfl, ⟨rfl, (show (inR (fi 21)) ∧ (inR (fi 18)) ∧ (inR (fi 20)) ∧ (inR (fi 21)) ∧ (inR (fi 22)) ∧ (inR (fi 23)) ∧ (inR c36) ∧ (inR c37) ∧ (((0 ≤ (fi 22) ∧ (fi 22) ≤ (fi 23) ∧ (fi 23) ≤ fi 19 ∧ fi 19 ≤ 600 ∧ (fi 18) = (fi 23) ∧ 0 ≤ (fi 20) ∧ (fi 20) ≤ 4 ∧ (¬ (fi 20) = 0 → (fi 22) < (fi 23))) ∧ fi 22 ≤ (fi 22) ∧ (c36 = 0 → fi 24 = 0 ∧ fi 22 < (fi 22) ∧ l0 ≤ (fi 21) ∧ (fi 21) ≤ t0)) ∧ TS (fa 16) (fi 19) c36 (fi 22) (fi 23) (fi 20) (fi 21) ∧ val c36 c37 (fi 22) = bd (val (fi 24) (fi 25) (fi 22)) (numF (fa 16) (fi 19) l0 t0) ∧ Nvr c36 (fi 21) (dv (fa 16) (fi 22) (en (fa 16) (fi 19) (fi 22)))) from ⟨(hR 21), (hR 18), (hR 20), (hR 21), (hR 22), (hR 23), (by omega), (by omega), (by first | exact ⟨by omega, TS_any hT72, (fv_num1 hty (by omega) (by omega) (by omega) (by omega) (by omega) hV72 (by omega)).1, fun _ => (fv_num1 (p := 0) (l := l0) (t := t0) hty (by omega) (by omega) (by omega) (by omega) (by omega) hV72 (by omega)).2⟩ | exact ⟨by omega, TS_no (by omega), fv_num2 hty (by omega) (by omega) (by omega) hV56, fun z => absurd z (by omega)⟩ | exact ⟨by omega, TS_no (by omega), fv_num0 hty (by omega) (by omega) hV19, fun z => absurd z (by omega)⟩ | exact ⟨by omega, TS_no (by omega), fv_no (by omega), fun z => absurd z (by omega)⟩ | (exfalso; omega))⟩)⟩, by rw [ht]; exact hP, hD⟩, hS.F ht⟩) hS.2.2 dX10_readNumber_76
      · refine lv_aload_n hx hb dX10_readNumber_71 rfl (lv_at hl 1 rfl) ?_
        refine cr_v (va_runV (As := []) (rest := []) ⟨hx, hb, hml, hown, hts⟩ (mX10_stepOn l G k ar (uF (uF fi 24 (c36)) 25 (c37)) fa fl H.size (iF (iF hR (by omega)) (by omega)) hRa (show 0 ≤ (fi 18) from by omega) (show (fi 18) ≤ (fi 19) from by omega) (show (fi 19) ≤ 600 from by omega) (show ∀ t, 0 ≤ t → t < (fi 19) → 0 ≤ (fa 16) t ∧ (fa 16) t ≤ 255 from by first | exact hT | omega)) (cwV 0 hts (gz [.methodLink RX10 241 yX10_stepOn, .instanceMethod yX10_stepOn, .selects RX10 yX10_stepOn yX10_stepOn, .initialized RX10] (.code yX10_stepOn cX10_stepOn 2 none) [(16, 21), (16, 22), (16, 23), (0, 5), (17, 0)] rfl) rfl rfl rfl (by decide +kernel) ⟨Nat.le_of_ble_eq_true rfl, Nat.le_of_ble_eq_true rfl⟩) (cr_preV (EZ_ok k) hZ hS hX hP hD hA (ci := 7) (q0 := 0) rfl rfl) rfl rfl hl.1 rfl (lv_room (Nat.le_of_ble_eq_true rfl)) dX10_readNumber_72 ⟨Nat.le_of_ble_eq_true rfl, Nat.le_of_ble_eq_true rfl⟩) hD hS hA (fun u H locs hp hP hD hS => ?_)
        obtain ⟨c39, c40, c41, c42, c43⟩ := u
        obtain ⟨hP, hD⟩ : va_P G vwCl (wM k ar (uF (uF (uF (uF (uF (uF (uF fi 18 (c39)) 20 (c40)) 21 (c41)) 22 (c42)) 23 (c43)) 24 (c36)) 25 (c37)) fa fl) H ∧ va_D A (wM k ar (uF (uF (uF (uF (uF (uF (uF fi 18 (c39)) 20 (c40)) 21 (c41)) 22 (c42)) 23 (c43)) 24 (c36)) 25 (c37)) fa fl) := ⟨hP, hD⟩
        obtain ⟨rc39, rc40, rc41, rc42, rc43, hp43⟩ : (inR c39) ∧ (inR c40) ∧ (inR c41) ∧ (inR c42) ∧ (inR c43) ∧ (((fi 18) ≤ c42 ∧ c42 ≤ c43 ∧ c43 ≤ (fi 19) ∧ c39 = c43 ∧ 0 ≤ c40 ∧ c40 ≤ 4 ∧ (¬ c40 = 0 → c42 < c43)) ∧ c42 = sk ((fa 16)) ((fi 19)) ((fi 18)) ∧ TS ((fa 16)) ((fi 19)) 0 c42 c43 c40 c41) := hp
        obtain ⟨hp43, hV72, hT72⟩ := hp43
        refine lv_iload_n hx hb dX10_readNumber_75 rfl (lv_at hl 0 rfl) ?_
        exact W.iret (v := Int32.ofInt (fi 21)) hx hb hr (fun t ht hW => ⟨⟨Int32.ofInt (fi 21), (fi 21, c39, c40, c41, c42, c43, c36, c37), rfl, ⟨rfl, (show (inR (fi 21)) ∧ (inR c39) ∧ (inR c40) ∧ (inR c41) ∧ (inR c42) ∧ (inR c43) ∧ (inR c36) ∧ (inR c37) ∧ (((0 ≤ c42 ∧ c42 ≤ c43 ∧ c43 ≤ fi 19 ∧ fi 19 ≤ 600 ∧ c39 = c43 ∧ 0 ≤ c40 ∧ c40 ≤ 4 ∧ (¬ c40 = 0 → c42 < c43)) ∧ fi 22 ≤ c42 ∧ (c36 = 0 → fi 24 = 0 ∧ fi 22 < c42 ∧ l0 ≤ (fi 21) ∧ (fi 21) ≤ t0)) ∧ TS (fa 16) (fi 19) c36 c42 c43 c40 c41 ∧ val c36 c37 c42 = bd (val (fi 24) (fi 25) (fi 22)) (numF (fa 16) (fi 19) l0 t0) ∧ Nvr c36 (fi 21) (dv (fa 16) (fi 22) (en (fa 16) (fi 19) (fi 22)))) from ⟨(hR 21), (by omega), (by omega), (by omega), (by omega), (by omega), (by omega), (by omega), (by first | exact ⟨by omega, TS_any hT72, (fv_num1 hty (by omega) (by omega) (by omega) (by omega) (by omega) hV72 (by omega)).1, fun _ => (fv_num1 (p := 0) (l := l0) (t := t0) hty (by omega) (by omega) (by omega) (by omega) (by omega) hV72 (by omega)).2⟩ | exact ⟨by omega, TS_no (by omega), fv_num2 hty (by omega) (by omega) (by omega) hV56, fun z => absurd z (by omega)⟩ | exact ⟨by omega, TS_no (by omega), fv_num0 hty (by omega) (by omega) hV19, fun z => absurd z (by omega)⟩ | exact ⟨by omega, TS_no (by omega), fv_no (by omega), fun z => absurd z (by omega)⟩ | (exfalso; omega))⟩)⟩, by rw [ht]; exact hP, hD⟩, hS.F ht⟩) hS.2.2 dX10_readNumber_76
  · refine lv_iconst (v := Int32.ofInt 0) hx hb dX10_readNumber_7 (by decide +kernel) ?_
    exact W.iret (v := Int32.ofInt (0)) hx hb hr (fun t ht hW => ⟨⟨Int32.ofInt (0), (0, fi 18, fi 20, fi 21, fi 22, fi 23, fi 24, fi 25), rfl, ⟨rfl, (show (inR 0) ∧ (inR (fi 18)) ∧ (inR (fi 20)) ∧ (inR (fi 21)) ∧ (inR (fi 22)) ∧ (inR (fi 23)) ∧ (inR (fi 24)) ∧ (inR (fi 25)) ∧ (((0 ≤ (fi 22) ∧ (fi 22) ≤ (fi 23) ∧ (fi 23) ≤ fi 19 ∧ fi 19 ≤ 600 ∧ (fi 18) = (fi 23) ∧ 0 ≤ (fi 20) ∧ (fi 20) ≤ 4 ∧ (¬ (fi 20) = 0 → (fi 22) < (fi 23))) ∧ fi 22 ≤ (fi 22) ∧ ((fi 24) = 0 → fi 24 = 0 ∧ fi 22 < (fi 22) ∧ l0 ≤ 0 ∧ 0 ≤ t0)) ∧ TS (fa 16) (fi 19) (fi 24) (fi 22) (fi 23) (fi 20) (fi 21) ∧ val (fi 24) (fi 25) (fi 22) = bd (val (fi 24) (fi 25) (fi 22)) (numF (fa 16) (fi 19) l0 t0) ∧ Nvr (fi 24) 0 (dv (fa 16) (fi 22) (en (fa 16) (fi 19) (fi 22)))) from ⟨(by omega), (hR 18), (hR 20), (hR 21), (hR 22), (hR 23), (hR 24), (hR 25), (by first | exact ⟨by omega, TS_any hT72, (fv_num1 hty (by omega) (by omega) (by omega) (by omega) (by omega) hV72 (by omega)).1, fun _ => (fv_num1 (p := 0) (l := l0) (t := t0) hty (by omega) (by omega) (by omega) (by omega) (by omega) hV72 (by omega)).2⟩ | exact ⟨by omega, TS_no (by omega), fv_num2 hty (by omega) (by omega) (by omega) hV56, fun z => absurd z (by omega)⟩ | exact ⟨by omega, TS_no (by omega), fv_num0 hty (by omega) (by omega) hV19, fun z => absurd z (by omega)⟩ | exact ⟨by omega, TS_no (by omega), fv_no (by omega), fun z => absurd z (by omega)⟩ | (exfalso; omega))⟩)⟩, by rw [ht]; exact hP, hD⟩, hS.F ht⟩) hS.2.2 dX10_readNumber_8
