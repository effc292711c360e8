set_option maxHeartbeats 4000000 in
set_option maxRecDepth 100000 in
theorem mX10_stepOn (l : Launch) (G : va_G) (k : Nat → ClassId) (ar : Nat → Nat) (fi : Nat → Int) (fa : Nat → Int → Int) (fl : Nat → Int64) (sz : Nat) (hR : ∀ j, inR (fi j)) (hRa : ∀ j t, inR (fa j t)) (h1 : 0 ≤ fi 18) (h2 : fi 18 ≤ fi 19) (h3 : fi 19 ≤ 600) (hT : ∀ t, 0 ≤ t → t < fi 19 → 0 ≤ fa 16 t ∧ fa 16 t ≤ 255) : CNv l G k (EZ k) yX10_stepOn wzX10_stepOn ({ frames := 1, cells := 0, slots := 0, locals := 24 }) [.ref (ar 71)] sz (wM k ar fi fa fl) (fun (u : Int × Int × Int × Int × Int) => (inR u.1) ∧ (inR u.2.1) ∧ (inR u.2.2.1) ∧ (inR u.2.2.2.1) ∧ (inR u.2.2.2.2) ∧ ((fi 18 ≤ u.2.2.2.1 ∧ u.2.2.2.1 ≤ u.2.2.2.2 ∧ u.2.2.2.2 ≤ fi 19 ∧ u.1 = u.2.2.2.2 ∧ 0 ≤ u.2.1 ∧ u.2.1 ≤ 4 ∧ (¬ u.2.1 = 0 → u.2.2.2.1 < u.2.2.2.2)) ∧ u.2.2.2.1 = sk (fa 16) (fi 19) (fi 18) ∧ TS (fa 16) (fi 19) 0 u.2.2.2.1 u.2.2.2.2 u.2.1 u.2.2.1)) (fun (u : Int × Int × Int × Int × Int) => (wM k ar (uF (uF (uF (uF (uF fi 18 (u.1)) 20 (u.2.1)) 21 (u.2.2.1)) 22 (u.2.2.2.1)) 23 (u.2.2.2.2)) fa fl)) := by
  refine Met.ofW (cc := cX10_stepOn) (maxL := 2) (ret := none) (by decide) rfl ?_
  intro p e s m args below meth c s₁ B hml hv
  obtain ⟨rfl, hsz, hP, hX, hD0, hZ0⟩ := hv
  have hx := B.exec
  have hb := B.bytes
  have hr := B.returns
  have hts := atoms_spec (ws := wzX10_stepOn) B.pre
  have hown : s.vm.findClass RX10 = some m.cls := findClass_of_methodNamed B.named
  subst hsz
  have hD := hD0.self (sz := s.heap.size)
  have hZ := hZ0
  generalize hAe : va_A (wM k ar fi fa fl) s.heap.size = A at hD hZ ⊢
  have hA : ∀ q : Nat, s.heap.size ≤ q → A q := fun q h => by rw [← hAe]; exact Or.inr h
  have hS : va_S A s.heap s.heap [] := va_S.rf
  have hl := lv_entry ([.ref (ar 71)]) (n := 2) (Nat.le_of_ble_eq_true rfl)
  rw [lg_entry_eq]
  generalize (lg_sl ([.ref (ar 71)]) ++ List.replicate (2 - (lg_sl ([.ref (ar 71)])).length) Slot.unset).toArray = ls at hl ⊢
  have hl : lv_has ls 2 [(0, .ref (ar 71))] := hl
  obtain ⟨H, eH⟩ : ∃ H, H = s.heap := ⟨_, rfl⟩
  rw [← eH] at hP
  have hS : va_S A s.heap H [] := by rw [eH]; exact hS
  have gW : s.heap = H := eH.symm
  refine iv_heap gW ?_
  have h0w := hts (.fieldLink RX10 187 "RopeTownModel" "at" "I") (wz_at 16 10 rfl)
  have h1w : ∀ w ∈ wsX100, w ∈ wzX10_stepOn := fun w h => List.mem_cons_of_mem _ (inlX10 w h)
  have h2w := hts (.fieldLink RX10 194 "RopeTownModel" "begins" "I") (wz_at 17 1 rfl)
  have h3w := hts (.fieldLink RX10 197 "RopeTownModel" "token" "I") (wz_at 16 15 rfl)
  have h4w := hts (.fieldLink RX10 220 "RopeTownModel" "ends" "I") (wz_at 17 8 rfl)
  have h5w := hts (.fieldLink RX10 207 "RopeTownModel" "number" "I") (wz_at 17 2 rfl)
  have h6w := hts (.constant RX10 210 (100000)) (wz_at 17 3 rfl)
  have h7w := hts (.methodLink RX10 211 Lib.Math.min.name) (wz_at 17 4 rfl)
  have h8w := hts (.static Lib.Math.min.name) (wz_at 17 5 rfl)
  have h9w := hts (.initialized "java/lang/Math") (wz_at 17 6 rfl)
  have h10w := hts (.code Lib.Math.min.name Lib.Math.min.code 2 (some .int)) (wz_at 17 7 rfl)
  refine iv_loop (α := Int) (nL := 2) (fun b9 => (wM k ar (uF fi 18 (b9)) fa fl)) (fun b9 => [(0, .ref (ar 71))]) (fun b9 => (fi 19 - b9).toNat) (fun b9 => inR b9 ∧ ((fi 18 ≤ b9 ∧ b9 ≤ fi 19) ∧ sk (fa 16) (fi 19) b9 = sk (fa 16) (fi 19) (fi 18))) ?_ (fi 18) (show inR (fi 18) ∧ ((fi 18 ≤ (fi 18) ∧ (fi 18) ≤ fi 19) ∧ sk (fa 16) (fi 19) (fi 18) = sk (fa 16) (fi 19) (fi 18)) from ⟨(hR 18), (by exact ⟨by omega, rfl⟩)⟩) hP hD hS hl
  intro n18_1 ih hi9 H locs ls hP hD hS hl
  obtain ⟨r_n18_1, hinv⟩ : inR n18_1 ∧ ((fi 18 ≤ n18_1 ∧ n18_1 ≤ fi 19) ∧ sk (fa 16) (fi 19) n18_1 = sk (fa 16) (fi 19) (fi 18)) := hi9
  obtain ⟨hJ1, hJ2⟩ := hinv
  obtain ⟨hP, hD⟩ : va_P G vwCl (wM k ar (uF fi 18 (n18_1)) fa fl) H ∧ va_D A (wM k ar (uF fi 18 (n18_1)) fa fl) := ⟨hP, hD⟩
  have hl : lv_has ls 2 [(0, .ref (ar 71))] := hl
  refine lv_aload_n hx hb dX10_stepOn_0 rfl (lv_at hl 0 rfl) ?_
  refine lv_aload_n hx hb dX10_stepOn_1 rfl (lv_at hl 0 rfl) ?_
  refine va_get (D := G) (ci := 7) (v := .int (Int32.ofInt (n18_1))) (C := RX10) (T := TX10) (N := 71) (ref := RX10) hx hb hts h1w hown hX.1 hP 0 rfl rfl 18 (by decide) h0w (fun _ h9 => h9) rfl dX10_stepOn_2 ?_
  refine cr_i (va_runV (As := [.int (Int32.ofInt (n18_1))]) (rest := []) ⟨hx, hb, hml, hown, hts⟩ (mX10_byteAt l G k ar (uF fi 18 (n18_1)) fa fl n18_1 H.size (iF hR (by omega)) hRa (by omega) (show 0 ≤ n18_1 from by omega) (show (fi 19) ≤ 600 from by omega)) (cwV 1 hts (gz [.methodLink RX10 190 yX10_byteAt, .instanceMethod yX10_byteAt, .selects RX10 yX10_byteAt yX10_byteAt, .initialized RX10] (.code yX10_byteAt cX10_byteAt 2 (some .int)) [(17, 9), (17, 10), (17, 11), (0, 5), (17, 12)] rfl) rfl rfl rfl (by decide +kernel) ⟨Nat.le_of_ble_eq_true rfl, Nat.le_of_ble_eq_true rfl⟩) (cr_preV (EZ_ok k) hZ hS hX hP hD hA (ci := 7) (q0 := 0) rfl rfl) rfl rfl hl.1 rfl (lv_room (Nat.le_of_ble_eq_true rfl)) dX10_stepOn_5 ⟨Nat.le_of_ble_eq_true rfl, Nat.le_of_ble_eq_true rfl⟩) hD hS hA (fun r u H locs hp hP hD hS => ?_)
  obtain ⟨c2, rfl⟩ : ∃ z, z = u := ⟨_, rfl⟩
  obtain ⟨h9, rc2, hp2⟩ : r = Int32.ofInt c2 ∧ (inR c2) ∧ ((n18_1 < (fi 19) ∧ c2 = (fa 16) n18_1) ∨ ((fi 19) ≤ n18_1 ∧ c2 = -1)) := hp
  subst h9
  refine lv_bipush (v := Int32.ofInt 32) hx hb dX10_stepOn_8 (by decide +kernel) ?_
  refine iv_icmp_eq (tgt := 26) hx hb (by omega) (by omega) dX10_stepOn_10 (by decide) (fun q3 => ?_) (fun q3 => ?_)
  · refine lv_aload_n hx hb dX10_stepOn_26 rfl (lv_at hl 0 rfl) ?_
    refine lv_dup hx hb dX10_stepOn_27 rfl ?_
    refine va_get (D := G) (ci := 7) (v := .int (Int32.ofInt (n18_1))) (C := RX10) (T := TX10) (N := 71) (ref := RX10) hx hb hts h1w hown hX.1 hP 0 rfl rfl 18 (by decide) h0w (fun _ h9 => h9) rfl dX10_stepOn_28 ?_
    refine lv_iconst (v := Int32.ofInt 1) hx hb dX10_stepOn_31 (by decide +kernel) ?_
    refine iv_add (x := n18_1) (y := 1) hx hb dX10_stepOn_32 ?_
    refine iv_put (ci := 7) (v := .int (Int32.ofInt ((n18_1 + 1)))) (ty := .int) (C := RX10) (T := TX10) (N := 71) (ref := RX10) hx hb hts h1w tyX10 tyX10_ok nmX10 hown hX.1 hP hD hS 0 rfl rfl 18 (by decide) h0w (fun _ h9 => h9) rfl (by decide +kernel) rfl rfl (Nat.le_of_ble_eq_true rfl) (wM_F18 _ _ _ _ _) dX10_stepOn_33 (fun H locs hP hD hS => ?_)
    obtain ⟨hP, hD⟩ : va_P G vwCl (wM k ar (uF fi 18 ((n18_1 + 1))) fa fl) H ∧ va_D A (wM k ar (uF fi 18 ((n18_1 + 1))) fa fl) := ⟨hP, hD⟩
    refine lv_goto (tgt := 0) hx hb dX10_stepOn_36 (by decide) ?_
    have hl : lv_has ls 2 [(0, .ref (ar 71))] := lv_sub hl [0] rfl
    exact ih ((n18_1 + 1)) (show (fi 19 - (n18_1 + 1)).toNat < (fi 19 - n18_1).toNat from by omega) (show inR (n18_1 + 1) ∧ ((fi 18 ≤ (n18_1 + 1) ∧ (n18_1 + 1) ≤ fi 19) ∧ sk (fa 16) (fi 19) (n18_1 + 1) = sk (fa 16) (fi 19) (fi 18)) from ⟨(by omega), (by exact ⟨by omega, (sk_step (by omega) (by omega)).symm.trans hJ2⟩)⟩) _ _ _ hP hD hS hl
  · refine lv_aload_n hx hb dX10_stepOn_13 rfl (lv_at hl 0 rfl) ?_
    refine lv_aload_n hx hb dX10_stepOn_14 rfl (lv_at hl 0 rfl) ?_
    refine va_get (D := G) (ci := 7) (v := .int (Int32.ofInt (n18_1))) (C := RX10) (T := TX10) (N := 71) (ref := RX10) hx hb hts h1w hown hX.1 hP 0 rfl rfl 18 (by decide) h0w (fun _ h9 => h9) rfl dX10_stepOn_15 ?_
    refine cr_i (va_runV (As := [.int (Int32.ofInt (n18_1))]) (rest := []) ⟨hx, hb, hml, hown, hts⟩ (mX10_byteAt l G k ar (uF fi 18 (n18_1)) fa fl n18_1 H.size (iF hR (by omega)) hRa (by omega) (show 0 ≤ n18_1 from by omega) (show (fi 19) ≤ 600 from by omega)) (cwV 1 hts (gz [.methodLink RX10 190 yX10_byteAt, .instanceMethod yX10_byteAt, .selects RX10 yX10_byteAt yX10_byteAt, .initialized RX10] (.code yX10_byteAt cX10_byteAt 2 (some .int)) [(17, 9), (17, 10), (17, 11), (0, 5), (17, 12)] rfl) rfl rfl rfl (by decide +kernel) ⟨Nat.le_of_ble_eq_true rfl, Nat.le_of_ble_eq_true rfl⟩) (cr_preV (EZ_ok k) hZ hS hX hP hD hA (ci := 7) (q0 := 0) rfl rfl) rfl rfl hl.1 rfl (lv_room (Nat.le_of_ble_eq_true rfl)) dX10_stepOn_18 ⟨Nat.le_of_ble_eq_true rfl, Nat.le_of_ble_eq_true rfl⟩) hD hS hA (fun r u H locs hp hP hD hS => ?_)
    obtain ⟨c4, rfl⟩ : ∃ z, z = u := ⟨_, rfl⟩
    obtain ⟨h9, rc4, hp4⟩ : r = Int32.ofInt c4 ∧ (inR c4) ∧ ((n18_1 < (fi 19) ∧ c4 = (fa 16) n18_1) ∨ ((fi 19) ≤ n18_1 ∧ c4 = -1)) := hp
    subst h9
    refine lv_bipush (v := Int32.ofInt 10) hx hb dX10_stepOn_21 (by decide +kernel) ?_
    refine iv_icmp_ne (tgt := 39) hx hb (by omega) (by omega) dX10_stepOn_23 (by decide) (fun q5 => ?_) (fun q5 => ?_)
    · have hK : n18_1 = sk (fa 16) (fi 19) (fi 18) := (sk_stop (by omega)).symm.trans hJ2
      refine lv_aload_n hx hb dX10_stepOn_39 rfl (lv_at hl 0 rfl) ?_
      refine lv_aload_n hx hb dX10_stepOn_40 rfl (lv_at hl 0 rfl) ?_
      refine va_get (D := G) (ci := 7) (v := .int (Int32.ofInt (n18_1))) (C := RX10) (T := TX10) (N := 71) (ref := RX10) hx hb hts h1w hown hX.1 hP 0 rfl rfl 18 (by decide) h0w (fun _ h9 => h9) rfl dX10_stepOn_41 ?_
      refine iv_put (ci := 7) (v := .int (Int32.ofInt (n18_1))) (ty := .int) (C := RX10) (T := TX10) (N := 71) (ref := RX10) hx hb hts h1w tyX10 tyX10_ok nmX10 hown hX.1 hP hD hS 0 rfl rfl 22 (by decide) h2w (fun _ h9 => h9) rfl (by decide +kernel) rfl rfl (Nat.le_of_ble_eq_true rfl) (wM_F22 _ _ _ _ _) dX10_stepOn_44 (fun H locs hP hD hS => ?_)
      refine lv_aload_n hx hb dX10_stepOn_47 rfl (lv_at hl 0 rfl) ?_
      refine lv_aload_n hx hb dX10_stepOn_48 rfl (lv_at hl 0 rfl) ?_
      refine va_get (D := G) (ci := 7) (v := .int (Int32.ofInt (n18_1))) (C := RX10) (T := TX10) (N := 71) (ref := RX10) hx hb hts h1w hown hX.1 hP 0 rfl rfl 18 (by decide) h0w (fun _ h9 => h9) rfl dX10_stepOn_49 ?_
      refine cr_i (va_runV (As := [.int (Int32.ofInt (n18_1))]) (rest := []) ⟨hx, hb, hml, hown, hts⟩ (mX10_byteAt l G k ar (uF (uF fi 18 (n18_1)) 22 (n18_1)) fa fl n18_1 H.size (iF (iF hR (by omega)) (by omega)) hRa (by omega) (show 0 ≤ n18_1 from by omega) (show (fi 19) ≤ 600 from by omega)) (cwV 1 hts (gz [.methodLink RX10 190 yX10_byteAt, .instanceMethod yX10_byteAt, .selects RX10 yX10_byteAt yX10_byteAt, .initialized RX10] (.code yX10_byteAt cX10_byteAt 2 (some .int)) [(17, 9), (17, 10), (17, 11), (0, 5), (17, 12)] rfl) rfl rfl rfl (by decide +kernel) ⟨Nat.le_of_ble_eq_true rfl, Nat.le_of_ble_eq_true rfl⟩) (cr_preV (EZ_ok k) hZ hS hX hP hD hA (ci := 7) (q0 := 0) rfl rfl) rfl rfl hl.1 rfl (lv_room (Nat.le_of_ble_eq_true rfl)) dX10_stepOn_52 ⟨Nat.le_of_ble_eq_true rfl, Nat.le_of_ble_eq_true rfl⟩) hD hS hA (fun r u H locs hp hP hD hS => ?_)
      obtain ⟨c6, rfl⟩ : ∃ z, z = u := ⟨_, rfl⟩
      obtain ⟨h9, rc6, hp6⟩ : r = Int32.ofInt c6 ∧ (inR c6) ∧ ((n18_1 < (fi 19) ∧ c6 = (fa 16) n18_1) ∨ ((fi 19) ≤ n18_1 ∧ c6 = -1)) := hp
      subst h9
      refine lv_istore_n (lv' := [(1, .int (Int32.ofInt (c6))), (0, .ref (ar 71))]) hx hb dX10_stepOn_55 rfl hl (by decide) rfl (fun ls hl => ?_)
      have hTb := hT n18_1
      refine lv_iload_n hx hb dX10_stepOn_56 rfl (lv_at hl 0 rfl) ?_
      refine lv_iconst (v := Int32.ofInt (-1)) hx hb dX10_stepOn_57 (by decide +kernel) ?_
      refine iv_icmp_ne (tgt := 69) hx hb (by omega) (by omega) dX10_stepOn_58 (by decide) (fun q7 => ?_) (fun q7 => ?_)
      · refine lv_iload_n hx hb dX10_stepOn_69 rfl (lv_at hl 0 rfl) ?_
        refine c0_i (va_runS (As := [.int (Int32.ofInt (c6))]) (rest := []) ⟨hx, hb, hml, hown, hts⟩ (mX10_isLetter l G k c6 H.size (by omega)) (cwS 1 hts (gz [.methodLink RX10 200 yX10_isLetter, .static yX10_isLetter, .initialized RX10] (.code yX10_isLetter cX10_isLetter 1 (some .boolean)) [(17, 13), (17, 14), (0, 5), (17, 15)] rfl) rfl rfl rfl (by decide +kernel) ⟨Nat.le_of_ble_eq_true rfl, Nat.le_of_ble_eq_true rfl⟩) (cr_pre0 (EZ_ok k) hZ hS hX hP hD hA) rfl rfl hl.1 rfl (lv_room (Nat.le_of_ble_eq_true rfl)) dX10_stepOn_70 ⟨Nat.le_of_ble_eq_true rfl, Nat.le_of_ble_eq_true rfl⟩) hP hD hS hA (fun r u H locs hp hP hD hS => ?_)
        obtain ⟨c8, rfl⟩ : ∃ z, z = u := ⟨_, rfl⟩
        obtain ⟨h9, rc8, hp8⟩ : r = Int32.ofInt c8 ∧ (inR c8) ∧ ((c8 = 1 ∧ 97 ≤ c6 ∧ c6 ≤ 122) ∨ (c8 = 0 ∧ (c6 < 97 ∨ 122 < c6))) := hp
        subst h9
        refine iv_if_eq (tgt := 111) hx hb (by omega) dX10_stepOn_73 (by decide) (fun q9 => ?_) (fun q9 => ?_)
        · refine lv_iload_n hx hb dX10_stepOn_111 rfl (lv_at hl 0 rfl) ?_
          refine c0_i (va_runS (As := [.int (Int32.ofInt (c6))]) (rest := []) ⟨hx, hb, hml, hown, hts⟩ (mX10_isDigit l G k c6 H.size (by omega)) (cwS 1 hts (gz [.methodLink RX10 204 yX10_isDigit, .static yX10_isDigit, .initialized RX10] (.code yX10_isDigit cX10_isDigit 1 (some .boolean)) [(17, 16), (17, 17), (0, 5), (17, 18)] rfl) rfl rfl rfl (by decide +kernel) ⟨Nat.le_of_ble_eq_true rfl, Nat.le_of_ble_eq_true rfl⟩) (cr_pre0 (EZ_ok k) hZ hS hX hP hD hA) rfl rfl hl.1 rfl (lv_room (Nat.le_of_ble_eq_true rfl)) dX10_stepOn_112 ⟨Nat.le_of_ble_eq_true rfl, Nat.le_of_ble_eq_true rfl⟩) hP hD hS hA (fun r u H locs hp hP hD hS => ?_)
          obtain ⟨c10, rfl⟩ : ∃ z, z = u := ⟨_, rfl⟩
          obtain ⟨h9, rc10, hp10⟩ : r = Int32.ofInt c10 ∧ (inR c10) ∧ ((c10 = 1 ∧ 48 ≤ c6 ∧ c6 ≤ 57) ∨ (c10 = 0 ∧ (c6 < 48 ∨ 57 < c6))) := hp
          subst h9
          refine iv_if_eq (tgt := 186) hx hb (by omega) dX10_stepOn_115 (by decide) (fun q11 => ?_) (fun q11 => ?_)
          · refine lv_aload_n hx hb dX10_stepOn_186 rfl (lv_at hl 1 rfl) ?_
            refine lv_dup hx hb dX10_stepOn_187 rfl ?_
            refine va_get (D := G) (ci := 7) (v := .int (Int32.ofInt (n18_1))) (C := RX10) (T := TX10) (N := 71) (ref := RX10) hx hb hts h1w hown hX.1 hP 0 rfl rfl 18 (by decide) h0w (fun _ h9 => h9) rfl dX10_stepOn_188 ?_
            refine lv_iconst (v := Int32.ofInt 1) hx hb dX10_stepOn_191 (by decide +kernel) ?_
            refine iv_add (x := n18_1) (y := 1) hx hb dX10_stepOn_192 ?_
            refine iv_put (ci := 7) (v := .int (Int32.ofInt ((n18_1 + 1)))) (ty := .int) (C := RX10) (T := TX10) (N := 71) (ref := RX10) hx hb hts h1w tyX10 tyX10_ok nmX10 hown hX.1 hP hD hS 0 rfl rfl 18 (by decide) h0w (fun _ h9 => h9) rfl (by decide +kernel) rfl rfl (Nat.le_of_ble_eq_true rfl) (wM_F18 _ _ _ _ _) dX10_stepOn_193 (fun H locs hP hD hS => ?_)
            obtain ⟨hP, hD⟩ : va_P G vwCl (wM k ar (uF (uF fi 18 ((n18_1 + 1))) 22 (n18_1)) fa fl) H ∧ va_D A (wM k ar (uF (uF fi 18 ((n18_1 + 1))) 22 (n18_1)) fa fl) := ⟨hP, hD⟩
            refine lv_aload_n hx hb dX10_stepOn_196 rfl (lv_at hl 1 rfl) ?_
            refine lv_iload_n hx hb dX10_stepOn_197 rfl (lv_at hl 0 rfl) ?_
            refine c0_i (va_runS (As := [.int (Int32.ofInt (c6))]) (rest := [.ref (ar 71)]) ⟨hx, hb, hml, hown, hts⟩ (mX10_isMark l G k c6 H.size (by omega)) (cwS 1 hts (gz [.methodLink RX10 217 yX10_isMark, .static yX10_isMark, .initialized RX10] (.code yX10_isMark cX10_isMark 1 (some .boolean)) [(17, 19), (17, 20), (0, 5), (17, 21)] rfl) rfl rfl rfl (by decide +kernel) ⟨Nat.le_of_ble_eq_true rfl, Nat.le_of_ble_eq_true rfl⟩) (cr_pre0 (EZ_ok k) hZ hS hX hP hD hA) rfl rfl hl.1 rfl (lv_room (Nat.le_of_ble_eq_true rfl)) dX10_stepOn_198 ⟨Nat.le_of_ble_eq_true rfl, Nat.le_of_ble_eq_true rfl⟩) hP hD hS hA (fun r u H locs hp hP hD hS => ?_)
            obtain ⟨c12, rfl⟩ : ∃ z, z = u := ⟨_, rfl⟩
            obtain ⟨h9, rc12, hp12⟩ : r = Int32.ofInt c12 ∧ (inR c12) ∧ (Mkr c12 c6) := hp
            subst h9
            have hM := hp12
            refine iv_if_eq (tgt := 208) hx hb (by omega) dX10_stepOn_201 (by decide) (fun q13 => ?_) (fun q13 => ?_)
            · refine lv_iconst (v := Int32.ofInt 4) hx hb dX10_stepOn_208 (by decide +kernel) ?_
              refine iv_put (ci := 7) (v := .int (Int32.ofInt (4))) (ty := .int) (C := RX10) (T := TX10) (N := 71) (ref := RX10) hx hb hts h1w tyX10 tyX10_ok nmX10 hown hX.1 hP hD hS 0 rfl rfl 20 (by decide) h3w (fun _ h9 => h9) rfl (by decide +kernel) rfl rfl (Nat.le_of_ble_eq_true rfl) (wM_F20 _ _ _ _ _) dX10_stepOn_209 (fun H locs hP hD hS => ?_)
              obtain ⟨hP, hD⟩ : va_P G vwCl (wM k ar (uF (uF (uF fi 18 ((n18_1 + 1))) 20 (4)) 22 (n18_1)) fa fl) H ∧ va_D A (wM k ar (uF (uF (uF fi 18 ((n18_1 + 1))) 20 (4)) 22 (n18_1)) fa fl) := ⟨hP, hD⟩
              refine lv_aload_n hx hb dX10_stepOn_212 rfl (lv_at hl 1 rfl) ?_
              refine lv_aload_n hx hb dX10_stepOn_213 rfl (lv_at hl 1 rfl) ?_
              refine va_get (D := G) (ci := 7) (v := .int (Int32.ofInt ((n18_1 + 1)))) (C := RX10) (T := TX10) (N := 71) (ref := RX10) hx hb hts h1w hown hX.1 hP 0 rfl rfl 18 (by decide) h0w (fun _ h9 => h9) rfl dX10_stepOn_214 ?_
              refine iv_put (ci := 7) (v := .int (Int32.ofInt ((n18_1 + 1)))) (ty := .int) (C := RX10) (T := TX10) (N := 71) (ref := RX10) hx hb hts h1w tyX10 tyX10_ok nmX10 hown hX.1 hP hD hS 0 rfl rfl 23 (by decide) h4w (fun _ h9 => h9) rfl (by decide +kernel) rfl rfl (Nat.le_of_ble_eq_true rfl) (wM_F23 _ _ _ _ _) dX10_stepOn_217 (fun H locs hP hD hS => ?_)
              exact W.vret hx hb hr (fun t ht hW => ⟨⟨((n18_1 + 1), 4, fi 21, n18_1, (n18_1 + 1)), rfl, (show (inR (n18_1 + 1)) ∧ (inR 4) ∧ (inR (fi 21)) ∧ (inR n18_1) ∧ (inR (n18_1 + 1)) ∧ ((fi 18 ≤ n18_1 ∧ n18_1 ≤ (n18_1 + 1) ∧ (n18_1 + 1) ≤ fi 19 ∧ (n18_1 + 1) = (n18_1 + 1) ∧ 0 ≤ 4 ∧ 4 ≤ 4 ∧ (¬ 4 = 0 → n18_1 < (n18_1 + 1))) ∧ n18_1 = sk (fa 16) (fi 19) (fi 18) ∧ TS (fa 16) (fi 19) 0 n18_1 (n18_1 + 1) 4 (fi 21)) from ⟨(by omega), (by omega), (hR 21), (by omega), (by omega), (by first | exact ⟨by omega, hK, ts_num (by omega) (by omega) hJ3 (by omega) (by omega) hJ4⟩ | exact ⟨by omega, hK, ts_word (by omega) (by omega) hJ3 (by omega) (by omega)⟩ | exact ⟨by omega, hK, ts_sign (c := c6) (by omega) (by omega) (by omega) (by omega) hM (by omega) (by omega)⟩ | exact ⟨by omega, hK, ts_end (by omega) (by omega) (by omega)⟩)⟩), by rw [ht]; exact hP, hD⟩, hS.F ht⟩) hS.2.2 dX10_stepOn_220
            · refine lv_iconst (v := Int32.ofInt 3) hx hb dX10_stepOn_204 (by decide +kernel) ?_
              refine lv_goto (tgt := 209) hx hb dX10_stepOn_205 (by decide) ?_
              refine iv_put (ci := 7) (v := .int (Int32.ofInt (3))) (ty := .int) (C := RX10) (T := TX10) (N := 71) (ref := RX10) hx hb hts h1w tyX10 tyX10_ok nmX10 hown hX.1 hP hD hS 0 rfl rfl 20 (by decide) h3w (fun _ h9 => h9) rfl (by decide +kernel) rfl rfl (Nat.le_of_ble_eq_true rfl) (wM_F20 _ _ _ _ _) dX10_stepOn_209 (fun H locs hP hD hS => ?_)
              obtain ⟨hP, hD⟩ : va_P G vwCl (wM k ar (uF (uF (uF fi 18 ((n18_1 + 1))) 20 (3)) 22 (n18_1)) fa fl) H ∧ va_D A (wM k ar (uF (uF (uF fi 18 ((n18_1 + 1))) 20 (3)) 22 (n18_1)) fa fl) := ⟨hP, hD⟩
              refine lv_aload_n hx hb dX10_stepOn_212 rfl (lv_at hl 1 rfl) ?_
              refine lv_aload_n hx hb dX10_stepOn_213 rfl (lv_at hl 1 rfl) ?_
              refine va_get (D := G) (ci := 7) (v := .int (Int32.ofInt ((n18_1 + 1)))) (C := RX10) (T := TX10) (N := 71) (ref := RX10) hx hb hts h1w hown hX.1 hP 0 rfl rfl 18 (by decide) h0w (fun _ h9 => h9) rfl dX10_stepOn_214 ?_
              refine iv_put (ci := 7) (v := .int (Int32.ofInt ((n18_1 + 1)))) (ty := .int) (C := RX10) (T := TX10) (N := 71) (ref := RX10) hx hb hts h1w tyX10 tyX10_ok nmX10 hown hX.1 hP hD hS 0 rfl rfl 23 (by decide) h4w (fun _ h9 => h9) rfl (by decide +kernel) rfl rfl (Nat.le_of_ble_eq_true rfl) (wM_F23 _ _ _ _ _) dX10_stepOn_217 (fun H locs hP hD hS => ?_)
              exact W.vret hx hb hr (fun t ht hW => ⟨⟨((n18_1 + 1), 3, fi 21, n18_1, (n18_1 + 1)), rfl, (show (inR (n18_1 + 1)) ∧ (inR 3) ∧ (inR (fi 21)) ∧ (inR n18_1) ∧ (inR (n18_1 + 1)) ∧ ((fi 18 ≤ n18_1 ∧ n18_1 ≤ (n18_1 + 1) ∧ (n18_1 + 1) ≤ fi 19 ∧ (n18_1 + 1) = (n18_1 + 1) ∧ 0 ≤ 3 ∧ 3 ≤ 4 ∧ (¬ 3 = 0 → n18_1 < (n18_1 + 1))) ∧ n18_1 = sk (fa 16) (fi 19) (fi 18) ∧ TS (fa 16) (fi 19) 0 n18_1 (n18_1 + 1) 3 (fi 21)) from ⟨(by omega), (by omega), (hR 21), (by omega), (by omega), (by first | exact ⟨by omega, hK, ts_num (by omega) (by omega) hJ3 (by omega) (by omega) hJ4⟩ | exact ⟨by omega, hK, ts_word (by omega) (by omega) hJ3 (by omega) (by omega)⟩ | exact ⟨by omega, hK, ts_sign (c := c6) (by omega) (by omega) (by omega) (by omega) hM (by omega) (by omega)⟩ | exact ⟨by omega, hK, ts_end (by omega) (by omega) (by omega)⟩)⟩), by rw [ht]; exact hP, hD⟩, hS.F ht⟩) hS.2.2 dX10_stepOn_220
          · refine lv_aload_n hx hb dX10_stepOn_118 rfl (lv_at hl 1 rfl) ?_
            refine lv_iconst (v := Int32.ofInt 0) hx hb dX10_stepOn_119 (by decide +kernel) ?_
            refine iv_put (ci := 7) (v := .int (Int32.ofInt (0))) (ty := .int) (C := RX10) (T := TX10) (N := 71) (ref := RX10) hx hb hts h1w tyX10 tyX10_ok nmX10 hown hX.1 hP hD hS 0 rfl rfl 21 (by decide) h5w (fun _ h9 => h9) rfl (by decide +kernel) rfl rfl (Nat.le_of_ble_eq_true rfl) (wM_F21 _ _ _ _ _) dX10_stepOn_120 (fun H locs hP hD hS => ?_)
            obtain ⟨hP, hD⟩ : va_P G vwCl (wM k ar (uF (uF (uF fi 18 (n18_1)) 21 (0)) 22 (n18_1)) fa fl) H ∧ va_D A (wM k ar (uF (uF (uF fi 18 (n18_1)) 21 (0)) 22 (n18_1)) fa fl) := ⟨hP, hD⟩
            refine iv_loop (α := Int × Int) (nL := 2) (fun b9 => (wM k ar (uF (uF (uF fi 18 (b9.1)) 21 (b9.2)) 22 (n18_1)) fa fl)) (fun b9 => [(1, .int (Int32.ofInt (c6))), (0, .ref (ar 71))]) (fun b9 => (fi 19 - b9.1).toNat) (fun b9 => inR b9.1 ∧ inR b9.2 ∧ ((n18_1 ≤ b9.1 ∧ b9.1 ≤ fi 19 ∧ 0 ≤ b9.2 ∧ b9.2 ≤ 100000 ∧ (n18_1 < b9.1 ∨ fa 16 b9.1 = fa 16 n18_1)) ∧ rE (fa 16) (fi 19) 48 57 b9.1 = rE (fa 16) (fi 19) 48 57 n18_1 ∧ b9.2 = dM (fa 16) n18_1 (b9.1 - n18_1).toNat)) ?_ (n18_1, 0) (show inR n18_1 ∧ inR 0 ∧ ((n18_1 ≤ n18_1 ∧ n18_1 ≤ fi 19 ∧ 0 ≤ 0 ∧ 0 ≤ 100000 ∧ (n18_1 < n18_1 ∨ fa 16 n18_1 = fa 16 n18_1)) ∧ rE (fa 16) (fi 19) 48 57 n18_1 = rE (fa 16) (fi 19) 48 57 n18_1 ∧ 0 = dM (fa 16) n18_1 (n18_1 - n18_1).toNat) from ⟨(by omega), (by omega), (by exact ⟨by omega, rfl, by rw [Int.sub_self]; rfl⟩)⟩) hP hD hS hl
            rintro ⟨n18_14, n21_15⟩ ih hi9 H locs ls hP hD hS hl
            obtain ⟨r_n18_14, r_n21_15, hinv⟩ : inR n18_14 ∧ inR n21_15 ∧ ((n18_1 ≤ n18_14 ∧ n18_14 ≤ fi 19 ∧ 0 ≤ n21_15 ∧ n21_15 ≤ 100000 ∧ (n18_1 < n18_14 ∨ fa 16 n18_14 = fa 16 n18_1)) ∧ rE (fa 16) (fi 19) 48 57 n18_14 = rE (fa 16) (fi 19) 48 57 n18_1 ∧ n21_15 = dM (fa 16) n18_1 (n18_14 - n18_1).toNat) := hi9
            obtain ⟨hJ5, hJ3, hJ4⟩ := hinv
            obtain ⟨hP, hD⟩ : va_P G vwCl (wM k ar (uF (uF (uF fi 18 (n18_14)) 21 (n21_15)) 22 (n18_1)) fa fl) H ∧ va_D A (wM k ar (uF (uF (uF fi 18 (n18_14)) 21 (n21_15)) 22 (n18_1)) fa fl) := ⟨hP, hD⟩
            have hl : lv_has ls 2 [(1, .int (Int32.ofInt (c6))), (0, .ref (ar 71))] := hl
            refine lv_aload_n hx hb dX10_stepOn_123 rfl (lv_at hl 1 rfl) ?_
            refine lv_aload_n hx hb dX10_stepOn_124 rfl (lv_at hl 1 rfl) ?_
            refine va_get (D := G) (ci := 7) (v := .int (Int32.ofInt (n18_14))) (C := RX10) (T := TX10) (N := 71) (ref := RX10) hx hb hts h1w hown hX.1 hP 0 rfl rfl 18 (by decide) h0w (fun _ h9 => h9) rfl dX10_stepOn_125 ?_
            refine cr_i (va_runV (As := [.int (Int32.ofInt (n18_14))]) (rest := []) ⟨hx, hb, hml, hown, hts⟩ (mX10_byteAt l G k ar (uF (uF (uF fi 18 (n18_14)) 21 (n21_15)) 22 (n18_1)) fa fl n18_14 H.size (iF (iF (iF hR (by omega)) (by omega)) (by omega)) hRa (by omega) (show 0 ≤ n18_14 from by omega) (show (fi 19) ≤ 600 from by omega)) (cwV 1 hts (gz [.methodLink RX10 190 yX10_byteAt, .instanceMethod yX10_byteAt, .selects RX10 yX10_byteAt yX10_byteAt, .initialized RX10] (.code yX10_byteAt cX10_byteAt 2 (some .int)) [(17, 9), (17, 10), (17, 11), (0, 5), (17, 12)] rfl) rfl rfl rfl (by decide +kernel) ⟨Nat.le_of_ble_eq_true rfl, Nat.le_of_ble_eq_true rfl⟩) (cr_preV (EZ_ok k) hZ hS hX hP hD hA (ci := 7) (q0 := 0) rfl rfl) rfl rfl hl.1 rfl (lv_room (Nat.le_of_ble_eq_true rfl)) dX10_stepOn_128 ⟨Nat.le_of_ble_eq_true rfl, Nat.le_of_ble_eq_true rfl⟩) hD hS hA (fun r u H locs hp hP hD hS => ?_)
            obtain ⟨c16, rfl⟩ : ∃ z, z = u := ⟨_, rfl⟩
            obtain ⟨h9, rc16, hp16⟩ : r = Int32.ofInt c16 ∧ (inR c16) ∧ ((n18_14 < (fi 19) ∧ c16 = (fa 16) n18_14) ∨ ((fi 19) ≤ n18_14 ∧ c16 = -1)) := hp
            subst h9
            refine c0_i (va_runS (As := [.int (Int32.ofInt (c16))]) (rest := []) ⟨hx, hb, hml, hown, hts⟩ (mX10_isDigit l G k c16 H.size (by omega)) (cwS 1 hts (gz [.methodLink RX10 204 yX10_isDigit, .static yX10_isDigit, .initialized RX10] (.code yX10_isDigit cX10_isDigit 1 (some .boolean)) [(17, 16), (17, 17), (0, 5), (17, 18)] rfl) rfl rfl rfl (by decide +kernel) ⟨Nat.le_of_ble_eq_true rfl, Nat.le_of_ble_eq_true rfl⟩) (cr_pre0 (EZ_ok k) hZ hS hX hP hD hA) rfl rfl hl.1 rfl (lv_room (Nat.le_of_ble_eq_true rfl)) dX10_stepOn_131 ⟨Nat.le_of_ble_eq_true rfl, Nat.le_of_ble_eq_true rfl⟩) hP hD hS hA (fun r u H locs hp hP hD hS => ?_)
            obtain ⟨c17, rfl⟩ : ∃ z, z = u := ⟨_, rfl⟩
            obtain ⟨h9, rc17, hp17⟩ : r = Int32.ofInt c17 ∧ (inR c17) ∧ ((c17 = 1 ∧ 48 ≤ c16 ∧ c16 ≤ 57) ∨ (c17 = 0 ∧ (c16 < 48 ∨ 57 < c16))) := hp
            subst h9
            refine iv_if_eq (tgt := 178) hx hb (by omega) dX10_stepOn_134 (by decide) (fun q18 => ?_) (fun q18 => ?_)
            · refine lv_aload_n hx hb dX10_stepOn_178 rfl (lv_at hl 1 rfl) ?_
              refine lv_iconst (v := Int32.ofInt 2) hx hb dX10_stepOn_179 (by decide +kernel) ?_
              refine iv_put (ci := 7) (v := .int (Int32.ofInt (2))) (ty := .int) (C := RX10) (T := TX10) (N := 71) (ref := RX10) hx hb hts h1w tyX10 tyX10_ok nmX10 hown hX.1 hP hD hS 0 rfl rfl 20 (by decide) h3w (fun _ h9 => h9) rfl (by decide +kernel) rfl rfl (Nat.le_of_ble_eq_true rfl) (wM_F20 _ _ _ _ _) dX10_stepOn_180 (fun H locs hP hD hS => ?_)
              obtain ⟨hP, hD⟩ : va_P G vwCl (wM k ar (uF (uF (uF (uF fi 18 (n18_14)) 20 (2)) 21 (n21_15)) 22 (n18_1)) fa fl) H ∧ va_D A (wM k ar (uF (uF (uF (uF fi 18 (n18_14)) 20 (2)) 21 (n21_15)) 22 (n18_1)) fa fl) := ⟨hP, hD⟩
              refine lv_goto (tgt := 212) hx hb dX10_stepOn_183 (by decide) ?_
              refine lv_aload_n hx hb dX10_stepOn_212 rfl (lv_at hl 1 rfl) ?_
              refine lv_aload_n hx hb dX10_stepOn_213 rfl (lv_at hl 1 rfl) ?_
              refine va_get (D := G) (ci := 7) (v := .int (Int32.ofInt (n18_14))) (C := RX10) (T := TX10) (N := 71) (ref := RX10) hx hb hts h1w hown hX.1 hP 0 rfl rfl 18 (by decide) h0w (fun _ h9 => h9) rfl dX10_stepOn_214 ?_
              refine iv_put (ci := 7) (v := .int (Int32.ofInt (n18_14))) (ty := .int) (C := RX10) (T := TX10) (N := 71) (ref := RX10) hx hb hts h1w tyX10 tyX10_ok nmX10 hown hX.1 hP hD hS 0 rfl rfl 23 (by decide) h4w (fun _ h9 => h9) rfl (by decide +kernel) rfl rfl (Nat.le_of_ble_eq_true rfl) (wM_F23 _ _ _ _ _) dX10_stepOn_217 (fun H locs hP hD hS => ?_)
              exact W.vret hx hb hr (fun t ht hW => ⟨⟨(n18_14, 2, n21_15, n18_1, n18_14), rfl, (show (inR n18_14) ∧ (inR 2) ∧ (inR n21_15) ∧ (inR n18_1) ∧ (inR n18_14) ∧ ((fi 18 ≤ n18_1 ∧ n18_1 ≤ n18_14 ∧ n18_14 ≤ fi 19 ∧ n18_14 = n18_14 ∧ 0 ≤ 2 ∧ 2 ≤ 4 ∧ (¬ 2 = 0 → n18_1 < n18_14)) ∧ n18_1 = sk (fa 16) (fi 19) (fi 18) ∧ TS (fa 16) (fi 19) 0 n18_1 n18_14 2 n21_15) from ⟨(by omega), (by omega), (by omega), (by omega), (by omega), (by first | exact ⟨by omega, hK, ts_num (by omega) (by omega) hJ3 (by omega) (by omega) hJ4⟩ | exact ⟨by omega, hK, ts_word (by omega) (by omega) hJ3 (by omega) (by omega)⟩ | exact ⟨by omega, hK, ts_sign (c := c6) (by omega) (by omega) (by omega) (by omega) hM (by omega) (by omega)⟩ | exact ⟨by omega, hK, ts_end (by omega) (by omega) (by omega)⟩)⟩), by rw [ht]; exact hP, hD⟩, hS.F ht⟩) hS.2.2 dX10_stepOn_220
            · refine lv_aload_n hx hb dX10_stepOn_137 rfl (lv_at hl 1 rfl) ?_
              refine lv_ldc (v := Int32.ofInt 100000) hx hb hown h6w dX10_stepOn_138 ?_
              refine lv_bipush (v := Int32.ofInt 10) hx hb dX10_stepOn_140 (by decide +kernel) ?_
              refine lv_aload_n hx hb dX10_stepOn_142 rfl (lv_at hl 1 rfl) ?_
              refine va_get (D := G) (ci := 7) (v := .int (Int32.ofInt (n21_15))) (C := RX10) (T := TX10) (N := 71) (ref := RX10) hx hb hts h1w hown hX.1 hP 0 rfl rfl 21 (by decide) h5w (fun _ h9 => h9) rfl dX10_stepOn_143 ?_
              refine iv_mul (x := 10) (y := n21_15) hx hb dX10_stepOn_146 ?_
              refine lv_aload_n hx hb dX10_stepOn_147 rfl (lv_at hl 1 rfl) ?_
              refine lv_aload_n hx hb dX10_stepOn_148 rfl (lv_at hl 1 rfl) ?_
              refine va_get (D := G) (ci := 7) (v := .int (Int32.ofInt (n18_14))) (C := RX10) (T := TX10) (N := 71) (ref := RX10) hx hb hts h1w hown hX.1 hP 0 rfl rfl 18 (by decide) h0w (fun _ h9 => h9) rfl dX10_stepOn_149 ?_
              refine cr_i (va_runV (As := [.int (Int32.ofInt (n18_14))]) (rest := [.int (Int32.ofInt ((10 * n21_15))), .int (Int32.ofInt (100000)), .ref (ar 71)]) ⟨hx, hb, hml, hown, hts⟩ (mX10_byteAt l G k ar (uF (uF (uF fi 18 (n18_14)) 21 (n21_15)) 22 (n18_1)) fa fl n18_14 H.size (iF (iF (iF hR (by omega)) (by omega)) (by omega)) hRa (by omega) (show 0 ≤ n18_14 from by omega) (show (fi 19) ≤ 600 from by omega)) (cwV 1 hts (gz [.methodLink RX10 190 yX10_byteAt, .instanceMethod yX10_byteAt, .selects RX10 yX10_byteAt yX10_byteAt, .initialized RX10] (.code yX10_byteAt cX10_byteAt 2 (some .int)) [(17, 9), (17, 10), (17, 11), (0, 5), (17, 12)] rfl) rfl rfl rfl (by decide +kernel) ⟨Nat.le_of_ble_eq_true rfl, Nat.le_of_ble_eq_true rfl⟩) (cr_preV (EZ_ok k) hZ hS hX hP hD hA (ci := 7) (q0 := 0) rfl rfl) rfl rfl hl.1 rfl (lv_room (Nat.le_of_ble_eq_true rfl)) dX10_stepOn_152 ⟨Nat.le_of_ble_eq_true rfl, Nat.le_of_ble_eq_true rfl⟩) hD hS hA (fun r u H locs hp hP hD hS => ?_)
              obtain ⟨c19, rfl⟩ : ∃ z, z = u := ⟨_, rfl⟩
              obtain ⟨h9, rc19, hp19⟩ : r = Int32.ofInt c19 ∧ (inR c19) ∧ ((n18_14 < (fi 19) ∧ c19 = (fa 16) n18_14) ∨ ((fi 19) ≤ n18_14 ∧ c19 = -1)) := hp
              subst h9
              refine iv_add (x := (10 * n21_15)) (y := c19) hx hb dX10_stepOn_155 ?_
              refine lv_bipush (v := Int32.ofInt 48) hx hb dX10_stepOn_156 (by decide +kernel) ?_
              refine iv_sub (x := ((10 * n21_15) + c19)) (y := 48) hx hb dX10_stepOn_158 ?_
              refine iv_mmin hx hb (hml.trans hl.1.symm) hown h7w h8w h9w h10w (Nat.le_of_ble_eq_true rfl) (Nat.le_of_ble_eq_true rfl) (Nat.le_of_ble_eq_true rfl) (Nat.le_of_ble_eq_true rfl) (by omega) (by omega) dX10_stepOn_159 (fun z20 ez20 => ?_)
              have rz20 : inR z20 := by omega
              refine iv_put (ci := 7) (v := .int (Int32.ofInt (z20))) (ty := .int) (C := RX10) (T := TX10) (N := 71) (ref := RX10) hx hb hts h1w tyX10 tyX10_ok nmX10 hown hX.1 hP hD hS 0 rfl rfl 21 (by decide) h5w (fun _ h9 => h9) rfl (by decide +kernel) rfl rfl (Nat.le_of_ble_eq_true rfl) (wM_F21 _ _ _ _ _) dX10_stepOn_162 (fun H locs hP hD hS => ?_)
              obtain ⟨hP, hD⟩ : va_P G vwCl (wM k ar (uF (uF (uF fi 18 (n18_14)) 21 (z20)) 22 (n18_1)) fa fl) H ∧ va_D A (wM k ar (uF (uF (uF fi 18 (n18_14)) 21 (z20)) 22 (n18_1)) fa fl) := ⟨hP, hD⟩
              refine lv_aload_n hx hb dX10_stepOn_165 rfl (lv_at hl 1 rfl) ?_
              refine lv_dup hx hb dX10_stepOn_166 rfl ?_
              refine va_get (D := G) (ci := 7) (v := .int (Int32.ofInt (n18_14))) (C := RX10) (T := TX10) (N := 71) (ref := RX10) hx hb hts h1w hown hX.1 hP 0 rfl rfl 18 (by decide) h0w (fun _ h9 => h9) rfl dX10_stepOn_167 ?_
              refine lv_iconst (v := Int32.ofInt 1) hx hb dX10_stepOn_170 (by decide +kernel) ?_
              refine iv_add (x := n18_14) (y := 1) hx hb dX10_stepOn_171 ?_
              refine iv_put (ci := 7) (v := .int (Int32.ofInt ((n18_14 + 1)))) (ty := .int) (C := RX10) (T := TX10) (N := 71) (ref := RX10) hx hb hts h1w tyX10 tyX10_ok nmX10 hown hX.1 hP hD hS 0 rfl rfl 18 (by decide) h0w (fun _ h9 => h9) rfl (by decide +kernel) rfl rfl (Nat.le_of_ble_eq_true rfl) (wM_F18 _ _ _ _ _) dX10_stepOn_172 (fun H locs hP hD hS => ?_)
              obtain ⟨hP, hD⟩ : va_P G vwCl (wM k ar (uF (uF (uF fi 18 ((n18_14 + 1))) 21 (z20)) 22 (n18_1)) fa fl) H ∧ va_D A (wM k ar (uF (uF (uF fi 18 ((n18_14 + 1))) 21 (z20)) 22 (n18_1)) fa fl) := ⟨hP, hD⟩
              refine lv_goto (tgt := 123) hx hb dX10_stepOn_175 (by decide) ?_
              have hl : lv_has ls 2 [(1, .int (Int32.ofInt (c6))), (0, .ref (ar 71))] := lv_sub hl [0, 1] rfl
              exact ih ((n18_14 + 1), z20) (show (fi 19 - (n18_14 + 1)).toNat < (fi 19 - n18_14).toNat from by omega) (show inR (n18_14 + 1) ∧ inR z20 ∧ ((n18_1 ≤ (n18_14 + 1) ∧ (n18_14 + 1) ≤ fi 19 ∧ 0 ≤ z20 ∧ z20 ≤ 100000 ∧ (n18_1 < (n18_14 + 1) ∨ fa 16 (n18_14 + 1) = fa 16 n18_1)) ∧ rE (fa 16) (fi 19) 48 57 (n18_14 + 1) = rE (fa 16) (fi 19) 48 57 n18_1 ∧ z20 = dM (fa 16) n18_1 ((n18_14 + 1) - n18_1).toNat) from ⟨(by omega), (by omega), (by exact ⟨by omega, (rE_step (by omega) (by omega)).symm.trans hJ3, dM_step (by omega) hJ4 (by omega)⟩)⟩) _ _ _ hP hD hS hl
        · refine iv_loop (α := Int) (nL := 2) (fun b9 => (wM k ar (uF (uF fi 18 (b9)) 22 (n18_1)) fa fl)) (fun b9 => [(1, .int (Int32.ofInt (c6))), (0, .ref (ar 71))]) (fun b9 => (fi 19 - b9).toNat) (fun b9 => inR b9 ∧ ((n18_1 ≤ b9 ∧ b9 ≤ fi 19 ∧ (n18_1 < b9 ∨ fa 16 b9 = fa 16 n18_1)) ∧ rE (fa 16) (fi 19) 97 122 b9 = rE (fa 16) (fi 19) 97 122 n18_1)) ?_ (n18_1) (show inR n18_1 ∧ ((n18_1 ≤ n18_1 ∧ n18_1 ≤ fi 19 ∧ (n18_1 < n18_1 ∨ fa 16 n18_1 = fa 16 n18_1)) ∧ rE (fa 16) (fi 19) 97 122 n18_1 = rE (fa 16) (fi 19) 97 122 n18_1) from ⟨(by omega), (by exact ⟨by omega, rfl⟩)⟩) hP hD hS hl
          intro n18_21 ih hi9 H locs ls hP hD hS hl
          obtain ⟨r_n18_21, hinv⟩ : inR n18_21 ∧ ((n18_1 ≤ n18_21 ∧ n18_21 ≤ fi 19 ∧ (n18_1 < n18_21 ∨ fa 16 n18_21 = fa 16 n18_1)) ∧ rE (fa 16) (fi 19) 97 122 n18_21 = rE (fa 16) (fi 19) 97 122 n18_1) := hi9
          obtain ⟨hJ5, hJ3⟩ := hinv
          obtain ⟨hP, hD⟩ : va_P G vwCl (wM k ar (uF (uF fi 18 (n18_21)) 22 (n18_1)) fa fl) H ∧ va_D A (wM k ar (uF (uF fi 18 (n18_21)) 22 (n18_1)) fa fl) := ⟨hP, hD⟩
          have hl : lv_has ls 2 [(1, .int (Int32.ofInt (c6))), (0, .ref (ar 71))] := hl
          refine lv_aload_n hx hb dX10_stepOn_76 rfl (lv_at hl 1 rfl) ?_
          refine lv_aload_n hx hb dX10_stepOn_77 rfl (lv_at hl 1 rfl) ?_
          refine va_get (D := G) (ci := 7) (v := .int (Int32.ofInt (n18_21))) (C := RX10) (T := TX10) (N := 71) (ref := RX10) hx hb hts h1w hown hX.1 hP 0 rfl rfl 18 (by decide) h0w (fun _ h9 => h9) rfl dX10_stepOn_78 ?_
          refine cr_i (va_runV (As := [.int (Int32.ofInt (n18_21))]) (rest := []) ⟨hx, hb, hml, hown, hts⟩ (mX10_byteAt l G k ar (uF (uF fi 18 (n18_21)) 22 (n18_1)) fa fl n18_21 H.size (iF (iF hR (by omega)) (by omega)) hRa (by omega) (show 0 ≤ n18_21 from by omega) (show (fi 19) ≤ 600 from by omega)) (cwV 1 hts (gz [.methodLink RX10 190 yX10_byteAt, .instanceMethod yX10_byteAt, .selects RX10 yX10_byteAt yX10_byteAt, .initialized RX10] (.code yX10_byteAt cX10_byteAt 2 (some .int)) [(17, 9), (17, 10), (17, 11), (0, 5), (17, 12)] rfl) rfl rfl rfl (by decide +kernel) ⟨Nat.le_of_ble_eq_true rfl, Nat.le_of_ble_eq_true rfl⟩) (cr_preV (EZ_ok k) hZ hS hX hP hD hA (ci := 7) (q0 := 0) rfl rfl) rfl rfl hl.1 rfl (lv_room (Nat.le_of_ble_eq_true rfl)) dX10_stepOn_81 ⟨Nat.le_of_ble_eq_true rfl, Nat.le_of_ble_eq_true rfl⟩) hD hS hA (fun r u H locs hp hP hD hS => ?_)
          obtain ⟨c22, rfl⟩ : ∃ z, z = u := ⟨_, rfl⟩
          obtain ⟨h9, rc22, hp22⟩ : r = Int32.ofInt c22 ∧ (inR c22) ∧ ((n18_21 < (fi 19) ∧ c22 = (fa 16) n18_21) ∨ ((fi 19) ≤ n18_21 ∧ c22 = -1)) := hp
          subst h9
          refine c0_i (va_runS (As := [.int (Int32.ofInt (c22))]) (rest := []) ⟨hx, hb, hml, hown, hts⟩ (mX10_isLetter l G k c22 H.size (by omega)) (cwS 1 hts (gz [.methodLink RX10 200 yX10_isLetter, .static yX10_isLetter, .initialized RX10] (.code yX10_isLetter cX10_isLetter 1 (some .boolean)) [(17, 13), (17, 14), (0, 5), (17, 15)] rfl) rfl rfl rfl (by decide +kernel) ⟨Nat.le_of_ble_eq_true rfl, Nat.le_of_ble_eq_true rfl⟩) (cr_pre0 (EZ_ok k) hZ hS hX hP hD hA) rfl rfl hl.1 rfl (lv_room (Nat.le_of_ble_eq_true rfl)) dX10_stepOn_84 ⟨Nat.le_of_ble_eq_true rfl, Nat.le_of_ble_eq_true rfl⟩) hP hD hS hA (fun r u H locs hp hP hD hS => ?_)
          obtain ⟨c23, rfl⟩ : ∃ z, z = u := ⟨_, rfl⟩
          obtain ⟨h9, rc23, hp23⟩ : r = Int32.ofInt c23 ∧ (inR c23) ∧ ((c23 = 1 ∧ 97 ≤ c22 ∧ c22 ≤ 122) ∨ (c23 = 0 ∧ (c22 < 97 ∨ 122 < c22))) := hp
          subst h9
          refine iv_if_eq (tgt := 103) hx hb (by omega) dX10_stepOn_87 (by decide) (fun q24 => ?_) (fun q24 => ?_)
          · refine lv_aload_n hx hb dX10_stepOn_103 rfl (lv_at hl 1 rfl) ?_
            refine lv_iconst (v := Int32.ofInt 1) hx hb dX10_stepOn_104 (by decide +kernel) ?_
            refine iv_put (ci := 7) (v := .int (Int32.ofInt (1))) (ty := .int) (C := RX10) (T := TX10) (N := 71) (ref := RX10) hx hb hts h1w tyX10 tyX10_ok nmX10 hown hX.1 hP hD hS 0 rfl rfl 20 (by decide) h3w (fun _ h9 => h9) rfl (by decide +kernel) rfl rfl (Nat.le_of_ble_eq_true rfl) (wM_F20 _ _ _ _ _) dX10_stepOn_105 (fun H locs hP hD hS => ?_)
            obtain ⟨hP, hD⟩ : va_P G vwCl (wM k ar (uF (uF (uF fi 18 (n18_21)) 20 (1)) 22 (n18_1)) fa fl) H ∧ va_D A (wM k ar (uF (uF (uF fi 18 (n18_21)) 20 (1)) 22 (n18_1)) fa fl) := ⟨hP, hD⟩
            refine lv_goto (tgt := 212) hx hb dX10_stepOn_108 (by decide) ?_
            refine lv_aload_n hx hb dX10_stepOn_212 rfl (lv_at hl 1 rfl) ?_
            refine lv_aload_n hx hb dX10_stepOn_213 rfl (lv_at hl 1 rfl) ?_
            refine va_get (D := G) (ci := 7) (v := .int (Int32.ofInt (n18_21))) (C := RX10) (T := TX10) (N := 71) (ref := RX10) hx hb hts h1w hown hX.1 hP 0 rfl rfl 18 (by decide) h0w (fun _ h9 => h9) rfl dX10_stepOn_214 ?_
            refine iv_put (ci := 7) (v := .int (Int32.ofInt (n18_21))) (ty := .int) (C := RX10) (T := TX10) (N := 71) (ref := RX10) hx hb hts h1w tyX10 tyX10_ok nmX10 hown hX.1 hP hD hS 0 rfl rfl 23 (by decide) h4w (fun _ h9 => h9) rfl (by decide +kernel) rfl rfl (Nat.le_of_ble_eq_true rfl) (wM_F23 _ _ _ _ _) dX10_stepOn_217 (fun H locs hP hD hS => ?_)
            exact W.vret hx hb hr (fun t ht hW => ⟨⟨(n18_21, 1, fi 21, n18_1, n18_21), rfl, (show (inR n18_21) ∧ (inR 1) ∧ (inR (fi 21)) ∧ (inR n18_1) ∧ (inR n18_21) ∧ ((fi 18 ≤ n18_1 ∧ n18_1 ≤ n18_21 ∧ n18_21 ≤ fi 19 ∧ n18_21 = n18_21 ∧ 0 ≤ 1 ∧ 1 ≤ 4 ∧ (¬ 1 = 0 → n18_1 < n18_21)) ∧ n18_1 = sk (fa 16) (fi 19) (fi 18) ∧ TS (fa 16) (fi 19) 0 n18_1 n18_21 1 (fi 21)) from ⟨(by omega), (by omega), (hR 21), (by omega), (by omega), (by first | exact ⟨by omega, hK, ts_num (by omega) (by omega) hJ3 (by omega) (by omega) hJ4⟩ | exact ⟨by omega, hK, ts_word (by omega) (by omega) hJ3 (by omega) (by omega)⟩ | exact ⟨by omega, hK, ts_sign (c := c6) (by omega) (by omega) (by omega) (by omega) hM (by omega) (by omega)⟩ | exact ⟨by omega, hK, ts_end (by omega) (by omega) (by omega)⟩)⟩), by rw [ht]; exact hP, hD⟩, hS.F ht⟩) hS.2.2 dX10_stepOn_220
          · refine lv_aload_n hx hb dX10_stepOn_90 rfl (lv_at hl 1 rfl) ?_
            refine lv_dup hx hb dX10_stepOn_91 rfl ?_
            refine va_get (D := G) (ci := 7) (v := .int (Int32.ofInt (n18_21))) (C := RX10) (T := TX10) (N := 71) (ref := RX10) hx hb hts h1w hown hX.1 hP 0 rfl rfl 18 (by decide) h0w (fun _ h9 => h9) rfl dX10_stepOn_92 ?_
            refine lv_iconst (v := Int32.ofInt 1) hx hb dX10_stepOn_95 (by decide +kernel) ?_
            refine iv_add (x := n18_21) (y := 1) hx hb dX10_stepOn_96 ?_
            refine iv_put (ci := 7) (v := .int (Int32.ofInt ((n18_21 + 1)))) (ty := .int) (C := RX10) (T := TX10) (N := 71) (ref := RX10) hx hb hts h1w tyX10 tyX10_ok nmX10 hown hX.1 hP hD hS 0 rfl rfl 18 (by decide) h0w (fun _ h9 => h9) rfl (by decide +kernel) rfl rfl (Nat.le_of_ble_eq_true rfl) (wM_F18 _ _ _ _ _) dX10_stepOn_97 (fun H locs hP hD hS => ?_)
            obtain ⟨hP, hD⟩ : va_P G vwCl (wM k ar (uF (uF fi 18 ((n18_21 + 1))) 22 (n18_1)) fa fl) H ∧ va_D A (wM k ar (uF (uF fi 18 ((n18_21 + 1))) 22 (n18_1)) fa fl) := ⟨hP, hD⟩
            refine lv_goto (tgt := 76) hx hb dX10_stepOn_100 (by decide) ?_
            have hl : lv_has ls 2 [(1, .int (Int32.ofInt (c6))), (0, .ref (ar 71))] := lv_sub hl [0, 1] rfl
            exact ih ((n18_21 + 1)) (show (fi 19 - (n18_21 + 1)).toNat < (fi 19 - n18_21).toNat from by omega) (show inR (n18_21 + 1) ∧ ((n18_1 ≤ (n18_21 + 1) ∧ (n18_21 + 1) ≤ fi 19 ∧ (n18_1 < (n18_21 + 1) ∨ fa 16 (n18_21 + 1) = fa 16 n18_1)) ∧ rE (fa 16) (fi 19) 97 122 (n18_21 + 1) = rE (fa 16) (fi 19) 97 122 n18_1) from ⟨(by omega), (by exact ⟨by omega, (rE_step (by omega) (by omega)).symm.trans hJ3⟩)⟩) _ _ _ hP hD hS hl
      · refine lv_aload_n hx hb dX10_stepOn_61 rfl (lv_at hl 1 rfl) ?_
        refine lv_iconst (v := Int32.ofInt 0) hx hb dX10_stepOn_62 (by decide +kernel) ?_
        refine iv_put (ci := 7) (v := .int (Int32.ofInt (0))) (ty := .int) (C := RX10) (T := TX10) (N := 71) (ref := RX10) hx hb hts h1w tyX10 tyX10_ok nmX10 hown hX.1 hP hD hS 0 rfl rfl 20 (by decide) h3w (fun _ h9 => h9) rfl (by decide +kernel) rfl rfl (Nat.le_of_ble_eq_true rfl) (wM_F20 _ _ _ _ _) dX10_stepOn_63 (fun H locs hP hD hS => ?_)
        obtain ⟨hP, hD⟩ : va_P G vwCl (wM k ar (uF (uF (uF fi 18 (n18_1)) 20 (0)) 22 (n18_1)) fa fl) H ∧ va_D A (wM k ar (uF (uF (uF fi 18 (n18_1)) 20 (0)) 22 (n18_1)) fa fl) := ⟨hP, hD⟩
        refine lv_goto (tgt := 212) hx hb dX10_stepOn_66 (by decide) ?_
        refine lv_aload_n hx hb dX10_stepOn_212 rfl (lv_at hl 1 rfl) ?_
        refine lv_aload_n hx hb dX10_stepOn_213 rfl (lv_at hl 1 rfl) ?_
        refine va_get (D := G) (ci := 7) (v := .int (Int32.ofInt (n18_1))) (C := RX10) (T := TX10) (N := 71) (ref := RX10) hx hb hts h1w hown hX.1 hP 0 rfl rfl 18 (by decide) h0w (fun _ h9 => h9) rfl dX10_stepOn_214 ?_
        refine iv_put (ci := 7) (v := .int (Int32.ofInt (n18_1))) (ty := .int) (C := RX10) (T := TX10) (N := 71) (ref := RX10) hx hb hts h1w tyX10 tyX10_ok nmX10 hown hX.1 hP hD hS 0 rfl rfl 23 (by decide) h4w (fun _ h9 => h9) rfl (by decide +kernel) rfl rfl (Nat.le_of_ble_eq_true rfl) (wM_F23 _ _ _ _ _) dX10_stepOn_217 (fun H locs hP hD hS => ?_)
        exact W.vret hx hb hr (fun t ht hW => ⟨⟨(n18_1, 0, fi 21, n18_1, n18_1), rfl, (show (inR n18_1) ∧ (inR 0) ∧ (inR (fi 21)) ∧ (inR n18_1) ∧ (inR n18_1) ∧ ((fi 18 ≤ n18_1 ∧ n18_1 ≤ n18_1 ∧ n18_1 ≤ fi 19 ∧ n18_1 = n18_1 ∧ 0 ≤ 0 ∧ 0 ≤ 4 ∧ (¬ 0 = 0 → n18_1 < n18_1)) ∧ n18_1 = sk (fa 16) (fi 19) (fi 18) ∧ TS (fa 16) (fi 19) 0 n18_1 n18_1 0 (fi 21)) from ⟨(by omega), (by omega), (hR 21), (by omega), (by omega), (by first | exact ⟨by omega, hK, ts_num (by omega) (by omega) hJ3 (by omega) (by omega) hJ4⟩ | exact ⟨by omega, hK, ts_word (by omega) (by omega) hJ3 (by omega) (by omega)⟩ | exact ⟨by omega, hK, ts_sign (c := c6) (by omega) (by omega) (by omega) (by omega) hM (by omega) (by omega)⟩ | exact ⟨by omega, hK, ts_end (by omega) (by omega) (by omega)⟩)⟩), by rw [ht]; exact hP, hD⟩, hS.F ht⟩) hS.2.2 dX10_stepOn_220
    · refine lv_aload_n hx hb dX10_stepOn_26 rfl (lv_at hl 0 rfl) ?_
      refine lv_dup hx hb dX10_stepOn_27 rfl ?_
      refine va_get (D := G) (ci := 7) (v := .int (Int32.ofInt (n18_1))) (C := RX10) (T := TX10) (N := 71) (ref := RX10) hx hb hts h1w hown hX.1 hP 0 rfl rfl 18 (by decide) h0w (fun _ h9 => h9) rfl dX10_stepOn_28 ?_
      refine lv_iconst (v := Int32.ofInt 1) hx hb dX10_stepOn_31 (by decide +kernel) ?_
      refine iv_add (x := n18_1) (y := 1) hx hb dX10_stepOn_32 ?_
      refine iv_put (ci := 7) (v := .int (Int32.ofInt ((n18_1 + 1)))) (ty := .int) (C := RX10) (T := TX10) (N := 71) (ref := RX10) hx hb hts h1w tyX10 tyX10_ok nmX10 hown hX.1 hP hD hS 0 rfl rfl 18 (by decide) h0w (fun _ h9 => h9) rfl (by decide +kernel) rfl rfl (Nat.le_of_ble_eq_true rfl) (wM_F18 _ _ _ _ _) dX10_stepOn_33 (fun H locs hP hD hS => ?_)
      obtain ⟨hP, hD⟩ : va_P G vwCl (wM k ar (uF fi 18 ((n18_1 + 1))) fa fl) H ∧ va_D A (wM k ar (uF fi 18 ((n18_1 + 1))) fa fl) := ⟨hP, hD⟩
      refine lv_goto (tgt := 0) hx hb dX10_stepOn_36 (by decide) ?_
      have hl : lv_has ls 2 [(0, .ref (ar 71))] := lv_sub hl [0] rfl
      exact ih ((n18_1 + 1)) (show (fi 19 - (n18_1 + 1)).toNat < (fi 19 - n18_1).toNat from by omega) (show inR (n18_1 + 1) ∧ ((fi 18 ≤ (n18_1 + 1) ∧ (n18_1 + 1) ≤ fi 19) ∧ sk (fa 16) (fi 19) (n18_1 + 1) = sk (fa 16) (fi 19) (fi 18)) from ⟨(by omega), (by exact ⟨by omega, (sk_step (by omega) (by omega)).symm.trans hJ2⟩)⟩) _ _ _ hP hD hS hl

