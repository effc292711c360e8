set_option maxHeartbeats 4000000 in
set_option maxRecDepth 100000 in
theorem mX4_advance (l : Launch) (G : va_G) (k : Nat → ClassId) (arR : Nat → Nat) (plR : Nat) (fiR : Nat → Int) (faR : Nat → Int → Int) (arY : Nat → Nat) (fiY : Nat → Int) (faY : Nat → Int → Int) (sz : Nat) (hRR : ∀ j, inR (fiR j)) (hRaR : ∀ j t, inR (faR j t)) (hRY : ∀ j, inR (fiY j)) (hRaY : ∀ j t, inR (faY j t)) (hB0Y : bnd (faY 0) 600 (-128) 128) (hrq : 0 ≤ fiR 23 ∧ fiR 23 ≤ fiR 21 ∧ fiR 21 ≤ 600) : CNv l G k (EZ k) yX4_advance wzX4_advance ({ frames := 5, cells := 0, slots := 0, locals := 109 }) [.ref (arR 98)] sz ((wR k arR (plR) (arY 0) fiR faR) ++ (wY k arY fiY faY)) (fun (u : Int × Int × Int × Int × Int × Int) => (inR u.1) ∧ (inR u.2.1) ∧ (inR u.2.2.1) ∧ (inR u.2.2.2.1) ∧ (inR u.2.2.2.2.1) ∧ (inR u.2.2.2.2.2) ∧ ((0 ≤ u.2.1 ∧ u.2.1 ≤ fiR 21 ∧ 0 ≤ u.1 ∧ u.1 ≤ fiR 21 ∧ 0 ≤ u.2.2.2.1 ∧ u.2.2.2.1 ≤ 23) ∧ u.1 = sk (uT (faY 0)) (fiR 21) (fiR 23) ∧ CR (uT (faY 0)) (fiR 21) u.1 u.2.1 u.2.2.1 u.2.2.2.1 u.2.2.2.2.1 u.2.2.2.2.2)) (fun (u : Int × Int × Int × Int × Int × Int) => ((wR k arR (plR) (arY 0) (uF (uF (uF (uF (uF (uF fiR 22 (u.1)) 23 (u.2.1)) 24 (u.2.2.1)) 25 (u.2.2.2.1)) 26 (u.2.2.2.2.1)) 27 (u.2.2.2.2.2)) faR) ++ (wY k arY fiY faY))) := by
  refine Met.ofW (cc := cX4_advance) (maxL := 3) (ret := none) (by decide) rfl ?_
  intro p e s m args below meth c s₁ B hml hv
  obtain ⟨rfl, hsz, hP, hX, hD0, hZ0⟩ := hv
  have hx := B.exec
  have hb := B.bytes
  have hr := B.returns
  have hts := atoms_spec (ws := wzX4_advance) B.pre
  have hown : s.vm.findClass RX4 = some m.cls := findClass_of_methodNamed B.named
  subst hsz
  have hD := hD0.self (sz := s.heap.size)
  have hZ := hZ0
  generalize hAe : va_A ((wR k arR (plR) (arY 0) fiR faR) ++ (wY k arY fiY faY)) s.heap.size = A at hD hZ ⊢
  have hA : ∀ q : Nat, s.heap.size ≤ q → A q := fun q h => by rw [← hAe]; exact Or.inr h
  have hS : va_S A s.heap s.heap [] := va_S.rf
  have hl := lv_entry ([.ref (arR 98)]) (n := 3) (Nat.le_of_ble_eq_true rfl)
  rw [lg_entry_eq]
  generalize (lg_sl ([.ref (arR 98)]) ++ List.replicate (3 - (lg_sl ([.ref (arR 98)])).length) Slot.unset).toArray = ls at hl ⊢
  have hl : lv_has ls 3 [(0, .ref (arR 98))] := hl
  obtain ⟨H, eH⟩ : ∃ H, H = s.heap := ⟨_, rfl⟩
  rw [← eH] at hP
  have hS : va_S A s.heap H [] := by rw [eH]; exact hS
  have gW : s.heap = H := eH.symm
  refine iv_heap gW ?_
  have h0w := hts (.fieldLink RX4 22 "RopeTown$Reader" "next" "I") (wz_at 3 19 rfl)
  have h1w : ∀ w ∈ wsX40, w ∈ wzX4_advance := fun w h => List.mem_cons_of_mem _ (inlX4 w h)
  have h2w := hts (.fieldLink RX4 19 "RopeTown$Reader" "start" "I") (wz_at 3 18 rfl)
  have h3w := hts (.fieldLink RX4 15 "RopeTown$Reader" "length" "I") (wz_at 3 17 rfl)
  have h4w := hts (.fieldLink RX4 28 "RopeTown$Word" "UNKNOWN" "LRopeTown$Word;") (wz_at 3 21 rfl)
  have h5w := hts (.fieldLink RX4 34 "RopeTown$Reader" "word" "LRopeTown$Word;") (wz_at 3 22 rfl)
  have h6w := hts (.fieldLink RX4 40 "RopeTown$Reader" "sign" "I") (wz_at 4 0 rfl)
  have h7w := hts (.fieldLink RX4 9 "RopeTown$Reader" "text" "[B") (wz_at 3 16 rfl)
  refine lv_aload_n hx hb dX4_advance_0 rfl (lv_at hl 0 rfl) ?_
  refine lv_aload_n hx hb dX4_advance_1 rfl (lv_at hl 0 rfl) ?_
  refine va_get (D := G) (ci := 3) (v := .int (Int32.ofInt (fiR 23))) (C := RX4) (T := TX4) (N := 8) (ref := RX4) hx hb hts h1w hown hX.1 hP 1 rfl rfl 3 (by decide) h0w (fun _ h9 => h9) rfl dX4_advance_2 ?_
  have rf23R := hRR 23
  refine iv_put (ci := 3) (v := .int (Int32.ofInt (fiR 23))) (ty := .int) (C := RX4) (T := TX4) (N := 8) (ref := RX4) hx hb hts h1w tyX4 tyX4_ok nmX4 hown hX.1 hP hD hS 1 rfl rfl 2 (by decide) h2w (fun _ h9 => h9) rfl (by decide +kernel) rfl rfl (Nat.le_of_ble_eq_true rfl) (show _ = ((wR k arR (plR) (arY 0) (uF fiR 22 (fiR 23)) faR) ++ (wY k arY fiY faY)) from rfl) dX4_advance_5 (fun H locs hP hD hS => ?_)
  refine lv_aload_n hx hb dX4_advance_8 rfl (lv_at hl 0 rfl) ?_
  refine va_get (D := G) (ci := 3) (v := .int (Int32.ofInt (fiR 23))) (C := RX4) (T := TX4) (N := 8) (ref := RX4) hx hb hts h1w hown hX.1 hP 1 rfl rfl 3 (by decide) h0w (fun _ h9 => h9) rfl dX4_advance_9 ?_
  have rf23R := hRR 23
  refine lv_istore_n (lv' := [(1, .int (Int32.ofInt (fiR 23))), (0, .ref (arR 98))]) hx hb dX4_advance_12 rfl hl (by decide) rfl (fun ls hl => ?_)
  refine iv_loop (α := Int × Int) (nL := 3) (fun b9 => ((wR k arR (plR) (arY 0) (uF fiR 22 (b9.2)) faR) ++ (wY k arY fiY faY))) (fun b9 => [(1, .int (Int32.ofInt (b9.1))), (0, .ref (arR 98))]) (fun b9 => (fiR 21 - b9.1).toNat) (fun b9 => inR b9.1 ∧ inR b9.2 ∧ ((fiR 23 ≤ b9.1 ∧ b9.1 ≤ fiR 21 ∧ b9.2 = b9.1) ∧ sk (uT (faY 0)) (fiR 21) b9.1 = sk (uT (faY 0)) (fiR 21) (fiR 23))) ?_ (fiR 23, fiR 23) (show inR (fiR 23) ∧ inR (fiR 23) ∧ ((fiR 23 ≤ (fiR 23) ∧ (fiR 23) ≤ fiR 21 ∧ (fiR 23) = (fiR 23)) ∧ sk (uT (faY 0)) (fiR 21) (fiR 23) = sk (uT (faY 0)) (fiR 21) (fiR 23)) from ⟨(hRR 23), (hRR 23), (by exact ⟨by omega, rfl⟩)⟩) hP hD hS hl
  rintro ⟨x1_1, n22R_2⟩ ih hi9 H locs ls hP hD hS hl
  obtain ⟨r_x1_1, r_n22R_2, hinv⟩ : inR x1_1 ∧ inR n22R_2 ∧ ((fiR 23 ≤ x1_1 ∧ x1_1 ≤ fiR 21 ∧ n22R_2 = x1_1) ∧ sk (uT (faY 0)) (fiR 21) x1_1 = sk (uT (faY 0)) (fiR 21) (fiR 23)) := hi9
  obtain ⟨hJ1, hJ2⟩ := hinv
  obtain ⟨hP, hD⟩ : va_P G vwCl ((wR k arR (plR) (arY 0) (uF fiR 22 (n22R_2)) faR) ++ (wY k arY fiY faY)) H ∧ va_D A ((wR k arR (plR) (arY 0) (uF fiR 22 (n22R_2)) faR) ++ (wY k arY fiY faY)) := ⟨hP, hD⟩
  have hl : lv_has ls 3 [(1, .int (Int32.ofInt (x1_1))), (0, .ref (arR 98))] := hl
  refine lv_iload_n hx hb dX4_advance_13 rfl (lv_at hl 0 rfl) ?_
  refine lv_aload_n hx hb dX4_advance_14 rfl (lv_at hl 1 rfl) ?_
  refine va_get (D := G) (ci := 3) (v := .int (Int32.ofInt (fiR 21))) (C := RX4) (T := TX4) (N := 8) (ref := RX4) hx hb hts h1w hown hX.1 hP 1 rfl rfl 1 (by decide) h3w (fun _ h9 => h9) rfl dX4_advance_15 ?_
  have rf21R := hRR 21
  refine iv_icmp_ge (tgt := 56) hx hb (by omega) (by omega) dX4_advance_18 (by decide) (fun q3 => ?_) (fun q3 => ?_)
  · have hK : n22R_2 = sk (uT (faY 0)) (fiR 21) (fiR 23) := by have h9 := (sk_stop (T := uT (faY 0)) (n := fiR 21) (p := x1_1) (by omega)).symm.trans hJ2; omega
    refine lv_aload_n hx hb dX4_advance_56 rfl (lv_at hl 1 rfl) ?_
    refine va_gets (C := "RopeTown$Word") (n := "UNKNOWN") (d := "LRopeTown$Word;") (ref := "RopeTown$Word") (v := .ref (k (400 + (23 : Int).toNat))) hx hb (ez_word hZ 23 rfl) hS hown h4w (fun _ h9 => h9) dX4_advance_57 ?_
    refine iv_put (ci := 3) (v := .ref (k (400 + (23 : Int).toNat))) (ty := .object "RopeTown$Word") (C := RX4) (T := TX4) (N := 8) (ref := RX4) hx hb hts h1w tyX4 tyX4_ok nmX4 hown hX.1 hP hD hS 1 rfl rfl 5 (by decide) h5w (fun _ h9 => h9) rfl (by decide +kernel) rfl rfl (Nat.le_of_ble_eq_true rfl) (show _ = ((wR k arR (plR) (arY 0) (uF (uF fiR 22 (n22R_2)) 25 (23)) faR) ++ (wY k arY fiY faY)) from rfl) dX4_advance_60 (fun H locs hP hD hS => ?_)
    refine lv_aload_n hx hb dX4_advance_63 rfl (lv_at hl 1 rfl) ?_
    refine lv_iconst (v := Int32.ofInt 0) hx hb dX4_advance_64 (by decide +kernel) ?_
    refine iv_put (ci := 3) (v := .int (Int32.ofInt (0))) (ty := .int) (C := RX4) (T := TX4) (N := 8) (ref := RX4) hx hb hts h1w tyX4 tyX4_ok nmX4 hown hX.1 hP hD hS 1 rfl rfl 7 (by decide) h6w (fun _ h9 => h9) rfl (by decide +kernel) rfl rfl (Nat.le_of_ble_eq_true rfl) (show _ = ((wR k arR (plR) (arY 0) (uF (uF (uF fiR 22 (n22R_2)) 25 (23)) 27 (0)) faR) ++ (wY k arY fiY faY)) from rfl) dX4_advance_65 (fun H locs hP hD hS => ?_)
    refine lv_aload_n hx hb dX4_advance_68 rfl (lv_at hl 1 rfl) ?_
    refine lv_bipush (v := Int32.ofInt 97) hx hb dX4_advance_69 (by decide +kernel) ?_
    refine lv_bipush (v := Int32.ofInt 122) hx hb dX4_advance_71 (by decide +kernel) ?_
    refine cr_i (va_runV (As := [.int (Int32.ofInt (97)), .int (Int32.ofInt (122))]) (rest := []) ⟨hx, hb, hml, hown, hts⟩ (mX4_rowEnd l G k arR plR (uF (uF (uF fiR 22 (n22R_2)) 25 (23)) 27 (0)) faR arY fiY faY 97 122 H.size (iF (iF (iF hRR (by omega)) (by omega)) (by omega)) hRaR hRY hRaY hB0Y (by omega) (by omega) (show 0 ≤ n22R_2 ∧ n22R_2 ≤ (fiR 21) ∧ (fiR 21) ≤ 600 from by omega) (show 0 ≤ 97 ∧ 122 ≤ 127 from by omega)) (cwV 2 hts (gz [.methodLink RX4 46 yX4_rowEnd, .instanceMethod yX4_rowEnd, .selects RX4 yX4_rowEnd yX4_rowEnd, .initialized RX4] (.code yX4_rowEnd cX4_rowEnd 5 (some .int)) [(9, 11), (9, 12), (9, 13), (3, 7), (9, 14)] rfl) rfl rfl rfl (by decide +kernel) ⟨Nat.le_of_ble_eq_true rfl, Nat.le_of_ble_eq_true rfl⟩) (cr_preV (EZ_ok k) hZ hS hX hP hD hA (ci := 3) (q0 := 1) rfl rfl) rfl rfl hl.1 rfl (lv_room (Nat.le_of_ble_eq_true rfl)) dX4_advance_73 ⟨Nat.le_of_ble_eq_true rfl, Nat.le_of_ble_eq_true rfl⟩) hD hS hA (fun r u H locs hp hP hD hS => ?_)
    obtain ⟨c4, rfl⟩ : ∃ z, z = u := ⟨_, rfl⟩
    obtain ⟨h9, rc4, hp4⟩ : r = Int32.ofInt c4 ∧ (inR c4) ∧ (n22R_2 ≤ c4 ∧ c4 ≤ (fiR 21) ∧ c4 = rE (uT ((faY 0))) ((fiR 21)) 97 122 (n22R_2)) := hp
    subst h9
    refine lv_istore_n (lv' := [(1, .int (Int32.ofInt (c4))), (0, .ref (arR 98))]) hx hb dX4_advance_76 rfl hl (by decide) rfl (fun ls hl => ?_)
    refine lv_aload_n hx hb dX4_advance_77 rfl (lv_at hl 1 rfl) ?_
    refine lv_bipush (v := Int32.ofInt 48) hx hb dX4_advance_78 (by decide +kernel) ?_
    refine lv_bipush (v := Int32.ofInt 57) hx hb dX4_advance_80 (by decide +kernel) ?_
    refine cr_i (va_runV (As := [.int (Int32.ofInt (48)), .int (Int32.ofInt (57))]) (rest := []) ⟨hx, hb, hml, hown, hts⟩ (mX4_rowEnd l G k arR plR (uF (uF (uF fiR 22 (n22R_2)) 25 (23)) 27 (0)) faR arY fiY faY 48 57 H.size (iF (iF (iF hRR (by omega)) (by omega)) (by omega)) hRaR hRY hRaY hB0Y (by omega) (by omega) (show 0 ≤ n22R_2 ∧ n22R_2 ≤ (fiR 21) ∧ (fiR 21) ≤ 600 from by omega) (show 0 ≤ 48 ∧ 57 ≤ 127 from by omega)) (cwV 2 hts (gz [.methodLink RX4 46 yX4_rowEnd, .instanceMethod yX4_rowEnd, .selects RX4 yX4_rowEnd yX4_rowEnd, .initialized RX4] (.code yX4_rowEnd cX4_rowEnd 5 (some .int)) [(9, 11), (9, 12), (9, 13), (3, 7), (9, 14)] rfl) rfl rfl rfl (by decide +kernel) ⟨Nat.le_of_ble_eq_true rfl, Nat.le_of_ble_eq_true rfl⟩) (cr_preV (EZ_ok k) hZ hS hX hP hD hA (ci := 3) (q0 := 1) rfl rfl) rfl rfl hl.1 rfl (lv_room (Nat.le_of_ble_eq_true rfl)) dX4_advance_82 ⟨Nat.le_of_ble_eq_true rfl, Nat.le_of_ble_eq_true rfl⟩) hD hS hA (fun r u H locs hp hP hD hS => ?_)
    obtain ⟨c5, rfl⟩ : ∃ z, z = u := ⟨_, rfl⟩
    obtain ⟨h9, rc5, hp5⟩ : r = Int32.ofInt c5 ∧ (inR c5) ∧ (n22R_2 ≤ c5 ∧ c5 ≤ (fiR 21) ∧ c5 = rE (uT ((faY 0))) ((fiR 21)) 48 57 (n22R_2)) := hp
    subst h9
    refine lv_istore_n (lv' := [(2, .int (Int32.ofInt (c5))), (1, .int (Int32.ofInt (c4))), (0, .ref (arR 98))]) hx hb dX4_advance_85 rfl hl (by decide) rfl (fun ls hl => ?_)
    refine lv_aload_n hx hb dX4_advance_86 rfl (lv_at hl 2 rfl) ?_
    refine va_get (D := G) (ci := 3) (v := .int (Int32.ofInt (n22R_2))) (C := RX4) (T := TX4) (N := 8) (ref := RX4) hx hb hts h1w hown hX.1 hP 1 rfl rfl 2 (by decide) h2w (fun _ h9 => h9) rfl dX4_advance_87 ?_
    refine lv_aload_n hx hb dX4_advance_90 rfl (lv_at hl 2 rfl) ?_
    refine va_get (D := G) (ci := 3) (v := .int (Int32.ofInt (fiR 21))) (C := RX4) (T := TX4) (N := 8) (ref := RX4) hx hb hts h1w hown hX.1 hP 1 rfl rfl 1 (by decide) h3w (fun _ h9 => h9) rfl dX4_advance_91 ?_
    have rf21R := hRR 21
    refine iv_icmp_lt (tgt := 104) hx hb (by omega) (by omega) dX4_advance_94 (by decide) (fun q6 => ?_) (fun q6 => ?_)
    · refine lv_iload_n hx hb dX4_advance_104 rfl (lv_at hl 1 rfl) ?_
      refine lv_aload_n hx hb dX4_advance_105 rfl (lv_at hl 2 rfl) ?_
      refine va_get (D := G) (ci := 3) (v := .int (Int32.ofInt (n22R_2))) (C := RX4) (T := TX4) (N := 8) (ref := RX4) hx hb hts h1w hown hX.1 hP 1 rfl rfl 2 (by decide) h2w (fun _ h9 => h9) rfl dX4_advance_106 ?_
      refine iv_icmp_le (tgt := 124) hx hb (by omega) (by omega) dX4_advance_109 (by decide) (fun q7 => ?_) (fun q7 => ?_)
      · refine lv_iload_n hx hb dX4_advance_124 rfl (lv_at hl 0 rfl) ?_
        refine lv_aload_n hx hb dX4_advance_125 rfl (lv_at hl 2 rfl) ?_
        refine va_get (D := G) (ci := 3) (v := .int (Int32.ofInt (n22R_2))) (C := RX4) (T := TX4) (N := 8) (ref := RX4) hx hb hts h1w hown hX.1 hP 1 rfl rfl 2 (by decide) h2w (fun _ h9 => h9) rfl dX4_advance_126 ?_
        refine iv_icmp_le (tgt := 144) hx hb (by omega) (by omega) dX4_advance_129 (by decide) (fun q8 => ?_) (fun q8 => ?_)
        · refine lv_aload_n hx hb dX4_advance_144 rfl (lv_at hl 2 rfl) ?_
          refine lv_aload_n hx hb dX4_advance_145 rfl (lv_at hl 2 rfl) ?_
          refine va_get (D := G) (ci := 3) (v := .int (Int32.ofInt (n22R_2))) (C := RX4) (T := TX4) (N := 8) (ref := RX4) hx hb hts h1w hown hX.1 hP 1 rfl rfl 2 (by decide) h2w (fun _ h9 => h9) rfl dX4_advance_146 ?_
          refine lv_iconst (v := Int32.ofInt 1) hx hb dX4_advance_149 (by decide +kernel) ?_
          refine iv_add (x := n22R_2) (y := 1) hx hb dX4_advance_150 ?_
          refine iv_put (ci := 3) (v := .int (Int32.ofInt ((n22R_2 + 1)))) (ty := .int) (C := RX4) (T := TX4) (N := 8) (ref := RX4) hx hb hts h1w tyX4 tyX4_ok nmX4 hown hX.1 hP hD hS 1 rfl rfl 3 (by decide) h0w (fun _ h9 => h9) rfl (by decide +kernel) rfl rfl (Nat.le_of_ble_eq_true rfl) (show _ = ((wR k arR (plR) (arY 0) (uF (uF (uF (uF fiR 22 (n22R_2)) 23 ((n22R_2 + 1))) 25 (23)) 27 (0)) faR) ++ (wY k arY fiY faY)) from rfl) dX4_advance_151 (fun H locs hP hD hS => ?_)
          have hL1 := rE_le (T := uT (faY 0)) (n := fiR 21) (lo := 97) (hi := 122) (s := n22R_2) (by omega) (by omega)
          have hL2 := rE_le (T := uT (faY 0)) (n := fiR 21) (lo := 48) (hi := 57) (s := n22R_2) (by omega) (by omega)
          refine lv_aload_n hx hb dX4_advance_154 rfl (lv_at hl 2 rfl) ?_
          refine cr_v (va_runV (As := []) (rest := []) ⟨hx, hb, hml, hown, hts⟩ (mX4_takeSign l G k arR plR (uF (uF (uF (uF fiR 22 (n22R_2)) 23 ((n22R_2 + 1))) 25 (23)) 27 (0)) faR arY fiY faY H.size (iF (iF (iF (iF hRR (by omega)) (by omega)) (by omega)) (by omega)) hRaR hRY hRaY hB0Y (show 0 ≤ n22R_2 ∧ n22R_2 < (fiR 21) ∧ (fiR 21) ≤ 600 from by omega) (show 0 = 0 from by omega)) (cwV 0 hts (gz [.methodLink RX4 59 yX4_takeSign, .instanceMethod yX4_takeSign, .selects RX4 yX4_takeSign yX4_takeSign, .initialized RX4] (.code yX4_takeSign cX4_takeSign 1 none) [(12, 5), (12, 6), (12, 7), (3, 7), (12, 8)] rfl) rfl rfl rfl (by decide +kernel) ⟨Nat.le_of_ble_eq_true rfl, Nat.le_of_ble_eq_true rfl⟩) (cr_preV (EZ_ok k) hZ hS hX hP hD hA (ci := 3) (q0 := 1) rfl rfl) rfl rfl hl.1 rfl (lv_room (Nat.le_of_ble_eq_true rfl)) dX4_advance_155 ⟨Nat.le_of_ble_eq_true rfl, Nat.le_of_ble_eq_true rfl⟩) hD hS hA (fun u H locs hp hP hD hS => ?_)
          obtain ⟨c9, c10⟩ := u
          obtain ⟨hP, hD⟩ : va_P G vwCl ((wR k arR (plR) (arY 0) (uF (uF (uF (uF (uF fiR 22 (n22R_2)) 23 ((n22R_2 + 1))) 24 (c9)) 25 (23)) 27 (c10)) faR) ++ (wY k arY fiY faY)) H ∧ va_D A ((wR k arR (plR) (arY 0) (uF (uF (uF (uF (uF fiR 22 (n22R_2)) 23 ((n22R_2 + 1))) 24 (c9)) 25 (23)) 27 (c10)) faR) ++ (wY k arY fiY faY)) := ⟨hP, hD⟩
          obtain ⟨rc9, rc10, hp10⟩ : (inR c9) ∧ (inR c10) ∧ (SGp (uT ((faY 0))) (n22R_2) c9 c10) := hp
          have hSG := hp10
          exact W.vret hx hb hr (fun t ht hW => ⟨⟨(n22R_2, (n22R_2 + 1), c9, 23, fiR 26, c10), rfl, (show (inR n22R_2) ∧ (inR (n22R_2 + 1)) ∧ (inR c9) ∧ (inR 23) ∧ (inR (fiR 26)) ∧ (inR c10) ∧ ((0 ≤ (n22R_2 + 1) ∧ (n22R_2 + 1) ≤ fiR 21 ∧ 0 ≤ n22R_2 ∧ n22R_2 ≤ fiR 21 ∧ 0 ≤ 23 ∧ 23 ≤ 23) ∧ n22R_2 = sk (uT (faY 0)) (fiR 21) (fiR 23) ∧ CR (uT (faY 0)) (fiR 21) n22R_2 (n22R_2 + 1) c9 23 (fiR 26) c10) from ⟨(by omega), (by omega), (by omega), (by omega), (hRR 26), (by omega), (by first | exact ⟨by omega, by omega, cr_end (by omega) (by omega) (by omega) (by omega) (by omega)⟩ | exact ⟨by omega, hK, cr_word hL.1 hL.2 (by omega) (by omega) hcw (by omega)⟩ | exact ⟨by omega, hK, cr_num hDg.1 hDg.2 (by omega) (by omega) (by omega) (by omega) (by omega)⟩ | exact ⟨by omega, hK, cr_sign (by omega) hL1 hL2 (by omega) (by omega) hSG⟩ | (exfalso; omega))⟩), by rw [ht]; exact hP, hD⟩, hS.F ht⟩) hS.2.2 dX4_advance_158
        · refine lv_aload_n hx hb dX4_advance_132 rfl (lv_at hl 2 rfl) ?_
          refine lv_iload_n hx hb dX4_advance_133 rfl (lv_at hl 0 rfl) ?_
          refine iv_put (ci := 3) (v := .int (Int32.ofInt (c5))) (ty := .int) (C := RX4) (T := TX4) (N := 8) (ref := RX4) hx hb hts h1w tyX4 tyX4_ok nmX4 hown hX.1 hP hD hS 1 rfl rfl 3 (by decide) h0w (fun _ h9 => h9) rfl (by decide +kernel) rfl rfl (Nat.le_of_ble_eq_true rfl) (show _ = ((wR k arR (plR) (arY 0) (uF (uF (uF (uF fiR 22 (n22R_2)) 23 (c5)) 25 (23)) 27 (0)) faR) ++ (wY k arY fiY faY)) from rfl) dX4_advance_134 (fun H locs hP hD hS => ?_)
          have hL1 := rE_le (T := uT (faY 0)) (n := fiR 21) (lo := 97) (hi := 122) (s := n22R_2) (by omega) (by omega)
          have hDg := rE_gt (T := uT (faY 0)) (n := fiR 21) (lo := 48) (hi := 57) (s := n22R_2) (by omega)
          have hkn := kd_d hDg.1 hDg.2
          refine lv_aload_n hx hb dX4_advance_137 rfl (lv_at hl 2 rfl) ?_
          refine cr_v (va_runV (As := []) (rest := []) ⟨hx, hb, hml, hown, hts⟩ (mX4_takeNumber l G k arR plR (uF (uF (uF (uF fiR 22 (n22R_2)) 23 (c5)) 25 (23)) 27 (0)) faR arY fiY faY H.size (iF (iF (iF (iF hRR (by omega)) (by omega)) (by omega)) (by omega)) hRaR hRY hRaY hB0Y (show 0 ≤ n22R_2 ∧ n22R_2 ≤ c5 ∧ c5 ≤ (fiR 21) ∧ (fiR 21) ≤ 600 from by omega) (show kd (uT ((faY 0))) ((fiR 21)) (n22R_2) = 2 ∧ c5 = en (uT ((faY 0))) ((fiR 21)) (n22R_2) from by exact ⟨hkn.1, by omega⟩)) (cwV 0 hts (gz [.methodLink RX4 56 yX4_takeNumber, .instanceMethod yX4_takeNumber, .selects RX4 yX4_takeNumber yX4_takeNumber, .initialized RX4] (.code yX4_takeNumber cX4_takeNumber 2 none) [(12, 1), (12, 2), (12, 3), (3, 7), (12, 4)] rfl) rfl rfl rfl (by decide +kernel) ⟨Nat.le_of_ble_eq_true rfl, Nat.le_of_ble_eq_true rfl⟩) (cr_preV (EZ_ok k) hZ hS hX hP hD hA (ci := 3) (q0 := 1) rfl rfl) rfl rfl hl.1 rfl (lv_room (Nat.le_of_ble_eq_true rfl)) dX4_advance_138 ⟨Nat.le_of_ble_eq_true rfl, Nat.le_of_ble_eq_true rfl⟩) hD hS hA (fun u H locs hp hP hD hS => ?_)
          obtain ⟨c11, c12⟩ := u
          obtain ⟨hP, hD⟩ : va_P G vwCl ((wR k arR (plR) (arY 0) (uF (uF (uF (uF (uF (uF fiR 22 (n22R_2)) 23 (c5)) 24 (c11)) 25 (23)) 26 (c12)) 27 (0)) faR) ++ (wY k arY fiY faY)) H ∧ va_D A ((wR k arR (plR) (arY 0) (uF (uF (uF (uF (uF (uF fiR 22 (n22R_2)) 23 (c5)) 24 (c11)) 25 (23)) 26 (c12)) 27 (0)) faR) ++ (wY k arY fiY faY)) := ⟨hP, hD⟩
          obtain ⟨rc11, rc12, hp12⟩ : (inR c11) ∧ (inR c12) ∧ (c11 = 2 ∧ c12 = nmb (uT ((faY 0))) ((fiR 21)) (n22R_2)) := hp
          refine lv_goto (tgt := 158) hx hb dX4_advance_141 (by decide) ?_
          exact W.vret hx hb hr (fun t ht hW => ⟨⟨(n22R_2, c5, c11, 23, c12, 0), rfl, (show (inR n22R_2) ∧ (inR c5) ∧ (inR c11) ∧ (inR 23) ∧ (inR c12) ∧ (inR 0) ∧ ((0 ≤ c5 ∧ c5 ≤ fiR 21 ∧ 0 ≤ n22R_2 ∧ n22R_2 ≤ fiR 21 ∧ 0 ≤ 23 ∧ 23 ≤ 23) ∧ n22R_2 = sk (uT (faY 0)) (fiR 21) (fiR 23) ∧ CR (uT (faY 0)) (fiR 21) n22R_2 c5 c11 23 c12 0) from ⟨(by omega), (by omega), (by omega), (by omega), (by omega), (by omega), (by first | exact ⟨by omega, by omega, cr_end (by omega) (by omega) (by omega) (by omega) (by omega)⟩ | exact ⟨by omega, hK, cr_word hL.1 hL.2 (by omega) (by omega) hcw (by omega)⟩ | exact ⟨by omega, hK, cr_num hDg.1 hDg.2 (by omega) (by omega) (by omega) (by omega) (by omega)⟩ | exact ⟨by omega, hK, cr_sign (by omega) hL1 hL2 (by omega) (by omega) hSG⟩ | (exfalso; omega))⟩), by rw [ht]; exact hP, hD⟩, hS.F ht⟩) hS.2.2 dX4_advance_158
      · refine lv_aload_n hx hb dX4_advance_112 rfl (lv_at hl 2 rfl) ?_
        refine lv_iload_n hx hb dX4_advance_113 rfl (lv_at hl 1 rfl) ?_
        refine iv_put (ci := 3) (v := .int (Int32.ofInt (c4))) (ty := .int) (C := RX4) (T := TX4) (N := 8) (ref := RX4) hx hb hts h1w tyX4 tyX4_ok nmX4 hown hX.1 hP hD hS 1 rfl rfl 3 (by decide) h0w (fun _ h9 => h9) rfl (by decide +kernel) rfl rfl (Nat.le_of_ble_eq_true rfl) (show _ = ((wR k arR (plR) (arY 0) (uF (uF (uF (uF fiR 22 (n22R_2)) 23 (c4)) 25 (23)) 27 (0)) faR) ++ (wY k arY fiY faY)) from rfl) dX4_advance_114 (fun H locs hP hD hS => ?_)
        have hL := rE_gt (T := uT (faY 0)) (n := fiR 21) (lo := 97) (hi := 122) (s := n22R_2) (by omega)
        have hkw := kd_w hL.1 hL.2
        refine lv_aload_n hx hb dX4_advance_117 rfl (lv_at hl 2 rfl) ?_
        refine cr_v (va_runV (As := []) (rest := []) ⟨hx, hb, hml, hown, hts⟩ (mX4_takeWord l G k arR plR (uF (uF (uF (uF fiR 22 (n22R_2)) 23 (c4)) 25 (23)) 27 (0)) faR arY fiY faY H.size (iF (iF (iF (iF hRR (by omega)) (by omega)) (by omega)) (by omega)) hRaR hRY hRaY hB0Y (show 0 ≤ n22R_2 ∧ n22R_2 ≤ c4 ∧ c4 ≤ (fiR 21) ∧ (fiR 21) ≤ 600 from by omega) (show 23 = 23 from by omega) (show kd (uT ((faY 0))) ((fiR 21)) (n22R_2) = 1 ∧ c4 = en (uT ((faY 0))) ((fiR 21)) (n22R_2) from by exact ⟨hkw.1, by omega⟩)) (cwV 0 hts (gz [.methodLink RX4 53 yX4_takeWord, .instanceMethod yX4_takeWord, .selects RX4 yX4_takeWord yX4_takeWord, .initialized RX4] (.code yX4_takeWord cX4_takeWord 5 none) [(9, 19), (9, 20), (9, 21), (3, 7), (9, 22)] rfl) rfl rfl rfl (by decide +kernel) ⟨Nat.le_of_ble_eq_true rfl, Nat.le_of_ble_eq_true rfl⟩) (cr_preV (EZ_ok k) hZ hS hX hP hD hA (ci := 3) (q0 := 1) rfl rfl) rfl rfl hl.1 rfl (lv_room (Nat.le_of_ble_eq_true rfl)) dX4_advance_118 ⟨Nat.le_of_ble_eq_true rfl, Nat.le_of_ble_eq_true rfl⟩) hD hS hA (fun u H locs hp hP hD hS => ?_)
        obtain ⟨c13, c14⟩ := u
        obtain ⟨hP, hD⟩ : va_P G vwCl ((wR k arR (plR) (arY 0) (uF (uF (uF (uF (uF fiR 22 (n22R_2)) 23 (c4)) 24 (c13)) 25 (c14)) 27 (0)) faR) ++ (wY k arY fiY faY)) H ∧ va_D A ((wR k arR (plR) (arY 0) (uF (uF (uF (uF (uF fiR 22 (n22R_2)) 23 (c4)) 24 (c13)) 25 (c14)) 27 (0)) faR) ++ (wY k arY fiY faY)) := ⟨hP, hD⟩
        obtain ⟨rc13, rc14, hp14⟩ : (inR c13) ∧ (inR c14) ∧ ((0 ≤ c14 ∧ c14 ≤ 23 ∧ c13 = 1) ∧ c14 = cw (uT ((faY 0))) ((fiR 21)) (n22R_2)) := hp
        obtain ⟨hp14, hcw⟩ := hp14
        refine lv_goto (tgt := 158) hx hb dX4_advance_121 (by decide) ?_
        exact W.vret hx hb hr (fun t ht hW => ⟨⟨(n22R_2, c4, c13, c14, fiR 26, 0), rfl, (show (inR n22R_2) ∧ (inR c4) ∧ (inR c13) ∧ (inR c14) ∧ (inR (fiR 26)) ∧ (inR 0) ∧ ((0 ≤ c4 ∧ c4 ≤ fiR 21 ∧ 0 ≤ n22R_2 ∧ n22R_2 ≤ fiR 21 ∧ 0 ≤ c14 ∧ c14 ≤ 23) ∧ n22R_2 = sk (uT (faY 0)) (fiR 21) (fiR 23) ∧ CR (uT (faY 0)) (fiR 21) n22R_2 c4 c13 c14 (fiR 26) 0) from ⟨(by omega), (by omega), (by omega), (by omega), (hRR 26), (by omega), (by first | exact ⟨by omega, by omega, cr_end (by omega) (by omega) (by omega) (by omega) (by omega)⟩ | exact ⟨by omega, hK, cr_word hL.1 hL.2 (by omega) (by omega) hcw (by omega)⟩ | exact ⟨by omega, hK, cr_num hDg.1 hDg.2 (by omega) (by omega) (by omega) (by omega) (by omega)⟩ | exact ⟨by omega, hK, cr_sign (by omega) hL1 hL2 (by omega) (by omega) hSG⟩ | (exfalso; omega))⟩), by rw [ht]; exact hP, hD⟩, hS.F ht⟩) hS.2.2 dX4_advance_158
    · refine lv_aload_n hx hb dX4_advance_97 rfl (lv_at hl 2 rfl) ?_
      refine cr_v (va_runV (As := []) (rest := []) ⟨hx, hb, hml, hown, hts⟩ (mX4_stop l G k arR plR (uF (uF (uF fiR 22 (n22R_2)) 25 (23)) 27 (0)) faR arY fiY faY H.size (iF (iF (iF hRR (by omega)) (by omega)) (by omega)) hRaR hRY hRaY hB0Y (show 0 ≤ (fiR 21) from by omega)) (cwV 0 hts (gz [.methodLink RX4 50 yX4_stop, .instanceMethod yX4_stop, .selects RX4 yX4_stop yX4_stop, .initialized RX4] (.code yX4_stop cX4_stop 1 none) [(9, 15), (9, 16), (9, 17), (3, 7), (9, 18)] rfl) rfl rfl rfl (by decide +kernel) ⟨Nat.le_of_ble_eq_true rfl, Nat.le_of_ble_eq_true rfl⟩) (cr_preV (EZ_ok k) hZ hS hX hP hD hA (ci := 3) (q0 := 1) rfl rfl) rfl rfl hl.1 rfl (lv_room (Nat.le_of_ble_eq_true rfl)) dX4_advance_98 ⟨Nat.le_of_ble_eq_true rfl, Nat.le_of_ble_eq_true rfl⟩) hD hS hA (fun u H locs hp hP hD hS => ?_)
      obtain ⟨c15, c16, c17, c18, c19⟩ := u
      obtain ⟨hP, hD⟩ : va_P G vwCl ((wR k arR (plR) (arY 0) (uF (uF (uF (uF (uF fiR 22 (c15)) 23 (c16)) 24 (c17)) 25 (c18)) 27 (c19)) faR) ++ (wY k arY fiY faY)) H ∧ va_D A ((wR k arR (plR) (arY 0) (uF (uF (uF (uF (uF fiR 22 (c15)) 23 (c16)) 24 (c17)) 25 (c18)) 27 (c19)) faR) ++ (wY k arY fiY faY)) := ⟨hP, hD⟩
      obtain ⟨rc15, rc16, rc17, rc18, rc19, hp19⟩ : (inR c15) ∧ (inR c16) ∧ (inR c17) ∧ (inR c18) ∧ (inR c19) ∧ (c15 = (fiR 21) ∧ c16 = (fiR 21) ∧ c18 = 23 ∧ c17 = 0 ∧ c19 = 0) := hp
      refine lv_goto (tgt := 158) hx hb dX4_advance_101 (by decide) ?_
      exact W.vret hx hb hr (fun t ht hW => ⟨⟨(c15, c16, c17, c18, fiR 26, c19), rfl, (show (inR c15) ∧ (inR c16) ∧ (inR c17) ∧ (inR c18) ∧ (inR (fiR 26)) ∧ (inR c19) ∧ ((0 ≤ c16 ∧ c16 ≤ fiR 21 ∧ 0 ≤ c15 ∧ c15 ≤ fiR 21 ∧ 0 ≤ c18 ∧ c18 ≤ 23) ∧ c15 = sk (uT (faY 0)) (fiR 21) (fiR 23) ∧ CR (uT (faY 0)) (fiR 21) c15 c16 c17 c18 (fiR 26) c19) from ⟨(by omega), (by omega), (by omega), (by omega), (hRR 26), (by omega), (by first | exact ⟨by omega, by omega, cr_end (by omega) (by omega) (by omega) (by omega) (by omega)⟩ | exact ⟨by omega, hK, cr_word hL.1 hL.2 (by omega) (by omega) hcw (by omega)⟩ | exact ⟨by omega, hK, cr_num hDg.1 hDg.2 (by omega) (by omega) (by omega) (by omega) (by omega)⟩ | exact ⟨by omega, hK, cr_sign (by omega) hL1 hL2 (by omega) (by omega) hSG⟩ | (exfalso; omega))⟩), by rw [ht]; exact hP, hD⟩, hS.F ht⟩) hS.2.2 dX4_advance_158
  · refine lv_aload_n hx hb dX4_advance_21 rfl (lv_at hl 1 rfl) ?_
    refine va_get (D := G) (ci := 3) (v := .ref (arY 0)) (C := RX4) (T := TX4) (N := 8) (ref := RX4) hx hb hts h1w hown hX.1 hP 1 rfl rfl 0 (by decide) h7w (fun _ h9 => h9) rfl dX4_advance_22 ?_
    refine lv_iload_n hx hb dX4_advance_25 rfl (lv_at hl 0 rfl) ?_
    refine iv_bald hx hb hX.1 hP 2 1 rfl rfl (by omega) (by omega) (by decide) dX4_advance_26 ?_
    refine iv_top (fun z20 ez20 => ?_)
    have rz20 : inR z20 := ez20 ▸ (hRaY 0) _
    have ez20 : z20 = (faY 0) x1_1 := ez20
    have bz20 : (-128) ≤ z20 ∧ z20 < 128 := by rw [ez20]; exact bnd_at hB0Y (by omega) (by omega)
    have hU := uT_e (faY 0) x1_1
    refine lv_bipush (v := Int32.ofInt 32) hx hb dX4_advance_27 (by decide +kernel) ?_
    refine iv_icmp_eq (tgt := 43) hx hb (by omega) (by omega) dX4_advance_29 (by decide) (fun q21 => ?_) (fun q21 => ?_)
    · refine lv_aload_n hx hb dX4_advance_43 rfl (lv_at hl 1 rfl) ?_
      refine lv_iload_n hx hb dX4_advance_44 rfl (lv_at hl 0 rfl) ?_
      refine lv_iconst (v := Int32.ofInt 1) hx hb dX4_advance_45 (by decide +kernel) ?_
      refine iv_add (x := x1_1) (y := 1) hx hb dX4_advance_46 ?_
      refine iv_put (ci := 3) (v := .int (Int32.ofInt ((x1_1 + 1)))) (ty := .int) (C := RX4) (T := TX4) (N := 8) (ref := RX4) hx hb hts h1w tyX4 tyX4_ok nmX4 hown hX.1 hP hD hS 1 rfl rfl 2 (by decide) h2w (fun _ h9 => h9) rfl (by decide +kernel) rfl rfl (Nat.le_of_ble_eq_true rfl) (show _ = ((wR k arR (plR) (arY 0) (uF fiR 22 ((x1_1 + 1))) faR) ++ (wY k arY fiY faY)) from rfl) dX4_advance_47 (fun H locs hP hD hS => ?_)
      refine lv_iinc (v := Int32.ofInt (x1_1 + 1)) (lv' := [(1, .int (Int32.ofInt ((x1_1 + 1)))), (0, .ref (arR 98))]) hx hb dX4_advance_50 hl (k := 0) rfl (Int32.ofInt_add _ _).symm (by decide) rfl (fun ls hl => ?_)
      refine lv_goto (tgt := 13) hx hb dX4_advance_53 (by decide) ?_
      have hl : lv_has ls 3 [(1, .int (Int32.ofInt ((x1_1 + 1)))), (0, .ref (arR 98))] := lv_sub hl [0, 1] rfl
      exact ih ((x1_1 + 1), (x1_1 + 1)) (show (fiR 21 - (x1_1 + 1)).toNat < (fiR 21 - x1_1).toNat from by omega) (show inR (x1_1 + 1) ∧ inR (x1_1 + 1) ∧ ((fiR 23 ≤ (x1_1 + 1) ∧ (x1_1 + 1) ≤ fiR 21 ∧ (x1_1 + 1) = (x1_1 + 1)) ∧ sk (uT (faY 0)) (fiR 21) (x1_1 + 1) = sk (uT (faY 0)) (fiR 21) (fiR 23)) from ⟨(by omega), (by omega), (by exact ⟨by omega, (sk_step (by omega) (by omega)).symm.trans hJ2⟩)⟩) _ _ _ hP hD hS hl
    · refine lv_aload_n hx hb dX4_advance_32 rfl (lv_at hl 1 rfl) ?_
      refine va_get (D := G) (ci := 3) (v := .ref (arY 0)) (C := RX4) (T := TX4) (N := 8) (ref := RX4) hx hb hts h1w hown hX.1 hP 1 rfl rfl 0 (by decide) h7w (fun _ h9 => h9) rfl dX4_advance_33 ?_
      refine lv_iload_n hx hb dX4_advance_36 rfl (lv_at hl 0 rfl) ?_
      refine iv_bald hx hb hX.1 hP 2 1 rfl rfl (by omega) (by omega) (by decide) dX4_advance_37 ?_
      refine iv_top (fun z22 ez22 => ?_)
      have rz22 : inR z22 := ez22 ▸ (hRaY 0) _
      have ez22 : z22 = (faY 0) x1_1 := ez22
      have bz22 : (-128) ≤ z22 ∧ z22 < 128 := by rw [ez22]; exact bnd_at hB0Y (by omega) (by omega)
      refine lv_bipush (v := Int32.ofInt 10) hx hb dX4_advance_38 (by decide +kernel) ?_
      refine iv_icmp_ne (tgt := 56) hx hb (by omega) (by omega) dX4_advance_40 (by decide) (fun q23 => ?_) (fun q23 => ?_)
      · have hK : n22R_2 = sk (uT (faY 0)) (fiR 21) (fiR 23) := by have h9 := (sk_stop (T := uT (faY 0)) (n := fiR 21) (p := x1_1) (by omega)).symm.trans hJ2; omega
        refine lv_aload_n hx hb dX4_advance_56 rfl (lv_at hl 1 rfl) ?_
        refine va_gets (C := "RopeTown$Word") (n := "UNKNOWN") (d := "LRopeTown$Word;") (ref := "RopeTown$Word") (v := .ref (k (400 + (23 : Int).toNat))) hx hb (ez_word hZ 23 rfl) hS hown h4w (fun _ h9 => h9) dX4_advance_57 ?_
        refine iv_put (ci := 3) (v := .ref (k (400 + (23 : Int).toNat))) (ty := .object "RopeTown$Word") (C := RX4) (T := TX4) (N := 8) (ref := RX4) hx hb hts h1w tyX4 tyX4_ok nmX4 hown hX.1 hP hD hS 1 rfl rfl 5 (by decide) h5w (fun _ h9 => h9) rfl (by decide +kernel) rfl rfl (Nat.le_of_ble_eq_true rfl) (show _ = ((wR k arR (plR) (arY 0) (uF (uF fiR 22 (n22R_2)) 25 (23)) faR) ++ (wY k arY fiY faY)) from rfl) dX4_advance_60 (fun H locs hP hD hS => ?_)
        refine lv_aload_n hx hb dX4_advance_63 rfl (lv_at hl 1 rfl) ?_
        refine lv_iconst (v := Int32.ofInt 0) hx hb dX4_advance_64 (by decide +kernel) ?_
        refine iv_put (ci := 3) (v := .int (Int32.ofInt (0))) (ty := .int) (C := RX4) (T := TX4) (N := 8) (ref := RX4) hx hb hts h1w tyX4 tyX4_ok nmX4 hown hX.1 hP hD hS 1 rfl rfl 7 (by decide) h6w (fun _ h9 => h9) rfl (by decide +kernel) rfl rfl (Nat.le_of_ble_eq_true rfl) (show _ = ((wR k arR (plR) (arY 0) (uF (uF (uF fiR 22 (n22R_2)) 25 (23)) 27 (0)) faR) ++ (wY k arY fiY faY)) from rfl) dX4_advance_65 (fun H locs hP hD hS => ?_)
        refine lv_aload_n hx hb dX4_advance_68 rfl (lv_at hl 1 rfl) ?_
        refine lv_bipush (v := Int32.ofInt 97) hx hb dX4_advance_69 (by decide +kernel) ?_
        refine lv_bipush (v := Int32.ofInt 122) hx hb dX4_advance_71 (by decide +kernel) ?_
        refine cr_i (va_runV (As := [.int (Int32.ofInt (97)), .int (Int32.ofInt (122))]) (rest := []) ⟨hx, hb, hml, hown, hts⟩ (mX4_rowEnd l G k arR plR (uF (uF (uF fiR 22 (n22R_2)) 25 (23)) 27 (0)) faR arY fiY faY 97 122 H.size (iF (iF (iF hRR (by omega)) (by omega)) (by omega)) hRaR hRY hRaY hB0Y (by omega) (by omega) (show 0 ≤ n22R_2 ∧ n22R_2 ≤ (fiR 21) ∧ (fiR 21) ≤ 600 from by omega) (show 0 ≤ 97 ∧ 122 ≤ 127 from by omega)) (cwV 2 hts (gz [.methodLink RX4 46 yX4_rowEnd, .instanceMethod yX4_rowEnd, .selects RX4 yX4_rowEnd yX4_rowEnd, .initialized RX4] (.code yX4_rowEnd cX4_rowEnd 5 (some .int)) [(9, 11), (9, 12), (9, 13), (3, 7), (9, 14)] rfl) rfl rfl rfl (by decide +kernel) ⟨Nat.le_of_ble_eq_true rfl, Nat.le_of_ble_eq_true rfl⟩) (cr_preV (EZ_ok k) hZ hS hX hP hD hA (ci := 3) (q0 := 1) rfl rfl) rfl rfl hl.1 rfl (lv_room (Nat.le_of_ble_eq_true rfl)) dX4_advance_73 ⟨Nat.le_of_ble_eq_true rfl, Nat.le_of_ble_eq_true rfl⟩) hD hS hA (fun r u H locs hp hP hD hS => ?_)
        obtain ⟨c24, rfl⟩ : ∃ z, z = u := ⟨_, rfl⟩
        obtain ⟨h9, rc24, hp24⟩ : r = Int32.ofInt c24 ∧ (inR c24) ∧ (n22R_2 ≤ c24 ∧ c24 ≤ (fiR 21) ∧ c24 = rE (uT ((faY 0))) ((fiR 21)) 97 122 (n22R_2)) := hp
        subst h9
        refine lv_istore_n (lv' := [(1, .int (Int32.ofInt (c24))), (0, .ref (arR 98))]) hx hb dX4_advance_76 rfl hl (by decide) rfl (fun ls hl => ?_)
        refine lv_aload_n hx hb dX4_advance_77 rfl (lv_at hl 1 rfl) ?_
        refine lv_bipush (v := Int32.ofInt 48) hx hb dX4_advance_78 (by decide +kernel) ?_
        refine lv_bipush (v := Int32.ofInt 57) hx hb dX4_advance_80 (by decide +kernel) ?_
        refine cr_i (va_runV (As := [.int (Int32.ofInt (48)), .int (Int32.ofInt (57))]) (rest := []) ⟨hx, hb, hml, hown, hts⟩ (mX4_rowEnd l G k arR plR (uF (uF (uF fiR 22 (n22R_2)) 25 (23)) 27 (0)) faR arY fiY faY 48 57 H.size (iF (iF (iF hRR (by omega)) (by omega)) (by omega)) hRaR hRY hRaY hB0Y (by omega) (by omega) (show 0 ≤ n22R_2 ∧ n22R_2 ≤ (fiR 21) ∧ (fiR 21) ≤ 600 from by omega) (show 0 ≤ 48 ∧ 57 ≤ 127 from by omega)) (cwV 2 hts (gz [.methodLink RX4 46 yX4_rowEnd, .instanceMethod yX4_rowEnd, .selects RX4 yX4_rowEnd yX4_rowEnd, .initialized RX4] (.code yX4_rowEnd cX4_rowEnd 5 (some .int)) [(9, 11), (9, 12), (9, 13), (3, 7), (9, 14)] rfl) rfl rfl rfl (by decide +kernel) ⟨Nat.le_of_ble_eq_true rfl, Nat.le_of_ble_eq_true rfl⟩) (cr_preV (EZ_ok k) hZ hS hX hP hD hA (ci := 3) (q0 := 1) rfl rfl) rfl rfl hl.1 rfl (lv_room (Nat.le_of_ble_eq_true rfl)) dX4_advance_82 ⟨Nat.le_of_ble_eq_true rfl, Nat.le_of_ble_eq_true rfl⟩) hD hS hA (fun r u H locs hp hP hD hS => ?_)
        obtain ⟨c25, rfl⟩ : ∃ z, z = u := ⟨_, rfl⟩
        obtain ⟨h9, rc25, hp25⟩ : r = Int32.ofInt c25 ∧ (inR c25) ∧ (n22R_2 ≤ c25 ∧ c25 ≤ (fiR 21) ∧ c25 = rE (uT ((faY 0))) ((fiR 21)) 48 57 (n22R_2)) := hp
        subst h9
        refine lv_istore_n (lv' := [(2, .int (Int32.ofInt (c25))), (1, .int (Int32.ofInt (c24))), (0, .ref (arR 98))]) hx hb dX4_advance_85 rfl hl (by decide) rfl (fun ls hl => ?_)
        refine lv_aload_n hx hb dX4_advance_86 rfl (lv_at hl 2 rfl) ?_
        refine va_get (D := G) (ci := 3) (v := .int (Int32.ofInt (n22R_2))) (C := RX4) (T := TX4) (N := 8) (ref := RX4) hx hb hts h1w hown hX.1 hP 1 rfl rfl 2 (by decide) h2w (fun _ h9 => h9) rfl dX4_advance_87 ?_
        refine lv_aload_n hx hb dX4_advance_90 rfl (lv_at hl 2 rfl) ?_
        refine va_get (D := G) (ci := 3) (v := .int (Int32.ofInt (fiR 21))) (C := RX4) (T := TX4) (N := 8) (ref := RX4) hx hb hts h1w hown hX.1 hP 1 rfl rfl 1 (by decide) h3w (fun _ h9 => h9) rfl dX4_advance_91 ?_
        have rf21R := hRR 21
        refine iv_icmp_lt (tgt := 104) hx hb (by omega) (by omega) dX4_advance_94 (by decide) (fun q26 => ?_) (fun q26 => ?_)
        · refine lv_iload_n hx hb dX4_advance_104 rfl (lv_at hl 1 rfl) ?_
          refine lv_aload_n hx hb dX4_advance_105 rfl (lv_at hl 2 rfl) ?_
          refine va_get (D := G) (ci := 3) (v := .int (Int32.ofInt (n22R_2))) (C := RX4) (T := TX4) (N := 8) (ref := RX4) hx hb hts h1w hown hX.1 hP 1 rfl rfl 2 (by decide) h2w (fun _ h9 => h9) rfl dX4_advance_106 ?_
          refine iv_icmp_le (tgt := 124) hx hb (by omega) (by omega) dX4_advance_109 (by decide) (fun q27 => ?_) (fun q27 => ?_)
          · refine lv_iload_n hx hb dX4_advance_124 rfl (lv_at hl 0 rfl) ?_
            refine lv_aload_n hx hb dX4_advance_125 rfl (lv_at hl 2 rfl) ?_
            refine va_get (D := G) (ci := 3) (v := .int (Int32.ofInt (n22R_2))) (C := RX4) (T := TX4) (N := 8) (ref := RX4) hx hb hts h1w hown hX.1 hP 1 rfl rfl 2 (by decide) h2w (fun _ h9 => h9) rfl dX4_advance_126 ?_
            refine iv_icmp_le (tgt := 144) hx hb (by omega) (by omega) dX4_advance_129 (by decide) (fun q28 => ?_) (fun q28 => ?_)
            · refine lv_aload_n hx hb dX4_advance_144 rfl (lv_at hl 2 rfl) ?_
              refine lv_aload_n hx hb dX4_advance_145 rfl (lv_at hl 2 rfl) ?_
              refine va_get (D := G) (ci := 3) (v := .int (Int32.ofInt (n22R_2))) (C := RX4) (T := TX4) (N := 8) (ref := RX4) hx hb hts h1w hown hX.1 hP 1 rfl rfl 2 (by decide) h2w (fun _ h9 => h9) rfl dX4_advance_146 ?_
              refine lv_iconst (v := Int32.ofInt 1) hx hb dX4_advance_149 (by decide +kernel) ?_
              refine iv_add (x := n22R_2) (y := 1) hx hb dX4_advance_150 ?_
              refine iv_put (ci := 3) (v := .int (Int32.ofInt ((n22R_2 + 1)))) (ty := .int) (C := RX4) (T := TX4) (N := 8) (ref := RX4) hx hb hts h1w tyX4 tyX4_ok nmX4 hown hX.1 hP hD hS 1 rfl rfl 3 (by decide) h0w (fun _ h9 => h9) rfl (by decide +kernel) rfl rfl (Nat.le_of_ble_eq_true rfl) (show _ = ((wR k arR (plR) (arY 0) (uF (uF (uF (uF fiR 22 (n22R_2)) 23 ((n22R_2 + 1))) 25 (23)) 27 (0)) faR) ++ (wY k arY fiY faY)) from rfl) dX4_advance_151 (fun H locs hP hD hS => ?_)
              have hL1 := rE_le (T := uT (faY 0)) (n := fiR 21) (lo := 97) (hi := 122) (s := n22R_2) (by omega) (by omega)
              have hL2 := rE_le (T := uT (faY 0)) (n := fiR 21) (lo := 48) (hi := 57) (s := n22R_2) (by omega) (by omega)
              refine lv_aload_n hx hb dX4_advance_154 rfl (lv_at hl 2 rfl) ?_
              refine cr_v (va_runV (As := []) (rest := []) ⟨hx, hb, hml, hown, hts⟩ (mX4_takeSign l G k arR plR (uF (uF (uF (uF fiR 22 (n22R_2)) 23 ((n22R_2 + 1))) 25 (23)) 27 (0)) faR arY fiY faY H.size (iF (iF (iF (iF hRR (by omega)) (by omega)) (by omega)) (by omega)) hRaR hRY hRaY hB0Y (show 0 ≤ n22R_2 ∧ n22R_2 < (fiR 21) ∧ (fiR 21) ≤ 600 from by omega) (show 0 = 0 from by omega)) (cwV 0 hts (gz [.methodLink RX4 59 yX4_takeSign, .instanceMethod yX4_takeSign, .selects RX4 yX4_takeSign yX4_takeSign, .initialized RX4] (.code yX4_takeSign cX4_takeSign 1 none) [(12, 5), (12, 6), (12, 7), (3, 7), (12, 8)] rfl) rfl rfl rfl (by decide +kernel) ⟨Nat.le_of_ble_eq_true rfl, Nat.le_of_ble_eq_true rfl⟩) (cr_preV (EZ_ok k) hZ hS hX hP hD hA (ci := 3) (q0 := 1) rfl rfl) rfl rfl hl.1 rfl (lv_room (Nat.le_of_ble_eq_true rfl)) dX4_advance_155 ⟨Nat.le_of_ble_eq_true rfl, Nat.le_of_ble_eq_true rfl⟩) hD hS hA (fun u H locs hp hP hD hS => ?_)
              obtain ⟨c29, c30⟩ := u
              obtain ⟨hP, hD⟩ : va_P G vwCl ((wR k arR (plR) (arY 0) (uF (uF (uF (uF (uF fiR 22 (n22R_2)) 23 ((n22R_2 + 1))) 24 (c29)) 25 (23)) 27 (c30)) faR) ++ (wY k arY fiY faY)) H ∧ va_D A ((wR k arR (plR) (arY 0) (uF (uF (uF (uF (uF fiR 22 (n22R_2)) 23 ((n22R_2 + 1))) 24 (c29)) 25 (23)) 27 (c30)) faR) ++ (wY k arY fiY faY)) := ⟨hP, hD⟩
              obtain ⟨rc29, rc30, hp30⟩ : (inR c29) ∧ (inR c30) ∧ (SGp (uT ((faY 0))) (n22R_2) c29 c30) := hp
              have hSG := hp30
              exact W.vret hx hb hr (fun t ht hW => ⟨⟨(n22R_2, (n22R_2 + 1), c29, 23, fiR 26, c30), rfl, (show (inR n22R_2) ∧ (inR (n22R_2 + 1)) ∧ (inR c29) ∧ (inR 23) ∧ (inR (fiR 26)) ∧ (inR c30) ∧ ((0 ≤ (n22R_2 + 1) ∧ (n22R_2 + 1) ≤ fiR 21 ∧ 0 ≤ n22R_2 ∧ n22R_2 ≤ fiR 21 ∧ 0 ≤ 23 ∧ 23 ≤ 23) ∧ n22R_2 = sk (uT (faY 0)) (fiR 21) (fiR 23) ∧ CR (uT (faY 0)) (fiR 21) n22R_2 (n22R_2 + 1) c29 23 (fiR 26) c30) from ⟨(by omega), (by omega), (by omega), (by omega), (hRR 26), (by omega), (by first | exact ⟨by omega, by omega, cr_end (by omega) (by omega) (by omega) (by omega) (by omega)⟩ | exact ⟨by omega, hK, cr_word hL.1 hL.2 (by omega) (by omega) hcw (by omega)⟩ | exact ⟨by omega, hK, cr_num hDg.1 hDg.2 (by omega) (by omega) (by omega) (by omega) (by omega)⟩ | exact ⟨by omega, hK, cr_sign (by omega) hL1 hL2 (by omega) (by omega) hSG⟩ | (exfalso; omega))⟩), by rw [ht]; exact hP, hD⟩, hS.F ht⟩) hS.2.2 dX4_advance_158
            · refine lv_aload_n hx hb dX4_advance_132 rfl (lv_at hl 2 rfl) ?_
              refine lv_iload_n hx hb dX4_advance_133 rfl (lv_at hl 0 rfl) ?_
              refine iv_put (ci := 3) (v := .int (Int32.ofInt (c25))) (ty := .int) (C := RX4) (T := TX4) (N := 8) (ref := RX4) hx hb hts h1w tyX4 tyX4_ok nmX4 hown hX.1 hP hD hS 1 rfl rfl 3 (by decide) h0w (fun _ h9 => h9) rfl (by decide +kernel) rfl rfl (Nat.le_of_ble_eq_true rfl) (show _ = ((wR k arR (plR) (arY 0) (uF (uF (uF (uF fiR 22 (n22R_2)) 23 (c25)) 25 (23)) 27 (0)) faR) ++ (wY k arY fiY faY)) from rfl) dX4_advance_134 (fun H locs hP hD hS => ?_)
              have hL1 := rE_le (T := uT (faY 0)) (n := fiR 21) (lo := 97) (hi := 122) (s := n22R_2) (by omega) (by omega)
              have hDg := rE_gt (T := uT (faY 0)) (n := fiR 21) (lo := 48) (hi := 57) (s := n22R_2) (by omega)
              have hkn := kd_d hDg.1 hDg.2
              refine lv_aload_n hx hb dX4_advance_137 rfl (lv_at hl 2 rfl) ?_
              refine cr_v (va_runV (As := []) (rest := []) ⟨hx, hb, hml, hown, hts⟩ (mX4_takeNumber l G k arR plR (uF (uF (uF (uF fiR 22 (n22R_2)) 23 (c25)) 25 (23)) 27 (0)) faR arY fiY faY H.size (iF (iF (iF (iF hRR (by omega)) (by omega)) (by omega)) (by omega)) hRaR hRY hRaY hB0Y (show 0 ≤ n22R_2 ∧ n22R_2 ≤ c25 ∧ c25 ≤ (fiR 21) ∧ (fiR 21) ≤ 600 from by omega) (show kd (uT ((faY 0))) ((fiR 21)) (n22R_2) = 2 ∧ c25 = en (uT ((faY 0))) ((fiR 21)) (n22R_2) from by exact ⟨hkn.1, by omega⟩)) (cwV 0 hts (gz [.methodLink RX4 56 yX4_takeNumber, .instanceMethod yX4_takeNumber, .selects RX4 yX4_takeNumber yX4_takeNumber, .initialized RX4] (.code yX4_takeNumber cX4_takeNumber 2 none) [(12, 1), (12, 2), (12, 3), (3, 7), (12, 4)] rfl) rfl rfl rfl (by decide +kernel) ⟨Nat.le_of_ble_eq_true rfl, Nat.le_of_ble_eq_true rfl⟩) (cr_preV (EZ_ok k) hZ hS hX hP hD hA (ci := 3) (q0 := 1) rfl rfl) rfl rfl hl.1 rfl (lv_room (Nat.le_of_ble_eq_true rfl)) dX4_advance_138 ⟨Nat.le_of_ble_eq_true rfl, Nat.le_of_ble_eq_true rfl⟩) hD hS hA (fun u H locs hp hP hD hS => ?_)
              obtain ⟨c31, c32⟩ := u
              obtain ⟨hP, hD⟩ : va_P G vwCl ((wR k arR (plR) (arY 0) (uF (uF (uF (uF (uF (uF fiR 22 (n22R_2)) 23 (c25)) 24 (c31)) 25 (23)) 26 (c32)) 27 (0)) faR) ++ (wY k arY fiY faY)) H ∧ va_D A ((wR k arR (plR) (arY 0) (uF (uF (uF (uF (uF (uF fiR 22 (n22R_2)) 23 (c25)) 24 (c31)) 25 (23)) 26 (c32)) 27 (0)) faR) ++ (wY k arY fiY faY)) := ⟨hP, hD⟩
              obtain ⟨rc31, rc32, hp32⟩ : (inR c31) ∧ (inR c32) ∧ (c31 = 2 ∧ c32 = nmb (uT ((faY 0))) ((fiR 21)) (n22R_2)) := hp
              refine lv_goto (tgt := 158) hx hb dX4_advance_141 (by decide) ?_
              exact W.vret hx hb hr (fun t ht hW => ⟨⟨(n22R_2, c25, c31, 23, c32, 0), rfl, (show (inR n22R_2) ∧ (inR c25) ∧ (inR c31) ∧ (inR 23) ∧ (inR c32) ∧ (inR 0) ∧ ((0 ≤ c25 ∧ c25 ≤ fiR 21 ∧ 0 ≤ n22R_2 ∧ n22R_2 ≤ fiR 21 ∧ 0 ≤ 23 ∧ 23 ≤ 23) ∧ n22R_2 = sk (uT (faY 0)) (fiR 21) (fiR 23) ∧ CR (uT (faY 0)) (fiR 21) n22R_2 c25 c31 23 c32 0) from ⟨(by omega), (by omega), (by omega), (by omega), (by omega), (by omega), (by first | exact ⟨by omega, by omega, cr_end (by omega) (by omega) (by omega) (by omega) (by omega)⟩ | exact ⟨by omega, hK, cr_word hL.1 hL.2 (by omega) (by omega) hcw (by omega)⟩ | exact ⟨by omega, hK, cr_num hDg.1 hDg.2 (by omega) (by omega) (by omega) (by omega) (by omega)⟩ | exact ⟨by omega, hK, cr_sign (by omega) hL1 hL2 (by omega) (by omega) hSG⟩ | (exfalso; omega))⟩), by rw [ht]; exact hP, hD⟩, hS.F ht⟩) hS.2.2 dX4_advance_158
          · refine lv_aload_n hx hb dX4_advance_112 rfl (lv_at hl 2 rfl) ?_
            refine lv_iload_n hx hb dX4_advance_113 rfl (lv_at hl 1 rfl) ?_
            refine iv_put (ci := 3) (v := .int (Int32.ofInt (c24))) (ty := .int) (C := RX4) (T := TX4) (N := 8) (ref := RX4) hx hb hts h1w tyX4 tyX4_ok nmX4 hown hX.1 hP hD hS 1 rfl rfl 3 (by decide) h0w (fun _ h9 => h9) rfl (by decide +kernel) rfl rfl (Nat.le_of_ble_eq_true rfl) (show _ = ((wR k arR (plR) (arY 0) (uF (uF (uF (uF fiR 22 (n22R_2)) 23 (c24)) 25 (23)) 27 (0)) faR) ++ (wY k arY fiY faY)) from rfl) dX4_advance_114 (fun H locs hP hD hS => ?_)
            have hL := rE_gt (T := uT (faY 0)) (n := fiR 21) (lo := 97) (hi := 122) (s := n22R_2) (by omega)
            have hkw := kd_w hL.1 hL.2
            refine lv_aload_n hx hb dX4_advance_117 rfl (lv_at hl 2 rfl) ?_
            refine cr_v (va_runV (As := []) (rest := []) ⟨hx, hb, hml, hown, hts⟩ (mX4_takeWord l G k arR plR (uF (uF (uF (uF fiR 22 (n22R_2)) 23 (c24)) 25 (23)) 27 (0)) faR arY fiY faY H.size (iF (iF (iF (iF hRR (by omega)) (by omega)) (by omega)) (by omega)) hRaR hRY hRaY hB0Y (show 0 ≤ n22R_2 ∧ n22R_2 ≤ c24 ∧ c24 ≤ (fiR 21) ∧ (fiR 21) ≤ 600 from by omega) (show 23 = 23 from by omega) (show kd (uT ((faY 0))) ((fiR 21)) (n22R_2) = 1 ∧ c24 = en (uT ((faY 0))) ((fiR 21)) (n22R_2) from by exact ⟨hkw.1, by omega⟩)) (cwV 0 hts (gz [.methodLink RX4 53 yX4_takeWord, .instanceMethod yX4_takeWord, .selects RX4 yX4_takeWord yX4_takeWord, .initialized RX4] (.code yX4_takeWord cX4_takeWord 5 none) [(9, 19), (9, 20), (9, 21), (3, 7), (9, 22)] rfl) rfl rfl rfl (by decide +kernel) ⟨Nat.le_of_ble_eq_true rfl, Nat.le_of_ble_eq_true rfl⟩) (cr_preV (EZ_ok k) hZ hS hX hP hD hA (ci := 3) (q0 := 1) rfl rfl) rfl rfl hl.1 rfl (lv_room (Nat.le_of_ble_eq_true rfl)) dX4_advance_118 ⟨Nat.le_of_ble_eq_true rfl, Nat.le_of_ble_eq_true rfl⟩) hD hS hA (fun u H locs hp hP hD hS => ?_)
            obtain ⟨c33, c34⟩ := u
            obtain ⟨hP, hD⟩ : va_P G vwCl ((wR k arR (plR) (arY 0) (uF (uF (uF (uF (uF fiR 22 (n22R_2)) 23 (c24)) 24 (c33)) 25 (c34)) 27 (0)) faR) ++ (wY k arY fiY faY)) H ∧ va_D A ((wR k arR (plR) (arY 0) (uF (uF (uF (uF (uF fiR 22 (n22R_2)) 23 (c24)) 24 (c33)) 25 (c34)) 27 (0)) faR) ++ (wY k arY fiY faY)) := ⟨hP, hD⟩
            obtain ⟨rc33, rc34, hp34⟩ : (inR c33) ∧ (inR c34) ∧ ((0 ≤ c34 ∧ c34 ≤ 23 ∧ c33 = 1) ∧ c34 = cw (uT ((faY 0))) ((fiR 21)) (n22R_2)) := hp
            obtain ⟨hp34, hcw⟩ := hp34
            refine lv_goto (tgt := 158) hx hb dX4_advance_121 (by decide) ?_
            exact W.vret hx hb hr (fun t ht hW => ⟨⟨(n22R_2, c24, c33, c34, fiR 26, 0), rfl, (show (inR n22R_2) ∧ (inR c24) ∧ (inR c33) ∧ (inR c34) ∧ (inR (fiR 26)) ∧ (inR 0) ∧ ((0 ≤ c24 ∧ c24 ≤ fiR 21 ∧ 0 ≤ n22R_2 ∧ n22R_2 ≤ fiR 21 ∧ 0 ≤ c34 ∧ c34 ≤ 23) ∧ n22R_2 = sk (uT (faY 0)) (fiR 21) (fiR 23) ∧ CR (uT (faY 0)) (fiR 21) n22R_2 c24 c33 c34 (fiR 26) 0) from ⟨(by omega), (by omega), (by omega), (by omega), (hRR 26), (by omega), (by first | exact ⟨by omega, by omega, cr_end (by omega) (by omega) (by omega) (by omega) (by omega)⟩ | exact ⟨by omega, hK, cr_word hL.1 hL.2 (by omega) (by omega) hcw (by omega)⟩ | exact ⟨by omega, hK, cr_num hDg.1 hDg.2 (by omega) (by omega) (by omega) (by omega) (by omega)⟩ | exact ⟨by omega, hK, cr_sign (by omega) hL1 hL2 (by omega) (by omega) hSG⟩ | (exfalso; omega))⟩), by rw [ht]; exact hP, hD⟩, hS.F ht⟩) hS.2.2 dX4_advance_158
        · refine lv_aload_n hx hb dX4_advance_97 rfl (lv_at hl 2 rfl) ?_
          refine cr_v (va_runV (As := []) (rest := []) ⟨hx, hb, hml, hown, hts⟩ (mX4_stop l G k arR plR (uF (uF (uF fiR 22 (n22R_2)) 25 (23)) 27 (0)) faR arY fiY faY H.size (iF (iF (iF hRR (by omega)) (by omega)) (by omega)) hRaR hRY hRaY hB0Y (show 0 ≤ (fiR 21) from by omega)) (cwV 0 hts (gz [.methodLink RX4 50 yX4_stop, .instanceMethod yX4_stop, .selects RX4 yX4_stop yX4_stop, .initialized RX4] (.code yX4_stop cX4_stop 1 none) [(9, 15), (9, 16), (9, 17), (3, 7), (9, 18)] rfl) rfl rfl rfl (by decide +kernel) ⟨Nat.le_of_ble_eq_true rfl, Nat.le_of_ble_eq_true rfl⟩) (cr_preV (EZ_ok k) hZ hS hX hP hD hA (ci := 3) (q0 := 1) rfl rfl) rfl rfl hl.1 rfl (lv_room (Nat.le_of_ble_eq_true rfl)) dX4_advance_98 ⟨Nat.le_of_ble_eq_true rfl, Nat.le_of_ble_eq_true rfl⟩) hD hS hA (fun u H locs hp hP hD hS => ?_)
          obtain ⟨c35, c36, c37, c38, c39⟩ := u
          obtain ⟨hP, hD⟩ : va_P G vwCl ((wR k arR (plR) (arY 0) (uF (uF (uF (uF (uF fiR 22 (c35)) 23 (c36)) 24 (c37)) 25 (c38)) 27 (c39)) faR) ++ (wY k arY fiY faY)) H ∧ va_D A ((wR k arR (plR) (arY 0) (uF (uF (uF (uF (uF fiR 22 (c35)) 23 (c36)) 24 (c37)) 25 (c38)) 27 (c39)) faR) ++ (wY k arY fiY faY)) := ⟨hP, hD⟩
          obtain ⟨rc35, rc36, rc37, rc38, rc39, hp39⟩ : (inR c35) ∧ (inR c36) ∧ (inR c37) ∧ (inR c38) ∧ (inR c39) ∧ (c35 = (fiR 21) ∧ c36 = (fiR 21) ∧ c38 = 23 ∧ c37 = 0 ∧ c39 = 0) := hp
          refine lv_goto (tgt := 158) hx hb dX4_advance_101 (by decide) ?_
          exact W.vret hx hb hr (fun t ht hW => ⟨⟨(c35, c36, c37, c38, fiR 26, c39), rfl, (show (inR c35) ∧ (inR c36) ∧ (inR c37) ∧ (inR c38) ∧ (inR (fiR 26)) ∧ (inR c39) ∧ ((0 ≤ c36 ∧ c36 ≤ fiR 21 ∧ 0 ≤ c35 ∧ c35 ≤ fiR 21 ∧ 0 ≤ c38 ∧ c38 ≤ 23) ∧ c35 = sk (uT (faY 0)) (fiR 21) (fiR 23) ∧ CR (uT (faY 0)) (fiR 21) c35 c36 c37 c38 (fiR 26) c39) from ⟨(by omega), (by omega), (by omega), (by omega), (hRR 26), (by omega), (by first | exact ⟨by omega, by omega, cr_end (by omega) (by omega) (by omega) (by omega) (by omega)⟩ | exact ⟨by omega, hK, cr_word hL.1 hL.2 (by omega) (by omega) hcw (by omega)⟩ | exact ⟨by omega, hK, cr_num hDg.1 hDg.2 (by omega) (by omega) (by omega) (by omega) (by omega)⟩ | exact ⟨by omega, hK, cr_sign (by omega) hL1 hL2 (by omega) (by omega) hSG⟩ | (exfalso; omega))⟩), by rw [ht]; exact hP, hD⟩, hS.F ht⟩) hS.2.2 dX4_advance_158
      · refine lv_aload_n hx hb dX4_advance_43 rfl (lv_at hl 1 rfl) ?_
        refine lv_iload_n hx hb dX4_advance_44 rfl (lv_at hl 0 rfl) ?_
        refine lv_iconst (v := Int32.ofInt 1) hx hb dX4_advance_45 (by decide +kernel) ?_
        refine iv_add (x := x1_1) (y := 1) hx hb dX4_advance_46 ?_
        refine iv_put (ci := 3) (v := .int (Int32.ofInt ((x1_1 + 1)))) (ty := .int) (C := RX4) (T := TX4) (N := 8) (ref := RX4) hx hb hts h1w tyX4 tyX4_ok nmX4 hown hX.1 hP hD hS 1 rfl rfl 2 (by decide) h2w (fun _ h9 => h9) rfl (by decide +kernel) rfl rfl (Nat.le_of_ble_eq_true rfl) (show _ = ((wR k arR (plR) (arY 0) (uF fiR 22 ((x1_1 + 1))) faR) ++ (wY k arY fiY faY)) from rfl) dX4_advance_47 (fun H locs hP hD hS => ?_)
        refine lv_iinc (v := Int32.ofInt (x1_1 + 1)) (lv' := [(1, .int (Int32.ofInt ((x1_1 + 1)))), (0, .ref (arR 98))]) hx hb dX4_advance_50 hl (k := 0) rfl (Int32.ofInt_add _ _).symm (by decide) rfl (fun ls hl => ?_)
        refine lv_goto (tgt := 13) hx hb dX4_advance_53 (by decide) ?_
        have hl : lv_has ls 3 [(1, .int (Int32.ofInt ((x1_1 + 1)))), (0, .ref (arR 98))] := lv_sub hl [0, 1] rfl
        exact ih ((x1_1 + 1), (x1_1 + 1)) (show (fiR 21 - (x1_1 + 1)).toNat < (fiR 21 - x1_1).toNat from by omega) (show inR (x1_1 + 1) ∧ inR (x1_1 + 1) ∧ ((fiR 23 ≤ (x1_1 + 1) ∧ (x1_1 + 1) ≤ fiR 21 ∧ (x1_1 + 1) = (x1_1 + 1)) ∧ sk (uT (faY 0)) (fiR 21) (x1_1 + 1) = sk (uT (faY 0)) (fiR 21) (fiR 23)) from ⟨(by omega), (by omega), (by exact ⟨by omega, (sk_step (by omega) (by omega)).symm.trans hJ2⟩)⟩) _ _ _ hP hD hS hl

