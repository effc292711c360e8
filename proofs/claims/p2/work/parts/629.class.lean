set_option maxHeartbeats 4000000 in
set_option maxRecDepth 100000 in
theorem mX2_skipNots (l : Launch) (G : va_G) (k : Nat → ClassId) (arR : Nat → Nat) (plR : Nat) (fiR : Nat → Int) (faR : Nat → Int → Int) (arY : Nat → Nat) (fiY : Nat → Int) (faY : Nat → Int → Int) (sz : Nat) (hRR : ∀ j, inR (fiR j)) (hRaR : ∀ j t, inR (faR j t)) (hRY : ∀ j, inR (fiY j)) (hRaY : ∀ j t, inR (faY j t)) (hB0Y : bnd (faY 0) 600 (-128) 128) (hrq : 0 ≤ fiR 23 ∧ fiR 23 ≤ fiR 21 ∧ 0 ≤ fiR 22 ∧ fiR 22 ≤ fiR 21 ∧ 0 ≤ fiR 25 ∧ fiR 25 ≤ 23 ∧ fiR 21 ≤ 600) : CNi l G k (EZ k) yX2_skipNots wzX2_skipNots ({ frames := 6, cells := 0, slots := 0, locals := 131 }) [.ref (arR 99)] sz ((wR k arR (plR) (arY 0) fiR faR) ++ (wY k arY fiY faY)) (fun (r0 : Int32) (u : Int × Int × Int × Int × Int × Int × Int × Int × Int) => r0 = Int32.ofInt (u.1) ∧ (inR u.1) ∧ (inR u.2.1) ∧ (inR u.2.2.1) ∧ (inR u.2.2.2.1) ∧ (inR u.2.2.2.2.1) ∧ (inR u.2.2.2.2.2.1) ∧ (inR u.2.2.2.2.2.2.1) ∧ (inR u.2.2.2.2.2.2.2.1) ∧ (inR u.2.2.2.2.2.2.2.2) ∧ (0 ≤ u.2.2.2.2.1 ∧ u.2.2.2.2.1 ≤ fiR 21 ∧ 0 ≤ u.2.2.2.1 ∧ u.2.2.2.1 ≤ fiR 21 ∧ 0 ≤ u.2.2.2.2.2.2.1 ∧ u.2.2.2.2.2.2.1 ≤ 23 ∧ 0 ≤ u.1 ∧ u.1 ≤ 7)) (fun (u : Int × Int × Int × Int × Int × Int × Int × Int × Int) => ((wR k arR (plR) (arY 0) (uF (uF (uF (uF (uF (uF (uF (uF fiR 3 (u.2.1)) 4 (u.2.2.1)) 22 (u.2.2.2.1)) 23 (u.2.2.2.2.1)) 24 (u.2.2.2.2.2.1)) 25 (u.2.2.2.2.2.2.1)) 26 (u.2.2.2.2.2.2.2.1)) 27 (u.2.2.2.2.2.2.2.2)) faR) ++ (wY k arY fiY faY))) := by
  refine Met.ofW (cc := cX2_skipNots) (maxL := 3) (ret := (some .int)) (by decide) rfl ?_
  intro p e s m args below meth c s₁ B hml hv
  obtain ⟨rfl, hsz, hP, hX, hD0, hZ0⟩ := hv
  have hx := B.exec
  have hb := B.bytes
  have hr := B.returns
  have hts := atoms_spec (ws := wzX2_skipNots) B.pre
  have hown : s.vm.findClass RX2 = some m.cls := findClass_of_methodNamed B.named
  subst hsz
  have hD := hD0.self (sz := s.heap.size)
  have hZ := hZ0
  generalize hAe : va_A ((wR k arR (plR) (arY 0) fiR faR) ++ (wY k arY fiY faY)) s.heap.size = A at hD hZ ⊢
  have hA : ∀ q : Nat, s.heap.size ≤ q → A q := fun q h => by rw [← hAe]; exact Or.inr h
  have hS : va_S A s.heap s.heap [] := va_S.rf
  have hl := lv_entry ([.ref (arR 99)]) (n := 3) (Nat.le_of_ble_eq_true rfl)
  rw [lg_entry_eq]
  generalize (lg_sl ([.ref (arR 99)]) ++ List.replicate (3 - (lg_sl ([.ref (arR 99)])).length) Slot.unset).toArray = ls at hl ⊢
  have hl : lv_has ls 3 [(0, .ref (arR 99))] := hl
  obtain ⟨H, eH⟩ : ∃ H, H = s.heap := ⟨_, rfl⟩
  rw [← eH] at hP
  have hS : va_S A s.heap H [] := by rw [eH]; exact hS
  have gW : s.heap = H := eH.symm
  refine iv_heap gW ?_
  have h0w := hts (.fieldLink RX2 12 "RopeTown$Parser" "reader" "LRopeTown$Reader;") (wz_at 3 8 rfl)
  have h1w : ∀ w ∈ wsX20, w ∈ wzX2_skipNots := fun w h => List.mem_cons_of_mem _ (inlX2 w h)
  have h2w : ∀ w ∈ wsX40, w ∈ wzX2_skipNots := fun w h => List.mem_cons_of_mem _ (inlX4 w h)
  have h3w := hts (.fieldLink RX2 175 "RopeTown$Word" "NOT" "LRopeTown$Word;") (wz_at 15 9 rfl)
  have h4w := hts (.initialized RX4) (wz_at 3 7 rfl)
  have h5w := hts (.instanceMethod yX4_advance) (wz_at 9 8 rfl)
  have h6w := hts (.selects RX4 yX4_advance yX4_advance) (wz_at 9 9 rfl)
  refine lv_iconst (v := Int32.ofInt 0) hx hb dX2_skipNots_0 (by decide +kernel) ?_
  refine lv_istore_n (lv' := [(1, .int (Int32.ofInt (0))), (0, .ref (arR 99))]) hx hb dX2_skipNots_1 rfl hl (by decide) rfl (fun ls hl => ?_)
  refine lv_iconst (v := Int32.ofInt 0) hx hb dX2_skipNots_2 (by decide +kernel) ?_
  refine lv_istore_n (lv' := [(2, .int (Int32.ofInt (0))), (1, .int (Int32.ofInt (0))), (0, .ref (arR 99))]) hx hb dX2_skipNots_3 rfl hl (by decide) rfl (fun ls hl => ?_)
  refine iv_loop (α := Int × Int × Int × Int × Int × Int × Int × Int × Int × Int) (nL := 3) (fun b9 => ((wR k arR (plR) (arY 0) (uF (uF (uF (uF (uF (uF (uF (uF fiR 3 (b9.2.2.1)) 4 (b9.2.2.2.1)) 22 (b9.2.2.2.2.1)) 23 (b9.2.2.2.2.2.1)) 24 (b9.2.2.2.2.2.2.1)) 25 (b9.2.2.2.2.2.2.2.1)) 26 (b9.2.2.2.2.2.2.2.2.1)) 27 (b9.2.2.2.2.2.2.2.2.2)) faR) ++ (wY k arY fiY faY))) (fun b9 => [(2, .int (Int32.ofInt (b9.1))), (1, .int (Int32.ofInt (b9.2.1))), (0, .ref (arR 99))]) (fun b9 => (7 - b9.1).toNat) (fun b9 => inR b9.1 ∧ inR b9.2.1 ∧ inR b9.2.2.1 ∧ inR b9.2.2.2.1 ∧ inR b9.2.2.2.2.1 ∧ inR b9.2.2.2.2.2.1 ∧ inR b9.2.2.2.2.2.2.1 ∧ inR b9.2.2.2.2.2.2.2.1 ∧ inR b9.2.2.2.2.2.2.2.2.1 ∧ inR b9.2.2.2.2.2.2.2.2.2 ∧ (0 ≤ b9.1 ∧ b9.1 ≤ 7 ∧ 0 ≤ b9.2.1 ∧ b9.2.1 ≤ b9.1 ∧ 0 ≤ b9.2.2.2.2.2.1 ∧ b9.2.2.2.2.2.1 ≤ fiR 21 ∧ 0 ≤ b9.2.2.2.2.1 ∧ b9.2.2.2.2.1 ≤ fiR 21 ∧ 0 ≤ b9.2.2.2.2.2.2.2.1 ∧ b9.2.2.2.2.2.2.2.1 ≤ 23)) ?_ (0, 0, fiR 3, fiR 4, fiR 22, fiR 23, fiR 24, fiR 25, fiR 26, fiR 27) (show inR 0 ∧ inR 0 ∧ inR (fiR 3) ∧ inR (fiR 4) ∧ inR (fiR 22) ∧ inR (fiR 23) ∧ inR (fiR 24) ∧ inR (fiR 25) ∧ inR (fiR 26) ∧ inR (fiR 27) ∧ (0 ≤ 0 ∧ 0 ≤ 7 ∧ 0 ≤ 0 ∧ 0 ≤ 0 ∧ 0 ≤ (fiR 23) ∧ (fiR 23) ≤ fiR 21 ∧ 0 ≤ (fiR 22) ∧ (fiR 22) ≤ fiR 21 ∧ 0 ≤ (fiR 25) ∧ (fiR 25) ≤ 23) from ⟨(by omega), (by omega), (hRR 3), (hRR 4), (hRR 22), (hRR 23), (hRR 24), (hRR 25), (hRR 26), (hRR 27), (by omega)⟩) hP hD hS hl
  rintro ⟨x2_1, x1_2, n3R_3, n4R_4, n22R_5, n23R_6, n24R_7, n25R_8, n26R_9, n27R_10⟩ ih hi9 H locs ls hP hD hS hl
  obtain ⟨r_x2_1, r_x1_2, r_n3R_3, r_n4R_4, r_n22R_5, r_n23R_6, r_n24R_7, r_n25R_8, r_n26R_9, r_n27R_10, hinv⟩ : inR x2_1 ∧ inR x1_2 ∧ inR n3R_3 ∧ inR n4R_4 ∧ inR n22R_5 ∧ inR n23R_6 ∧ inR n24R_7 ∧ inR n25R_8 ∧ inR n26R_9 ∧ inR n27R_10 ∧ (0 ≤ x2_1 ∧ x2_1 ≤ 7 ∧ 0 ≤ x1_2 ∧ x1_2 ≤ x2_1 ∧ 0 ≤ n23R_6 ∧ n23R_6 ≤ fiR 21 ∧ 0 ≤ n22R_5 ∧ n22R_5 ≤ fiR 21 ∧ 0 ≤ n25R_8 ∧ n25R_8 ≤ 23) := hi9
  obtain ⟨hP, hD⟩ : va_P G vwCl ((wR k arR (plR) (arY 0) (uF (uF (uF (uF (uF (uF (uF (uF fiR 3 (n3R_3)) 4 (n4R_4)) 22 (n22R_5)) 23 (n23R_6)) 24 (n24R_7)) 25 (n25R_8)) 26 (n26R_9)) 27 (n27R_10)) faR) ++ (wY k arY fiY faY)) H ∧ va_D A ((wR k arR (plR) (arY 0) (uF (uF (uF (uF (uF (uF (uF (uF fiR 3 (n3R_3)) 4 (n4R_4)) 22 (n22R_5)) 23 (n23R_6)) 24 (n24R_7)) 25 (n25R_8)) 26 (n26R_9)) 27 (n27R_10)) faR) ++ (wY k arY fiY faY)) := ⟨hP, hD⟩
  have hl : lv_has ls 3 [(2, .int (Int32.ofInt (x2_1))), (1, .int (Int32.ofInt (x1_2))), (0, .ref (arR 99))] := hl
  refine lv_iload_n hx hb dX2_skipNots_4 rfl (lv_at hl 0 rfl) ?_
  refine lv_bipush (v := Int32.ofInt 6) hx hb dX2_skipNots_5 (by decide +kernel) ?_
  refine iv_icmp_gt (tgt := 50) hx hb (by omega) (by omega) dX2_skipNots_7 (by decide) (fun q11 => ?_) (fun q11 => ?_)
  · refine lv_iload_n hx hb dX2_skipNots_50 rfl (lv_at hl 1 rfl) ?_
    exact W.iret (v := Int32.ofInt (x1_2)) hx hb hr (fun t ht hW => ⟨⟨Int32.ofInt (x1_2), (x1_2, n3R_3, n4R_4, n22R_5, n23R_6, n24R_7, n25R_8, n26R_9, n27R_10), rfl, ⟨rfl, (show (inR x1_2) ∧ (inR n3R_3) ∧ (inR n4R_4) ∧ (inR n22R_5) ∧ (inR n23R_6) ∧ (inR n24R_7) ∧ (inR n25R_8) ∧ (inR n26R_9) ∧ (inR n27R_10) ∧ (0 ≤ n23R_6 ∧ n23R_6 ≤ fiR 21 ∧ 0 ≤ n22R_5 ∧ n22R_5 ≤ fiR 21 ∧ 0 ≤ n25R_8 ∧ n25R_8 ≤ 23 ∧ 0 ≤ x1_2 ∧ x1_2 ≤ 7) from ⟨(by omega), (by omega), (by omega), (by omega), (by omega), (by omega), (by omega), (by omega), (by omega), (by omega)⟩)⟩, by rw [ht]; exact hP, hD⟩, hS.F ht⟩) hS.2.2 dX2_skipNots_51
  · refine lv_aload_n hx hb dX2_skipNots_10 rfl (lv_at hl 2 rfl) ?_
    refine va_get (D := G) (ci := 1) (v := .ref (arR 98)) (C := RX2) (T := TX2) (N := 5) (ref := RX2) hx hb hts h1w hown hX.1 hP 0 rfl rfl 0 (by decide) h0w (fun _ h9 => h9) rfl dX2_skipNots_11 ?_
    refine va_getN (D := G) (ci := 3) (v := .ref (k (400 + (n25R_8).toNat))) (C := RX4) (T := TX4) (N := 8) (ref := RX4) (host := RX9) hx hb hts h2w hown hX.1 hP 1 rfl rfl 5 (by decide) (nf_33 hX.2.2.1) (fun _ h9 => h9) rfl dX2_skipNots_14 ?_
    refine va_gets (C := "RopeTown$Word") (n := "NOT") (d := "LRopeTown$Word;") (ref := "RopeTown$Word") (v := .ref (k (400 + (16 : Int).toNat))) hx hb (ez_word hZ 16 rfl) hS hown h3w (fun _ h9 => h9) dX2_skipNots_17 ?_
    refine lv_acmp_ne (rx := some (k (400 + (n25R_8).toNat))) (ry := some (k (400 + (16 : Int).toNat))) (tgt := 50) hx hb dX2_skipNots_20 (by decide) (fun q12 => ?_) (fun q12 => ?_)
    · refine lv_iload_n hx hb dX2_skipNots_50 rfl (lv_at hl 1 rfl) ?_
      exact W.iret (v := Int32.ofInt (x1_2)) hx hb hr (fun t ht hW => ⟨⟨Int32.ofInt (x1_2), (x1_2, n3R_3, n4R_4, n22R_5, n23R_6, n24R_7, n25R_8, n26R_9, n27R_10), rfl, ⟨rfl, (show (inR x1_2) ∧ (inR n3R_3) ∧ (inR n4R_4) ∧ (inR n22R_5) ∧ (inR n23R_6) ∧ (inR n24R_7) ∧ (inR n25R_8) ∧ (inR n26R_9) ∧ (inR n27R_10) ∧ (0 ≤ n23R_6 ∧ n23R_6 ≤ fiR 21 ∧ 0 ≤ n22R_5 ∧ n22R_5 ≤ fiR 21 ∧ 0 ≤ n25R_8 ∧ n25R_8 ≤ 23 ∧ 0 ≤ x1_2 ∧ x1_2 ≤ 7) from ⟨(by omega), (by omega), (by omega), (by omega), (by omega), (by omega), (by omega), (by omega), (by omega), (by omega)⟩)⟩, by rw [ht]; exact hP, hD⟩, hS.F ht⟩) hS.2.2 dX2_skipNots_51
    · refine lv_iload_n hx hb dX2_skipNots_23 rfl (lv_at hl 0 rfl) ?_
      refine lv_bipush (v := Int32.ofInt 6) hx hb dX2_skipNots_24 (by decide +kernel) ?_
      refine iv_icmp_ne (tgt := 34) hx hb (by omega) (by omega) dX2_skipNots_26 (by decide) (fun q13 => ?_) (fun q13 => ?_)
      · refine lv_aload_n hx hb dX2_skipNots_34 rfl (lv_at hl 2 rfl) ?_
        refine va_get (D := G) (ci := 1) (v := .ref (arR 98)) (C := RX2) (T := TX2) (N := 5) (ref := RX2) hx hb hts h1w hown hX.1 hP 0 rfl rfl 0 (by decide) h0w (fun _ h9 => h9) rfl dX2_skipNots_35 ?_
        refine cr_v (va_runVN (As := []) (rest := []) ⟨hx, hb, hml, hown, hts⟩ (mX4_advance l G k arR plR (uF (uF (uF (uF (uF (uF (uF (uF fiR 3 (n3R_3)) 4 (n4R_4)) 22 (n22R_5)) 23 (n23R_6)) 24 (n24R_7)) 25 (n25R_8)) 26 (n26R_9)) 27 (n27R_10)) faR arY fiY faY H.size (iF (iF (iF (iF (iF (iF (iF (iF hRR (by omega)) (by omega)) (by omega)) (by omega)) (by omega)) (by omega)) (by omega)) (by omega)) hRaR hRY hRaY hB0Y (show 0 ≤ n23R_6 ∧ n23R_6 ≤ (fiR 21) ∧ (fiR 21) ≤ 600 from by omega)) ⟨va_cnB 0 hts (gz [] (.code yX4_advance cX4_advance 3 none) [(9, 10)] rfl) rfl rfl rfl (nm_32 hX.2.2.1) h4w (by decide +kernel) ⟨Nat.le_of_ble_eq_true rfl, Nat.le_of_ble_eq_true rfl⟩, h5w, h6w⟩ (cr_preV (EZ_ok k) hZ hS hX hP hD hA (ci := 3) (q0 := 1) rfl rfl) rfl rfl hl.1 rfl (lv_room (Nat.le_of_ble_eq_true rfl)) dX2_skipNots_38 ⟨Nat.le_of_ble_eq_true rfl, Nat.le_of_ble_eq_true rfl⟩) hD hS hA (fun u H locs hp hP hD hS => ?_)
        obtain ⟨c14, c15, c16, c17, c18, c19⟩ := u
        obtain ⟨hP, hD⟩ : va_P G vwCl ((wR k arR (plR) (arY 0) (uF (uF (uF (uF (uF (uF (uF (uF fiR 3 (n3R_3)) 4 (n4R_4)) 22 (c14)) 23 (c15)) 24 (c16)) 25 (c17)) 26 (c18)) 27 (c19)) faR) ++ (wY k arY fiY faY)) H ∧ va_D A ((wR k arR (plR) (arY 0) (uF (uF (uF (uF (uF (uF (uF (uF fiR 3 (n3R_3)) 4 (n4R_4)) 22 (c14)) 23 (c15)) 24 (c16)) 25 (c17)) 26 (c18)) 27 (c19)) faR) ++ (wY k arY fiY faY)) := ⟨hP, hD⟩
        obtain ⟨rc14, rc15, rc16, rc17, rc18, rc19, hp19⟩ : (inR c14) ∧ (inR c15) ∧ (inR c16) ∧ (inR c17) ∧ (inR c18) ∧ (inR c19) ∧ (0 ≤ c15 ∧ c15 ≤ (fiR 21) ∧ 0 ≤ c14 ∧ c14 ≤ (fiR 21) ∧ 0 ≤ c17 ∧ c17 ≤ 23) := hp
        refine lv_iinc (v := Int32.ofInt (x1_2 + 1)) (lv' := [(1, .int (Int32.ofInt ((x1_2 + 1)))), (2, .int (Int32.ofInt (x2_1))), (0, .ref (arR 99))]) hx hb dX2_skipNots_41 hl (k := 1) rfl (Int32.ofInt_add _ _).symm (by decide) rfl (fun ls hl => ?_)
        refine lv_iinc (v := Int32.ofInt (x2_1 + 1)) (lv' := [(2, .int (Int32.ofInt ((x2_1 + 1)))), (1, .int (Int32.ofInt ((x1_2 + 1)))), (0, .ref (arR 99))]) hx hb dX2_skipNots_44 hl (k := 1) rfl (Int32.ofInt_add _ _).symm (by decide) rfl (fun ls hl => ?_)
        refine lv_goto (tgt := 4) hx hb dX2_skipNots_47 (by decide) ?_
        have hl : lv_has ls 3 [(2, .int (Int32.ofInt ((x2_1 + 1)))), (1, .int (Int32.ofInt ((x1_2 + 1)))), (0, .ref (arR 99))] := lv_sub hl [0, 1, 2] rfl
        exact ih ((x2_1 + 1), (x1_2 + 1), n3R_3, n4R_4, c14, c15, c16, c17, c18, c19) (show (7 - (x2_1 + 1)).toNat < (7 - x2_1).toNat from by omega) (show inR (x2_1 + 1) ∧ inR (x1_2 + 1) ∧ inR n3R_3 ∧ inR n4R_4 ∧ inR c14 ∧ inR c15 ∧ inR c16 ∧ inR c17 ∧ inR c18 ∧ inR c19 ∧ (0 ≤ (x2_1 + 1) ∧ (x2_1 + 1) ≤ 7 ∧ 0 ≤ (x1_2 + 1) ∧ (x1_2 + 1) ≤ (x2_1 + 1) ∧ 0 ≤ c15 ∧ c15 ≤ fiR 21 ∧ 0 ≤ c14 ∧ c14 ≤ fiR 21 ∧ 0 ≤ c17 ∧ c17 ≤ 23) from ⟨(by omega), (by omega), (by omega), (by omega), (by omega), (by omega), (by omega), (by omega), (by omega), (by omega), (by omega)⟩) _ _ _ hP hD hS hl
      · refine lv_aload_n hx hb dX2_skipNots_29 rfl (lv_at hl 2 rfl) ?_
        refine lv_iconst (v := Int32.ofInt 2) hx hb dX2_skipNots_30 (by decide +kernel) ?_
        refine cr_v (va_runV (As := [.int (Int32.ofInt (2))]) (rest := []) ⟨hx, hb, hml, hown, hts⟩ (mX2_fail l G k arR plR (uF (uF (uF (uF (uF (uF (uF (uF fiR 3 (n3R_3)) 4 (n4R_4)) 22 (n22R_5)) 23 (n23R_6)) 24 (n24R_7)) 25 (n25R_8)) 26 (n26R_9)) 27 (n27R_10)) faR arY fiY faY 2 H.size (iF (iF (iF (iF (iF (iF (iF (iF hRR (by omega)) (by omega)) (by omega)) (by omega)) (by omega)) (by omega)) (by omega)) (by omega)) hRaR hRY hRaY hB0Y (by omega) (show 0 ≤ n23R_6 ∧ n23R_6 ≤ (fiR 21) ∧ 0 ≤ n22R_5 ∧ n22R_5 ≤ (fiR 21) ∧ 0 ≤ n25R_8 ∧ n25R_8 ≤ 23 ∧ (fiR 21) ≤ 600 from by omega)) (cwV 1 hts (gz [.methodLink RX2 103 yX2_fail, .instanceMethod yX2_fail, .selects RX2 yX2_fail yX2_fail, .initialized RX2] (.code yX2_fail cX2_fail 2 none) [(13, 1), (13, 2), (13, 3), (1, 0), (13, 4)] rfl) rfl rfl rfl (by decide +kernel) ⟨Nat.le_of_ble_eq_true rfl, Nat.le_of_ble_eq_true rfl⟩) (cr_preV (EZ_ok k) hZ hS hX hP hD hA (ci := 1) (q0 := 0) rfl rfl) rfl rfl hl.1 rfl (lv_room (Nat.le_of_ble_eq_true rfl)) dX2_skipNots_31 ⟨Nat.le_of_ble_eq_true rfl, Nat.le_of_ble_eq_true rfl⟩) hD hS hA (fun u H locs hp hP hD hS => ?_)
        obtain ⟨c20, c21, c22, c23, c24, c25, c26⟩ := u
        obtain ⟨hP, hD⟩ : va_P G vwCl ((wR k arR (plR) (arY 0) (uF (uF (uF (uF (uF (uF (uF (uF fiR 3 (c20)) 4 (c21)) 22 (c22)) 23 (c23)) 24 (c24)) 25 (c25)) 26 (n26R_9)) 27 (c26)) faR) ++ (wY k arY fiY faY)) H ∧ va_D A ((wR k arR (plR) (arY 0) (uF (uF (uF (uF (uF (uF (uF (uF fiR 3 (c20)) 4 (c21)) 22 (c22)) 23 (c23)) 24 (c24)) 25 (c25)) 26 (n26R_9)) 27 (c26)) faR) ++ (wY k arY fiY faY)) := ⟨hP, hD⟩
        obtain ⟨rc20, rc21, rc22, rc23, rc24, rc25, rc26, hp26⟩ : (inR c20) ∧ (inR c21) ∧ (inR c22) ∧ (inR c23) ∧ (inR c24) ∧ (inR c25) ∧ (inR c26) ∧ (0 ≤ c23 ∧ c23 ≤ (fiR 21) ∧ 0 ≤ c22 ∧ c22 ≤ (fiR 21) ∧ 0 ≤ c25 ∧ c25 ≤ 23) := hp
        refine lv_aload_n hx hb dX2_skipNots_34 rfl (lv_at hl 2 rfl) ?_
        refine va_get (D := G) (ci := 1) (v := .ref (arR 98)) (C := RX2) (T := TX2) (N := 5) (ref := RX2) hx hb hts h1w hown hX.1 hP 0 rfl rfl 0 (by decide) h0w (fun _ h9 => h9) rfl dX2_skipNots_35 ?_
        refine cr_v (va_runVN (As := []) (rest := []) ⟨hx, hb, hml, hown, hts⟩ (mX4_advance l G k arR plR (uF (uF (uF (uF (uF (uF (uF (uF fiR 3 (c20)) 4 (c21)) 22 (c22)) 23 (c23)) 24 (c24)) 25 (c25)) 26 (n26R_9)) 27 (c26)) faR arY fiY faY H.size (iF (iF (iF (iF (iF (iF (iF (iF hRR (by omega)) (by omega)) (by omega)) (by omega)) (by omega)) (by omega)) (by omega)) (by omega)) hRaR hRY hRaY hB0Y (show 0 ≤ c23 ∧ c23 ≤ (fiR 21) ∧ (fiR 21) ≤ 600 from by omega)) ⟨va_cnB 0 hts (gz [] (.code yX4_advance cX4_advance 3 none) [(9, 10)] rfl) rfl rfl rfl (nm_32 hX.2.2.1) h4w (by decide +kernel) ⟨Nat.le_of_ble_eq_true rfl, Nat.le_of_ble_eq_true rfl⟩, h5w, h6w⟩ (cr_preV (EZ_ok k) hZ hS hX hP hD hA (ci := 3) (q0 := 1) rfl rfl) rfl rfl hl.1 rfl (lv_room (Nat.le_of_ble_eq_true rfl)) dX2_skipNots_38 ⟨Nat.le_of_ble_eq_true rfl, Nat.le_of_ble_eq_true rfl⟩) hD hS hA (fun u H locs hp hP hD hS => ?_)
        obtain ⟨c27, c28, c29, c30, c31, c32⟩ := u
        obtain ⟨hP, hD⟩ : va_P G vwCl ((wR k arR (plR) (arY 0) (uF (uF (uF (uF (uF (uF (uF (uF fiR 3 (c20)) 4 (c21)) 22 (c27)) 23 (c28)) 24 (c29)) 25 (c30)) 26 (c31)) 27 (c32)) faR) ++ (wY k arY fiY faY)) H ∧ va_D A ((wR k arR (plR) (arY 0) (uF (uF (uF (uF (uF (uF (uF (uF fiR 3 (c20)) 4 (c21)) 22 (c27)) 23 (c28)) 24 (c29)) 25 (c30)) 26 (c31)) 27 (c32)) faR) ++ (wY k arY fiY faY)) := ⟨hP, hD⟩
        obtain ⟨rc27, rc28, rc29, rc30, rc31, rc32, hp32⟩ : (inR c27) ∧ (inR c28) ∧ (inR c29) ∧ (inR c30) ∧ (inR c31) ∧ (inR c32) ∧ (0 ≤ c28 ∧ c28 ≤ (fiR 21) ∧ 0 ≤ c27 ∧ c27 ≤ (fiR 21) ∧ 0 ≤ c30 ∧ c30 ≤ 23) := hp
        refine lv_iinc (v := Int32.ofInt (x1_2 + 1)) (lv' := [(1, .int (Int32.ofInt ((x1_2 + 1)))), (2, .int (Int32.ofInt (x2_1))), (0, .ref (arR 99))]) hx hb dX2_skipNots_41 hl (k := 1) rfl (Int32.ofInt_add _ _).symm (by decide) rfl (fun ls hl => ?_)
        refine lv_iinc (v := Int32.ofInt (x2_1 + 1)) (lv' := [(2, .int (Int32.ofInt ((x2_1 + 1)))), (1, .int (Int32.ofInt ((x1_2 + 1)))), (0, .ref (arR 99))]) hx hb dX2_skipNots_44 hl (k := 1) rfl (Int32.ofInt_add _ _).symm (by decide) rfl (fun ls hl => ?_)
        refine lv_goto (tgt := 4) hx hb dX2_skipNots_47 (by decide) ?_
        have hl : lv_has ls 3 [(2, .int (Int32.ofInt ((x2_1 + 1)))), (1, .int (Int32.ofInt ((x1_2 + 1)))), (0, .ref (arR 99))] := lv_sub hl [0, 1, 2] rfl
        exact ih ((x2_1 + 1), (x1_2 + 1), c20, c21, c27, c28, c29, c30, c31, c32) (show (7 - (x2_1 + 1)).toNat < (7 - x2_1).toNat from by omega) (show inR (x2_1 + 1) ∧ inR (x1_2 + 1) ∧ inR c20 ∧ inR c21 ∧ inR c27 ∧ inR c28 ∧ inR c29 ∧ inR c30 ∧ inR c31 ∧ inR c32 ∧ (0 ≤ (x2_1 + 1) ∧ (x2_1 + 1) ≤ 7 ∧ 0 ≤ (x1_2 + 1) ∧ (x1_2 + 1) ≤ (x2_1 + 1) ∧ 0 ≤ c28 ∧ c28 ≤ fiR 21 ∧ 0 ≤ c27 ∧ c27 ≤ fiR 21 ∧ 0 ≤ c30 ∧ c30 ≤ 23) from ⟨(by omega), (by omega), (by omega), (by omega), (by omega), (by omega), (by omega), (by omega), (by omega), (by omega), (by omega)⟩) _ _ _ hP hD hS hl

set_option maxHeartbeats 4000000 in
set_option maxRecDepth 100000 in
theorem mX2_setting (l : Launch) (G : va_G) (k : Nat → ClassId) (arR : Nat → Nat) (plR : Nat) (fiR : Nat → Int) (faR : Nat → Int → Int) (arY : Nat → Nat) (fiY : Nat → Int) (faY : Nat → Int → Int) (k0 : Int) (l0 : Int) (m0 : Int) (sz : Nat) (hRR : ∀ j, inR (fiR j)) (hRaR : ∀ j t, inR (faR j t)) (hRY : ∀ j, inR (fiY j)) (hRaY : ∀ j t, inR (faY j t)) (hB0Y : bnd (faY 0) 600 (-128) 128) (hr_k0 : inR k0) (hr_l0 : inR l0) (hr_m0 : inR m0) (hrq : 0 ≤ fiR 23 ∧ fiR 23 ≤ fiR 21 ∧ 0 ≤ fiR 22 ∧ fiR 22 ≤ fiR 21 ∧ 0 ≤ fiR 25 ∧ fiR 25 ≤ 23 ∧ fiR 21 ≤ 600) (hlm : l0 ≤ m0) : CNi l G k (EZ k) yX2_setting wzX2_setting ({ frames := 7, cells := 0, slots := 0, locals := 154 }) [.ref (arR 99), .int (Int32.ofInt (k0)), .int (Int32.ofInt (l0)), .int (Int32.ofInt (m0))] sz ((wR k arR (plR) (arY 0) fiR faR) ++ (wY k arY fiY faY)) (fun (r0 : Int32) (u : Int × Int × Int × Int × Int × Int × Int × Int × Int × Int) => r0 = Int32.ofInt (u.1) ∧ (inR u.1) ∧ (inR u.2.1) ∧ (inR u.2.2.1) ∧ (inR u.2.2.2.1) ∧ (inR u.2.2.2.2.1) ∧ (inR u.2.2.2.2.2.1) ∧ (inR u.2.2.2.2.2.2.1) ∧ (inR u.2.2.2.2.2.2.2.1) ∧ (inR u.2.2.2.2.2.2.2.2.1) ∧ (inR u.2.2.2.2.2.2.2.2.2) ∧ (0 ≤ u.2.2.2.2.2.1 ∧ u.2.2.2.2.2.1 ≤ fiR 21 ∧ 0 ≤ u.2.2.2.2.1 ∧ u.2.2.2.2.1 ≤ fiR 21 ∧ 0 ≤ u.2.2.2.2.2.2.2.1 ∧ u.2.2.2.2.2.2.2.1 ≤ 23 ∧ l0 ≤ u.1 ∧ u.1 ≤ m0)) (fun (u : Int × Int × Int × Int × Int × Int × Int × Int × Int × Int) => ((wR k arR (plR) (arY 0) (uF (uF (uF (uF (uF (uF (uF (uF (uF fiR 2 (u.2.1)) 3 (u.2.2.1)) 4 (u.2.2.2.1)) 22 (u.2.2.2.2.1)) 23 (u.2.2.2.2.2.1)) 24 (u.2.2.2.2.2.2.1)) 25 (u.2.2.2.2.2.2.2.1)) 26 (u.2.2.2.2.2.2.2.2.1)) 27 (u.2.2.2.2.2.2.2.2.2)) faR) ++ (wY k arY fiY faY))) := by
  refine Met.ofW (cc := cX2_setting) (maxL := 4) (ret := (some .int)) (by decide) rfl ?_
  intro p e s m args below meth c s₁ B hml hv
  obtain ⟨rfl, hsz, hP, hX, hD0, hZ0⟩ := hv
  have hx := B.exec
  have hb := B.bytes
  have hr := B.returns
  have hts := atoms_spec (ws := wzX2_setting) B.pre
  have hown : s.vm.findClass RX2 = some m.cls := findClass_of_methodNamed B.named
  subst hsz
  have hD := hD0.self (sz := s.heap.size)
  have hZ := hZ0
  generalize hAe : va_A ((wR k arR (plR) (arY 0) fiR faR) ++ (wY k arY fiY faY)) s.heap.size = A at hD hZ ⊢
  have hA : ∀ q : Nat, s.heap.size ≤ q → A q := fun q h => by rw [← hAe]; exact Or.inr h
  have hS : va_S A s.heap s.heap [] := va_S.rf
  have hl := lv_entry ([.ref (arR 99), .int (Int32.ofInt (k0)), .int (Int32.ofInt (l0)), .int (Int32.ofInt (m0))]) (n := 4) (Nat.le_of_ble_eq_true rfl)
  rw [lg_entry_eq]
  generalize (lg_sl ([.ref (arR 99), .int (Int32.ofInt (k0)), .int (Int32.ofInt (l0)), .int (Int32.ofInt (m0))]) ++ List.replicate (4 - (lg_sl ([.ref (arR 99), .int (Int32.ofInt (k0)), .int (Int32.ofInt (l0)), .int (Int32.ofInt (m0))])).length) Slot.unset).toArray = ls at hl ⊢
  have hl : lv_has ls 4 [(0, .ref (arR 99)), (1, .int (Int32.ofInt (k0))), (2, .int (Int32.ofInt (l0))), (3, .int (Int32.ofInt (m0)))] := hl
  obtain ⟨H, eH⟩ : ∃ H, H = s.heap := ⟨_, rfl⟩
  rw [← eH] at hP
  have hS : va_S A s.heap H [] := by rw [eH]; exact hS
  have gW : s.heap = H := eH.symm
  refine iv_heap gW ?_
  have h0w := hts (.fieldLink RX2 22 "RopeTown$Parser" "told" "I") (wz_at 3 10 rfl)
  have h1w : ∀ w ∈ wsX20, w ∈ wzX2_setting := fun w h => List.mem_cons_of_mem _ (inlX2 w h)
  have h2w := hts (.fieldLink RX2 12 "RopeTown$Parser" "reader" "LRopeTown$Reader;") (wz_at 3 8 rfl)
  have h3w := hts (.initialized RX4) (wz_at 3 7 rfl)
  have h4w := hts (.instanceMethod yX4_advance) (wz_at 9 8 rfl)
  have h5w := hts (.selects RX4 yX4_advance yX4_advance) (wz_at 9 9 rfl)
  refine iv_join (G := G) (A := A) (H0 := s.heap) (α := Int × Int × Int × Int × Int × Int × Int) (nL := 4) 14 (fun b9 => []) (fun b9 => ((wR k arR (plR) (arY 0) (uF (uF (uF (uF (uF (uF (uF fiR 3 (b9.1)) 4 (b9.2.1)) 22 (b9.2.2.1)) 23 (b9.2.2.2.1)) 24 (b9.2.2.2.2.1)) 25 (b9.2.2.2.2.2.1)) 27 (b9.2.2.2.2.2.2)) faR) ++ (wY k arY fiY faY))) (fun b9 => [(0, .ref (arR 99)), (1, .int (Int32.ofInt (k0))), (2, .int (Int32.ofInt (l0))), (3, .int (Int32.ofInt (m0)))]) (fun b9 => inR b9.1 ∧ inR b9.2.1 ∧ inR b9.2.2.1 ∧ inR b9.2.2.2.1 ∧ inR b9.2.2.2.2.1 ∧ inR b9.2.2.2.2.2.1 ∧ inR b9.2.2.2.2.2.2 ∧ (0 ≤ b9.2.2.2.1 ∧ b9.2.2.2.1 ≤ fiR 21 ∧ 0 ≤ b9.2.2.1 ∧ b9.2.2.1 ≤ fiR 21 ∧ 0 ≤ b9.2.2.2.2.2.1 ∧ b9.2.2.2.2.2.1 ≤ 23)) ?_ (fun J14 => ?_)
  · rintro ⟨n3R_1, n4R_2, n22R_3, n23R_4, n24R_5, n25R_6, n27R_7⟩ hi9 H locs ls hP hD hS hl
    obtain ⟨r_n3R_1, r_n4R_2, r_n22R_3, r_n23R_4, r_n24R_5, r_n25R_6, r_n27R_7, hinv⟩ : inR n3R_1 ∧ inR n4R_2 ∧ inR n22R_3 ∧ inR n23R_4 ∧ inR n24R_5 ∧ inR n25R_6 ∧ inR n27R_7 ∧ (0 ≤ n23R_4 ∧ n23R_4 ≤ fiR 21 ∧ 0 ≤ n22R_3 ∧ n22R_3 ≤ fiR 21 ∧ 0 ≤ n25R_6 ∧ n25R_6 ≤ 23) := hi9
    obtain ⟨hP, hD⟩ : va_P G vwCl ((wR k arR (plR) (arY 0) (uF (uF (uF (uF (uF (uF (uF fiR 3 (n3R_1)) 4 (n4R_2)) 22 (n22R_3)) 23 (n23R_4)) 24 (n24R_5)) 25 (n25R_6)) 27 (n27R_7)) faR) ++ (wY k arY fiY faY)) H ∧ va_D A ((wR k arR (plR) (arY 0) (uF (uF (uF (uF (uF (uF (uF fiR 3 (n3R_1)) 4 (n4R_2)) 22 (n22R_3)) 23 (n23R_4)) 24 (n24R_5)) 25 (n25R_6)) 27 (n27R_7)) faR) ++ (wY k arY fiY faY)) := ⟨hP, hD⟩
    have hl : lv_has ls 4 [(0, .ref (arR 99)), (1, .int (Int32.ofInt (k0))), (2, .int (Int32.ofInt (l0))), (3, .int (Int32.ofInt (m0)))] := hl
    refine lv_aload_n hx hb dX2_setting_14 rfl (lv_at hl 0 rfl) ?_
    refine lv_dup hx hb dX2_setting_15 rfl ?_
    refine va_get (D := G) (ci := 1) (v := .int (Int32.ofInt (fiR 2))) (C := RX2) (T := TX2) (N := 5) (ref := RX2) hx hb hts h1w hown hX.1 hP 0 rfl rfl 2 (by decide) h0w (fun _ h9 => h9) rfl dX2_setting_16 ?_
    have rf2R := hRR 2
    refine lv_iload_n hx hb dX2_setting_19 rfl (lv_at hl 1 rfl) ?_
    refine iv_or hx hb dX2_setting_20 ?_
    refine iv_top (fun z8 ez8 => ?_)
    have rz8 : inR z8 := ez8 ▸ bOr_r _ _
    refine iv_put (ci := 1) (v := .int (Int32.ofInt (z8))) (ty := .int) (C := RX2) (T := TX2) (N := 5) (ref := RX2) hx hb hts h1w tyX2 tyX2_ok nmX2 hown hX.1 hP hD hS 0 rfl rfl 2 (by decide) h0w (fun _ h9 => h9) rfl (by decide +kernel) rfl rfl (Nat.le_of_ble_eq_true rfl) (show _ = ((wR k arR (plR) (arY 0) (uF (uF (uF (uF (uF (uF (uF (uF fiR 2 (z8)) 3 (n3R_1)) 4 (n4R_2)) 22 (n22R_3)) 23 (n23R_4)) 24 (n24R_5)) 25 (n25R_6)) 27 (n27R_7)) faR) ++ (wY k arY fiY faY)) from rfl) dX2_setting_21 (fun H locs hP hD hS => ?_)
    refine lv_aload_n hx hb dX2_setting_24 rfl (lv_at hl 0 rfl) ?_
    refine va_get (D := G) (ci := 1) (v := .ref (arR 98)) (C := RX2) (T := TX2) (N := 5) (ref := RX2) hx hb hts h1w hown hX.1 hP 0 rfl rfl 0 (by decide) h2w (fun _ h9 => h9) rfl dX2_setting_25 ?_
    refine cr_v (va_runVN (As := []) (rest := []) ⟨hx, hb, hml, hown, hts⟩ (mX4_advance l G k arR plR (uF (uF (uF (uF (uF (uF (uF (uF fiR 2 (z8)) 3 (n3R_1)) 4 (n4R_2)) 22 (n22R_3)) 23 (n23R_4)) 24 (n24R_5)) 25 (n25R_6)) 27 (n27R_7)) faR arY fiY faY H.size (iF (iF (iF (iF (iF (iF (iF (iF hRR (by omega)) (by omega)) (by omega)) (by omega)) (by omega)) (by omega)) (by omega)) (by omega)) hRaR hRY hRaY hB0Y (show 0 ≤ n23R_4 ∧ n23R_4 ≤ (fiR 21) ∧ (fiR 21) ≤ 600 from by omega)) ⟨va_cnB 0 hts (gz [] (.code yX4_advance cX4_advance 3 none) [(9, 10)] rfl) rfl rfl rfl (nm_32 hX.2.2.1) h3w (by decide +kernel) ⟨Nat.le_of_ble_eq_true rfl, Nat.le_of_ble_eq_true rfl⟩, h4w, h5w⟩ (cr_preV (EZ_ok k) hZ hS hX hP hD hA (ci := 3) (q0 := 1) rfl rfl) rfl rfl hl.1 rfl (lv_room (Nat.le_of_ble_eq_true rfl)) dX2_setting_28 ⟨Nat.le_of_ble_eq_true rfl, Nat.le_of_ble_eq_true rfl⟩) hD hS hA (fun u H locs hp hP hD hS => ?_)
    obtain ⟨c9, c10, c11, c12, c13, c14⟩ := u
    obtain ⟨hP, hD⟩ : va_P G vwCl ((wR k arR (plR) (arY 0) (uF (uF (uF (uF (uF (uF (uF (uF (uF fiR 2 (z8)) 3 (n3R_1)) 4 (n4R_2)) 22 (c9)) 23 (c10)) 24 (c11)) 25 (c12)) 26 (c13)) 27 (c14)) faR) ++ (wY k arY fiY faY)) H ∧ va_D A ((wR k arR (plR) (arY 0) (uF (uF (uF (uF (uF (uF (uF (uF (uF fiR 2 (z8)) 3 (n3R_1)) 4 (n4R_2)) 22 (c9)) 23 (c10)) 24 (c11)) 25 (c12)) 26 (c13)) 27 (c14)) faR) ++ (wY k arY fiY faY)) := ⟨hP, hD⟩
    obtain ⟨rc9, rc10, rc11, rc12, rc13, rc14, hp14⟩ : (inR c9) ∧ (inR c10) ∧ (inR c11) ∧ (inR c12) ∧ (inR c13) ∧ (inR c14) ∧ (0 ≤ c10 ∧ c10 ≤ (fiR 21) ∧ 0 ≤ c9 ∧ c9 ≤ (fiR 21) ∧ 0 ≤ c12 ∧ c12 ≤ 23) := hp
    refine lv_aload_n hx hb dX2_setting_31 rfl (lv_at hl 0 rfl) ?_
    refine lv_iload_n hx hb dX2_setting_32 rfl (lv_at hl 2 rfl) ?_
    refine lv_iload_n hx hb dX2_setting_33 rfl (lv_at hl 3 rfl) ?_
    refine cr_i (va_runV (As := [.int (Int32.ofInt (l0)), .int (Int32.ofInt (m0))]) (rest := []) ⟨hx, hb, hml, hown, hts⟩ (mX2_readNumber l G k arR plR (uF (uF (uF (uF (uF (uF (uF (uF (uF fiR 2 (z8)) 3 (n3R_1)) 4 (n4R_2)) 22 (c9)) 23 (c10)) 24 (c11)) 25 (c12)) 26 (c13)) 27 (c14)) faR arY fiY faY l0 m0 H.size (iF (iF (iF (iF (iF (iF (iF (iF (iF hRR (by omega)) (by omega)) (by omega)) (by omega)) (by omega)) (by omega)) (by omega)) (by omega)) (by omega)) hRaR hRY hRaY hB0Y (by omega) (by omega) (show 0 ≤ c10 ∧ c10 ≤ (fiR 21) ∧ 0 ≤ c9 ∧ c9 ≤ (fiR 21) ∧ 0 ≤ c12 ∧ c12 ≤ 23 ∧ (fiR 21) ≤ 600 from by omega) (show l0 ≤ m0 from by omega)) (cwV 2 hts (gz [.methodLink RX2 112 yX2_readNumber, .instanceMethod yX2_readNumber, .selects RX2 yX2_readNumber yX2_readNumber, .initialized RX2] (.code yX2_readNumber cX2_readNumber 4 (some .int)) [(13, 5), (13, 6), (13, 7), (1, 0), (13, 8)] rfl) rfl rfl rfl (by decide +kernel) ⟨Nat.le_of_ble_eq_true rfl, Nat.le_of_ble_eq_true rfl⟩) (cr_preV (EZ_ok k) hZ hS hX hP hD hA (ci := 1) (q0 := 0) rfl rfl) rfl rfl hl.1 rfl (lv_room (Nat.le_of_ble_eq_true rfl)) dX2_setting_34 ⟨Nat.le_of_ble_eq_true rfl, Nat.le_of_ble_eq_true rfl⟩) hD hS hA (fun r u H locs hp hP hD hS => ?_)
    obtain ⟨c15, c16, c17, c18, c19, c20, c21, c22, c23⟩ := u
    obtain ⟨hP, hD⟩ : va_P G vwCl ((wR k arR (plR) (arY 0) (uF (uF (uF (uF (uF (uF (uF (uF (uF fiR 2 (z8)) 3 (c16)) 4 (c17)) 22 (c18)) 23 (c19)) 24 (c20)) 25 (c21)) 26 (c22)) 27 (c23)) faR) ++ (wY k arY fiY faY)) H ∧ va_D A ((wR k arR (plR) (arY 0) (uF (uF (uF (uF (uF (uF (uF (uF (uF fiR 2 (z8)) 3 (c16)) 4 (c17)) 22 (c18)) 23 (c19)) 24 (c20)) 25 (c21)) 26 (c22)) 27 (c23)) faR) ++ (wY k arY fiY faY)) := ⟨hP, hD⟩
    obtain ⟨h9, rc15, rc16, rc17, rc18, rc19, rc20, rc21, rc22, rc23, hp23⟩ : r = Int32.ofInt c15 ∧ (inR c15) ∧ (inR c16) ∧ (inR c17) ∧ (inR c18) ∧ (inR c19) ∧ (inR c20) ∧ (inR c21) ∧ (inR c22) ∧ (inR c23) ∧ (0 ≤ c19 ∧ c19 ≤ (fiR 21) ∧ 0 ≤ c18 ∧ c18 ≤ (fiR 21) ∧ 0 ≤ c21 ∧ c21 ≤ 23 ∧ l0 ≤ c15 ∧ c15 ≤ m0) := hp
    subst h9
    exact W.iret (v := Int32.ofInt (c15)) hx hb hr (fun t ht hW => ⟨⟨Int32.ofInt (c15), (c15, z8, c16, c17, c18, c19, c20, c21, c22, c23), rfl, ⟨rfl, (show (inR c15) ∧ (inR z8) ∧ (inR c16) ∧ (inR c17) ∧ (inR c18) ∧ (inR c19) ∧ (inR c20) ∧ (inR c21) ∧ (inR c22) ∧ (inR c23) ∧ (0 ≤ c19 ∧ c19 ≤ fiR 21 ∧ 0 ≤ c18 ∧ c18 ≤ fiR 21 ∧ 0 ≤ c21 ∧ c21 ≤ 23 ∧ l0 ≤ c15 ∧ c15 ≤ m0) from ⟨(by omega), (by omega), (by omega), (by omega), (by omega), (by omega), (by omega), (by omega), (by omega), (by omega), (by omega)⟩)⟩, by rw [ht]; exact hP, hD⟩, hS.F ht⟩) hS.2.2 dX2_setting_37
  · refine lv_aload_n hx hb dX2_setting_0 rfl (lv_at hl 0 rfl) ?_
    refine va_get (D := G) (ci := 1) (v := .int (Int32.ofInt (fiR 2))) (C := RX2) (T := TX2) (N := 5) (ref := RX2) hx hb hts h1w hown hX.1 hP 0 rfl rfl 2 (by decide) h0w (fun _ h9 => h9) rfl dX2_setting_1 ?_
    have rf2R := hRR 2
    refine lv_iload_n hx hb dX2_setting_4 rfl (lv_at hl 1 rfl) ?_
    refine iv_and hx hb dX2_setting_5 ?_
    refine iv_top (fun z24 ez24 => ?_)
    have rz24 : inR z24 := ez24 ▸ bAnd_r _ _
    refine iv_if_eq (tgt := 14) hx hb (by omega) dX2_setting_6 (by decide) (fun q25 => ?_) (fun q25 => ?_)
    · have hl : lv_has ls 4 [(0, .ref (arR 99)), (1, .int (Int32.ofInt (k0))), (2, .int (Int32.ofInt (l0))), (3, .int (Int32.ofInt (m0)))] := lv_sub hl [0, 1, 2, 3] rfl
      exact J14 (fiR 3, fiR 4, fiR 22, fiR 23, fiR 24, fiR 25, fiR 27) (show inR (fiR 3) ∧ inR (fiR 4) ∧ inR (fiR 22) ∧ inR (fiR 23) ∧ inR (fiR 24) ∧ inR (fiR 25) ∧ inR (fiR 27) ∧ (0 ≤ (fiR 23) ∧ (fiR 23) ≤ fiR 21 ∧ 0 ≤ (fiR 22) ∧ (fiR 22) ≤ fiR 21 ∧ 0 ≤ (fiR 25) ∧ (fiR 25) ≤ 23) from ⟨(hRR 3), (hRR 4), (hRR 22), (hRR 23), (hRR 24), (hRR 25), (hRR 27), (by omega)⟩) _ _ _ hP hD hS hl
    · refine lv_aload_n hx hb dX2_setting_9 rfl (lv_at hl 0 rfl) ?_
      refine lv_iconst (v := Int32.ofInt 5) hx hb dX2_setting_10 (by decide +kernel) ?_
      refine cr_v (va_runV (As := [.int (Int32.ofInt (5))]) (rest := []) ⟨hx, hb, hml, hown, hts⟩ (mX2_fail l G k arR plR fiR faR arY fiY faY 5 H.size hRR hRaR hRY hRaY hB0Y (by omega) (show 0 ≤ (fiR 23) ∧ (fiR 23) ≤ (fiR 21) ∧ 0 ≤ (fiR 22) ∧ (fiR 22) ≤ (fiR 21) ∧ 0 ≤ (fiR 25) ∧ (fiR 25) ≤ 23 ∧ (fiR 21) ≤ 600 from by omega)) (cwV 1 hts (gz [.methodLink RX2 103 yX2_fail, .instanceMethod yX2_fail, .selects RX2 yX2_fail yX2_fail, .initialized RX2] (.code yX2_fail cX2_fail 2 none) [(13, 1), (13, 2), (13, 3), (1, 0), (13, 4)] rfl) rfl rfl rfl (by decide +kernel) ⟨Nat.le_of_ble_eq_true rfl, Nat.le_of_ble_eq_true rfl⟩) (cr_preV (EZ_ok k) hZ hS hX hP hD hA (ci := 1) (q0 := 0) rfl rfl) rfl rfl hl.1 rfl (lv_room (Nat.le_of_ble_eq_true rfl)) dX2_setting_11 ⟨Nat.le_of_ble_eq_true rfl, Nat.le_of_ble_eq_true rfl⟩) hD hS hA (fun u H locs hp hP hD hS => ?_)
      obtain ⟨c26, c27, c28, c29, c30, c31, c32⟩ := u
      obtain ⟨hP, hD⟩ : va_P G vwCl ((wR k arR (plR) (arY 0) (uF (uF (uF (uF (uF (uF (uF fiR 3 (c26)) 4 (c27)) 22 (c28)) 23 (c29)) 24 (c30)) 25 (c31)) 27 (c32)) faR) ++ (wY k arY fiY faY)) H ∧ va_D A ((wR k arR (plR) (arY 0) (uF (uF (uF (uF (uF (uF (uF fiR 3 (c26)) 4 (c27)) 22 (c28)) 23 (c29)) 24 (c30)) 25 (c31)) 27 (c32)) faR) ++ (wY k arY fiY faY)) := ⟨hP, hD⟩
      obtain ⟨rc26, rc27, rc28, rc29, rc30, rc31, rc32, hp32⟩ : (inR c26) ∧ (inR c27) ∧ (inR c28) ∧ (inR c29) ∧ (inR c30) ∧ (inR c31) ∧ (inR c32) ∧ (0 ≤ c29 ∧ c29 ≤ (fiR 21) ∧ 0 ≤ c28 ∧ c28 ≤ (fiR 21) ∧ 0 ≤ c31 ∧ c31 ≤ 23) := hp
      have hl : lv_has ls 4 [(0, .ref (arR 99)), (1, .int (Int32.ofInt (k0))), (2, .int (Int32.ofInt (l0))), (3, .int (Int32.ofInt (m0)))] := lv_sub hl [0, 1, 2, 3] rfl
      exact J14 (c26, c27, c28, c29, c30, c31, c32) (show inR c26 ∧ inR c27 ∧ inR c28 ∧ inR c29 ∧ inR c30 ∧ inR c31 ∧ inR c32 ∧ (0 ≤ c29 ∧ c29 ≤ fiR 21 ∧ 0 ≤ c28 ∧ c28 ≤ fiR 21 ∧ 0 ≤ c31 ∧ c31 ≤ 23) from ⟨(by omega), (by omega), (by omega), (by omega), (by omega), (by omega), (by omega), (by omega)⟩) _ _ _ hP hD hS hl

set_option maxHeartbeats 4000000 in
set_option maxRecDepth 100000 in
theorem mX2_readBottom (l : Launch) (G : va_G) (k : Nat → ClassId) (arR : Nat → Nat) (fiR : Nat → Int) (faR : Nat → Int → Int) (arY : Nat → Nat) (fiY : Nat → Int) (faY : Nat → Int → Int) (arP : Nat → Nat) (fiP : Nat → Int) (faP : Nat → Int → Int) (f0 : Int) (sz : Nat) (hRR : ∀ j, inR (fiR j)) (hRaR : ∀ j t, inR (faR j t)) (hRY : ∀ j, inR (fiY j)) (hRaY : ∀ j t, inR (faY j t)) (hB0Y : bnd (faY 0) 600 (-128) 128) (hRP : ∀ j, inR (fiP j)) (hRaP : ∀ j t, inR (faP j t)) (hB8P : bnd (faP 8) 7 0 4) (hB21P : bnd (faP 21) 4 0 601) (hr_f0 : inR f0) (hrq : 0 ≤ fiR 23 ∧ fiR 23 ≤ fiR 21 ∧ 0 ≤ fiR 22 ∧ fiR 22 ≤ fiR 21 ∧ 0 ≤ fiR 25 ∧ fiR 25 ≤ 23 ∧ fiR 21 ≤ 600) (hpi : 0 ≤ fiP 7 ∧ fiP 7 ≤ 7 ∧ 0 ≤ fiP 0 ∧ fiP 0 ≤ 11 ∧ 0 ≤ fiP 24 ∧ fiP 24 ≤ 4 ∧ 0 ≤ fiP 23 ∧ fiP 23 ≤ 600) : CNv l G k (EZ k) yX2_readBottom wzX2_readBottom ({ frames := 7, cells := 0, slots := 0, locals := 154 }) [.ref (arR 99), .int (Int32.ofInt (f0))] sz ((wR k arR (arP 99) (arY 0) fiR faR) ++ ((wY k arY fiY faY) ++ (wP k arP fiP faP))) (fun (u : Int × Int × Int × Int × Int × Int × Int × Int × Int) => (inR u.1) ∧ (inR u.2.1) ∧ (inR u.2.2.1) ∧ (inR u.2.2.2.1) ∧ (inR u.2.2.2.2.1) ∧ (inR u.2.2.2.2.2.1) ∧ (inR u.2.2.2.2.2.2.1) ∧ (inR u.2.2.2.2.2.2.2.1) ∧ (inR u.2.2.2.2.2.2.2.2) ∧ (0 ≤ u.2.2.2.1 ∧ u.2.2.2.1 ≤ fiR 21 ∧ 0 ≤ u.2.2.1 ∧ u.2.2.1 ≤ fiR 21 ∧ 0 ≤ u.2.2.2.2.2.1 ∧ u.2.2.2.2.2.1 ≤ 23 ∧ 0 ≤ (fiP 7) ∧ (fiP 7) ≤ 7 ∧ 0 ≤ u.2.2.2.2.2.2.2.2 ∧ u.2.2.2.2.2.2.2.2 ≤ 11 ∧ 0 ≤ (fiP 24) ∧ (fiP 24) ≤ 4 ∧ 0 ≤ (fiP 23) ∧ (fiP 23) ≤ 600)) (fun (u : Int × Int × Int × Int × Int × Int × Int × Int × Int) => ((wR k arR (arP 99) (arY 0) (uF (uF (uF (uF (uF (uF (uF (uF fiR 3 (u.1)) 4 (u.2.1)) 22 (u.2.2.1)) 23 (u.2.2.2.1)) 24 (u.2.2.2.2.1)) 25 (u.2.2.2.2.2.1)) 26 (u.2.2.2.2.2.2.1)) 27 (u.2.2.2.2.2.2.2.1)) faR) ++ ((wY k arY fiY faY) ++ (wP k arP (uF fiP 0 (u.2.2.2.2.2.2.2.2)) faP)))) := by
  refine Met.ofW (cc := cX2_readBottom) (maxL := 2) (ret := none) (by decide) rfl ?_
  intro p e s m args below meth c s₁ B hml hv
  obtain ⟨rfl, hsz, hP, hX, hD0, hZ0⟩ := hv
  have hx := B.exec
  have hb := B.bytes
  have hr := B.returns
  have hts := atoms_spec (ws := wzX2_readBottom) B.pre
  have hown : s.vm.findClass RX2 = some m.cls := findClass_of_methodNamed B.named
  subst hsz
  have hD := hD0.self (sz := s.heap.size)
  have hZ := hZ0
  generalize hAe : va_A ((wR k arR (arP 99) (arY 0) fiR faR) ++ ((wY k arY fiY faY) ++ (wP k arP fiP faP))) s.heap.size = A at hD hZ ⊢
  have hA : ∀ q : Nat, s.heap.size ≤ q → A q := fun q h => by rw [← hAe]; exact Or.inr h
  have hS : va_S A s.heap s.heap [] := va_S.rf
  have hl := lv_entry ([.ref (arR 99), .int (Int32.ofInt (f0))]) (n := 2) (Nat.le_of_ble_eq_true rfl)
  rw [lg_entry_eq]
  generalize (lg_sl ([.ref (arR 99), .int (Int32.ofInt (f0))]) ++ List.replicate (2 - (lg_sl ([.ref (arR 99), .int (Int32.ofInt (f0))])).length) Slot.unset).toArray = ls at hl ⊢
  have hl : lv_has ls 2 [(0, .ref (arR 99)), (1, .int (Int32.ofInt (f0)))] := hl
  obtain ⟨H, eH⟩ : ∃ H, H = s.heap := ⟨_, rfl⟩
  rw [← eH] at hP
  have hS : va_S A s.heap H [] := by rw [eH]; exact hS
  have gW : s.heap = H := eH.symm
  refine iv_heap gW ?_
  have h0w := hts (.fieldLink RX2 12 "RopeTown$Parser" "reader" "LRopeTown$Reader;") (wz_at 3 8 rfl)
  have h1w : ∀ w ∈ wsX20, w ∈ wzX2_readBottom := fun w h => List.mem_cons_of_mem _ (inlX2 w h)
  have h2w := hts (.initialized RX4) (wz_at 3 7 rfl)
  have h3w := hts (.instanceMethod yX4_advance) (wz_at 9 8 rfl)
  have h4w := hts (.selects RX4 yX4_advance yX4_advance) (wz_at 9 9 rfl)
  have h5w := hts (.fieldLink RX2 18 "RopeTown$Parser" "plan" "LRopeTown$Plan;") (wz_at 3 9 rfl)
  have h6w : ∀ w ∈ wsX30, w ∈ wzX2_readBottom := fun w h => List.mem_cons_of_mem _ (inlX3 w h)
  refine iv_join (G := G) (A := A) (H0 := s.heap) (α := Int × Int × Int × Int × Int × Int × Int) (nL := 2) 9 (fun b9 => []) (fun b9 => ((wR k arR (arP 99) (arY 0) (uF (uF (uF (uF (uF (uF (uF fiR 3 (b9.1)) 4 (b9.2.1)) 22 (b9.2.2.1)) 23 (b9.2.2.2.1)) 24 (b9.2.2.2.2.1)) 25 (b9.2.2.2.2.2.1)) 27 (b9.2.2.2.2.2.2)) faR) ++ ((wY k arY fiY faY) ++ (wP k arP fiP faP)))) (fun b9 => [(0, .ref (arR 99)), (1, .int (Int32.ofInt (f0)))]) (fun b9 => inR b9.1 ∧ inR b9.2.1 ∧ inR b9.2.2.1 ∧ inR b9.2.2.2.1 ∧ inR b9.2.2.2.2.1 ∧ inR b9.2.2.2.2.2.1 ∧ inR b9.2.2.2.2.2.2 ∧ (0 ≤ b9.2.2.2.1 ∧ b9.2.2.2.1 ≤ fiR 21 ∧ 0 ≤ b9.2.2.1 ∧ b9.2.2.1 ≤ fiR 21 ∧ 0 ≤ b9.2.2.2.2.2.1 ∧ b9.2.2.2.2.2.1 ≤ 23)) ?_ (fun J9 => ?_)
  · rintro ⟨n3R_1, n4R_2, n22R_3, n23R_4, n24R_5, n25R_6, n27R_7⟩ hi9 H locs ls hP hD hS hl
    obtain ⟨r_n3R_1, r_n4R_2, r_n22R_3, r_n23R_4, r_n24R_5, r_n25R_6, r_n27R_7, hinv⟩ : inR n3R_1 ∧ inR n4R_2 ∧ inR n22R_3 ∧ inR n23R_4 ∧ inR n24R_5 ∧ inR n25R_6 ∧ inR n27R_7 ∧ (0 ≤ n23R_4 ∧ n23R_4 ≤ fiR 21 ∧ 0 ≤ n22R_3 ∧ n22R_3 ≤ fiR 21 ∧ 0 ≤ n25R_6 ∧ n25R_6 ≤ 23) := hi9
    obtain ⟨hP, hD⟩ : va_P G vwCl ((wR k arR (arP 99) (arY 0) (uF (uF (uF (uF (uF (uF (uF fiR 3 (n3R_1)) 4 (n4R_2)) 22 (n22R_3)) 23 (n23R_4)) 24 (n24R_5)) 25 (n25R_6)) 27 (n27R_7)) faR) ++ ((wY k arY fiY faY) ++ (wP k arP fiP faP))) H ∧ va_D A ((wR k arR (arP 99) (arY 0) (uF (uF (uF (uF (uF (uF (uF fiR 3 (n3R_1)) 4 (n4R_2)) 22 (n22R_3)) 23 (n23R_4)) 24 (n24R_5)) 25 (n25R_6)) 27 (n27R_7)) faR) ++ ((wY k arY fiY faY) ++ (wP k arP fiP faP))) := ⟨hP, hD⟩
    have hl : lv_has ls 2 [(0, .ref (arR 99)), (1, .int (Int32.ofInt (f0)))] := hl
    refine lv_aload_n hx hb dX2_readBottom_9 rfl (lv_at hl 0 rfl) ?_
    refine va_get (D := G) (ci := 1) (v := .ref (arR 98)) (C := RX2) (T := TX2) (N := 5) (ref := RX2) hx hb hts h1w hown hX.1 hP 0 rfl rfl 0 (by decide) h0w (fun _ h9 => h9) rfl dX2_readBottom_10 ?_
    refine cz_v (wr := (wP k arP fiP faP)) (va_runVN (As := []) (rest := []) ⟨hx, hb, hml, hown, hts⟩ (mX4_advance l G k arR (arP 99) (uF (uF (uF (uF (uF (uF (uF fiR 3 (n3R_1)) 4 (n4R_2)) 22 (n22R_3)) 23 (n23R_4)) 24 (n24R_5)) 25 (n25R_6)) 27 (n27R_7)) faR arY fiY faY H.size (iF (iF (iF (iF (iF (iF (iF hRR (by omega)) (by omega)) (by omega)) (by omega)) (by omega)) (by omega)) (by omega)) hRaR hRY hRaY hB0Y (show 0 ≤ n23R_4 ∧ n23R_4 ≤ (fiR 21) ∧ (fiR 21) ≤ 600 from by omega)) ⟨va_cnB 0 hts (gz [] (.code yX4_advance cX4_advance 3 none) [(9, 10)] rfl) rfl rfl rfl (nm_32 hX.2.2.1) h2w (by decide +kernel) ⟨Nat.le_of_ble_eq_true rfl, Nat.le_of_ble_eq_true rfl⟩, h3w, h4w⟩ (cy_preV (EZ_ok k) hZ hS hX hP hD hA [0, 1, 2] rfl rfl (ci := 3) (q0 := 1) rfl rfl) rfl rfl hl.1 rfl (lv_room (Nat.le_of_ble_eq_true rfl)) dX2_readBottom_13 ⟨Nat.le_of_ble_eq_true rfl, Nat.le_of_ble_eq_true rfl⟩) hP hD hS hA [0, 1, 2] [3, 4, 5, 6, 7, 8, 9, 10, 11, 12] rfl rfl (by decide) (by decide) (fun u H locs hp hP hD hS => ?_)
    obtain ⟨c8, c9, c10, c11, c12, c13⟩ := u
    obtain ⟨hP, hD⟩ : va_P G vwCl ((wP k arP fiP faP) ++ ((wR k arR (arP 99) (arY 0) (uF (uF (uF (uF (uF (uF (uF (uF fiR 3 (n3R_1)) 4 (n4R_2)) 22 (c8)) 23 (c9)) 24 (c10)) 25 (c11)) 26 (c12)) 27 (c13)) faR) ++ (wY k arY fiY faY))) H ∧ va_D A ((wP k arP fiP faP) ++ ((wR k arR (arP 99) (arY 0) (uF (uF (uF (uF (uF (uF (uF (uF fiR 3 (n3R_1)) 4 (n4R_2)) 22 (c8)) 23 (c9)) 24 (c10)) 25 (c11)) 26 (c12)) 27 (c13)) faR) ++ (wY k arY fiY faY))) := ⟨hP, hD⟩
    obtain ⟨hP, hD⟩ : va_P G vwCl ((wR k arR (arP 99) (arY 0) (uF (uF (uF (uF (uF (uF (uF (uF fiR 3 (n3R_1)) 4 (n4R_2)) 22 (c8)) 23 (c9)) 24 (c10)) 25 (c11)) 26 (c12)) 27 (c13)) faR) ++ ((wY k arY fiY faY) ++ (wP k arP fiP faP))) H ∧ va_D A ((wR k arR (arP 99) (arY 0) (uF (uF (uF (uF (uF (uF (uF (uF fiR 3 (n3R_1)) 4 (n4R_2)) 22 (c8)) 23 (c9)) 24 (c10)) 25 (c11)) 26 (c12)) 27 (c13)) faR) ++ ((wY k arY fiY faY) ++ (wP k arP fiP faP))) := re_ord hP hD [10, 11, 12, 0, 1, 2, 3, 4, 5, 6, 7, 8, 9] (by decide) rfl
    obtain ⟨rc8, rc9, rc10, rc11, rc12, rc13, hp13⟩ : (inR c8) ∧ (inR c9) ∧ (inR c10) ∧ (inR c11) ∧ (inR c12) ∧ (inR c13) ∧ (0 ≤ c9 ∧ c9 ≤ (fiR 21) ∧ 0 ≤ c8 ∧ c8 ≤ (fiR 21) ∧ 0 ≤ c11 ∧ c11 ≤ 23) := hp
    refine lv_aload_n hx hb dX2_readBottom_16 rfl (lv_at hl 0 rfl) ?_
    refine va_get (D := G) (ci := 1) (v := .ref (arP 99)) (C := RX2) (T := TX2) (N := 5) (ref := RX2) hx hb hts h1w hown hX.1 hP 0 rfl rfl 1 (by decide) h5w (fun _ h9 => h9) rfl dX2_readBottom_17 ?_
    refine lv_aload_n hx hb dX2_readBottom_20 rfl (lv_at hl 0 rfl) ?_
    refine lv_iconst (v := Int32.ofInt 1) hx hb dX2_readBottom_21 (by decide +kernel) ?_
    refine lv_bipush (v := Int32.ofInt 11) hx hb dX2_readBottom_22 (by decide +kernel) ?_
    refine cz_i (wr := (wP k arP fiP faP)) (va_runV (As := [.int (Int32.ofInt (1)), .int (Int32.ofInt (11))]) (rest := [.ref (arP 99)]) ⟨hx, hb, hml, hown, hts⟩ (mX2_readNumber l G k arR (arP 99) (uF (uF (uF (uF (uF (uF (uF (uF fiR 3 (n3R_1)) 4 (n4R_2)) 22 (c8)) 23 (c9)) 24 (c10)) 25 (c11)) 26 (c12)) 27 (c13)) faR arY fiY faY 1 11 H.size (iF (iF (iF (iF (iF (iF (iF (iF hRR (by omega)) (by omega)) (by omega)) (by omega)) (by omega)) (by omega)) (by omega)) (by omega)) hRaR hRY hRaY hB0Y (by omega) (by omega) (show 0 ≤ c9 ∧ c9 ≤ (fiR 21) ∧ 0 ≤ c8 ∧ c8 ≤ (fiR 21) ∧ 0 ≤ c11 ∧ c11 ≤ 23 ∧ (fiR 21) ≤ 600 from by omega) (show 1 ≤ 11 from by omega)) (cwV 2 hts (gz [.methodLink RX2 112 yX2_readNumber, .instanceMethod yX2_readNumber, .selects RX2 yX2_readNumber yX2_readNumber, .initialized RX2] (.code yX2_readNumber cX2_readNumber 4 (some .int)) [(13, 5), (13, 6), (13, 7), (1, 0), (13, 8)] rfl) rfl rfl rfl (by decide +kernel) ⟨Nat.le_of_ble_eq_true rfl, Nat.le_of_ble_eq_true rfl⟩) (cy_preV (EZ_ok k) hZ hS hX hP hD hA [0, 1, 2] rfl rfl (ci := 1) (q0 := 0) rfl rfl) rfl rfl hl.1 rfl (lv_room (Nat.le_of_ble_eq_true rfl)) dX2_readBottom_24 ⟨Nat.le_of_ble_eq_true rfl, Nat.le_of_ble_eq_true rfl⟩) hP hD hS hA [0, 1, 2] [3, 4, 5, 6, 7, 8, 9, 10, 11, 12] rfl rfl (by decide) (by decide) (fun r u H locs hp hP hD hS => ?_)
    obtain ⟨c14, c15, c16, c17, c18, c19, c20, c21, c22⟩ := u
    obtain ⟨hP, hD⟩ : va_P G vwCl ((wP k arP fiP faP) ++ ((wR k arR (arP 99) (arY 0) (uF (uF (uF (uF (uF (uF (uF (uF fiR 3 (c15)) 4 (c16)) 22 (c17)) 23 (c18)) 24 (c19)) 25 (c20)) 26 (c21)) 27 (c22)) faR) ++ (wY k arY fiY faY))) H ∧ va_D A ((wP k arP fiP faP) ++ ((wR k arR (arP 99) (arY 0) (uF (uF (uF (uF (uF (uF (uF (uF fiR 3 (c15)) 4 (c16)) 22 (c17)) 23 (c18)) 24 (c19)) 25 (c20)) 26 (c21)) 27 (c22)) faR) ++ (wY k arY fiY faY))) := ⟨hP, hD⟩
    obtain ⟨hP, hD⟩ : va_P G vwCl ((wR k arR (arP 99) (arY 0) (uF (uF (uF (uF (uF (uF (uF (uF fiR 3 (c15)) 4 (c16)) 22 (c17)) 23 (c18)) 24 (c19)) 25 (c20)) 26 (c21)) 27 (c22)) faR) ++ ((wY k arY fiY faY) ++ (wP k arP fiP faP))) H ∧ va_D A ((wR k arR (arP 99) (arY 0) (uF (uF (uF (uF (uF (uF (uF (uF fiR 3 (c15)) 4 (c16)) 22 (c17)) 23 (c18)) 24 (c19)) 25 (c20)) 26 (c21)) 27 (c22)) faR) ++ ((wY k arY fiY faY) ++ (wP k arP fiP faP))) := re_ord hP hD [10, 11, 12, 0, 1, 2, 3, 4, 5, 6, 7, 8, 9] (by decide) rfl
    obtain ⟨h9, rc14, rc15, rc16, rc17, rc18, rc19, rc20, rc21, rc22, hp22⟩ : r = Int32.ofInt c14 ∧ (inR c14) ∧ (inR c15) ∧ (inR c16) ∧ (inR c17) ∧ (inR c18) ∧ (inR c19) ∧ (inR c20) ∧ (inR c21) ∧ (inR c22) ∧ (0 ≤ c18 ∧ c18 ≤ (fiR 21) ∧ 0 ≤ c17 ∧ c17 ≤ (fiR 21) ∧ 0 ≤ c20 ∧ c20 ≤ 23 ∧ 1 ≤ c14 ∧ c14 ≤ 11) := hp
    subst h9
    refine iv_putN (ci := 2) (v := .int (Int32.ofInt (c14))) (ty := .int) (C := RX3) (T := TX3) (N := 14) (ref := RX3) (host := RX9) hx hb hts h6w tyX3 tyX3_ok nmX3 hown hX.1 hP hD hS 3 rfl rfl 0 (by decide) (nf_3 hX.2.2.1) (fun _ h9 => h9) rfl (by decide +kernel) rfl rfl (Nat.le_of_ble_eq_true rfl) (show _ = ((wR k arR (arP 99) (arY 0) (uF (uF (uF (uF (uF (uF (uF (uF fiR 3 (c15)) 4 (c16)) 22 (c17)) 23 (c18)) 24 (c19)) 25 (c20)) 26 (c21)) 27 (c22)) faR) ++ ((wY k arY fiY faY) ++ (wP k arP (uF fiP 0 (c14)) faP))) from rfl) dX2_readBottom_27 (fun H locs hP hD hS => ?_)
    exact W.vret hx hb hr (fun t ht hW => ⟨⟨(c15, c16, c17, c18, c19, c20, c21, c22, c14), rfl, (show (inR c15) ∧ (inR c16) ∧ (inR c17) ∧ (inR c18) ∧ (inR c19) ∧ (inR c20) ∧ (inR c21) ∧ (inR c22) ∧ (inR c14) ∧ (0 ≤ c18 ∧ c18 ≤ fiR 21 ∧ 0 ≤ c17 ∧ c17 ≤ fiR 21 ∧ 0 ≤ c20 ∧ c20 ≤ 23 ∧ 0 ≤ (fiP 7) ∧ (fiP 7) ≤ 7 ∧ 0 ≤ c14 ∧ c14 ≤ 11 ∧ 0 ≤ (fiP 24) ∧ (fiP 24) ≤ 4 ∧ 0 ≤ (fiP 23) ∧ (fiP 23) ≤ 600) from ⟨(by omega), (by omega), (by omega), (by omega), (by omega), (by omega), (by omega), (by omega), (by omega), (by omega)⟩), by rw [ht]; exact hP, hD⟩, hS.F ht⟩) hS.2.2 dX2_readBottom_30
  · refine lv_iload_n hx hb dX2_readBottom_0 rfl (lv_at hl 1 rfl) ?_
    refine iv_if_ne (tgt := 9) hx hb (by omega) dX2_readBottom_1 (by decide) (fun q23 => ?_) (fun q23 => ?_)
    · have hl : lv_has ls 2 [(0, .ref (arR 99)), (1, .int (Int32.ofInt (f0)))] := lv_sub hl [0, 1] rfl
      exact J9 (fiR 3, fiR 4, fiR 22, fiR 23, fiR 24, fiR 25, fiR 27) (show inR (fiR 3) ∧ inR (fiR 4) ∧ inR (fiR 22) ∧ inR (fiR 23) ∧ inR (fiR 24) ∧ inR (fiR 25) ∧ inR (fiR 27) ∧ (0 ≤ (fiR 23) ∧ (fiR 23) ≤ fiR 21 ∧ 0 ≤ (fiR 22) ∧ (fiR 22) ≤ fiR 21 ∧ 0 ≤ (fiR 25) ∧ (fiR 25) ≤ 23) from ⟨(hRR 3), (hRR 4), (hRR 22), (hRR 23), (hRR 24), (hRR 25), (hRR 27), (by omega)⟩) _ _ _ hP hD hS hl
    · refine lv_aload_n hx hb dX2_readBottom_4 rfl (lv_at hl 0 rfl) ?_
      refine lv_iconst (v := Int32.ofInt 4) hx hb dX2_readBottom_5 (by decide +kernel) ?_
      refine cz_v (wr := (wP k arP fiP faP)) (va_runV (As := [.int (Int32.ofInt (4))]) (rest := []) ⟨hx, hb, hml, hown, hts⟩ (mX2_fail l G k arR (arP 99) fiR faR arY fiY faY 4 H.size hRR hRaR hRY hRaY hB0Y (by omega) (show 0 ≤ (fiR 23) ∧ (fiR 23) ≤ (fiR 21) ∧ 0 ≤ (fiR 22) ∧ (fiR 22) ≤ (fiR 21) ∧ 0 ≤ (fiR 25) ∧ (fiR 25) ≤ 23 ∧ (fiR 21) ≤ 600 from by omega)) (cwV 1 hts (gz [.methodLink RX2 103 yX2_fail, .instanceMethod yX2_fail, .selects RX2 yX2_fail yX2_fail, .initialized RX2] (.code yX2_fail cX2_fail 2 none) [(13, 1), (13, 2), (13, 3), (1, 0), (13, 4)] rfl) rfl rfl rfl (by decide +kernel) ⟨Nat.le_of_ble_eq_true rfl, Nat.le_of_ble_eq_true rfl⟩) (cy_preV (EZ_ok k) hZ hS hX hP hD hA [0, 1, 2] rfl rfl (ci := 1) (q0 := 0) rfl rfl) rfl rfl hl.1 rfl (lv_room (Nat.le_of_ble_eq_true rfl)) dX2_readBottom_6 ⟨Nat.le_of_ble_eq_true rfl, Nat.le_of_ble_eq_true rfl⟩) hP hD hS hA [0, 1, 2] [3, 4, 5, 6, 7, 8, 9, 10, 11, 12] rfl rfl (by decide) (by decide) (fun u H locs hp hP hD hS => ?_)
      obtain ⟨c24, c25, c26, c27, c28, c29, c30⟩ := u
      obtain ⟨hP, hD⟩ : va_P G vwCl ((wP k arP fiP faP) ++ ((wR k arR (arP 99) (arY 0) (uF (uF (uF (uF (uF (uF (uF fiR 3 (c24)) 4 (c25)) 22 (c26)) 23 (c27)) 24 (c28)) 25 (c29)) 27 (c30)) faR) ++ (wY k arY fiY faY))) H ∧ va_D A ((wP k arP fiP faP) ++ ((wR k arR (arP 99) (arY 0) (uF (uF (uF (uF (uF (uF (uF fiR 3 (c24)) 4 (c25)) 22 (c26)) 23 (c27)) 24 (c28)) 25 (c29)) 27 (c30)) faR) ++ (wY k arY fiY faY))) := ⟨hP, hD⟩
      obtain ⟨hP, hD⟩ : va_P G vwCl ((wR k arR (arP 99) (arY 0) (uF (uF (uF (uF (uF (uF (uF fiR 3 (c24)) 4 (c25)) 22 (c26)) 23 (c27)) 24 (c28)) 25 (c29)) 27 (c30)) faR) ++ ((wY k arY fiY faY) ++ (wP k arP fiP faP))) H ∧ va_D A ((wR k arR (arP 99) (arY 0) (uF (uF (uF (uF (uF (uF (uF fiR 3 (c24)) 4 (c25)) 22 (c26)) 23 (c27)) 24 (c28)) 25 (c29)) 27 (c30)) faR) ++ ((wY k arY fiY faY) ++ (wP k arP fiP faP))) := re_ord hP hD [10, 11, 12, 0, 1, 2, 3, 4, 5, 6, 7, 8, 9] (by decide) rfl
      obtain ⟨rc24, rc25, rc26, rc27, rc28, rc29, rc30, hp30⟩ : (inR c24) ∧ (inR c25) ∧ (inR c26) ∧ (inR c27) ∧ (inR c28) ∧ (inR c29) ∧ (inR c30) ∧ (0 ≤ c27 ∧ c27 ≤ (fiR 21) ∧ 0 ≤ c26 ∧ c26 ≤ (fiR 21) ∧ 0 ≤ c29 ∧ c29 ≤ 23) := hp
      have hl : lv_has ls 2 [(0, .ref (arR 99)), (1, .int (Int32.ofInt (f0)))] := lv_sub hl [0, 1] rfl
      exact J9 (c24, c25, c26, c27, c28, c29, c30) (show inR c24 ∧ inR c25 ∧ inR c26 ∧ inR c27 ∧ inR c28 ∧ inR c29 ∧ inR c30 ∧ (0 ≤ c27 ∧ c27 ≤ fiR 21 ∧ 0 ≤ c26 ∧ c26 ≤ fiR 21 ∧ 0 ≤ c29 ∧ c29 ≤ 23) from ⟨(by omega), (by omega), (by omega), (by omega), (by omega), (by omega), (by omega), (by omega)⟩) _ _ _ hP hD hS hl

