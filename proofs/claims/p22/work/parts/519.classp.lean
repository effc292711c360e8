set_option maxHeartbeats 4000000 in
set_option maxRecDepth 100000 in
theorem mX2_setting (l : Launch) (G : va_G) (k : Nat → ClassId) (arR : Nat → Nat) (plR : Nat) (fiR : Nat → Int) (faR : Nat → Int → Int) (arY : Nat → Nat) (fiY : Nat → Int) (faY : Nat → Int → Int) (k0 : Int) (l0 : Int) (m0 : Int) (sz : Nat) (hRR : ∀ j, inR (fiR j)) (hRaR : ∀ j t, inR (faR j t)) (hRY : ∀ j, inR (fiY j)) (hRaY : ∀ j t, inR (faY j t)) (hB0Y : bnd (faY 0) 600 (-128) 128) (hr_k0 : inR k0) (hr_l0 : inR l0) (hr_m0 : inR m0) (hrq : 0 ≤ fiR 23 ∧ fiR 23 ≤ fiR 21 ∧ 0 ≤ fiR 22 ∧ fiR 22 ≤ fiR 21 ∧ 0 ≤ fiR 25 ∧ fiR 25 ≤ 23 ∧ fiR 21 ≤ 600) (hty : CT (uT (faY 0)) (fiR 21) (fiR 3) (fiR 22) (fiR 23) (fiR 24) (fiR 25) (fiR 26) (fiR 27)) (hlm : l0 ≤ m0 ∧ 0 ≤ l0) : CNi l G k (EZ k) yX2_setting wzX2_setting ({ frames := 7, cells := 0, slots := 0, locals := 154 }) [.ref (arR 99), .int (Int32.ofInt (k0)), .int (Int32.ofInt (l0)), .int (Int32.ofInt (m0))] sz ((wR k arR (plR) (arY 0) fiR faR) ++ (wY k arY fiY faY)) (fun (r0 : Int32) (u : Int × Int × Int × Int × Int × Int × Int × Int × Int × Int) => r0 = Int32.ofInt (u.1) ∧ (inR u.1) ∧ (inR u.2.1) ∧ (inR u.2.2.1) ∧ (inR u.2.2.2.1) ∧ (inR u.2.2.2.2.1) ∧ (inR u.2.2.2.2.2.1) ∧ (inR u.2.2.2.2.2.2.1) ∧ (inR u.2.2.2.2.2.2.2.1) ∧ (inR u.2.2.2.2.2.2.2.2.1) ∧ (inR u.2.2.2.2.2.2.2.2.2) ∧ ((0 ≤ u.2.2.2.2.2.1 ∧ u.2.2.2.2.2.1 ≤ fiR 21 ∧ 0 ≤ u.2.2.2.2.1 ∧ u.2.2.2.2.1 ≤ fiR 21 ∧ 0 ≤ u.2.2.2.2.2.2.2.1 ∧ u.2.2.2.2.2.2.2.1 ≤ 23 ∧ (u.2.2.1 = 0 → fiR 3 = 0 ∧ u.2.2.2.1 = fiR 4) ∧ l0 ≤ u.1 ∧ u.1 ≤ m0 ∧ u.2.1 = bOr (fiR 2) k0) ∧ CT (uT (faY 0)) (fiR 21) u.2.2.1 u.2.2.2.2.1 u.2.2.2.2.2.1 u.2.2.2.2.2.2.1 u.2.2.2.2.2.2.2.1 u.2.2.2.2.2.2.2.2.1 u.2.2.2.2.2.2.2.2.2 ∧ val u.2.2.1 u.2.2.2.1 u.2.2.2.2.1 = bd (val (fiR 3) (fiR 4) (fiR 22)) (seF (uT (faY 0)) (fiR 21) (fiR 2) k0 l0 m0))) (fun (u : Int × Int × Int × Int × Int × Int × Int × Int × Int × Int) => ((wR k arR (plR) (arY 0) (uF (uF (uF (uF (uF (uF (uF (uF (uF fiR 2 (u.2.1)) 3 (u.2.2.1)) 4 (u.2.2.2.1)) 22 (u.2.2.2.2.1)) 23 (u.2.2.2.2.2.1)) 24 (u.2.2.2.2.2.2.1)) 25 (u.2.2.2.2.2.2.2.1)) 26 (u.2.2.2.2.2.2.2.2.1)) 27 (u.2.2.2.2.2.2.2.2.2)) faR) ++ (wY k arY fiY faY))) := by
  refine Met.ofW (cc := cX2_setting) (maxL := 4) (ret := (some .int)) (by decide) rfl ?_
  intro p e s m args below meth c s₁ B hml hv
  obtain ⟨rfl, hsz, hP, hX, hD0, hZ0⟩ := hv
  have hx := B.exec
  have hb := B.bytes
  have hr := B.returns
  have hts := atoms_spec (ws := wzX2_setting) B.pre
  have hown : s.vm.findClass RX2 = some m.cls := findClass_of_methodNamed B.named
  subst hsz
  have hD := hD0.self (sz := s.heap.size)
  have hZ := hZ0
  generalize hAe : va_A ((wR k arR (plR) (arY 0) fiR faR) ++ (wY k arY fiY faY)) s.heap.size = A at hD hZ ⊢
  have hA : ∀ q : Nat, s.heap.size ≤ q → A q := fun q h => by rw [← hAe]; exact Or.inr h
  have hS : va_S A s.heap s.heap [] := va_S.rf
  have hl := lv_entry ([.ref (arR 99), .int (Int32.ofInt (k0)), .int (Int32.ofInt (l0)), .int (Int32.ofInt (m0))]) (n := 4) (Nat.le_of_ble_eq_true rfl)
  rw [lg_entry_eq]
  generalize (lg_sl ([.ref (arR 99), .int (Int32.ofInt (k0)), .int (Int32.ofInt (l0)), .int (Int32.ofInt (m0))]) ++ List.replicate (4 - (lg_sl ([.ref (arR 99), .int (Int32.ofInt (k0)), .int (Int32.ofInt (l0)), .int (Int32.ofInt (m0))])).length) Slot.unset).toArray = ls at hl ⊢
  have hl : lv_has ls 4 [(0, .ref (arR 99)), (1, .int (Int32.ofInt (k0))), (2, .int (Int32.ofInt (l0))), (3, .int (Int32.ofInt (m0)))] := hl
  obtain ⟨H, eH⟩ : ∃ H, H = s.heap := ⟨_, rfl⟩
  rw [← eH] at hP
  have hS : va_S A s.heap H [] := by rw [eH]; exact hS
  have gW : s.heap = H := eH.symm
  refine iv_heap gW ?_
  have h0w := hts (.fieldLink RX2 22 "RopeTown$Parser" "told" "I") (wz_at 3 10 rfl)
  have h1w : ∀ w ∈ wsX20, w ∈ wzX2_setting := fun w h => List.mem_cons_of_mem _ (inlX2 w h)
  have h2w := hts (.fieldLink RX2 12 "RopeTown$Parser" "reader" "LRopeTown$Reader;") (wz_at 3 8 rfl)
  have h3w := hts (.initialized RX4) (wz_at 3 7 rfl)
  have h4w := hts (.instanceMethod yX4_advance) (wz_at 9 8 rfl)
  have h5w := hts (.selects RX4 yX4_advance yX4_advance) (wz_at 9 9 rfl)
  refine lv_aload_n hx hb dX2_setting_0 rfl (lv_at hl 0 rfl) ?_
  refine va_get (D := G) (ci := 1) (v := .int (Int32.ofInt (fiR 2))) (C := RX2) (T := TX2) (N := 5) (ref := RX2) hx hb hts h1w hown hX.1 hP 0 rfl rfl 2 (by decide) h0w (fun _ h9 => h9) rfl dX2_setting_1 ?_
  have rf2R := hRR 2
  refine lv_iload_n hx hb dX2_setting_4 rfl (lv_at hl 1 rfl) ?_
  refine iv_and hx hb dX2_setting_5 ?_
  refine iv_top (fun z1 ez1 => ?_)
  have rz1 : inR z1 := ez1 ▸ bAnd_r _ _
  refine iv_join (G := G) (A := A) (H0 := s.heap) (α := Int × Int × Int × Int × Int × Int × Int) (nL := 4) 14 (fun b9 => []) (fun b9 => ((wR k arR (plR) (arY 0) (uF (uF (uF (uF (uF (uF (uF fiR 3 (b9.1)) 4 (b9.2.1)) 22 (b9.2.2.1)) 23 (b9.2.2.2.1)) 24 (b9.2.2.2.2.1)) 25 (b9.2.2.2.2.2.1)) 27 (b9.2.2.2.2.2.2)) faR) ++ (wY k arY fiY faY))) (fun b9 => [(0, .ref (arR 99)), (1, .int (Int32.ofInt (k0))), (2, .int (Int32.ofInt (l0))), (3, .int (Int32.ofInt (m0)))]) (fun b9 => inR b9.1 ∧ inR b9.2.1 ∧ inR b9.2.2.1 ∧ inR b9.2.2.2.1 ∧ inR b9.2.2.2.2.1 ∧ inR b9.2.2.2.2.2.1 ∧ inR b9.2.2.2.2.2.2 ∧ ((0 ≤ b9.2.2.2.1 ∧ b9.2.2.2.1 ≤ fiR 21 ∧ 0 ≤ b9.2.2.1 ∧ b9.2.2.1 ≤ fiR 21 ∧ 0 ≤ b9.2.2.2.2.2.1 ∧ b9.2.2.2.2.2.1 ≤ 23 ∧ (b9.1 = 0 → fiR 3 = 0 ∧ b9.2.1 = fiR 4)) ∧ CT (uT (faY 0)) (fiR 21) b9.1 b9.2.2.1 b9.2.2.2.1 b9.2.2.2.2.1 b9.2.2.2.2.2.1 (fiR 26) b9.2.2.2.2.2.2 ∧ val b9.1 b9.2.1 b9.2.2.1 = bd (val (fiR 3) (fiR 4) (fiR 22)) (tlF (fiR 2) k0))) ?_ (fun J14 => ?_)
  · rintro ⟨n3R_2, n4R_3, n22R_4, n23R_5, n24R_6, n25R_7, n27R_8⟩ hi9 H locs ls hP hD hS hl
    obtain ⟨r_n3R_2, r_n4R_3, r_n22R_4, r_n23R_5, r_n24R_6, r_n25R_7, r_n27R_8, hinv⟩ : inR n3R_2 ∧ inR n4R_3 ∧ inR n22R_4 ∧ inR n23R_5 ∧ inR n24R_6 ∧ inR n25R_7 ∧ inR n27R_8 ∧ ((0 ≤ n23R_5 ∧ n23R_5 ≤ fiR 21 ∧ 0 ≤ n22R_4 ∧ n22R_4 ≤ fiR 21 ∧ 0 ≤ n25R_7 ∧ n25R_7 ≤ 23 ∧ (n3R_2 = 0 → fiR 3 = 0 ∧ n4R_3 = fiR 4)) ∧ CT (uT (faY 0)) (fiR 21) n3R_2 n22R_4 n23R_5 n24R_6 n25R_7 (fiR 26) n27R_8 ∧ val n3R_2 n4R_3 n22R_4 = bd (val (fiR 3) (fiR 4) (fiR 22)) (tlF (fiR 2) k0)) := hi9
    obtain ⟨hinv, hTJ, hVJ⟩ := hinv
    obtain ⟨hP, hD⟩ : va_P G vwCl ((wR k arR (plR) (arY 0) (uF (uF (uF (uF (uF (uF (uF fiR 3 (n3R_2)) 4 (n4R_3)) 22 (n22R_4)) 23 (n23R_5)) 24 (n24R_6)) 25 (n25R_7)) 27 (n27R_8)) faR) ++ (wY k arY fiY faY)) H ∧ va_D A ((wR k arR (plR) (arY 0) (uF (uF (uF (uF (uF (uF (uF fiR 3 (n3R_2)) 4 (n4R_3)) 22 (n22R_4)) 23 (n23R_5)) 24 (n24R_6)) 25 (n25R_7)) 27 (n27R_8)) faR) ++ (wY k arY fiY faY)) := ⟨hP, hD⟩
    have hl : lv_has ls 4 [(0, .ref (arR 99)), (1, .int (Int32.ofInt (k0))), (2, .int (Int32.ofInt (l0))), (3, .int (Int32.ofInt (m0)))] := hl
    refine lv_aload_n hx hb dX2_setting_14 rfl (lv_at hl 0 rfl) ?_
    refine lv_dup hx hb dX2_setting_15 rfl ?_
    refine va_get (D := G) (ci := 1) (v := .int (Int32.ofInt (fiR 2))) (C := RX2) (T := TX2) (N := 5) (ref := RX2) hx hb hts h1w hown hX.1 hP 0 rfl rfl 2 (by decide) h0w (fun _ h9 => h9) rfl dX2_setting_16 ?_
    have rf2R := hRR 2
    refine lv_iload_n hx hb dX2_setting_19 rfl (lv_at hl 1 rfl) ?_
    refine iv_or hx hb dX2_setting_20 ?_
    refine iv_top (fun z9 ez9 => ?_)
    have rz9 : inR z9 := ez9 ▸ bOr_r _ _
    have ho2 := ez9
    refine iv_put (ci := 1) (v := .int (Int32.ofInt (z9))) (ty := .int) (C := RX2) (T := TX2) (N := 5) (ref := RX2) hx hb hts h1w tyX2 tyX2_ok nmX2 hown hX.1 hP hD hS 0 rfl rfl 2 (by decide) h0w (fun _ h9 => h9) rfl (by decide +kernel) rfl rfl (Nat.le_of_ble_eq_true rfl) (show _ = ((wR k arR (plR) (arY 0) (uF (uF (uF (uF (uF (uF (uF (uF fiR 2 (z9)) 3 (n3R_2)) 4 (n4R_3)) 22 (n22R_4)) 23 (n23R_5)) 24 (n24R_6)) 25 (n25R_7)) 27 (n27R_8)) faR) ++ (wY k arY fiY faY)) from rfl) dX2_setting_21 (fun H locs hP hD hS => ?_)
    refine lv_aload_n hx hb dX2_setting_24 rfl (lv_at hl 0 rfl) ?_
    refine va_get (D := G) (ci := 1) (v := .ref (arR 98)) (C := RX2) (T := TX2) (N := 5) (ref := RX2) hx hb hts h1w hown hX.1 hP 0 rfl rfl 0 (by decide) h2w (fun _ h9 => h9) rfl dX2_setting_25 ?_
    refine cr_v (va_runVN (As := []) (rest := []) ⟨hx, hb, hml, hown, hts⟩ (mX4_advance l G k arR plR (uF (uF (uF (uF (uF (uF (uF (uF fiR 2 (z9)) 3 (n3R_2)) 4 (n4R_3)) 22 (n22R_4)) 23 (n23R_5)) 24 (n24R_6)) 25 (n25R_7)) 27 (n27R_8)) faR arY fiY faY H.size (iF (iF (iF (iF (iF (iF (iF (iF hRR (by omega)) (by omega)) (by omega)) (by omega)) (by omega)) (by omega)) (by omega)) (by omega)) hRaR hRY hRaY hB0Y (show 0 ≤ n23R_5 ∧ n23R_5 ≤ (fiR 21) ∧ (fiR 21) ≤ 600 from by omega)) ⟨va_cnB 0 hts (gz [] (.code yX4_advance cX4_advance 3 none) [(9, 10)] rfl) rfl rfl rfl (nm_32 hX.2.2.1) h3w (by decide +kernel) ⟨Nat.le_of_ble_eq_true rfl, Nat.le_of_ble_eq_true rfl⟩, h4w, h5w⟩ (cr_preV (EZ_ok k) hZ hS hX hP hD hA (ci := 3) (q0 := 1) rfl rfl) rfl rfl hl.1 rfl (lv_room (Nat.le_of_ble_eq_true rfl)) dX2_setting_28 ⟨Nat.le_of_ble_eq_true rfl, Nat.le_of_ble_eq_true rfl⟩) hD hS hA (fun u H locs hp hP hD hS => ?_)
    obtain ⟨c10, c11, c12, c13, c14, c15⟩ := u
    obtain ⟨hP, hD⟩ : va_P G vwCl ((wR k arR (plR) (arY 0) (uF (uF (uF (uF (uF (uF (uF (uF (uF fiR 2 (z9)) 3 (n3R_2)) 4 (n4R_3)) 22 (c10)) 23 (c11)) 24 (c12)) 25 (c13)) 26 (c14)) 27 (c15)) faR) ++ (wY k arY fiY faY)) H ∧ va_D A ((wR k arR (plR) (arY 0) (uF (uF (uF (uF (uF (uF (uF (uF (uF fiR 2 (z9)) 3 (n3R_2)) 4 (n4R_3)) 22 (c10)) 23 (c11)) 24 (c12)) 25 (c13)) 26 (c14)) 27 (c15)) faR) ++ (wY k arY fiY faY)) := ⟨hP, hD⟩
    obtain ⟨rc10, rc11, rc12, rc13, rc14, rc15, hp15⟩ : (inR c10) ∧ (inR c11) ∧ (inR c12) ∧ (inR c13) ∧ (inR c14) ∧ (inR c15) ∧ ((0 ≤ c11 ∧ c11 ≤ (fiR 21) ∧ 0 ≤ c10 ∧ c10 ≤ (fiR 21) ∧ 0 ≤ c13 ∧ c13 ≤ 23) ∧ c10 = sk (uT ((faY 0))) ((fiR 21)) (n23R_5) ∧ CR (uT ((faY 0))) ((fiR 21)) c10 c11 c12 c13 c14 c15) := hp
    obtain ⟨hp15, hS28, hC28⟩ := hp15
    refine lv_aload_n hx hb dX2_setting_31 rfl (lv_at hl 0 rfl) ?_
    refine lv_iload_n hx hb dX2_setting_32 rfl (lv_at hl 2 rfl) ?_
    refine lv_iload_n hx hb dX2_setting_33 rfl (lv_at hl 3 rfl) ?_
    refine cr_i (va_runV (As := [.int (Int32.ofInt (l0)), .int (Int32.ofInt (m0))]) (rest := []) ⟨hx, hb, hml, hown, hts⟩ (mX2_readNumber l G k arR plR (uF (uF (uF (uF (uF (uF (uF (uF (uF fiR 2 (z9)) 3 (n3R_2)) 4 (n4R_3)) 22 (c10)) 23 (c11)) 24 (c12)) 25 (c13)) 26 (c14)) 27 (c15)) faR arY fiY faY l0 m0 H.size (iF (iF (iF (iF (iF (iF (iF (iF (iF hRR (by omega)) (by omega)) (by omega)) (by omega)) (by omega)) (by omega)) (by omega)) (by omega)) (by omega)) hRaR hRY hRaY hB0Y (by omega) (by omega) (show 0 ≤ c11 ∧ c11 ≤ (fiR 21) ∧ 0 ≤ c10 ∧ c10 ≤ (fiR 21) ∧ 0 ≤ c13 ∧ c13 ≤ 23 ∧ (fiR 21) ≤ 600 from by omega) (show CT (uT ((faY 0))) ((fiR 21)) (n3R_2) (c10) (c11) (c12) (c13) (c14) (c15) from by exact ct_adv hTJ hS28 hC28) (show l0 ≤ m0 ∧ 0 ≤ l0 from by omega)) (cwV 2 hts (gz [.methodLink RX2 112 yX2_readNumber, .instanceMethod yX2_readNumber, .selects RX2 yX2_readNumber yX2_readNumber, .initialized RX2] (.code yX2_readNumber cX2_readNumber 4 (some .int)) [(13, 5), (13, 6), (13, 7), (1, 0), (13, 8)] rfl) rfl rfl rfl (by decide +kernel) ⟨Nat.le_of_ble_eq_true rfl, Nat.le_of_ble_eq_true rfl⟩) (cr_preV (EZ_ok k) hZ hS hX hP hD hA (ci := 1) (q0 := 0) rfl rfl) rfl rfl hl.1 rfl (lv_room (Nat.le_of_ble_eq_true rfl)) dX2_setting_34 ⟨Nat.le_of_ble_eq_true rfl, Nat.le_of_ble_eq_true rfl⟩) hD hS hA (fun r u H locs hp hP hD hS => ?_)
    obtain ⟨c16, c17, c18, c19, c20, c21, c22, c23, c24⟩ := u
    obtain ⟨hP, hD⟩ : va_P G vwCl ((wR k arR (plR) (arY 0) (uF (uF (uF (uF (uF (uF (uF (uF (uF fiR 2 (z9)) 3 (c17)) 4 (c18)) 22 (c19)) 23 (c20)) 24 (c21)) 25 (c22)) 26 (c23)) 27 (c24)) faR) ++ (wY k arY fiY faY)) H ∧ va_D A ((wR k arR (plR) (arY 0) (uF (uF (uF (uF (uF (uF (uF (uF (uF fiR 2 (z9)) 3 (c17)) 4 (c18)) 22 (c19)) 23 (c20)) 24 (c21)) 25 (c22)) 26 (c23)) 27 (c24)) faR) ++ (wY k arY fiY faY)) := ⟨hP, hD⟩
    obtain ⟨h9, rc16, rc17, rc18, rc19, rc20, rc21, rc22, rc23, rc24, hp24⟩ : r = Int32.ofInt c16 ∧ (inR c16) ∧ (inR c17) ∧ (inR c18) ∧ (inR c19) ∧ (inR c20) ∧ (inR c21) ∧ (inR c22) ∧ (inR c23) ∧ (inR c24) ∧ ((0 ≤ c20 ∧ c20 ≤ (fiR 21) ∧ 0 ≤ c19 ∧ c19 ≤ (fiR 21) ∧ 0 ≤ c22 ∧ c22 ≤ 23 ∧ (c17 = 0 → n3R_2 = 0 ∧ c18 = n4R_3) ∧ l0 ≤ c16 ∧ c16 ≤ m0) ∧ CT (uT ((faY 0))) ((fiR 21)) c17 c19 c20 c21 c22 c23 c24 ∧ val c17 c18 c19 = bd (val (n3R_2) (n4R_3) (c10)) (numF (uT ((faY 0))) ((fiR 21)) l0 m0) ∧ Nvr c17 c16 (dv (uT ((faY 0))) (c10) (en (uT ((faY 0))) ((fiR 21)) (c10)))) := hp
    subst h9
    obtain ⟨hp24, hT34, hV34, hN34⟩ := hp24
    exact W.iret (v := Int32.ofInt (c16)) hx hb hr (fun t ht hW => ⟨⟨Int32.ofInt (c16), (c16, z9, c17, c18, c19, c20, c21, c22, c23, c24), rfl, ⟨rfl, (show (inR c16) ∧ (inR z9) ∧ (inR c17) ∧ (inR c18) ∧ (inR c19) ∧ (inR c20) ∧ (inR c21) ∧ (inR c22) ∧ (inR c23) ∧ (inR c24) ∧ ((0 ≤ c20 ∧ c20 ≤ fiR 21 ∧ 0 ≤ c19 ∧ c19 ≤ fiR 21 ∧ 0 ≤ c22 ∧ c22 ≤ 23 ∧ (c17 = 0 → fiR 3 = 0 ∧ c18 = fiR 4) ∧ l0 ≤ c16 ∧ c16 ≤ m0 ∧ z9 = bOr (fiR 2) k0) ∧ CT (uT (faY 0)) (fiR 21) c17 c19 c20 c21 c22 c23 c24 ∧ val c17 c18 c19 = bd (val (fiR 3) (fiR 4) (fiR 22)) (seF (uT (faY 0)) (fiR 21) (fiR 2) k0 l0 m0)) from ⟨(by omega), (by omega), (by omega), (by omega), (by omega), (by omega), (by omega), (by omega), (by omega), (by omega), (by exact ⟨by omega, hT34, ad_2 hVJ (fc_adv hTJ hS28) hV34⟩)⟩)⟩, by rw [ht]; exact hP, hD⟩, hS.F ht⟩) hS.2.2 dX2_setting_37
  · have hx6 := ez1
    refine iv_if_eq (tgt := 14) hx hb (by omega) dX2_setting_6 (by decide) (fun q25 => ?_) (fun q25 => ?_)
    · have hl : lv_has ls 4 [(0, .ref (arR 99)), (1, .int (Int32.ofInt (k0))), (2, .int (Int32.ofInt (l0))), (3, .int (Int32.ofInt (m0)))] := lv_sub hl [0, 1, 2, 3] rfl
      exact J14 (fiR 3, fiR 4, fiR 22, fiR 23, fiR 24, fiR 25, fiR 27) (show inR (fiR 3) ∧ inR (fiR 4) ∧ inR (fiR 22) ∧ inR (fiR 23) ∧ inR (fiR 24) ∧ inR (fiR 25) ∧ inR (fiR 27) ∧ ((0 ≤ (fiR 23) ∧ (fiR 23) ≤ fiR 21 ∧ 0 ≤ (fiR 22) ∧ (fiR 22) ≤ fiR 21 ∧ 0 ≤ (fiR 25) ∧ (fiR 25) ≤ 23 ∧ ((fiR 3) = 0 → fiR 3 = 0 ∧ (fiR 4) = fiR 4)) ∧ CT (uT (faY 0)) (fiR 21) (fiR 3) (fiR 22) (fiR 23) (fiR 24) (fiR 25) (fiR 26) (fiR 27) ∧ val (fiR 3) (fiR 4) (fiR 22) = bd (val (fiR 3) (fiR 4) (fiR 22)) (tlF (fiR 2) k0)) from ⟨(hRR 3), (hRR 4), (hRR 22), (hRR 23), (hRR 24), (hRR 25), (hRR 27), (by first | exact ⟨by omega, hT11, tl_n hx6 (by omega) hV11⟩ | exact ⟨by omega, hty, tl_y hx6 (by omega)⟩)⟩) _ _ _ hP hD hS hl
    · refine lv_aload_n hx hb dX2_setting_9 rfl (lv_at hl 0 rfl) ?_
      refine lv_iconst (v := Int32.ofInt 5) hx hb dX2_setting_10 (by decide +kernel) ?_
      refine cr_v (va_runV (As := [.int (Int32.ofInt (5))]) (rest := []) ⟨hx, hb, hml, hown, hts⟩ (mX2_fail l G k arR plR fiR faR arY fiY faY 5 H.size hRR hRaR hRY hRaY hB0Y (by omega) (show 0 ≤ (fiR 23) ∧ (fiR 23) ≤ (fiR 21) ∧ 0 ≤ (fiR 22) ∧ (fiR 22) ≤ (fiR 21) ∧ 0 ≤ (fiR 25) ∧ (fiR 25) ≤ 23 ∧ (fiR 21) ≤ 600 from by omega) (show CT (uT ((faY 0))) ((fiR 21)) ((fiR 3)) ((fiR 22)) ((fiR 23)) ((fiR 24)) ((fiR 25)) ((fiR 26)) ((fiR 27)) from by assumption) (show ¬ 5 = 0 from by omega)) (cwV 1 hts (gz [.methodLink RX2 103 yX2_fail, .instanceMethod yX2_fail, .selects RX2 yX2_fail yX2_fail, .initialized RX2] (.code yX2_fail cX2_fail 2 none) [(13, 1), (13, 2), (13, 3), (1, 0), (13, 4)] rfl) rfl rfl rfl (by decide +kernel) ⟨Nat.le_of_ble_eq_true rfl, Nat.le_of_ble_eq_true rfl⟩) (cr_preV (EZ_ok k) hZ hS hX hP hD hA (ci := 1) (q0 := 0) rfl rfl) rfl rfl hl.1 rfl (lv_room (Nat.le_of_ble_eq_true rfl)) dX2_setting_11 ⟨Nat.le_of_ble_eq_true rfl, Nat.le_of_ble_eq_true rfl⟩) hD hS hA (fun u H locs hp hP hD hS => ?_)
      obtain ⟨c26, c27, c28, c29, c30, c31, c32⟩ := u
      obtain ⟨hP, hD⟩ : va_P G vwCl ((wR k arR (plR) (arY 0) (uF (uF (uF (uF (uF (uF (uF fiR 3 (c26)) 4 (c27)) 22 (c28)) 23 (c29)) 24 (c30)) 25 (c31)) 27 (c32)) faR) ++ (wY k arY fiY faY)) H ∧ va_D A ((wR k arR (plR) (arY 0) (uF (uF (uF (uF (uF (uF (uF fiR 3 (c26)) 4 (c27)) 22 (c28)) 23 (c29)) 24 (c30)) 25 (c31)) 27 (c32)) faR) ++ (wY k arY fiY faY)) := ⟨hP, hD⟩
      obtain ⟨rc26, rc27, rc28, rc29, rc30, rc31, rc32, hp32⟩ : (inR c26) ∧ (inR c27) ∧ (inR c28) ∧ (inR c29) ∧ (inR c30) ∧ (inR c31) ∧ (inR c32) ∧ ((0 ≤ c29 ∧ c29 ≤ (fiR 21) ∧ 0 ≤ c28 ∧ c28 ≤ (fiR 21) ∧ 0 ≤ c31 ∧ c31 ≤ 23 ∧ (c26 = 0 → (fiR 3) = 0 ∧ c27 = (fiR 4)) ∧ ¬ c26 = 0) ∧ CT (uT ((faY 0))) ((fiR 21)) c26 c28 c29 c30 c31 ((fiR 26)) c32 ∧ val c26 c27 c28 = bd (val ((fiR 3)) ((fiR 4)) ((fiR 22))) (fun s => (5, s))) := hp
      obtain ⟨hp32, hT11, hV11⟩ := hp32
      have hl : lv_has ls 4 [(0, .ref (arR 99)), (1, .int (Int32.ofInt (k0))), (2, .int (Int32.ofInt (l0))), (3, .int (Int32.ofInt (m0)))] := lv_sub hl [0, 1, 2, 3] rfl
      exact J14 (c26, c27, c28, c29, c30, c31, c32) (show inR c26 ∧ inR c27 ∧ inR c28 ∧ inR c29 ∧ inR c30 ∧ inR c31 ∧ inR c32 ∧ ((0 ≤ c29 ∧ c29 ≤ fiR 21 ∧ 0 ≤ c28 ∧ c28 ≤ fiR 21 ∧ 0 ≤ c31 ∧ c31 ≤ 23 ∧ (c26 = 0 → fiR 3 = 0 ∧ c27 = fiR 4)) ∧ CT (uT (faY 0)) (fiR 21) c26 c28 c29 c30 c31 (fiR 26) c32 ∧ val c26 c27 c28 = bd (val (fiR 3) (fiR 4) (fiR 22)) (tlF (fiR 2) k0)) from ⟨(by omega), (by omega), (by omega), (by omega), (by omega), (by omega), (by omega), (by first | exact ⟨by omega, hT11, tl_n hx6 (by omega) hV11⟩ | exact ⟨by omega, hty, tl_y hx6 (by omega)⟩)⟩) _ _ _ hP hD hS hl

