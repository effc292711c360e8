set_option maxHeartbeats 4000000 in
set_option maxRecDepth 100000 in
theorem mX2_skipSign (l : Launch) (G : va_G) (k : Nat → ClassId) (arR : Nat → Nat) (plR : Nat) (fiR : Nat → Int) (faR : Nat → Int → Int) (arY : Nat → Nat) (fiY : Nat → Int) (faY : Nat → Int → Int) (k0 : Int) (sz : Nat) (hRR : ∀ j, inR (fiR j)) (hRaR : ∀ j t, inR (faR j t)) (hRY : ∀ j, inR (fiY j)) (hRaY : ∀ j t, inR (faY j t)) (hB0Y : bnd (faY 0) 600 (-128) 128) (hr_k0 : inR k0) (hrq : 0 ≤ fiR 23 ∧ fiR 23 ≤ fiR 21 ∧ 0 ≤ fiR 22 ∧ fiR 22 ≤ fiR 21 ∧ 0 ≤ fiR 25 ∧ fiR 25 ≤ 23 ∧ fiR 21 ≤ 600) (hty : CT (uT (faY 0)) (fiR 21) (fiR 3) (fiR 22) (fiR 23) (fiR 24) (fiR 25) (fiR 26) (fiR 27)) (hk0 : ¬ k0 = 0) : CNv l G k (EZ k) yX2_skipSign wzX2_skipSign ({ frames := 6, cells := 0, slots := 0, locals := 131 }) [.ref (arR 99), .int (Int32.ofInt (k0))] sz ((wR k arR (plR) (arY 0) fiR faR) ++ (wY k arY fiY faY)) (fun (u : Int × Int × Int × Int × Int × Int × Int × Int) => (inR u.1) ∧ (inR u.2.1) ∧ (inR u.2.2.1) ∧ (inR u.2.2.2.1) ∧ (inR u.2.2.2.2.1) ∧ (inR u.2.2.2.2.2.1) ∧ (inR u.2.2.2.2.2.2.1) ∧ (inR u.2.2.2.2.2.2.2) ∧ ((0 ≤ u.2.2.2.1 ∧ u.2.2.2.1 ≤ fiR 21 ∧ 0 ≤ u.2.2.1 ∧ u.2.2.1 ≤ fiR 21 ∧ 0 ≤ u.2.2.2.2.2.1 ∧ u.2.2.2.2.2.1 ≤ 23 ∧ (u.1 = 0 → fiR 3 = 0 ∧ u.2.1 = fiR 4)) ∧ CT (uT (faY 0)) (fiR 21) u.1 u.2.2.1 u.2.2.2.1 u.2.2.2.2.1 u.2.2.2.2.2.1 u.2.2.2.2.2.2.1 u.2.2.2.2.2.2.2 ∧ val u.1 u.2.1 u.2.2.1 = bd (val (fiR 3) (fiR 4) (fiR 22)) (mkF (uT (faY 0)) (fiR 21) k0))) (fun (u : Int × Int × Int × Int × Int × Int × Int × Int) => ((wR k arR (plR) (arY 0) (uF (uF (uF (uF (uF (uF (uF (uF fiR 3 (u.1)) 4 (u.2.1)) 22 (u.2.2.1)) 23 (u.2.2.2.1)) 24 (u.2.2.2.2.1)) 25 (u.2.2.2.2.2.1)) 26 (u.2.2.2.2.2.2.1)) 27 (u.2.2.2.2.2.2.2)) faR) ++ (wY k arY fiY faY))) := by
  refine Met.ofW (cc := cX2_skipSign) (maxL := 2) (ret := none) (by decide) rfl ?_
  intro p e s m args below meth c s₁ B hml hv
  obtain ⟨rfl, hsz, hP, hX, hD0, hZ0⟩ := hv
  have hx := B.exec
  have hb := B.bytes
  have hr := B.returns
  have hts := atoms_spec (ws := wzX2_skipSign) B.pre
  have hown : s.vm.findClass RX2 = some m.cls := findClass_of_methodNamed B.named
  subst hsz
  have hD := hD0.self (sz := s.heap.size)
  have hZ := hZ0
  generalize hAe : va_A ((wR k arR (plR) (arY 0) fiR faR) ++ (wY k arY fiY faY)) s.heap.size = A at hD hZ ⊢
  have hA : ∀ q : Nat, s.heap.size ≤ q → A q := fun q h => by rw [← hAe]; exact Or.inr h
  have hS : va_S A s.heap s.heap [] := va_S.rf
  have hl := lv_entry ([.ref (arR 99), .int (Int32.ofInt (k0))]) (n := 2) (Nat.le_of_ble_eq_true rfl)
  rw [lg_entry_eq]
  generalize (lg_sl ([.ref (arR 99), .int (Int32.ofInt (k0))]) ++ List.replicate (2 - (lg_sl ([.ref (arR 99), .int (Int32.ofInt (k0))])).length) Slot.unset).toArray = ls at hl ⊢
  have hl : lv_has ls 2 [(0, .ref (arR 99)), (1, .int (Int32.ofInt (k0)))] := hl
  obtain ⟨H, eH⟩ : ∃ H, H = s.heap := ⟨_, rfl⟩
  rw [← eH] at hP
  have hS : va_S A s.heap H [] := by rw [eH]; exact hS
  have gW : s.heap = H := eH.symm
  refine iv_heap gW ?_
  have h0w := hts (.fieldLink RX2 12 "RopeTown$Parser" "reader" "LRopeTown$Reader;") (wz_at 3 8 rfl)
  have h1w : ∀ w ∈ wsX20, w ∈ wzX2_skipSign := fun w h => List.mem_cons_of_mem _ (inlX2 w h)
  have h2w : ∀ w ∈ wsX40, w ∈ wzX2_skipSign := fun w h => List.mem_cons_of_mem _ (inlX4 w h)
  have h3w := hts (.initialized RX4) (wz_at 3 7 rfl)
  have h4w := hts (.instanceMethod yX4_advance) (wz_at 9 8 rfl)
  have h5w := hts (.selects RX4 yX4_advance yX4_advance) (wz_at 9 9 rfl)
  refine lv_aload_n hx hb dX2_skipSign_0 rfl (lv_at hl 0 rfl) ?_
  refine va_get (D := G) (ci := 1) (v := .ref (arR 98)) (C := RX2) (T := TX2) (N := 5) (ref := RX2) hx hb hts h1w hown hX.1 hP 0 rfl rfl 0 (by decide) h0w (fun _ h9 => h9) rfl dX2_skipSign_1 ?_
  refine va_getN (D := G) (ci := 3) (v := .int (Int32.ofInt (fiR 27))) (C := RX4) (T := TX4) (N := 8) (ref := RX4) (host := RX9) hx hb hts h2w hown hX.1 hP 1 rfl rfl 7 (by decide) (nf_35 hX.2.2.1) (fun _ h9 => h9) rfl dX2_skipSign_4 ?_
  have rf27R := hRR 27
  refine lv_iload_n hx hb dX2_skipSign_7 rfl (lv_at hl 1 rfl) ?_
  refine iv_icmp_ne (tgt := 21) hx hb (by omega) (by omega) dX2_skipSign_8 (by decide) (fun q1 => ?_) (fun q1 => ?_)
  · refine lv_aload_n hx hb dX2_skipSign_21 rfl (lv_at hl 0 rfl) ?_
    refine lv_iconst (v := Int32.ofInt 1) hx hb dX2_skipSign_22 (by decide +kernel) ?_
    refine cr_v (va_runV (As := [.int (Int32.ofInt (1))]) (rest := []) ⟨hx, hb, hml, hown, hts⟩ (mX2_fail l G k arR plR fiR faR arY fiY faY 1 H.size hRR hRaR hRY hRaY hB0Y (by omega) (show 0 ≤ (fiR 23) ∧ (fiR 23) ≤ (fiR 21) ∧ 0 ≤ (fiR 22) ∧ (fiR 22) ≤ (fiR 21) ∧ 0 ≤ (fiR 25) ∧ (fiR 25) ≤ 23 ∧ (fiR 21) ≤ 600 from by omega) (show CT (uT ((faY 0))) ((fiR 21)) ((fiR 3)) ((fiR 22)) ((fiR 23)) ((fiR 24)) ((fiR 25)) ((fiR 26)) ((fiR 27)) from by assumption) (show ¬ 1 = 0 from by omega)) (cwV 1 hts (gz [.methodLink RX2 103 yX2_fail, .instanceMethod yX2_fail, .selects RX2 yX2_fail yX2_fail, .initialized RX2] (.code yX2_fail cX2_fail 2 none) [(13, 1), (13, 2), (13, 3), (1, 0), (13, 4)] rfl) rfl rfl rfl (by decide +kernel) ⟨Nat.le_of_ble_eq_true rfl, Nat.le_of_ble_eq_true rfl⟩) (cr_preV (EZ_ok k) hZ hS hX hP hD hA (ci := 1) (q0 := 0) rfl rfl) rfl rfl hl.1 rfl (lv_room (Nat.le_of_ble_eq_true rfl)) dX2_skipSign_23 ⟨Nat.le_of_ble_eq_true rfl, Nat.le_of_ble_eq_true rfl⟩) hD hS hA (fun u H locs hp hP hD hS => ?_)
    obtain ⟨c2, c3, c4, c5, c6, c7, c8⟩ := u
    obtain ⟨hP, hD⟩ : va_P G vwCl ((wR k arR (plR) (arY 0) (uF (uF (uF (uF (uF (uF (uF fiR 3 (c2)) 4 (c3)) 22 (c4)) 23 (c5)) 24 (c6)) 25 (c7)) 27 (c8)) faR) ++ (wY k arY fiY faY)) H ∧ va_D A ((wR k arR (plR) (arY 0) (uF (uF (uF (uF (uF (uF (uF fiR 3 (c2)) 4 (c3)) 22 (c4)) 23 (c5)) 24 (c6)) 25 (c7)) 27 (c8)) faR) ++ (wY k arY fiY faY)) := ⟨hP, hD⟩
    obtain ⟨rc2, rc3, rc4, rc5, rc6, rc7, rc8, hp8⟩ : (inR c2) ∧ (inR c3) ∧ (inR c4) ∧ (inR c5) ∧ (inR c6) ∧ (inR c7) ∧ (inR c8) ∧ ((0 ≤ c5 ∧ c5 ≤ (fiR 21) ∧ 0 ≤ c4 ∧ c4 ≤ (fiR 21) ∧ 0 ≤ c7 ∧ c7 ≤ 23 ∧ (c2 = 0 → (fiR 3) = 0 ∧ c3 = (fiR 4)) ∧ ¬ c2 = 0) ∧ CT (uT ((faY 0))) ((fiR 21)) c2 c4 c5 c6 c7 ((fiR 26)) c8 ∧ val c2 c3 c4 = bd (val ((fiR 3)) ((fiR 4)) ((fiR 22))) (fun s => (1, s))) := hp
    obtain ⟨hp8, hT23, hV23⟩ := hp8
    exact W.vret hx hb hr (fun t ht hW => ⟨⟨(c2, c3, c4, c5, c6, c7, fiR 26, c8), rfl, (show (inR c2) ∧ (inR c3) ∧ (inR c4) ∧ (inR c5) ∧ (inR c6) ∧ (inR c7) ∧ (inR (fiR 26)) ∧ (inR c8) ∧ ((0 ≤ c5 ∧ c5 ≤ fiR 21 ∧ 0 ≤ c4 ∧ c4 ≤ fiR 21 ∧ 0 ≤ c7 ∧ c7 ≤ 23 ∧ (c2 = 0 → fiR 3 = 0 ∧ c3 = fiR 4)) ∧ CT (uT (faY 0)) (fiR 21) c2 c4 c5 c6 c7 (fiR 26) c8 ∧ val c2 c3 c4 = bd (val (fiR 3) (fiR 4) (fiR 22)) (mkF (uT (faY 0)) (fiR 21) k0)) from ⟨(by omega), (by omega), (by omega), (by omega), (by omega), (by omega), (hRR 26), (by omega), (by first | exact ⟨by omega, ct_adv hty hS15 hC15, sc_1 hty hk0 (by omega) hS15⟩ | exact ⟨by omega, hT23, sc_0 hty hk0 (by omega) hV23⟩ | (exfalso; omega))⟩), by rw [ht]; exact hP, hD⟩, hS.F ht⟩) hS.2.2 dX2_skipSign_26
  · refine lv_aload_n hx hb dX2_skipSign_11 rfl (lv_at hl 0 rfl) ?_
    refine va_get (D := G) (ci := 1) (v := .ref (arR 98)) (C := RX2) (T := TX2) (N := 5) (ref := RX2) hx hb hts h1w hown hX.1 hP 0 rfl rfl 0 (by decide) h0w (fun _ h9 => h9) rfl dX2_skipSign_12 ?_
    refine cr_v (va_runVN (As := []) (rest := []) ⟨hx, hb, hml, hown, hts⟩ (mX4_advance l G k arR plR fiR faR arY fiY faY H.size hRR hRaR hRY hRaY hB0Y (show 0 ≤ (fiR 23) ∧ (fiR 23) ≤ (fiR 21) ∧ (fiR 21) ≤ 600 from by omega)) ⟨va_cnB 0 hts (gz [] (.code yX4_advance cX4_advance 3 none) [(9, 10)] rfl) rfl rfl rfl (nm_32 hX.2.2.1) h3w (by decide +kernel) ⟨Nat.le_of_ble_eq_true rfl, Nat.le_of_ble_eq_true rfl⟩, h4w, h5w⟩ (cr_preV (EZ_ok k) hZ hS hX hP hD hA (ci := 3) (q0 := 1) rfl rfl) rfl rfl hl.1 rfl (lv_room (Nat.le_of_ble_eq_true rfl)) dX2_skipSign_15 ⟨Nat.le_of_ble_eq_true rfl, Nat.le_of_ble_eq_true rfl⟩) hD hS hA (fun u H locs hp hP hD hS => ?_)
    obtain ⟨c9, c10, c11, c12, c13, c14⟩ := u
    obtain ⟨hP, hD⟩ : va_P G vwCl ((wR k arR (plR) (arY 0) (uF (uF (uF (uF (uF (uF fiR 22 (c9)) 23 (c10)) 24 (c11)) 25 (c12)) 26 (c13)) 27 (c14)) faR) ++ (wY k arY fiY faY)) H ∧ va_D A ((wR k arR (plR) (arY 0) (uF (uF (uF (uF (uF (uF fiR 22 (c9)) 23 (c10)) 24 (c11)) 25 (c12)) 26 (c13)) 27 (c14)) faR) ++ (wY k arY fiY faY)) := ⟨hP, hD⟩
    obtain ⟨rc9, rc10, rc11, rc12, rc13, rc14, hp14⟩ : (inR c9) ∧ (inR c10) ∧ (inR c11) ∧ (inR c12) ∧ (inR c13) ∧ (inR c14) ∧ ((0 ≤ c10 ∧ c10 ≤ (fiR 21) ∧ 0 ≤ c9 ∧ c9 ≤ (fiR 21) ∧ 0 ≤ c12 ∧ c12 ≤ 23) ∧ c9 = sk (uT ((faY 0))) ((fiR 21)) ((fiR 23)) ∧ CR (uT ((faY 0))) ((fiR 21)) c9 c10 c11 c12 c13 c14) := hp
    obtain ⟨hp14, hS15, hC15⟩ := hp14
    refine lv_goto (tgt := 26) hx hb dX2_skipSign_18 (by decide) ?_
    exact W.vret hx hb hr (fun t ht hW => ⟨⟨(fiR 3, fiR 4, c9, c10, c11, c12, c13, c14), rfl, (show (inR (fiR 3)) ∧ (inR (fiR 4)) ∧ (inR c9) ∧ (inR c10) ∧ (inR c11) ∧ (inR c12) ∧ (inR c13) ∧ (inR c14) ∧ ((0 ≤ c10 ∧ c10 ≤ fiR 21 ∧ 0 ≤ c9 ∧ c9 ≤ fiR 21 ∧ 0 ≤ c12 ∧ c12 ≤ 23 ∧ ((fiR 3) = 0 → fiR 3 = 0 ∧ (fiR 4) = fiR 4)) ∧ CT (uT (faY 0)) (fiR 21) (fiR 3) c9 c10 c11 c12 c13 c14 ∧ val (fiR 3) (fiR 4) c9 = bd (val (fiR 3) (fiR 4) (fiR 22)) (mkF (uT (faY 0)) (fiR 21) k0)) from ⟨(hRR 3), (hRR 4), (by omega), (by omega), (by omega), (by omega), (by omega), (by omega), (by first | exact ⟨by omega, ct_adv hty hS15 hC15, sc_1 hty hk0 (by omega) hS15⟩ | exact ⟨by omega, hT23, sc_0 hty hk0 (by omega) hV23⟩ | (exfalso; omega))⟩), by rw [ht]; exact hP, hD⟩, hS.F ht⟩) hS.2.2 dX2_skipSign_26

