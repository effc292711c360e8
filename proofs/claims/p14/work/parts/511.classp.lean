set_option maxHeartbeats 4000000 in
set_option maxRecDepth 100000 in
theorem mX2_fail (l : Launch) (G : va_G) (k : Nat → ClassId) (arR : Nat → Nat) (plR : Nat) (fiR : Nat → Int) (faR : Nat → Int → Int) (arY : Nat → Nat) (fiY : Nat → Int) (faY : Nat → Int → Int) (k0 : Int) (sz : Nat) (hRR : ∀ j, inR (fiR j)) (hRaR : ∀ j t, inR (faR j t)) (hRY : ∀ j, inR (fiY j)) (hRaY : ∀ j t, inR (faY j t)) (hB0Y : bnd (faY 0) 600 (-128) 128) (hr_k0 : inR k0) (hrq : 0 ≤ fiR 23 ∧ fiR 23 ≤ fiR 21 ∧ 0 ≤ fiR 22 ∧ fiR 22 ≤ fiR 21 ∧ 0 ≤ fiR 25 ∧ fiR 25 ≤ 23 ∧ fiR 21 ≤ 600) (hty : CT (uT (faY 0)) (fiR 21) (fiR 3) (fiR 22) (fiR 23) (fiR 24) (fiR 25) (fiR 26) (fiR 27)) (hk0 : ¬ k0 = 0) : CNv l G k (EZ k) yX2_fail wzX2_fail ({ frames := 1, cells := 0, slots := 0, locals := 20 }) [.ref (arR 99), .int (Int32.ofInt (k0))] sz ((wR k arR (plR) (arY 0) fiR faR) ++ (wY k arY fiY faY)) (fun (u : Int × Int × Int × Int × Int × Int × Int) => (inR u.1) ∧ (inR u.2.1) ∧ (inR u.2.2.1) ∧ (inR u.2.2.2.1) ∧ (inR u.2.2.2.2.1) ∧ (inR u.2.2.2.2.2.1) ∧ (inR u.2.2.2.2.2.2) ∧ ((0 ≤ u.2.2.2.1 ∧ u.2.2.2.1 ≤ fiR 21 ∧ 0 ≤ u.2.2.1 ∧ u.2.2.1 ≤ fiR 21 ∧ 0 ≤ u.2.2.2.2.2.1 ∧ u.2.2.2.2.2.1 ≤ 23 ∧ (u.1 = 0 → fiR 3 = 0 ∧ u.2.1 = fiR 4) ∧ ¬ u.1 = 0) ∧ CT (uT (faY 0)) (fiR 21) u.1 u.2.2.1 u.2.2.2.1 u.2.2.2.2.1 u.2.2.2.2.2.1 (fiR 26) u.2.2.2.2.2.2 ∧ val u.1 u.2.1 u.2.2.1 = bd (val (fiR 3) (fiR 4) (fiR 22)) (fun s => (k0, s)))) (fun (u : Int × Int × Int × Int × Int × Int × Int) => ((wR k arR (plR) (arY 0) (uF (uF (uF (uF (uF (uF (uF fiR 3 (u.1)) 4 (u.2.1)) 22 (u.2.2.1)) 23 (u.2.2.2.1)) 24 (u.2.2.2.2.1)) 25 (u.2.2.2.2.2.1)) 27 (u.2.2.2.2.2.2)) faR) ++ (wY k arY fiY faY))) := by
  refine Met.ofW (cc := cX2_fail) (maxL := 2) (ret := none) (by decide) rfl ?_
  intro p e s m args below meth c s₁ B hml hv
  obtain ⟨rfl, hsz, hP, hX, hD0, hZ0⟩ := hv
  have hx := B.exec
  have hb := B.bytes
  have hr := B.returns
  have hts := atoms_spec (ws := wzX2_fail) B.pre
  have hown : s.vm.findClass RX2 = some m.cls := findClass_of_methodNamed B.named
  subst hsz
  have hD := hD0.self (sz := s.heap.size)
  have hZ := hZ0
  generalize hAe : va_A ((wR k arR (plR) (arY 0) fiR faR) ++ (wY k arY fiY faY)) s.heap.size = A at hD hZ ⊢
  have hA : ∀ q : Nat, s.heap.size ≤ q → A q := fun q h => by rw [← hAe]; exact Or.inr h
  have hS : va_S A s.heap s.heap [] := va_S.rf
  have hl := lv_entry ([.ref (arR 99), .int (Int32.ofInt (k0))]) (n := 2) (Nat.le_of_ble_eq_true rfl)
  rw [lg_entry_eq]
  generalize (lg_sl ([.ref (arR 99), .int (Int32.ofInt (k0))]) ++ List.replicate (2 - (lg_sl ([.ref (arR 99), .int (Int32.ofInt (k0))])).length) Slot.unset).toArray = ls at hl ⊢
  have hl : lv_has ls 2 [(0, .ref (arR 99)), (1, .int (Int32.ofInt (k0)))] := hl
  obtain ⟨H, eH⟩ : ∃ H, H = s.heap := ⟨_, rfl⟩
  rw [← eH] at hP
  have hS : va_S A s.heap H [] := by rw [eH]; exact hS
  have gW : s.heap = H := eH.symm
  refine iv_heap gW ?_
  have h0w := hts (.fieldLink RX2 26 "RopeTown$Parser" "fault" "I") (wz_at 3 11 rfl)
  have h1w : ∀ w ∈ wsX20, w ∈ wzX2_fail := fun w h => List.mem_cons_of_mem _ (inlX2 w h)
  have h2w := hts (.fieldLink RX2 12 "RopeTown$Parser" "reader" "LRopeTown$Reader;") (wz_at 3 8 rfl)
  have h3w : ∀ w ∈ wsX40, w ∈ wzX2_fail := fun w h => List.mem_cons_of_mem _ (inlX4 w h)
  have h4w := hts (.fieldLink RX2 29 "RopeTown$Parser" "faultPlace" "I") (wz_at 3 12 rfl)
  have h5w := hts (.initialized RX4) (wz_at 3 7 rfl)
  have h6w := hts (.instanceMethod yX4_stop) (wz_at 9 16 rfl)
  have h7w := hts (.selects RX4 yX4_stop yX4_stop) (wz_at 9 17 rfl)
  refine lv_aload_n hx hb dX2_fail_0 rfl (lv_at hl 0 rfl) ?_
  refine va_get (D := G) (ci := 1) (v := .int (Int32.ofInt (fiR 3))) (C := RX2) (T := TX2) (N := 5) (ref := RX2) hx hb hts h1w hown hX.1 hP 0 rfl rfl 3 (by decide) h0w (fun _ h9 => h9) rfl dX2_fail_1 ?_
  have rf3R := hRR 3
  refine iv_if_ne (tgt := 30) hx hb (by omega) dX2_fail_4 (by decide) (fun q1 => ?_) (fun q1 => ?_)
  · exact W.vret hx hb hr (fun t ht hW => ⟨⟨(fiR 3, fiR 4, fiR 22, fiR 23, fiR 24, fiR 25, fiR 27), rfl, (show (inR (fiR 3)) ∧ (inR (fiR 4)) ∧ (inR (fiR 22)) ∧ (inR (fiR 23)) ∧ (inR (fiR 24)) ∧ (inR (fiR 25)) ∧ (inR (fiR 27)) ∧ ((0 ≤ (fiR 23) ∧ (fiR 23) ≤ fiR 21 ∧ 0 ≤ (fiR 22) ∧ (fiR 22) ≤ fiR 21 ∧ 0 ≤ (fiR 25) ∧ (fiR 25) ≤ 23 ∧ ((fiR 3) = 0 → fiR 3 = 0 ∧ (fiR 4) = fiR 4) ∧ ¬ (fiR 3) = 0) ∧ CT (uT (faY 0)) (fiR 21) (fiR 3) (fiR 22) (fiR 23) (fiR 24) (fiR 25) (fiR 26) (fiR 27) ∧ val (fiR 3) (fiR 4) (fiR 22) = bd (val (fiR 3) (fiR 4) (fiR 22)) (fun s => (k0, s))) from ⟨(hRR 3), (hRR 4), (hRR 22), (hRR 23), (hRR 24), (hRR 25), (hRR 27), (by first | exact ⟨by omega, hty, fc_fail (by omega) (by omega) hk0⟩ | exact ⟨by omega, ct_fail (by omega) (by omega) (by omega) (by omega) (by omega), fc_fail (by omega) (by omega) hk0⟩)⟩), by rw [ht]; exact hP, hD⟩, hS.F ht⟩) hS.2.2 dX2_fail_30
  · refine lv_aload_n hx hb dX2_fail_7 rfl (lv_at hl 0 rfl) ?_
    refine lv_iload_n hx hb dX2_fail_8 rfl (lv_at hl 1 rfl) ?_
    refine iv_put (ci := 1) (v := .int (Int32.ofInt (k0))) (ty := .int) (C := RX2) (T := TX2) (N := 5) (ref := RX2) hx hb hts h1w tyX2 tyX2_ok nmX2 hown hX.1 hP hD hS 0 rfl rfl 3 (by decide) h0w (fun _ h9 => h9) rfl (by decide +kernel) rfl rfl (Nat.le_of_ble_eq_true rfl) (show _ = ((wR k arR (plR) (arY 0) (uF fiR 3 (k0)) faR) ++ (wY k arY fiY faY)) from rfl) dX2_fail_9 (fun H locs hP hD hS => ?_)
    refine lv_aload_n hx hb dX2_fail_12 rfl (lv_at hl 0 rfl) ?_
    refine lv_aload_n hx hb dX2_fail_13 rfl (lv_at hl 0 rfl) ?_
    refine va_get (D := G) (ci := 1) (v := .ref (arR 98)) (C := RX2) (T := TX2) (N := 5) (ref := RX2) hx hb hts h1w hown hX.1 hP 0 rfl rfl 0 (by decide) h2w (fun _ h9 => h9) rfl dX2_fail_14 ?_
    refine va_getN (D := G) (ci := 3) (v := .int (Int32.ofInt (fiR 22))) (C := RX4) (T := TX4) (N := 8) (ref := RX4) (host := RX9) hx hb hts h3w hown hX.1 hP 1 rfl rfl 2 (by decide) (nf_31 hX.2.2.1) (fun _ h9 => h9) rfl dX2_fail_17 ?_
    have rf22R := hRR 22
    refine iv_put (ci := 1) (v := .int (Int32.ofInt (fiR 22))) (ty := .int) (C := RX2) (T := TX2) (N := 5) (ref := RX2) hx hb hts h1w tyX2 tyX2_ok nmX2 hown hX.1 hP hD hS 0 rfl rfl 4 (by decide) h4w (fun _ h9 => h9) rfl (by decide +kernel) rfl rfl (Nat.le_of_ble_eq_true rfl) (show _ = ((wR k arR (plR) (arY 0) (uF (uF fiR 3 (k0)) 4 (fiR 22)) faR) ++ (wY k arY fiY faY)) from rfl) dX2_fail_20 (fun H locs hP hD hS => ?_)
    refine lv_aload_n hx hb dX2_fail_23 rfl (lv_at hl 0 rfl) ?_
    refine va_get (D := G) (ci := 1) (v := .ref (arR 98)) (C := RX2) (T := TX2) (N := 5) (ref := RX2) hx hb hts h1w hown hX.1 hP 0 rfl rfl 0 (by decide) h2w (fun _ h9 => h9) rfl dX2_fail_24 ?_
    refine cr_v (va_runVN (As := []) (rest := []) ⟨hx, hb, hml, hown, hts⟩ (mX4_stop l G k arR plR (uF (uF fiR 3 (k0)) 4 (fiR 22)) faR arY fiY faY H.size (iF (iF hRR (by omega)) (hRR 22)) hRaR hRY hRaY hB0Y (show 0 ≤ (fiR 21) from by omega)) ⟨va_cnB 0 hts (gz [] (.code yX4_stop cX4_stop 1 none) [(9, 18)] rfl) rfl rfl rfl (nm_31 hX.2.2.1) h5w (by decide +kernel) ⟨Nat.le_of_ble_eq_true rfl, Nat.le_of_ble_eq_true rfl⟩, h6w, h7w⟩ (cr_preV (EZ_ok k) hZ hS hX hP hD hA (ci := 3) (q0 := 1) rfl rfl) rfl rfl hl.1 rfl (lv_room (Nat.le_of_ble_eq_true rfl)) dX2_fail_27 ⟨Nat.le_of_ble_eq_true rfl, Nat.le_of_ble_eq_true rfl⟩) hD hS hA (fun u H locs hp hP hD hS => ?_)
    obtain ⟨c2, c3, c4, c5, c6⟩ := u
    obtain ⟨hP, hD⟩ : va_P G vwCl ((wR k arR (plR) (arY 0) (uF (uF (uF (uF (uF (uF (uF fiR 3 (k0)) 4 (fiR 22)) 22 (c2)) 23 (c3)) 24 (c4)) 25 (c5)) 27 (c6)) faR) ++ (wY k arY fiY faY)) H ∧ va_D A ((wR k arR (plR) (arY 0) (uF (uF (uF (uF (uF (uF (uF fiR 3 (k0)) 4 (fiR 22)) 22 (c2)) 23 (c3)) 24 (c4)) 25 (c5)) 27 (c6)) faR) ++ (wY k arY fiY faY)) := ⟨hP, hD⟩
    obtain ⟨rc2, rc3, rc4, rc5, rc6, hp6⟩ : (inR c2) ∧ (inR c3) ∧ (inR c4) ∧ (inR c5) ∧ (inR c6) ∧ (c2 = (fiR 21) ∧ c3 = (fiR 21) ∧ c5 = 23 ∧ c4 = 0 ∧ c6 = 0) := hp
    exact W.vret hx hb hr (fun t ht hW => ⟨⟨(k0, fiR 22, c2, c3, c4, c5, c6), rfl, (show (inR k0) ∧ (inR (fiR 22)) ∧ (inR c2) ∧ (inR c3) ∧ (inR c4) ∧ (inR c5) ∧ (inR c6) ∧ ((0 ≤ c3 ∧ c3 ≤ fiR 21 ∧ 0 ≤ c2 ∧ c2 ≤ fiR 21 ∧ 0 ≤ c5 ∧ c5 ≤ 23 ∧ (k0 = 0 → fiR 3 = 0 ∧ (fiR 22) = fiR 4) ∧ ¬ k0 = 0) ∧ CT (uT (faY 0)) (fiR 21) k0 c2 c3 c4 c5 (fiR 26) c6 ∧ val k0 (fiR 22) c2 = bd (val (fiR 3) (fiR 4) (fiR 22)) (fun s => (k0, s))) from ⟨(by omega), (hRR 22), (by omega), (by omega), (by omega), (by omega), (by omega), (by first | exact ⟨by omega, hty, fc_fail (by omega) (by omega) hk0⟩ | exact ⟨by omega, ct_fail (by omega) (by omega) (by omega) (by omega) (by omega), fc_fail (by omega) (by omega) hk0⟩)⟩), by rw [ht]; exact hP, hD⟩, hS.F ht⟩) hS.2.2 dX2_fail_30

