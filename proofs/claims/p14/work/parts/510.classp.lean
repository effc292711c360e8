set_option maxHeartbeats 4000000 in
set_option maxRecDepth 100000 in
theorem mX4_open (l : Launch) (G : va_G) (k : Nat → ClassId) (arR : Nat → Nat) (plR : Nat) (txR : Nat) (fiR : Nat → Int) (faR : Nat → Int → Int) (arY : Nat → Nat) (fiY : Nat → Int) (faY : Nat → Int → Int) (n0 : Int) (sz : Nat) (hRR : ∀ j, inR (fiR j)) (hRaR : ∀ j t, inR (faR j t)) (hRY : ∀ j, inR (fiY j)) (hRaY : ∀ j t, inR (faY j t)) (hB0Y : bnd (faY 0) 600 (-128) 128) (hr_n0 : inR n0) (hn : 0 ≤ n0 ∧ n0 ≤ 600) : CNv l G k (EZ k) yX4_open wzX4_open ({ frames := 6, cells := 0, slots := 0, locals := 131 }) [.ref (arR 98), .ref (arY 0), .int (Int32.ofInt (n0))] sz ((wR k arR (plR) (txR) fiR faR) ++ (wY k arY fiY faY)) (fun (u : Int × Int × Int × Int × Int × Int × Int) => (inR u.1) ∧ (inR u.2.1) ∧ (inR u.2.2.1) ∧ (inR u.2.2.2.1) ∧ (inR u.2.2.2.2.1) ∧ (inR u.2.2.2.2.2.1) ∧ (inR u.2.2.2.2.2.2) ∧ ((0 ≤ u.2.2.1 ∧ u.2.2.1 ≤ u.1 ∧ 0 ≤ u.2.1 ∧ u.2.1 ≤ u.1 ∧ 0 ≤ u.2.2.2.2.1 ∧ u.2.2.2.2.1 ≤ 23 ∧ u.1 ≤ 600 ∧ u.1 = n0) ∧ u.2.1 = sk (uT (faY 0)) u.1 0 ∧ CR (uT (faY 0)) u.1 u.2.1 u.2.2.1 u.2.2.2.1 u.2.2.2.2.1 u.2.2.2.2.2.1 u.2.2.2.2.2.2)) (fun (u : Int × Int × Int × Int × Int × Int × Int) => ((wR k arR (plR) (arY 0) (uF (uF (uF (uF (uF (uF (uF fiR 21 (u.1)) 22 (u.2.1)) 23 (u.2.2.1)) 24 (u.2.2.2.1)) 25 (u.2.2.2.2.1)) 26 (u.2.2.2.2.2.1)) 27 (u.2.2.2.2.2.2)) faR) ++ (wY k arY fiY faY))) := by
  refine Met.ofW (cc := cX4_open) (maxL := 3) (ret := none) (by decide) rfl ?_
  intro p e s m args below meth c s₁ B hml hv
  obtain ⟨rfl, hsz, hP, hX, hD0, hZ0⟩ := hv
  have hx := B.exec
  have hb := B.bytes
  have hr := B.returns
  have hts := atoms_spec (ws := wzX4_open) B.pre
  have hown : s.vm.findClass RX4 = some m.cls := findClass_of_methodNamed B.named
  subst hsz
  have hD := hD0.self (sz := s.heap.size)
  have hZ := hZ0
  generalize hAe : va_A ((wR k arR (plR) (txR) fiR faR) ++ (wY k arY fiY faY)) s.heap.size = A at hD hZ ⊢
  have hA : ∀ q : Nat, s.heap.size ≤ q → A q := fun q h => by rw [← hAe]; exact Or.inr h
  have hS : va_S A s.heap s.heap [] := va_S.rf
  have hl := lv_entry ([.ref (arR 98), .ref (arY 0), .int (Int32.ofInt (n0))]) (n := 3) (Nat.le_of_ble_eq_true rfl)
  rw [lg_entry_eq]
  generalize (lg_sl ([.ref (arR 98), .ref (arY 0), .int (Int32.ofInt (n0))]) ++ List.replicate (3 - (lg_sl ([.ref (arR 98), .ref (arY 0), .int (Int32.ofInt (n0))])).length) Slot.unset).toArray = ls at hl ⊢
  have hl : lv_has ls 3 [(0, .ref (arR 98)), (1, .ref (arY 0)), (2, .int (Int32.ofInt (n0)))] := hl
  obtain ⟨H, eH⟩ : ∃ H, H = s.heap := ⟨_, rfl⟩
  rw [← eH] at hP
  have hS : va_S A s.heap H [] := by rw [eH]; exact hS
  have gW : s.heap = H := eH.symm
  refine iv_heap gW ?_
  have h0w := hts (.fieldLink RX4 9 "RopeTown$Reader" "text" "[B") (wz_at 3 16 rfl)
  have h1w : ∀ w ∈ wsX40, w ∈ wzX4_open := fun w h => List.mem_cons_of_mem _ (inlX4 w h)
  have h2w := hts (.fieldLink RX4 15 "RopeTown$Reader" "length" "I") (wz_at 3 17 rfl)
  have h3w := hts (.fieldLink RX4 22 "RopeTown$Reader" "next" "I") (wz_at 3 19 rfl)
  refine lv_aload_n hx hb dX4_open_0 rfl (lv_at hl 0 rfl) ?_
  refine lv_aload_n hx hb dX4_open_1 rfl (lv_at hl 1 rfl) ?_
  refine iv_put (ci := 3) (v := .ref (arY 0)) (ty := .array .byte) (C := RX4) (T := TX4) (N := 8) (ref := RX4) hx hb hts h1w tyX4 tyX4_ok nmX4 hown hX.1 hP hD hS 1 rfl rfl 0 (by decide) h0w (fun _ h9 => h9) rfl (by decide +kernel) rfl rfl (Nat.le_of_ble_eq_true rfl) (show _ = ((wR k arR (plR) (arY 0) fiR faR) ++ (wY k arY fiY faY)) from rfl) dX4_open_2 (fun H locs hP hD hS => ?_)
  refine lv_aload_n hx hb dX4_open_5 rfl (lv_at hl 0 rfl) ?_
  refine iv_join (G := G) (A := A) (H0 := s.heap) (α := Int) (nL := 3) 18 (fun b9 => [.int (Int32.ofInt (b9)), .ref (arR 98)]) (fun b9 => ((wR k arR (plR) (arY 0) fiR faR) ++ (wY k arY fiY faY))) (fun b9 => [(0, .ref (arR 98)), (1, .ref (arY 0)), (2, .int (Int32.ofInt (n0)))]) (fun b9 => inR b9 ∧ (b9 = n0)) ?_ (fun J18 => ?_)
  · intro s0_1 hi9 H locs ls hP hD hS hl
    obtain ⟨r_s0_1, hinv⟩ : inR s0_1 ∧ (s0_1 = n0) := hi9
    obtain ⟨hP, hD⟩ : va_P G vwCl ((wR k arR (plR) (arY 0) fiR faR) ++ (wY k arY fiY faY)) H ∧ va_D A ((wR k arR (plR) (arY 0) fiR faR) ++ (wY k arY fiY faY)) := ⟨hP, hD⟩
    have hl : lv_has ls 3 [(0, .ref (arR 98)), (1, .ref (arY 0)), (2, .int (Int32.ofInt (n0)))] := hl
    refine iv_put (ci := 3) (v := .int (Int32.ofInt (s0_1))) (ty := .int) (C := RX4) (T := TX4) (N := 8) (ref := RX4) hx hb hts h1w tyX4 tyX4_ok nmX4 hown hX.1 hP hD hS 1 rfl rfl 1 (by decide) h2w (fun _ h9 => h9) rfl (by decide +kernel) rfl rfl (Nat.le_of_ble_eq_true rfl) (show _ = ((wR k arR (plR) (arY 0) (uF fiR 21 (s0_1)) faR) ++ (wY k arY fiY faY)) from rfl) dX4_open_18 (fun H locs hP hD hS => ?_)
    refine lv_aload_n hx hb dX4_open_21 rfl (lv_at hl 0 rfl) ?_
    refine lv_iconst (v := Int32.ofInt 0) hx hb dX4_open_22 (by decide +kernel) ?_
    refine iv_put (ci := 3) (v := .int (Int32.ofInt (0))) (ty := .int) (C := RX4) (T := TX4) (N := 8) (ref := RX4) hx hb hts h1w tyX4 tyX4_ok nmX4 hown hX.1 hP hD hS 1 rfl rfl 3 (by decide) h3w (fun _ h9 => h9) rfl (by decide +kernel) rfl rfl (Nat.le_of_ble_eq_true rfl) (show _ = ((wR k arR (plR) (arY 0) (uF (uF fiR 21 (s0_1)) 23 (0)) faR) ++ (wY k arY fiY faY)) from rfl) dX4_open_23 (fun H locs hP hD hS => ?_)
    refine lv_aload_n hx hb dX4_open_26 rfl (lv_at hl 0 rfl) ?_
    refine cr_v (va_runV (As := []) (rest := []) ⟨hx, hb, hml, hown, hts⟩ (mX4_advance l G k arR plR (uF (uF fiR 21 (s0_1)) 23 (0)) faR arY fiY faY H.size (iF (iF hRR (by omega)) (by omega)) hRaR hRY hRaY hB0Y (show 0 ≤ 0 ∧ 0 ≤ s0_1 ∧ s0_1 ≤ 600 from by omega)) (cwV 0 hts (gz [.methodLink RX4 43 yX4_advance, .instanceMethod yX4_advance, .selects RX4 yX4_advance yX4_advance, .initialized RX4] (.code yX4_advance cX4_advance 3 none) [(9, 7), (9, 8), (9, 9), (3, 7), (9, 10)] rfl) rfl rfl rfl (by decide +kernel) ⟨Nat.le_of_ble_eq_true rfl, Nat.le_of_ble_eq_true rfl⟩) (cr_preV (EZ_ok k) hZ hS hX hP hD hA (ci := 3) (q0 := 1) rfl rfl) rfl rfl hl.1 rfl (lv_room (Nat.le_of_ble_eq_true rfl)) dX4_open_27 ⟨Nat.le_of_ble_eq_true rfl, Nat.le_of_ble_eq_true rfl⟩) hD hS hA (fun u H locs hp hP hD hS => ?_)
    obtain ⟨c2, c3, c4, c5, c6, c7⟩ := u
    obtain ⟨hP, hD⟩ : va_P G vwCl ((wR k arR (plR) (arY 0) (uF (uF (uF (uF (uF (uF (uF fiR 21 (s0_1)) 22 (c2)) 23 (c3)) 24 (c4)) 25 (c5)) 26 (c6)) 27 (c7)) faR) ++ (wY k arY fiY faY)) H ∧ va_D A ((wR k arR (plR) (arY 0) (uF (uF (uF (uF (uF (uF (uF fiR 21 (s0_1)) 22 (c2)) 23 (c3)) 24 (c4)) 25 (c5)) 26 (c6)) 27 (c7)) faR) ++ (wY k arY fiY faY)) := ⟨hP, hD⟩
    obtain ⟨rc2, rc3, rc4, rc5, rc6, rc7, hp7⟩ : (inR c2) ∧ (inR c3) ∧ (inR c4) ∧ (inR c5) ∧ (inR c6) ∧ (inR c7) ∧ ((0 ≤ c3 ∧ c3 ≤ s0_1 ∧ 0 ≤ c2 ∧ c2 ≤ s0_1 ∧ 0 ≤ c5 ∧ c5 ≤ 23) ∧ c2 = sk (uT ((faY 0))) (s0_1) (0) ∧ CR (uT ((faY 0))) (s0_1) c2 c3 c4 c5 c6 c7) := hp
    obtain ⟨hp7, hS27, hC27⟩ := hp7
    exact W.vret hx hb hr (fun t ht hW => ⟨⟨(s0_1, c2, c3, c4, c5, c6, c7), rfl, (show (inR s0_1) ∧ (inR c2) ∧ (inR c3) ∧ (inR c4) ∧ (inR c5) ∧ (inR c6) ∧ (inR c7) ∧ ((0 ≤ c3 ∧ c3 ≤ s0_1 ∧ 0 ≤ c2 ∧ c2 ≤ s0_1 ∧ 0 ≤ c5 ∧ c5 ≤ 23 ∧ s0_1 ≤ 600 ∧ s0_1 = n0) ∧ c2 = sk (uT (faY 0)) s0_1 0 ∧ CR (uT (faY 0)) s0_1 c2 c3 c4 c5 c6 c7) from ⟨(by omega), (by omega), (by omega), (by omega), (by omega), (by omega), (by omega), (by exact ⟨by omega, hS27, hC27⟩)⟩), by rw [ht]; exact hP, hD⟩, hS.F ht⟩) hS.2.2 dX4_open_30
  · refine lv_iload_n hx hb dX4_open_6 rfl (lv_at hl 2 rfl) ?_
    refine lv_aload_n hx hb dX4_open_7 rfl (lv_at hl 1 rfl) ?_
    refine va_alen (v := Int32.ofInt 600) hx hb hX.1 hP 2 1 rfl rfl (show Int32.ofNat 600 = Int32.ofInt 600 from by decide) dX4_open_8 ?_
    refine iv_icmp_ge (tgt := 16) hx hb (by omega) (by omega) dX4_open_9 (by decide) (fun q8 => ?_) (fun q8 => ?_)
    · refine lv_aload_n hx hb dX4_open_16 rfl (lv_at hl 1 rfl) ?_
      refine va_alen (v := Int32.ofInt 600) hx hb hX.1 hP 2 1 rfl rfl (show Int32.ofNat 600 = Int32.ofInt 600 from by decide) dX4_open_17 ?_
      have hl : lv_has ls 3 [(0, .ref (arR 98)), (1, .ref (arY 0)), (2, .int (Int32.ofInt (n0)))] := lv_sub hl [0, 1, 2] rfl
      exact J18 (600) (show inR 600 ∧ (600 = n0) from ⟨(by omega), (by omega)⟩) _ _ _ hP hD hS hl
    · refine lv_iload_n hx hb dX4_open_12 rfl (lv_at hl 2 rfl) ?_
      refine lv_goto (tgt := 18) hx hb dX4_open_13 (by decide) ?_
      have hl : lv_has ls 3 [(0, .ref (arR 98)), (1, .ref (arY 0)), (2, .int (Int32.ofInt (n0)))] := lv_sub hl [0, 1, 2] rfl
      exact J18 (n0) (show inR n0 ∧ (n0 = n0) from ⟨(by omega), (by omega)⟩) _ _ _ hP hD hS hl

