set_option maxHeartbeats 4000000 in
set_option maxRecDepth 100000 in
theorem mX4_stop (l : Launch) (G : va_G) (k : Nat → ClassId) (arR : Nat → Nat) (plR : Nat) (fiR : Nat → Int) (faR : Nat → Int → Int) (arY : Nat → Nat) (fiY : Nat → Int) (faY : Nat → Int → Int) (sz : Nat) (hRR : ∀ j, inR (fiR j)) (hRaR : ∀ j t, inR (faR j t)) (hRY : ∀ j, inR (fiY j)) (hRaY : ∀ j t, inR (faY j t)) (hB0Y : bnd (faY 0) 600 (-128) 128) (h0 : 0 ≤ fiR 21) : CNv l G k (EZ k) yX4_stop wzX4_stop ({ frames := 0, cells := 0, slots := 0, locals := 0 }) [.ref (arR 98)] sz ((wR k arR (plR) (arY 0) fiR faR) ++ (wY k arY fiY faY)) (fun (u : Int × Int × Int × Int × Int) => (inR u.1) ∧ (inR u.2.1) ∧ (inR u.2.2.1) ∧ (inR u.2.2.2.1) ∧ (inR u.2.2.2.2) ∧ (u.1 = fiR 21 ∧ u.2.1 = fiR 21 ∧ u.2.2.2.1 = 23 ∧ u.2.2.1 = 0 ∧ u.2.2.2.2 = 0)) (fun (u : Int × Int × Int × Int × Int) => ((wR k arR (plR) (arY 0) (uF (uF (uF (uF (uF fiR 22 (u.1)) 23 (u.2.1)) 24 (u.2.2.1)) 25 (u.2.2.2.1)) 27 (u.2.2.2.2)) faR) ++ (wY k arY fiY faY))) := by
  refine Met.ofW (cc := cX4_stop) (maxL := 1) (ret := none) (by decide) rfl ?_
  intro p e s m args below meth c s₁ B hml hv
  obtain ⟨rfl, hsz, hP, hX, hD0, hZ0⟩ := hv
  have hx := B.exec
  have hb := B.bytes
  have hr := B.returns
  have hts := atoms_spec (ws := wzX4_stop) B.pre
  have hown : s.vm.findClass RX4 = some m.cls := findClass_of_methodNamed B.named
  subst hsz
  have hD := hD0.self (sz := s.heap.size)
  have hZ := hZ0
  generalize hAe : va_A ((wR k arR (plR) (arY 0) fiR faR) ++ (wY k arY fiY faY)) s.heap.size = A at hD hZ ⊢
  have hA : ∀ q : Nat, s.heap.size ≤ q → A q := fun q h => by rw [← hAe]; exact Or.inr h
  have hS : va_S A s.heap s.heap [] := va_S.rf
  have hl := lv_entry ([.ref (arR 98)]) (n := 1) (Nat.le_of_ble_eq_true rfl)
  rw [lg_entry_eq]
  generalize (lg_sl ([.ref (arR 98)]) ++ List.replicate (1 - (lg_sl ([.ref (arR 98)])).length) Slot.unset).toArray = ls at hl ⊢
  have hl : lv_has ls 1 [(0, .ref (arR 98))] := hl
  obtain ⟨H, eH⟩ : ∃ H, H = s.heap := ⟨_, rfl⟩
  rw [← eH] at hP
  have hS : va_S A s.heap H [] := by rw [eH]; exact hS
  have gW : s.heap = H := eH.symm
  refine iv_heap gW ?_
  have h0w := hts (.fieldLink RX4 25 "RopeTown$Reader" "kind" "I") (wz_at 3 20 rfl)
  have h1w : ∀ w ∈ wsX40, w ∈ wzX4_stop := fun w h => List.mem_cons_of_mem _ (inlX4 w h)
  have h2w := hts (.fieldLink RX4 15 "RopeTown$Reader" "length" "I") (wz_at 3 17 rfl)
  have h3w := hts (.fieldLink RX4 19 "RopeTown$Reader" "start" "I") (wz_at 3 18 rfl)
  have h4w := hts (.fieldLink RX4 22 "RopeTown$Reader" "next" "I") (wz_at 3 19 rfl)
  have h5w := hts (.fieldLink RX4 28 "RopeTown$Word" "UNKNOWN" "LRopeTown$Word;") (wz_at 3 21 rfl)
  have h6w := hts (.fieldLink RX4 34 "RopeTown$Reader" "word" "LRopeTown$Word;") (wz_at 3 22 rfl)
  have h7w := hts (.fieldLink RX4 40 "RopeTown$Reader" "sign" "I") (wz_at 4 0 rfl)
  refine lv_aload_n hx hb dX4_stop_0 rfl (lv_at hl 0 rfl) ?_
  refine lv_iconst (v := Int32.ofInt 0) hx hb dX4_stop_1 (by decide +kernel) ?_
  refine iv_put (ci := 3) (v := .int (Int32.ofInt (0))) (ty := .int) (C := RX4) (T := TX4) (N := 8) (ref := RX4) hx hb hts h1w tyX4 tyX4_ok nmX4 hown hX.1 hP hD hS 1 rfl rfl 4 (by decide) h0w (fun _ h9 => h9) rfl (by decide +kernel) rfl rfl (Nat.le_of_ble_eq_true rfl) (show _ = ((wR k arR (plR) (arY 0) (uF fiR 24 (0)) faR) ++ (wY k arY fiY faY)) from rfl) dX4_stop_2 (fun H locs hP hD hS => ?_)
  refine lv_aload_n hx hb dX4_stop_5 rfl (lv_at hl 0 rfl) ?_
  refine lv_aload_n hx hb dX4_stop_6 rfl (lv_at hl 0 rfl) ?_
  refine va_get (D := G) (ci := 3) (v := .int (Int32.ofInt (fiR 21))) (C := RX4) (T := TX4) (N := 8) (ref := RX4) hx hb hts h1w hown hX.1 hP 1 rfl rfl 1 (by decide) h2w (fun _ h9 => h9) rfl dX4_stop_7 ?_
  have rf21R := hRR 21
  refine iv_put (ci := 3) (v := .int (Int32.ofInt (fiR 21))) (ty := .int) (C := RX4) (T := TX4) (N := 8) (ref := RX4) hx hb hts h1w tyX4 tyX4_ok nmX4 hown hX.1 hP hD hS 1 rfl rfl 2 (by decide) h3w (fun _ h9 => h9) rfl (by decide +kernel) rfl rfl (Nat.le_of_ble_eq_true rfl) (show _ = ((wR k arR (plR) (arY 0) (uF (uF fiR 22 (fiR 21)) 24 (0)) faR) ++ (wY k arY fiY faY)) from rfl) dX4_stop_10 (fun H locs hP hD hS => ?_)
  refine lv_aload_n hx hb dX4_stop_13 rfl (lv_at hl 0 rfl) ?_
  refine lv_aload_n hx hb dX4_stop_14 rfl (lv_at hl 0 rfl) ?_
  refine va_get (D := G) (ci := 3) (v := .int (Int32.ofInt (fiR 21))) (C := RX4) (T := TX4) (N := 8) (ref := RX4) hx hb hts h1w hown hX.1 hP 1 rfl rfl 1 (by decide) h2w (fun _ h9 => h9) rfl dX4_stop_15 ?_
  have rf21R := hRR 21
  refine iv_put (ci := 3) (v := .int (Int32.ofInt (fiR 21))) (ty := .int) (C := RX4) (T := TX4) (N := 8) (ref := RX4) hx hb hts h1w tyX4 tyX4_ok nmX4 hown hX.1 hP hD hS 1 rfl rfl 3 (by decide) h4w (fun _ h9 => h9) rfl (by decide +kernel) rfl rfl (Nat.le_of_ble_eq_true rfl) (show _ = ((wR k arR (plR) (arY 0) (uF (uF (uF fiR 22 (fiR 21)) 23 (fiR 21)) 24 (0)) faR) ++ (wY k arY fiY faY)) from rfl) dX4_stop_18 (fun H locs hP hD hS => ?_)
  refine lv_aload_n hx hb dX4_stop_21 rfl (lv_at hl 0 rfl) ?_
  refine va_gets (C := "RopeTown$Word") (n := "UNKNOWN") (d := "LRopeTown$Word;") (ref := "RopeTown$Word") (v := .ref (k (400 + (23 : Int).toNat))) hx hb (ez_word hZ 23 rfl) hS hown h5w (fun _ h9 => h9) dX4_stop_22 ?_
  refine iv_put (ci := 3) (v := .ref (k (400 + (23 : Int).toNat))) (ty := .object "RopeTown$Word") (C := RX4) (T := TX4) (N := 8) (ref := RX4) hx hb hts h1w tyX4 tyX4_ok nmX4 hown hX.1 hP hD hS 1 rfl rfl 5 (by decide) h6w (fun _ h9 => h9) rfl (by decide +kernel) rfl rfl (Nat.le_of_ble_eq_true rfl) (show _ = ((wR k arR (plR) (arY 0) (uF (uF (uF (uF fiR 22 (fiR 21)) 23 (fiR 21)) 24 (0)) 25 (23)) faR) ++ (wY k arY fiY faY)) from rfl) dX4_stop_25 (fun H locs hP hD hS => ?_)
  refine lv_aload_n hx hb dX4_stop_28 rfl (lv_at hl 0 rfl) ?_
  refine lv_iconst (v := Int32.ofInt 0) hx hb dX4_stop_29 (by decide +kernel) ?_
  refine iv_put (ci := 3) (v := .int (Int32.ofInt (0))) (ty := .int) (C := RX4) (T := TX4) (N := 8) (ref := RX4) hx hb hts h1w tyX4 tyX4_ok nmX4 hown hX.1 hP hD hS 1 rfl rfl 7 (by decide) h7w (fun _ h9 => h9) rfl (by decide +kernel) rfl rfl (Nat.le_of_ble_eq_true rfl) (show _ = ((wR k arR (plR) (arY 0) (uF (uF (uF (uF (uF fiR 22 (fiR 21)) 23 (fiR 21)) 24 (0)) 25 (23)) 27 (0)) faR) ++ (wY k arY fiY faY)) from rfl) dX4_stop_30 (fun H locs hP hD hS => ?_)
  exact W.vret hx hb hr (fun t ht hW => ⟨⟨(fiR 21, fiR 21, 0, 23, 0), rfl, (show (inR (fiR 21)) ∧ (inR (fiR 21)) ∧ (inR 0) ∧ (inR 23) ∧ (inR 0) ∧ ((fiR 21) = fiR 21 ∧ (fiR 21) = fiR 21 ∧ 23 = 23 ∧ 0 = 0 ∧ 0 = 0) from ⟨(hRR 21), (hRR 21), (by omega), (by omega), (by omega), (by omega)⟩), by rw [ht]; exact hP, hD⟩, hS.F ht⟩) hS.2.2 dX4_stop_33

