set_option maxHeartbeats 4000000 in
set_option maxRecDepth 100000 in
theorem mX2_read (l : Launch) (G : va_G) (k : Nat → ClassId) (arR : Nat → Nat) (plR : Nat) (txR : Nat) (fiR : Nat → Int) (faR : Nat → Int → Int) (arY : Nat → Nat) (fiY : Nat → Int) (faY : Nat → Int → Int) (arP : Nat → Nat) (fiP : Nat → Int) (faP : Nat → Int → Int) (n0 : Int) (sz : Nat) (hRR : ∀ j, inR (fiR j)) (hRaR : ∀ j t, inR (faR j t)) (hRY : ∀ j, inR (fiY j)) (hRaY : ∀ j t, inR (faY j t)) (hB0Y : bnd (faY 0) 600 (-128) 128) (hRP : ∀ j, inR (fiP j)) (hRaP : ∀ j t, inR (faP j t)) (hB8P : bnd (faP 8) 7 0 4) (hB21P : bnd (faP 21) 4 0 601) (hr_n0 : inR n0) (hn : 0 ≤ n0) : CNi l G k (EZ k) yX2_read wzX2_read ({ frames := 57, cells := 0, slots := 0, locals := 1389 }) [.ref (arR 99), .ref (arY 0), .int (Int32.ofInt (n0)), .ref (arP 99)] sz ((wR k arR (plR) (txR) fiR faR) ++ ((wY k arY fiY faY) ++ (wP k arP fiP faP))) (fun (r0 : Int32) (u : Int × Int × Int × Int × Int × Int × Int × Int × Int × Int × Int × (Int → Int) × (Int → Int) × (Int → Int) × (Int → Int) × (Int → Int) × (Int → Int) × Int × Int × Int × Int × Int × Int × Int × Int × Int × Int) => r0 = Int32.ofInt (u.1) ∧ (inR u.1) ∧ (inR u.2.1) ∧ (inR u.2.2.1) ∧ (inR u.2.2.2.1) ∧ (inR u.2.2.2.2.1) ∧ (inR u.2.2.2.2.2.1) ∧ (inR u.2.2.2.2.2.2.1) ∧ (inR u.2.2.2.2.2.2.2.1) ∧ (inR u.2.2.2.2.2.2.2.2.1) ∧ (inR u.2.2.2.2.2.2.2.2.2.1) ∧ (inR u.2.2.2.2.2.2.2.2.2.2.1) ∧ (∀ t, inR (u.2.2.2.2.2.2.2.2.2.2.2.1 t)) ∧ (bnd u.2.2.2.2.2.2.2.2.2.2.2.1 7 0 4) ∧ (∀ t, inR (u.2.2.2.2.2.2.2.2.2.2.2.2.1 t)) ∧ (∀ t, inR (u.2.2.2.2.2.2.2.2.2.2.2.2.2.1 t)) ∧ (∀ t, inR (u.2.2.2.2.2.2.2.2.2.2.2.2.2.2.1 t)) ∧ (∀ t, inR (u.2.2.2.2.2.2.2.2.2.2.2.2.2.2.2.1 t)) ∧ (∀ t, inR (u.2.2.2.2.2.2.2.2.2.2.2.2.2.2.2.2.1 t)) ∧ (bnd u.2.2.2.2.2.2.2.2.2.2.2.2.2.2.2.2.1 4 0 601) ∧ (inR u.2.2.2.2.2.2.2.2.2.2.2.2.2.2.2.2.2.1) ∧ (inR u.2.2.2.2.2.2.2.2.2.2.2.2.2.2.2.2.2.2.1) ∧ (inR u.2.2.2.2.2.2.2.2.2.2.2.2.2.2.2.2.2.2.2.1) ∧ (inR u.2.2.2.2.2.2.2.2.2.2.2.2.2.2.2.2.2.2.2.2.1) ∧ (inR u.2.2.2.2.2.2.2.2.2.2.2.2.2.2.2.2.2.2.2.2.2.1) ∧ (inR u.2.2.2.2.2.2.2.2.2.2.2.2.2.2.2.2.2.2.2.2.2.2.1) ∧ (inR u.2.2.2.2.2.2.2.2.2.2.2.2.2.2.2.2.2.2.2.2.2.2.2.1) ∧ (inR u.2.2.2.2.2.2.2.2.2.2.2.2.2.2.2.2.2.2.2.2.2.2.2.2.1) ∧ (inR u.2.2.2.2.2.2.2.2.2.2.2.2.2.2.2.2.2.2.2.2.2.2.2.2.2.1) ∧ (inR u.2.2.2.2.2.2.2.2.2.2.2.2.2.2.2.2.2.2.2.2.2.2.2.2.2.2) ∧ (0 ≤ u.2.2.2.2.2.2.2.2.2.2.2.2.2.2.2.2.2.2.2.2.2.2.2.2.1 ∧ u.2.2.2.2.2.2.2.2.2.2.2.2.2.2.2.2.2.2.2.2.2.2.2.2.1 ≤ 7 ∧ 0 ≤ u.2.2.2.2.2.2.2.2.2.2.2.2.2.2.2.2.2.1 ∧ u.2.2.2.2.2.2.2.2.2.2.2.2.2.2.2.2.2.1 ≤ 11 ∧ 0 ≤ u.2.2.2.2.2.2.2.2.2.2.2.2.2.2.2.2.2.2.2.2.2.2.2.2.2.2 ∧ u.2.2.2.2.2.2.2.2.2.2.2.2.2.2.2.2.2.2.2.2.2.2.2.2.2.2 ≤ 4 ∧ 0 ≤ u.2.2.2.2.2.2.2.2.2.2.2.2.2.2.2.2.2.2.2.2.2.2.2.2.2.1 ∧ u.2.2.2.2.2.2.2.2.2.2.2.2.2.2.2.2.2.2.2.2.2.2.2.2.2.1 ≤ 600)) (fun (u : Int × Int × Int × Int × Int × Int × Int × Int × Int × Int × Int × (Int → Int) × (Int → Int) × (Int → Int) × (Int → Int) × (Int → Int) × (Int → Int) × Int × Int × Int × Int × Int × Int × Int × Int × Int × Int) => ((wR k arR (arP 99) (arY 0) (uF (uF (uF (uF (uF (uF (uF (uF (uF (uF fiR 2 (u.2.1)) 3 (u.2.2.1)) 4 (u.2.2.2.1)) 21 (u.2.2.2.2.1)) 22 (u.2.2.2.2.2.1)) 23 (u.2.2.2.2.2.2.1)) 24 (u.2.2.2.2.2.2.2.1)) 25 (u.2.2.2.2.2.2.2.2.1)) 26 (u.2.2.2.2.2.2.2.2.2.1)) 27 (u.2.2.2.2.2.2.2.2.2.2.1)) faR) ++ ((wY k arY fiY faY) ++ (wP k arP (uF (uF (uF (uF (uF (uF (uF (uF (uF (uF fiP 0 (u.2.2.2.2.2.2.2.2.2.2.2.2.2.2.2.2.2.1)) 1 (u.2.2.2.2.2.2.2.2.2.2.2.2.2.2.2.2.2.2.1)) 2 (u.2.2.2.2.2.2.2.2.2.2.2.2.2.2.2.2.2.2.2.1)) 3 (u.2.2.2.2.2.2.2.2.2.2.2.2.2.2.2.2.2.2.2.2.1)) 4 (u.2.2.2.2.2.2.2.2.2.2.2.2.2.2.2.2.2.2.2.2.2.1)) 5 (u.2.2.2.2.2.2.2.2.2.2.2.2.2.2.2.2.2.2.2.2.2.2.1)) 6 (u.2.2.2.2.2.2.2.2.2.2.2.2.2.2.2.2.2.2.2.2.2.2.2.1)) 7 (u.2.2.2.2.2.2.2.2.2.2.2.2.2.2.2.2.2.2.2.2.2.2.2.2.1)) 23 (u.2.2.2.2.2.2.2.2.2.2.2.2.2.2.2.2.2.2.2.2.2.2.2.2.2.1)) 24 (u.2.2.2.2.2.2.2.2.2.2.2.2.2.2.2.2.2.2.2.2.2.2.2.2.2.2)) (uF (uF (uF (uF (uF (uF faP 8 (u.2.2.2.2.2.2.2.2.2.2.2.1)) 9 (u.2.2.2.2.2.2.2.2.2.2.2.2.1)) 10 (u.2.2.2.2.2.2.2.2.2.2.2.2.2.1)) 11 (u.2.2.2.2.2.2.2.2.2.2.2.2.2.2.1)) 20 (u.2.2.2.2.2.2.2.2.2.2.2.2.2.2.2.1)) 21 (u.2.2.2.2.2.2.2.2.2.2.2.2.2.2.2.2.1)))))) := by
  refine Met.ofW (cc := cX2_read) (maxL := 5) (ret := (some .int)) (by decide) rfl ?_
  intro p e s m args below meth c s₁ B hml hv
  obtain ⟨rfl, hsz, hP, hX, hD0, hZ0⟩ := hv
  have hx := B.exec
  have hb := B.bytes
  have hr := B.returns
  have hts := atoms_spec (ws := wzX2_read) B.pre
  have hown : s.vm.findClass RX2 = some m.cls := findClass_of_methodNamed B.named
  subst hsz
  have hD := hD0.self (sz := s.heap.size)
  have hZ := hZ0
  generalize hAe : va_A ((wR k arR (plR) (txR) fiR faR) ++ ((wY k arY fiY faY) ++ (wP k arP fiP faP))) s.heap.size = A at hD hZ ⊢
  have hA : ∀ q : Nat, s.heap.size ≤ q → A q := fun q h => by rw [← hAe]; exact Or.inr h
  have hS : va_S A s.heap s.heap [] := va_S.rf
  have hl := lv_entry ([.ref (arR 99), .ref (arY 0), .int (Int32.ofInt (n0)), .ref (arP 99)]) (n := 5) (Nat.le_of_ble_eq_true rfl)
  rw [lg_entry_eq]
  generalize (lg_sl ([.ref (arR 99), .ref (arY 0), .int (Int32.ofInt (n0)), .ref (arP 99)]) ++ List.replicate (5 - (lg_sl ([.ref (arR 99), .ref (arY 0), .int (Int32.ofInt (n0)), .ref (arP 99)])).length) Slot.unset).toArray = ls at hl ⊢
  have hl : lv_has ls 5 [(0, .ref (arR 99)), (1, .ref (arY 0)), (2, .int (Int32.ofInt (n0))), (3, .ref (arP 99))] := hl
  obtain ⟨H, eH⟩ : ∃ H, H = s.heap := ⟨_, rfl⟩
  rw [← eH] at hP
  have hS : va_S A s.heap H [] := by rw [eH]; exact hS
  have gW : s.heap = H := eH.symm
  refine iv_heap gW ?_
  have h0w := hts (.fieldLink RX2 18 "RopeTown$Parser" "plan" "LRopeTown$Plan;") (wz_at 3 9 rfl)
  have h1w : ∀ w ∈ wsX20, w ∈ wzX2_read := fun w h => List.mem_cons_of_mem _ (inlX2 w h)
  have h2w := hts (.initialized RX3) (wz_at 0 19 rfl)
  have h3w := hts (.instanceMethod yX3_clear) (wz_at 2 15 rfl)
  have h4w := hts (.selects RX3 yX3_clear yX3_clear) (wz_at 2 16 rfl)
  have h5w := hts (.fieldLink RX2 22 "RopeTown$Parser" "told" "I") (wz_at 3 10 rfl)
  have h6w := hts (.fieldLink RX2 26 "RopeTown$Parser" "fault" "I") (wz_at 3 11 rfl)
  have h7w := hts (.fieldLink RX2 29 "RopeTown$Parser" "faultPlace" "I") (wz_at 3 12 rfl)
  have h8w := hts (.fieldLink RX2 12 "RopeTown$Parser" "reader" "LRopeTown$Reader;") (wz_at 3 8 rfl)
  have h9w := hts (.initialized RX4) (wz_at 3 7 rfl)
  have h10w := hts (.instanceMethod yX4_open) (wz_at 9 4 rfl)
  have h11w := hts (.selects RX4 yX4_open yX4_open) (wz_at 9 5 rfl)
  have h12w : ∀ w ∈ wsX40, w ∈ wzX2_read := fun w h => List.mem_cons_of_mem _ (inlX4 w h)
  refine lv_aload_n hx hb dX2_read_0 rfl (lv_at hl 0 rfl) ?_
  refine lv_aload_n hx hb dX2_read_1 rfl (lv_at hl 3 rfl) ?_
  refine iv_put (ci := 1) (v := .ref (arP 99)) (ty := .object "RopeTown$Plan") (C := RX2) (T := TX2) (N := 5) (ref := RX2) hx hb hts h1w tyX2 tyX2_ok nmX2 hown hX.1 hP hD hS 0 rfl rfl 1 (by decide) h0w (fun _ h9 => h9) rfl (by decide +kernel) rfl rfl (Nat.le_of_ble_eq_true rfl) (show _ = ((wR k arR (arP 99) (txR) fiR faR) ++ ((wY k arY fiY faY) ++ (wP k arP fiP faP))) from rfl) dX2_read_2 (fun H locs hP hD hS => ?_)
  refine lv_aload_n hx hb dX2_read_5 rfl (lv_at hl 0 rfl) ?_
  refine va_get (D := G) (ci := 1) (v := .ref (arP 99)) (C := RX2) (T := TX2) (N := 5) (ref := RX2) hx hb hts h1w hown hX.1 hP 0 rfl rfl 1 (by decide) h0w (fun _ h9 => h9) rfl dX2_read_6 ?_
  refine cz_v (wr := ((wR k arR (arP 99) (txR) fiR faR) ++ (wY k arY fiY faY))) (va_runVN (As := []) (rest := []) ⟨hx, hb, hml, hown, hts⟩ (mX3_clear l G k arP fiP faP H.size hRP hRaP hB8P hB21P) ⟨va_cnB 0 hts (gz [] (.code yX3_clear cX3_clear 1 none) [(2, 17)] rfl) rfl rfl rfl (nm_29 hX.2.2.1) h2w (by decide +kernel) ⟨Nat.le_of_ble_eq_true rfl, Nat.le_of_ble_eq_true rfl⟩, h3w, h4w⟩ (cy_preV (EZ_ok k) hZ hS hX hP hD hA [3, 4, 5, 6, 7, 8, 9, 10, 11, 12] rfl rfl (ci := 2) (q0 := 3) rfl rfl) rfl rfl hl.1 rfl (lv_room (Nat.le_of_ble_eq_true rfl)) dX2_read_9 ⟨Nat.le_of_ble_eq_true rfl, Nat.le_of_ble_eq_true rfl⟩) hP hD hS hA [3, 4, 5, 6, 7, 8, 9, 10, 11, 12] [0, 1, 2] rfl rfl (by decide) (by decide) (fun u H locs hp hP hD hS => ?_)
  obtain ⟨c1, c2, c3, c4, c5, c6, c7, c8, c9, c10⟩ := u
  obtain ⟨hP, hD⟩ : va_P G vwCl ((wR k arR (arP 99) (txR) fiR faR) ++ ((wY k arY fiY faY) ++ (wP k arP (uF (uF (uF (uF (uF (uF (uF (uF (uF (uF fiP 0 (c1)) 1 (c2)) 2 (c3)) 3 (c4)) 4 (c5)) 5 (c6)) 6 (c7)) 7 (c8)) 23 (c9)) 24 (c10)) faP))) H ∧ va_D A ((wR k arR (arP 99) (txR) fiR faR) ++ ((wY k arY fiY faY) ++ (wP k arP (uF (uF (uF (uF (uF (uF (uF (uF (uF (uF fiP 0 (c1)) 1 (c2)) 2 (c3)) 3 (c4)) 4 (c5)) 5 (c6)) 6 (c7)) 7 (c8)) 23 (c9)) 24 (c10)) faP))) := ⟨hP, hD⟩
  obtain ⟨rc1, rc2, rc3, rc4, rc5, rc6, rc7, rc8, rc9, rc10, hp10⟩ : (inR c1) ∧ (inR c2) ∧ (inR c3) ∧ (inR c4) ∧ (inR c5) ∧ (inR c6) ∧ (inR c7) ∧ (inR c8) ∧ (inR c9) ∧ (inR c10) ∧ (c1 = 1 ∧ c2 = 0 ∧ c8 = 0 ∧ c9 = 0 ∧ c10 = 0) := hp
  refine lv_aload_n hx hb dX2_read_12 rfl (lv_at hl 0 rfl) ?_
  refine lv_iconst (v := Int32.ofInt 0) hx hb dX2_read_13 (by decide +kernel) ?_
  refine iv_put (ci := 1) (v := .int (Int32.ofInt (0))) (ty := .int) (C := RX2) (T := TX2) (N := 5) (ref := RX2) hx hb hts h1w tyX2 tyX2_ok nmX2 hown hX.1 hP hD hS 0 rfl rfl 2 (by decide) h5w (fun _ h9 => h9) rfl (by decide +kernel) rfl rfl (Nat.le_of_ble_eq_true rfl) (show _ = ((wR k arR (arP 99) (txR) (uF fiR 2 (0)) faR) ++ ((wY k arY fiY faY) ++ (wP k arP (uF (uF (uF (uF (uF (uF (uF (uF (uF (uF fiP 0 (c1)) 1 (c2)) 2 (c3)) 3 (c4)) 4 (c5)) 5 (c6)) 6 (c7)) 7 (c8)) 23 (c9)) 24 (c10)) faP))) from rfl) dX2_read_14 (fun H locs hP hD hS => ?_)
  refine lv_aload_n hx hb dX2_read_17 rfl (lv_at hl 0 rfl) ?_
  refine lv_iconst (v := Int32.ofInt 0) hx hb dX2_read_18 (by decide +kernel) ?_
  refine iv_put (ci := 1) (v := .int (Int32.ofInt (0))) (ty := .int) (C := RX2) (T := TX2) (N := 5) (ref := RX2) hx hb hts h1w tyX2 tyX2_ok nmX2 hown hX.1 hP hD hS 0 rfl rfl 3 (by decide) h6w (fun _ h9 => h9) rfl (by decide +kernel) rfl rfl (Nat.le_of_ble_eq_true rfl) (show _ = ((wR k arR (arP 99) (txR) (uF (uF fiR 2 (0)) 3 (0)) faR) ++ ((wY k arY fiY faY) ++ (wP k arP (uF (uF (uF (uF (uF (uF (uF (uF (uF (uF fiP 0 (c1)) 1 (c2)) 2 (c3)) 3 (c4)) 4 (c5)) 5 (c6)) 6 (c7)) 7 (c8)) 23 (c9)) 24 (c10)) faP))) from rfl) dX2_read_19 (fun H locs hP hD hS => ?_)
  refine lv_aload_n hx hb dX2_read_22 rfl (lv_at hl 0 rfl) ?_
  refine lv_iconst (v := Int32.ofInt (-1)) hx hb dX2_read_23 (by decide +kernel) ?_
  refine iv_put (ci := 1) (v := .int (Int32.ofInt ((-1)))) (ty := .int) (C := RX2) (T := TX2) (N := 5) (ref := RX2) hx hb hts h1w tyX2 tyX2_ok nmX2 hown hX.1 hP hD hS 0 rfl rfl 4 (by decide) h7w (fun _ h9 => h9) rfl (by decide +kernel) rfl rfl (Nat.le_of_ble_eq_true rfl) (show _ = ((wR k arR (arP 99) (txR) (uF (uF (uF fiR 2 (0)) 3 (0)) 4 ((-1))) faR) ++ ((wY k arY fiY faY) ++ (wP k arP (uF (uF (uF (uF (uF (uF (uF (uF (uF (uF fiP 0 (c1)) 1 (c2)) 2 (c3)) 3 (c4)) 4 (c5)) 5 (c6)) 6 (c7)) 7 (c8)) 23 (c9)) 24 (c10)) faP))) from rfl) dX2_read_24 (fun H locs hP hD hS => ?_)
  refine lv_aload_n hx hb dX2_read_27 rfl (lv_at hl 0 rfl) ?_
  refine va_get (D := G) (ci := 1) (v := .ref (arR 98)) (C := RX2) (T := TX2) (N := 5) (ref := RX2) hx hb hts h1w hown hX.1 hP 0 rfl rfl 0 (by decide) h8w (fun _ h9 => h9) rfl dX2_read_28 ?_
  refine lv_aload_n hx hb dX2_read_31 rfl (lv_at hl 1 rfl) ?_
  refine lv_iload_n hx hb dX2_read_32 rfl (lv_at hl 2 rfl) ?_
  refine cz_v (wr := (wP k arP (uF (uF (uF (uF (uF (uF (uF (uF (uF (uF fiP 0 (c1)) 1 (c2)) 2 (c3)) 3 (c4)) 4 (c5)) 5 (c6)) 6 (c7)) 7 (c8)) 23 (c9)) 24 (c10)) faP)) (va_runVN (As := [.ref (arY 0), .int (Int32.ofInt (n0))]) (rest := []) ⟨hx, hb, hml, hown, hts⟩ (mX4_open l G k arR (arP 99) txR (uF (uF (uF fiR 2 (0)) 3 (0)) 4 ((-1))) faR arY fiY faY n0 H.size (iF (iF (iF hRR (by omega)) (by omega)) (by omega)) hRaR hRY hRaY hB0Y (by omega) (show 0 ≤ n0 from by omega)) ⟨va_cnB 2 hts (gz [] (.code yX4_open cX4_open 3 none) [(9, 6)] rfl) rfl rfl rfl (nm_30 hX.2.2.1) h9w (by decide +kernel) ⟨Nat.le_of_ble_eq_true rfl, Nat.le_of_ble_eq_true rfl⟩, h10w, h11w⟩ (cy_preV (EZ_ok k) hZ hS hX hP hD hA [0, 1, 2] rfl rfl (ci := 3) (q0 := 1) rfl rfl) rfl rfl hl.1 rfl (lv_room (Nat.le_of_ble_eq_true rfl)) dX2_read_33 ⟨Nat.le_of_ble_eq_true rfl, Nat.le_of_ble_eq_true rfl⟩) hP hD hS hA [0, 1, 2] [3, 4, 5, 6, 7, 8, 9, 10, 11, 12] rfl rfl (by decide) (by decide) (fun u H locs hp hP hD hS => ?_)
  obtain ⟨c11, c12, c13, c14, c15, c16, c17⟩ := u
  obtain ⟨hP, hD⟩ : va_P G vwCl ((wP k arP (uF (uF (uF (uF (uF (uF (uF (uF (uF (uF fiP 0 (c1)) 1 (c2)) 2 (c3)) 3 (c4)) 4 (c5)) 5 (c6)) 6 (c7)) 7 (c8)) 23 (c9)) 24 (c10)) faP) ++ ((wR k arR (arP 99) (arY 0) (uF (uF (uF (uF (uF (uF (uF (uF (uF (uF fiR 2 (0)) 3 (0)) 4 ((-1))) 21 (c11)) 22 (c12)) 23 (c13)) 24 (c14)) 25 (c15)) 26 (c16)) 27 (c17)) faR) ++ (wY k arY fiY faY))) H ∧ va_D A ((wP k arP (uF (uF (uF (uF (uF (uF (uF (uF (uF (uF fiP 0 (c1)) 1 (c2)) 2 (c3)) 3 (c4)) 4 (c5)) 5 (c6)) 6 (c7)) 7 (c8)) 23 (c9)) 24 (c10)) faP) ++ ((wR k arR (arP 99) (arY 0) (uF (uF (uF (uF (uF (uF (uF (uF (uF (uF fiR 2 (0)) 3 (0)) 4 ((-1))) 21 (c11)) 22 (c12)) 23 (c13)) 24 (c14)) 25 (c15)) 26 (c16)) 27 (c17)) faR) ++ (wY k arY fiY faY))) := ⟨hP, hD⟩
  obtain ⟨hP, hD⟩ : va_P G vwCl ((wR k arR (arP 99) (arY 0) (uF (uF (uF (uF (uF (uF (uF (uF (uF (uF fiR 2 (0)) 3 (0)) 4 ((-1))) 21 (c11)) 22 (c12)) 23 (c13)) 24 (c14)) 25 (c15)) 26 (c16)) 27 (c17)) faR) ++ ((wY k arY fiY faY) ++ (wP k arP (uF (uF (uF (uF (uF (uF (uF (uF (uF (uF fiP 0 (c1)) 1 (c2)) 2 (c3)) 3 (c4)) 4 (c5)) 5 (c6)) 6 (c7)) 7 (c8)) 23 (c9)) 24 (c10)) faP))) H ∧ va_D A ((wR k arR (arP 99) (arY 0) (uF (uF (uF (uF (uF (uF (uF (uF (uF (uF fiR 2 (0)) 3 (0)) 4 ((-1))) 21 (c11)) 22 (c12)) 23 (c13)) 24 (c14)) 25 (c15)) 26 (c16)) 27 (c17)) faR) ++ ((wY k arY fiY faY) ++ (wP k arP (uF (uF (uF (uF (uF (uF (uF (uF (uF (uF fiP 0 (c1)) 1 (c2)) 2 (c3)) 3 (c4)) 4 (c5)) 5 (c6)) 6 (c7)) 7 (c8)) 23 (c9)) 24 (c10)) faP))) := re_ord hP hD [10, 11, 12, 0, 1, 2, 3, 4, 5, 6, 7, 8, 9] (by decide) rfl
  obtain ⟨rc11, rc12, rc13, rc14, rc15, rc16, rc17, hp17⟩ : (inR c11) ∧ (inR c12) ∧ (inR c13) ∧ (inR c14) ∧ (inR c15) ∧ (inR c16) ∧ (inR c17) ∧ (0 ≤ c13 ∧ c13 ≤ c11 ∧ 0 ≤ c12 ∧ c12 ≤ c11 ∧ 0 ≤ c15 ∧ c15 ≤ 23 ∧ c11 ≤ 600) := hp
  refine lv_iconst (v := Int32.ofInt 0) hx hb dX2_read_36 (by decide +kernel) ?_
  refine lv_istore (lv' := [(4, .int (Int32.ofInt (0))), (0, .ref (arR 99)), (1, .ref (arY 0)), (2, .int (Int32.ofInt (n0))), (3, .ref (arP 99))]) hx hb dX2_read_37 hl (by decide) rfl (fun ls hl => ?_)
  refine iv_loop (α := Int × Int × Int × Int × Int × Int × Int × Int × Int × Int × Int × Int × Int × Int × Int × Int × Int × Int × Int × Int × (Int → Int) × (Int → Int) × (Int → Int) × (Int → Int) × (Int → Int) × (Int → Int)) (nL := 5) (fun b9 => ((wR k arR (arP 99) (arY 0) (uF (uF (uF (uF (uF (uF (uF (uF (uF (uF fiR 2 (b9.2.2.2.2.2.2.2.2.2.2.2.1)) 3 (b9.2.2.2.2.2.2.2.2.2.2.2.2.1)) 4 (b9.2.2.2.2.2.2.2.2.2.2.2.2.2.1)) 21 (c11)) 22 (b9.2.2.2.2.2.2.2.2.2.2.2.2.2.2.1)) 23 (b9.2.2.2.2.2.2.2.2.2.2.2.2.2.2.2.1)) 24 (b9.2.2.2.2.2.2.2.2.2.2.2.2.2.2.2.2.1)) 25 (b9.2.2.2.2.2.2.2.2.2.2.2.2.2.2.2.2.2.1)) 26 (b9.2.2.2.2.2.2.2.2.2.2.2.2.2.2.2.2.2.2.1)) 27 (b9.2.2.2.2.2.2.2.2.2.2.2.2.2.2.2.2.2.2.2.1)) faR) ++ ((wY k arY fiY faY) ++ (wP k arP (uF (uF (uF (uF (uF (uF (uF (uF (uF (uF fiP 0 (b9.2.1)) 1 (b9.2.2.1)) 2 (b9.2.2.2.1)) 3 (b9.2.2.2.2.1)) 4 (b9.2.2.2.2.2.1)) 5 (b9.2.2.2.2.2.2.1)) 6 (b9.2.2.2.2.2.2.2.1)) 7 (b9.2.2.2.2.2.2.2.2.1)) 23 (b9.2.2.2.2.2.2.2.2.2.1)) 24 (b9.2.2.2.2.2.2.2.2.2.2.1)) (uF (uF (uF (uF (uF (uF faP 8 (b9.2.2.2.2.2.2.2.2.2.2.2.2.2.2.2.2.2.2.2.2.1)) 9 (b9.2.2.2.2.2.2.2.2.2.2.2.2.2.2.2.2.2.2.2.2.2.1)) 10 (b9.2.2.2.2.2.2.2.2.2.2.2.2.2.2.2.2.2.2.2.2.2.2.1)) 11 (b9.2.2.2.2.2.2.2.2.2.2.2.2.2.2.2.2.2.2.2.2.2.2.2.1)) 20 (b9.2.2.2.2.2.2.2.2.2.2.2.2.2.2.2.2.2.2.2.2.2.2.2.2.1)) 21 (b9.2.2.2.2.2.2.2.2.2.2.2.2.2.2.2.2.2.2.2.2.2.2.2.2.2)))))) (fun b9 => [(4, .int (Int32.ofInt (b9.1))), (0, .ref (arR 99)), (1, .ref (arY 0)), (2, .int (Int32.ofInt (n0))), (3, .ref (arP 99))]) (fun b9 => (600 - b9.1).toNat) (fun b9 => inR b9.1 ∧ inR b9.2.1 ∧ inR b9.2.2.1 ∧ inR b9.2.2.2.1 ∧ inR b9.2.2.2.2.1 ∧ inR b9.2.2.2.2.2.1 ∧ inR b9.2.2.2.2.2.2.1 ∧ inR b9.2.2.2.2.2.2.2.1 ∧ inR b9.2.2.2.2.2.2.2.2.1 ∧ inR b9.2.2.2.2.2.2.2.2.2.1 ∧ inR b9.2.2.2.2.2.2.2.2.2.2.1 ∧ inR b9.2.2.2.2.2.2.2.2.2.2.2.1 ∧ inR b9.2.2.2.2.2.2.2.2.2.2.2.2.1 ∧ inR b9.2.2.2.2.2.2.2.2.2.2.2.2.2.1 ∧ inR b9.2.2.2.2.2.2.2.2.2.2.2.2.2.2.1 ∧ inR b9.2.2.2.2.2.2.2.2.2.2.2.2.2.2.2.1 ∧ inR b9.2.2.2.2.2.2.2.2.2.2.2.2.2.2.2.2.1 ∧ inR b9.2.2.2.2.2.2.2.2.2.2.2.2.2.2.2.2.2.1 ∧ inR b9.2.2.2.2.2.2.2.2.2.2.2.2.2.2.2.2.2.2.1 ∧ inR b9.2.2.2.2.2.2.2.2.2.2.2.2.2.2.2.2.2.2.2.1 ∧ (∀ t, inR (b9.2.2.2.2.2.2.2.2.2.2.2.2.2.2.2.2.2.2.2.2.1 t)) ∧ (∀ t, inR (b9.2.2.2.2.2.2.2.2.2.2.2.2.2.2.2.2.2.2.2.2.2.1 t)) ∧ (∀ t, inR (b9.2.2.2.2.2.2.2.2.2.2.2.2.2.2.2.2.2.2.2.2.2.2.1 t)) ∧ (∀ t, inR (b9.2.2.2.2.2.2.2.2.2.2.2.2.2.2.2.2.2.2.2.2.2.2.2.1 t)) ∧ (∀ t, inR (b9.2.2.2.2.2.2.2.2.2.2.2.2.2.2.2.2.2.2.2.2.2.2.2.2.1 t)) ∧ (∀ t, inR (b9.2.2.2.2.2.2.2.2.2.2.2.2.2.2.2.2.2.2.2.2.2.2.2.2.2 t)) ∧ (bnd b9.2.2.2.2.2.2.2.2.2.2.2.2.2.2.2.2.2.2.2.2.1 7 0 4) ∧ (bnd b9.2.2.2.2.2.2.2.2.2.2.2.2.2.2.2.2.2.2.2.2.2.2.2.2.2 4 0 601) ∧ (0 ≤ b9.1 ∧ b9.1 ≤ 600 ∧ 0 ≤ b9.2.2.2.2.2.2.2.2.2.2.2.2.2.2.2.1 ∧ b9.2.2.2.2.2.2.2.2.2.2.2.2.2.2.2.1 ≤ c11 ∧ 0 ≤ b9.2.2.2.2.2.2.2.2.2.2.2.2.2.2.1 ∧ b9.2.2.2.2.2.2.2.2.2.2.2.2.2.2.1 ≤ c11 ∧ 0 ≤ b9.2.2.2.2.2.2.2.2.2.2.2.2.2.2.2.2.2.1 ∧ b9.2.2.2.2.2.2.2.2.2.2.2.2.2.2.2.2.2.1 ≤ 23 ∧ 0 ≤ b9.2.2.2.2.2.2.2.2.1 ∧ b9.2.2.2.2.2.2.2.2.1 ≤ 7 ∧ 0 ≤ b9.2.1 ∧ b9.2.1 ≤ 11 ∧ 0 ≤ b9.2.2.2.2.2.2.2.2.2.2.1 ∧ b9.2.2.2.2.2.2.2.2.2.2.1 ≤ 4 ∧ 0 ≤ b9.2.2.2.2.2.2.2.2.2.1 ∧ b9.2.2.2.2.2.2.2.2.2.1 ≤ 600)) ?_ (0, c1, c2, c3, c4, c5, c6, c7, c8, c9, c10, 0, 0, (-1), c12, c13, c14, c15, c16, c17, faP 8, faP 9, faP 10, faP 11, faP 20, faP 21) (show inR 0 ∧ inR c1 ∧ inR c2 ∧ inR c3 ∧ inR c4 ∧ inR c5 ∧ inR c6 ∧ inR c7 ∧ inR c8 ∧ inR c9 ∧ inR c10 ∧ inR 0 ∧ inR 0 ∧ inR (-1) ∧ inR c12 ∧ inR c13 ∧ inR c14 ∧ inR c15 ∧ inR c16 ∧ inR c17 ∧ (∀ t, inR ((faP 8) t)) ∧ (∀ t, inR ((faP 9) t)) ∧ (∀ t, inR ((faP 10) t)) ∧ (∀ t, inR ((faP 11) t)) ∧ (∀ t, inR ((faP 20) t)) ∧ (∀ t, inR ((faP 21) t)) ∧ (bnd (faP 8) 7 0 4) ∧ (bnd (faP 21) 4 0 601) ∧ (0 ≤ 0 ∧ 0 ≤ 600 ∧ 0 ≤ c13 ∧ c13 ≤ c11 ∧ 0 ≤ c12 ∧ c12 ≤ c11 ∧ 0 ≤ c15 ∧ c15 ≤ 23 ∧ 0 ≤ c8 ∧ c8 ≤ 7 ∧ 0 ≤ c1 ∧ c1 ≤ 11 ∧ 0 ≤ c10 ∧ c10 ≤ 4 ∧ 0 ≤ c9 ∧ c9 ≤ 600) from ⟨(by omega), (by omega), (by omega), (by omega), (by omega), (by omega), (by omega), (by omega), (by omega), (by omega), (by omega), (by omega), (by omega), (by omega), (by omega), (by omega), (by omega), (by omega), (by omega), (by omega), (hRaP 8), (hRaP 9), (hRaP 10), (hRaP 11), (hRaP 20), (hRaP 21), hB8P, hB21P, (by omega)⟩) hP hD hS hl
  rintro ⟨x4_18, n0P_19, n1P_20, n2P_21, n3P_22, n4P_23, n5P_24, n6P_25, n7P_26, n23P_27, n24P_28, n2R_29, n3R_30, n4R_31, n22R_32, n23R_33, n24R_34, n25R_35, n26R_36, n27R_37, g8P_38, g9P_39, g10P_40, g11P_41, g20P_42, g21P_43⟩ ih hi9 H locs ls hP hD hS hl
  obtain ⟨r_x4_18, r_n0P_19, r_n1P_20, r_n2P_21, r_n3P_22, r_n4P_23, r_n5P_24, r_n6P_25, r_n7P_26, r_n23P_27, r_n24P_28, r_n2R_29, r_n3R_30, r_n4R_31, r_n22R_32, r_n23R_33, r_n24R_34, r_n25R_35, r_n26R_36, r_n27R_37, r_g8P_38, r_g9P_39, r_g10P_40, r_g11P_41, r_g20P_42, r_g21P_43, b_g8P_38, b_g21P_43, hinv⟩ : inR x4_18 ∧ inR n0P_19 ∧ inR n1P_20 ∧ inR n2P_21 ∧ inR n3P_22 ∧ inR n4P_23 ∧ inR n5P_24 ∧ inR n6P_25 ∧ inR n7P_26 ∧ inR n23P_27 ∧ inR n24P_28 ∧ inR n2R_29 ∧ inR n3R_30 ∧ inR n4R_31 ∧ inR n22R_32 ∧ inR n23R_33 ∧ inR n24R_34 ∧ inR n25R_35 ∧ inR n26R_36 ∧ inR n27R_37 ∧ (∀ t, inR (g8P_38 t)) ∧ (∀ t, inR (g9P_39 t)) ∧ (∀ t, inR (g10P_40 t)) ∧ (∀ t, inR (g11P_41 t)) ∧ (∀ t, inR (g20P_42 t)) ∧ (∀ t, inR (g21P_43 t)) ∧ (bnd g8P_38 7 0 4) ∧ (bnd g21P_43 4 0 601) ∧ (0 ≤ x4_18 ∧ x4_18 ≤ 600 ∧ 0 ≤ n23R_33 ∧ n23R_33 ≤ c11 ∧ 0 ≤ n22R_32 ∧ n22R_32 ≤ c11 ∧ 0 ≤ n25R_35 ∧ n25R_35 ≤ 23 ∧ 0 ≤ n7P_26 ∧ n7P_26 ≤ 7 ∧ 0 ≤ n0P_19 ∧ n0P_19 ≤ 11 ∧ 0 ≤ n24P_28 ∧ n24P_28 ≤ 4 ∧ 0 ≤ n23P_27 ∧ n23P_27 ≤ 600) := hi9
  obtain ⟨hP, hD⟩ : va_P G vwCl ((wR k arR (arP 99) (arY 0) (uF (uF (uF (uF (uF (uF (uF (uF (uF (uF fiR 2 (n2R_29)) 3 (n3R_30)) 4 (n4R_31)) 21 (c11)) 22 (n22R_32)) 23 (n23R_33)) 24 (n24R_34)) 25 (n25R_35)) 26 (n26R_36)) 27 (n27R_37)) faR) ++ ((wY k arY fiY faY) ++ (wP k arP (uF (uF (uF (uF (uF (uF (uF (uF (uF (uF fiP 0 (n0P_19)) 1 (n1P_20)) 2 (n2P_21)) 3 (n3P_22)) 4 (n4P_23)) 5 (n5P_24)) 6 (n6P_25)) 7 (n7P_26)) 23 (n23P_27)) 24 (n24P_28)) (uF (uF (uF (uF (uF (uF faP 8 (g8P_38)) 9 (g9P_39)) 10 (g10P_40)) 11 (g11P_41)) 20 (g20P_42)) 21 (g21P_43))))) H ∧ va_D A ((wR k arR (arP 99) (arY 0) (uF (uF (uF (uF (uF (uF (uF (uF (uF (uF fiR 2 (n2R_29)) 3 (n3R_30)) 4 (n4R_31)) 21 (c11)) 22 (n22R_32)) 23 (n23R_33)) 24 (n24R_34)) 25 (n25R_35)) 26 (n26R_36)) 27 (n27R_37)) faR) ++ ((wY k arY fiY faY) ++ (wP k arP (uF (uF (uF (uF (uF (uF (uF (uF (uF (uF fiP 0 (n0P_19)) 1 (n1P_20)) 2 (n2P_21)) 3 (n3P_22)) 4 (n4P_23)) 5 (n5P_24)) 6 (n6P_25)) 7 (n7P_26)) 23 (n23P_27)) 24 (n24P_28)) (uF (uF (uF (uF (uF (uF faP 8 (g8P_38)) 9 (g9P_39)) 10 (g10P_40)) 11 (g11P_41)) 20 (g20P_42)) 21 (g21P_43))))) := ⟨hP, hD⟩
  have hl : lv_has ls 5 [(4, .int (Int32.ofInt (x4_18))), (0, .ref (arR 99)), (1, .ref (arY 0)), (2, .int (Int32.ofInt (n0))), (3, .ref (arP 99))] := hl
  refine lv_iload hx hb dX2_read_39 (lv_at hl 0 rfl) ?_
  refine lv_sipush (v := Int32.ofInt 600) hx hb dX2_read_41 (by decide +kernel) ?_
  refine iv_icmp_ge (tgt := 77) hx hb (by omega) (by omega) dX2_read_44 (by decide) (fun q44 => ?_) (fun q44 => ?_)
  · refine lv_aload_n hx hb dX2_read_77 rfl (lv_at hl 1 rfl) ?_
    refine va_get (D := G) (ci := 1) (v := .int (Int32.ofInt (n3R_30))) (C := RX2) (T := TX2) (N := 5) (ref := RX2) hx hb hts h1w hown hX.1 hP 0 rfl rfl 3 (by decide) h6w (fun _ h9 => h9) rfl dX2_read_78 ?_
    exact W.iret (v := Int32.ofInt (n3R_30)) hx hb hr (fun t ht hW => ⟨⟨Int32.ofInt (n3R_30), (n3R_30, n2R_29, n3R_30, n4R_31, c11, n22R_32, n23R_33, n24R_34, n25R_35, n26R_36, n27R_37, g8P_38, g9P_39, g10P_40, g11P_41, g20P_42, g21P_43, n0P_19, n1P_20, n2P_21, n3P_22, n4P_23, n5P_24, n6P_25, n7P_26, n23P_27, n24P_28), rfl, ⟨rfl, (show (inR n3R_30) ∧ (inR n2R_29) ∧ (inR n3R_30) ∧ (inR n4R_31) ∧ (inR c11) ∧ (inR n22R_32) ∧ (inR n23R_33) ∧ (inR n24R_34) ∧ (inR n25R_35) ∧ (inR n26R_36) ∧ (inR n27R_37) ∧ (∀ t, inR (g8P_38 t)) ∧ (bnd g8P_38 7 0 4) ∧ (∀ t, inR (g9P_39 t)) ∧ (∀ t, inR (g10P_40 t)) ∧ (∀ t, inR (g11P_41 t)) ∧ (∀ t, inR (g20P_42 t)) ∧ (∀ t, inR (g21P_43 t)) ∧ (bnd g21P_43 4 0 601) ∧ (inR n0P_19) ∧ (inR n1P_20) ∧ (inR n2P_21) ∧ (inR n3P_22) ∧ (inR n4P_23) ∧ (inR n5P_24) ∧ (inR n6P_25) ∧ (inR n7P_26) ∧ (inR n23P_27) ∧ (inR n24P_28) ∧ (0 ≤ n7P_26 ∧ n7P_26 ≤ 7 ∧ 0 ≤ n0P_19 ∧ n0P_19 ≤ 11 ∧ 0 ≤ n24P_28 ∧ n24P_28 ≤ 4 ∧ 0 ≤ n23P_27 ∧ n23P_27 ≤ 600) from ⟨(by omega), (by omega), (by omega), (by omega), (by omega), (by omega), (by omega), (by omega), (by omega), (by omega), (by omega), r_g8P_38, b_g8P_38, r_g9P_39, r_g10P_40, r_g11P_41, r_g20P_42, r_g21P_43, b_g21P_43, (by omega), (by omega), (by omega), (by omega), (by omega), (by omega), (by omega), (by omega), (by omega), (by omega), (by omega)⟩)⟩, by rw [ht]; exact hP, hD⟩, hS.F ht⟩) hS.2.2 dX2_read_81
  · refine lv_aload_n hx hb dX2_read_47 rfl (lv_at hl 1 rfl) ?_
    refine va_get (D := G) (ci := 1) (v := .ref (arR 98)) (C := RX2) (T := TX2) (N := 5) (ref := RX2) hx hb hts h1w hown hX.1 hP 0 rfl rfl 0 (by decide) h8w (fun _ h9 => h9) rfl dX2_read_48 ?_
    refine va_getN (D := G) (ci := 3) (v := .int (Int32.ofInt (n24R_34))) (C := RX4) (T := TX4) (N := 8) (ref := RX4) (host := RX9) hx hb hts h12w hown hX.1 hP 1 rfl rfl 4 (by decide) (nf_32 hX.2.2.1) (fun _ h9 => h9) rfl dX2_read_51 ?_
    refine iv_if_eq (tgt := 77) hx hb (by omega) dX2_read_54 (by decide) (fun q45 => ?_) (fun q45 => ?_)
    · refine lv_aload_n hx hb dX2_read_77 rfl (lv_at hl 1 rfl) ?_
      refine va_get (D := G) (ci := 1) (v := .int (Int32.ofInt (n3R_30))) (C := RX2) (T := TX2) (N := 5) (ref := RX2) hx hb hts h1w hown hX.1 hP 0 rfl rfl 3 (by decide) h6w (fun _ h9 => h9) rfl dX2_read_78 ?_
      exact W.iret (v := Int32.ofInt (n3R_30)) hx hb hr (fun t ht hW => ⟨⟨Int32.ofInt (n3R_30), (n3R_30, n2R_29, n3R_30, n4R_31, c11, n22R_32, n23R_33, n24R_34, n25R_35, n26R_36, n27R_37, g8P_38, g9P_39, g10P_40, g11P_41, g20P_42, g21P_43, n0P_19, n1P_20, n2P_21, n3P_22, n4P_23, n5P_24, n6P_25, n7P_26, n23P_27, n24P_28), rfl, ⟨rfl, (show (inR n3R_30) ∧ (inR n2R_29) ∧ (inR n3R_30) ∧ (inR n4R_31) ∧ (inR c11) ∧ (inR n22R_32) ∧ (inR n23R_33) ∧ (inR n24R_34) ∧ (inR n25R_35) ∧ (inR n26R_36) ∧ (inR n27R_37) ∧ (∀ t, inR (g8P_38 t)) ∧ (bnd g8P_38 7 0 4) ∧ (∀ t, inR (g9P_39 t)) ∧ (∀ t, inR (g10P_40 t)) ∧ (∀ t, inR (g11P_41 t)) ∧ (∀ t, inR (g20P_42 t)) ∧ (∀ t, inR (g21P_43 t)) ∧ (bnd g21P_43 4 0 601) ∧ (inR n0P_19) ∧ (inR n1P_20) ∧ (inR n2P_21) ∧ (inR n3P_22) ∧ (inR n4P_23) ∧ (inR n5P_24) ∧ (inR n6P_25) ∧ (inR n7P_26) ∧ (inR n23P_27) ∧ (inR n24P_28) ∧ (0 ≤ n7P_26 ∧ n7P_26 ≤ 7 ∧ 0 ≤ n0P_19 ∧ n0P_19 ≤ 11 ∧ 0 ≤ n24P_28 ∧ n24P_28 ≤ 4 ∧ 0 ≤ n23P_27 ∧ n23P_27 ≤ 600) from ⟨(by omega), (by omega), (by omega), (by omega), (by omega), (by omega), (by omega), (by omega), (by omega), (by omega), (by omega), r_g8P_38, b_g8P_38, r_g9P_39, r_g10P_40, r_g11P_41, r_g20P_42, r_g21P_43, b_g21P_43, (by omega), (by omega), (by omega), (by omega), (by omega), (by omega), (by omega), (by omega), (by omega), (by omega), (by omega)⟩)⟩, by rw [ht]; exact hP, hD⟩, hS.F ht⟩) hS.2.2 dX2_read_81
    · refine iv_join (G := G) (A := A) (H0 := s.heap) (α := Int) (nL := 5) 68 (fun b9 => [.int (Int32.ofInt (b9)), .ref (arR 99)]) (fun b9 => ((wR k arR (arP 99) (arY 0) (uF (uF (uF (uF (uF (uF (uF (uF (uF (uF fiR 2 (n2R_29)) 3 (n3R_30)) 4 (n4R_31)) 21 (c11)) 22 (n22R_32)) 23 (n23R_33)) 24 (n24R_34)) 25 (n25R_35)) 26 (n26R_36)) 27 (n27R_37)) faR) ++ ((wY k arY fiY faY) ++ (wP k arP (uF (uF (uF (uF (uF (uF (uF (uF (uF (uF fiP 0 (n0P_19)) 1 (n1P_20)) 2 (n2P_21)) 3 (n3P_22)) 4 (n4P_23)) 5 (n5P_24)) 6 (n6P_25)) 7 (n7P_26)) 23 (n23P_27)) 24 (n24P_28)) (uF (uF (uF (uF (uF (uF faP 8 (g8P_38)) 9 (g9P_39)) 10 (g10P_40)) 11 (g11P_41)) 20 (g20P_42)) 21 (g21P_43)))))) (fun b9 => [(4, .int (Int32.ofInt (x4_18))), (0, .ref (arR 99)), (1, .ref (arY 0)), (2, .int (Int32.ofInt (n0))), (3, .ref (arP 99))]) (fun b9 => inR b9 ∧ (True)) ?_ (fun J68 => ?_)
      · intro s0_46 hi9 H locs ls hP hD hS hl
        obtain ⟨r_s0_46, hinv⟩ : inR s0_46 ∧ (True) := hi9
        obtain ⟨hP, hD⟩ : va_P G vwCl ((wR k arR (arP 99) (arY 0) (uF (uF (uF (uF (uF (uF (uF (uF (uF (uF fiR 2 (n2R_29)) 3 (n3R_30)) 4 (n4R_31)) 21 (c11)) 22 (n22R_32)) 23 (n23R_33)) 24 (n24R_34)) 25 (n25R_35)) 26 (n26R_36)) 27 (n27R_37)) faR) ++ ((wY k arY fiY faY) ++ (wP k arP (uF (uF (uF (uF (uF (uF (uF (uF (uF (uF fiP 0 (n0P_19)) 1 (n1P_20)) 2 (n2P_21)) 3 (n3P_22)) 4 (n4P_23)) 5 (n5P_24)) 6 (n6P_25)) 7 (n7P_26)) 23 (n23P_27)) 24 (n24P_28)) (uF (uF (uF (uF (uF (uF faP 8 (g8P_38)) 9 (g9P_39)) 10 (g10P_40)) 11 (g11P_41)) 20 (g20P_42)) 21 (g21P_43))))) H ∧ va_D A ((wR k arR (arP 99) (arY 0) (uF (uF (uF (uF (uF (uF (uF (uF (uF (uF fiR 2 (n2R_29)) 3 (n3R_30)) 4 (n4R_31)) 21 (c11)) 22 (n22R_32)) 23 (n23R_33)) 24 (n24R_34)) 25 (n25R_35)) 26 (n26R_36)) 27 (n27R_37)) faR) ++ ((wY k arY fiY faY) ++ (wP k arP (uF (uF (uF (uF (uF (uF (uF (uF (uF (uF fiP 0 (n0P_19)) 1 (n1P_20)) 2 (n2P_21)) 3 (n3P_22)) 4 (n4P_23)) 5 (n5P_24)) 6 (n6P_25)) 7 (n7P_26)) 23 (n23P_27)) 24 (n24P_28)) (uF (uF (uF (uF (uF (uF faP 8 (g8P_38)) 9 (g9P_39)) 10 (g10P_40)) 11 (g11P_41)) 20 (g20P_42)) 21 (g21P_43))))) := ⟨hP, hD⟩
        have hl : lv_has ls 5 [(4, .int (Int32.ofInt (x4_18))), (0, .ref (arR 99)), (1, .ref (arY 0)), (2, .int (Int32.ofInt (n0))), (3, .ref (arP 99))] := hl
        refine cr_v (va_runV (As := [.int (Int32.ofInt (s0_46))]) (rest := []) ⟨hx, hb, hml, hown, hts⟩ (mX2_clause l G k arR (uF (uF (uF (uF (uF (uF (uF (uF (uF (uF fiR 2 (n2R_29)) 3 (n3R_30)) 4 (n4R_31)) 21 (c11)) 22 (n22R_32)) 23 (n23R_33)) 24 (n24R_34)) 25 (n25R_35)) 26 (n26R_36)) 27 (n27R_37)) faR arY fiY faY arP (uF (uF (uF (uF (uF (uF (uF (uF (uF (uF fiP 0 (n0P_19)) 1 (n1P_20)) 2 (n2P_21)) 3 (n3P_22)) 4 (n4P_23)) 5 (n5P_24)) 6 (n6P_25)) 7 (n7P_26)) 23 (n23P_27)) 24 (n24P_28)) (uF (uF (uF (uF (uF (uF faP 8 (g8P_38)) 9 (g9P_39)) 10 (g10P_40)) 11 (g11P_41)) 20 (g20P_42)) 21 (g21P_43)) s0_46 H.size (iF (iF (iF (iF (iF (iF (iF (iF (iF (iF hRR (by omega)) (by omega)) (by omega)) (by omega)) (by omega)) (by omega)) (by omega)) (by omega)) (by omega)) (by omega)) hRaR hRY hRaY hB0Y (iF (iF (iF (iF (iF (iF (iF (iF (iF (iF hRP (by omega)) (by omega)) (by omega)) (by omega)) (by omega)) (by omega)) (by omega)) (by omega)) (by omega)) (by omega)) (iG (iG (iG (iG (iG (iG hRaP r_g8P_38) r_g9P_39) r_g10P_40) r_g11P_41) r_g20P_42) r_g21P_43) b_g8P_38 b_g21P_43 (by omega) (show 0 ≤ n23R_33 ∧ n23R_33 ≤ c11 ∧ 0 ≤ n22R_32 ∧ n22R_32 ≤ c11 ∧ 0 ≤ n25R_35 ∧ n25R_35 ≤ 23 ∧ c11 ≤ 600 from by omega) (show 0 ≤ n7P_26 ∧ n7P_26 ≤ 7 ∧ 0 ≤ n0P_19 ∧ n0P_19 ≤ 11 ∧ 0 ≤ n24P_28 ∧ n24P_28 ≤ 4 ∧ 0 ≤ n23P_27 ∧ n23P_27 ≤ 600 from by omega)) (cwV 1 hts (gz [.methodLink RX2 44 yX2_clause, .instanceMethod yX2_clause, .selects RX2 yX2_clause yX2_clause, .initialized RX2] (.code yX2_clause cX2_clause 2 none) [(12, 9), (12, 10), (12, 11), (1, 0), (12, 12)] rfl) rfl rfl rfl (by decide +kernel) ⟨Nat.le_of_ble_eq_true rfl, Nat.le_of_ble_eq_true rfl⟩) (cr_preV (EZ_ok k) hZ hS hX hP hD hA (ci := 1) (q0 := 0) rfl rfl) rfl rfl hl.1 rfl (lv_room (Nat.le_of_ble_eq_true rfl)) dX2_read_68 ⟨Nat.le_of_ble_eq_true rfl, Nat.le_of_ble_eq_true rfl⟩) hD hS hA (fun u H locs hp hP hD hS => ?_)
        obtain ⟨c47, c48, c49, c50, c51, c52, c53, c54, c55, c56, c57, c58, c59, c60, c61, c62, c63, c64, c65, c66, c67, c68, c69, c70, c71⟩ := u
        obtain ⟨hP, hD⟩ : va_P G vwCl ((wR k arR (arP 99) (arY 0) (uF (uF (uF (uF (uF (uF (uF (uF (uF (uF fiR 2 (c47)) 3 (c48)) 4 (c49)) 21 (c11)) 22 (c50)) 23 (c51)) 24 (c52)) 25 (c53)) 26 (c54)) 27 (c55)) faR) ++ ((wY k arY fiY faY) ++ (wP k arP (uF (uF (uF (uF (uF (uF (uF (uF (uF (uF fiP 0 (c62)) 1 (c63)) 2 (c64)) 3 (c65)) 4 (c66)) 5 (c67)) 6 (c68)) 7 (c69)) 23 (c70)) 24 (c71)) (uF (uF (uF (uF (uF (uF faP 8 (c56)) 9 (c57)) 10 (c58)) 11 (c59)) 20 (c60)) 21 (c61))))) H ∧ va_D A ((wR k arR (arP 99) (arY 0) (uF (uF (uF (uF (uF (uF (uF (uF (uF (uF fiR 2 (c47)) 3 (c48)) 4 (c49)) 21 (c11)) 22 (c50)) 23 (c51)) 24 (c52)) 25 (c53)) 26 (c54)) 27 (c55)) faR) ++ ((wY k arY fiY faY) ++ (wP k arP (uF (uF (uF (uF (uF (uF (uF (uF (uF (uF fiP 0 (c62)) 1 (c63)) 2 (c64)) 3 (c65)) 4 (c66)) 5 (c67)) 6 (c68)) 7 (c69)) 23 (c70)) 24 (c71)) (uF (uF (uF (uF (uF (uF faP 8 (c56)) 9 (c57)) 10 (c58)) 11 (c59)) 20 (c60)) 21 (c61))))) := ⟨hP, hD⟩
        obtain ⟨rc47, rc48, rc49, rc50, rc51, rc52, rc53, rc54, rc55, rc56, bc56, rc57, rc58, rc59, rc60, rc61, bc61, rc62, rc63, rc64, rc65, rc66, rc67, rc68, rc69, rc70, rc71, hp71⟩ : (inR c47) ∧ (inR c48) ∧ (inR c49) ∧ (inR c50) ∧ (inR c51) ∧ (inR c52) ∧ (inR c53) ∧ (inR c54) ∧ (inR c55) ∧ (∀ t, inR (c56 t)) ∧ (bnd c56 7 0 4) ∧ (∀ t, inR (c57 t)) ∧ (∀ t, inR (c58 t)) ∧ (∀ t, inR (c59 t)) ∧ (∀ t, inR (c60 t)) ∧ (∀ t, inR (c61 t)) ∧ (bnd c61 4 0 601) ∧ (inR c62) ∧ (inR c63) ∧ (inR c64) ∧ (inR c65) ∧ (inR c66) ∧ (inR c67) ∧ (inR c68) ∧ (inR c69) ∧ (inR c70) ∧ (inR c71) ∧ (0 ≤ c51 ∧ c51 ≤ c11 ∧ 0 ≤ c50 ∧ c50 ≤ c11 ∧ 0 ≤ c53 ∧ c53 ≤ 23 ∧ 0 ≤ c69 ∧ c69 ≤ 7 ∧ 0 ≤ c62 ∧ c62 ≤ 11 ∧ 0 ≤ c71 ∧ c71 ≤ 4 ∧ 0 ≤ c70 ∧ c70 ≤ 600) := hp
        refine lv_iinc (v := Int32.ofInt (x4_18 + 1)) (lv' := [(4, .int (Int32.ofInt ((x4_18 + 1)))), (0, .ref (arR 99)), (1, .ref (arY 0)), (2, .int (Int32.ofInt (n0))), (3, .ref (arP 99))]) hx hb dX2_read_71 hl (k := 0) rfl (Int32.ofInt_add _ _).symm (by decide) rfl (fun ls hl => ?_)
        refine lv_goto (tgt := 39) hx hb dX2_read_74 (by decide) ?_
        have hl : lv_has ls 5 [(4, .int (Int32.ofInt ((x4_18 + 1)))), (0, .ref (arR 99)), (1, .ref (arY 0)), (2, .int (Int32.ofInt (n0))), (3, .ref (arP 99))] := lv_sub hl [0, 1, 2, 3, 4] rfl
        exact ih ((x4_18 + 1), c62, c63, c64, c65, c66, c67, c68, c69, c70, c71, c47, c48, c49, c50, c51, c52, c53, c54, c55, c56, c57, c58, c59, c60, c61) (show (600 - (x4_18 + 1)).toNat < (600 - x4_18).toNat from by omega) (show inR (x4_18 + 1) ∧ inR c62 ∧ inR c63 ∧ inR c64 ∧ inR c65 ∧ inR c66 ∧ inR c67 ∧ inR c68 ∧ inR c69 ∧ inR c70 ∧ inR c71 ∧ inR c47 ∧ inR c48 ∧ inR c49 ∧ inR c50 ∧ inR c51 ∧ inR c52 ∧ inR c53 ∧ inR c54 ∧ inR c55 ∧ (∀ t, inR (c56 t)) ∧ (∀ t, inR (c57 t)) ∧ (∀ t, inR (c58 t)) ∧ (∀ t, inR (c59 t)) ∧ (∀ t, inR (c60 t)) ∧ (∀ t, inR (c61 t)) ∧ (bnd c56 7 0 4) ∧ (bnd c61 4 0 601) ∧ (0 ≤ (x4_18 + 1) ∧ (x4_18 + 1) ≤ 600 ∧ 0 ≤ c51 ∧ c51 ≤ c11 ∧ 0 ≤ c50 ∧ c50 ≤ c11 ∧ 0 ≤ c53 ∧ c53 ≤ 23 ∧ 0 ≤ c69 ∧ c69 ≤ 7 ∧ 0 ≤ c62 ∧ c62 ≤ 11 ∧ 0 ≤ c71 ∧ c71 ≤ 4 ∧ 0 ≤ c70 ∧ c70 ≤ 600) from ⟨(by omega), (by omega), (by omega), (by omega), (by omega), (by omega), (by omega), (by omega), (by omega), (by omega), (by omega), (by omega), (by omega), (by omega), (by omega), (by omega), (by omega), (by omega), (by omega), (by omega), rc56, rc57, rc58, rc59, rc60, rc61, bc56, bc61, (by omega)⟩) _ _ _ hP hD hS hl
      · refine lv_aload_n hx hb dX2_read_57 rfl (lv_at hl 1 rfl) ?_
        refine lv_iload hx hb dX2_read_58 (lv_at hl 0 rfl) ?_
        refine iv_if_ne (tgt := 67) hx hb (by omega) dX2_read_60 (by decide) (fun q72 => ?_) (fun q72 => ?_)
        · refine lv_iconst (v := Int32.ofInt 0) hx hb dX2_read_67 (by decide +kernel) ?_
          have hl : lv_has ls 5 [(4, .int (Int32.ofInt (x4_18))), (0, .ref (arR 99)), (1, .ref (arY 0)), (2, .int (Int32.ofInt (n0))), (3, .ref (arP 99))] := lv_sub hl [0, 1, 2, 3, 4] rfl
          exact J68 (0) (show inR 0 ∧ (True) from ⟨(by omega), (by trivial)⟩) _ _ _ hP hD hS hl
        · refine lv_iconst (v := Int32.ofInt 1) hx hb dX2_read_63 (by decide +kernel) ?_
          refine lv_goto (tgt := 68) hx hb dX2_read_64 (by decide) ?_
          have hl : lv_has ls 5 [(4, .int (Int32.ofInt (x4_18))), (0, .ref (arR 99)), (1, .ref (arY 0)), (2, .int (Int32.ofInt (n0))), (3, .ref (arP 99))] := lv_sub hl [0, 1, 2, 3, 4] rfl
          exact J68 (1) (show inR 1 ∧ (True) from ⟨(by omega), (by trivial)⟩) _ _ _ hP hD hS hl

set_option maxHeartbeats 4000000 in
set_option maxRecDepth 100000 in
theorem mX9_append (l : Launch) (G : va_G) (k : Nat → ClassId) (arT : Nat → Nat) (paT : Nat) (ppT : Nat) (pdT : Nat) (pbT : Nat) (pkT : Nat) (psT : Nat) (fiT : Nat → Int) (faT : Nat → Int → Int) (arY : Nat → Nat) (fiY : Nat → Int) (faY : Nat → Int → Int) (a0 : Int) (sz : Nat) (hRT : ∀ j, inR (fiT j)) (hRaT : ∀ j t, inR (faT j t)) (hRY : ∀ j, inR (fiY j)) (hRaY : ∀ j t, inR (faY j t)) (hB0Y : bnd (faY 0) 600 (-128) 128) (hr_a0 : inR a0) (hfd : 0 ≤ fiT 1 ∧ fiT 1 ≤ 596) : CNv l G k (EZ k) yX9_append wzX9_append ({ frames := 0, cells := 0, slots := 0, locals := 0 }) [.ref (arT 99), .int (Int32.ofInt (a0))] sz ((wT k arT (arY 0) (paT) (ppT) (pdT) (pbT) (pkT) (psT) fiT faT) ++ (wY k arY fiY faY)) (fun (u : Int × (Int → Int)) => (inR u.1) ∧ (∀ t, inR (u.2 t)) ∧ (bnd u.2 600 (-128) 128) ∧ (u.1 = fiT 1 + 4)) (fun (u : Int × (Int → Int)) => ((wT k arT (arY 0) (paT) (ppT) (pdT) (pbT) (pkT) (psT) (uF fiT 1 (u.1)) faT) ++ (wY k arY fiY (uF faY 0 (u.2))))) := by
  refine Met.ofW (cc := cX9_append) (maxL := 3) (ret := none) (by decide) rfl ?_
  intro p e s m args below meth c s₁ B hml hv
  obtain ⟨rfl, hsz, hP, hX, hD0, hZ0⟩ := hv
  have hx := B.exec
  have hb := B.bytes
  have hr := B.returns
  have hts := atoms_spec (ws := wzX9_append) B.pre
  have hown : s.vm.findClass RX9 = some m.cls := findClass_of_methodNamed B.named
  subst hsz
  have hD := hD0.self (sz := s.heap.size)
  have hZ := hZ0
  generalize hAe : va_A ((wT k arT (arY 0) (paT) (ppT) (pdT) (pbT) (pkT) (psT) fiT faT) ++ (wY k arY fiY faY)) s.heap.size = A at hD hZ ⊢
  have hA : ∀ q : Nat, s.heap.size ≤ q → A q := fun q h => by rw [← hAe]; exact Or.inr h
  have hS : va_S A s.heap s.heap [] := va_S.rf
  have hl := lv_entry ([.ref (arT 99), .int (Int32.ofInt (a0))]) (n := 3) (Nat.le_of_ble_eq_true rfl)
  rw [lg_entry_eq]
  generalize (lg_sl ([.ref (arT 99), .int (Int32.ofInt (a0))]) ++ List.replicate (3 - (lg_sl ([.ref (arT 99), .int (Int32.ofInt (a0))])).length) Slot.unset).toArray = ls at hl ⊢
  have hl : lv_has ls 3 [(0, .ref (arT 99)), (1, .int (Int32.ofInt (a0)))] := hl
  obtain ⟨H, eH⟩ : ∃ H, H = s.heap := ⟨_, rfl⟩
  rw [← eH] at hP
  have hS : va_S A s.heap H [] := by rw [eH]; exact hS
  have gW : s.heap = H := eH.symm
  refine iv_heap gW ?_
  have h0w := hts (.fieldLink RX9 13 "RopeTown" "fed" "I") (wz_at 0 15 rfl)
  have h1w : ∀ w ∈ wsX90, w ∈ wzX9_append := fun w h => List.mem_cons_of_mem _ (inlX9 w h)
  have h2w := hts (.fieldLink RX9 9 "RopeTown" "tape" "[B") (wz_at 0 14 rfl)
  refine lv_bipush (v := Int32.ofInt 24) hx hb dX9_append_0 (by decide +kernel) ?_
  refine lv_istore_n (lv' := [(2, .int (Int32.ofInt (24))), (0, .ref (arT 99)), (1, .int (Int32.ofInt (a0)))]) hx hb dX9_append_2 rfl hl (by decide) rfl (fun ls hl => ?_)
  refine iv_loop (α := Int × Int × (Int → Int)) (nL := 3) (fun b9 => ((wT k arT (arY 0) (paT) (ppT) (pdT) (pbT) (pkT) (psT) (uF fiT 1 (b9.2.1)) faT) ++ (wY k arY fiY (uF faY 0 (b9.2.2))))) (fun b9 => [(2, .int (Int32.ofInt (b9.1))), (0, .ref (arT 99)), (1, .int (Int32.ofInt (a0)))]) (fun b9 => (b9.1 + 8).toNat) (fun b9 => inR b9.1 ∧ inR b9.2.1 ∧ (∀ t, inR (b9.2.2 t)) ∧ (bnd b9.2.2 600 (-128) 128) ∧ (-8 ≤ b9.1 ∧ b9.1 ≤ 24 ∧ 8 * (b9.2.1 - fiT 1) = 24 - b9.1)) ?_ (24, fiT 1, faY 0) (show inR 24 ∧ inR (fiT 1) ∧ (∀ t, inR ((faY 0) t)) ∧ (bnd (faY 0) 600 (-128) 128) ∧ (-8 ≤ 24 ∧ 24 ≤ 24 ∧ 8 * ((fiT 1) - fiT 1) = 24 - 24) from ⟨(by omega), (hRT 1), (hRaY 0), hB0Y, (by omega)⟩) hP hD hS hl
  rintro ⟨x2_1, n1T_2, g0Y_3⟩ ih hi9 H locs ls hP hD hS hl
  obtain ⟨r_x2_1, r_n1T_2, r_g0Y_3, b_g0Y_3, hinv⟩ : inR x2_1 ∧ inR n1T_2 ∧ (∀ t, inR (g0Y_3 t)) ∧ (bnd g0Y_3 600 (-128) 128) ∧ (-8 ≤ x2_1 ∧ x2_1 ≤ 24 ∧ 8 * (n1T_2 - fiT 1) = 24 - x2_1) := hi9
  obtain ⟨hP, hD⟩ : va_P G vwCl ((wT k arT (arY 0) (paT) (ppT) (pdT) (pbT) (pkT) (psT) (uF fiT 1 (n1T_2)) faT) ++ (wY k arY fiY (uF faY 0 (g0Y_3)))) H ∧ va_D A ((wT k arT (arY 0) (paT) (ppT) (pdT) (pbT) (pkT) (psT) (uF fiT 1 (n1T_2)) faT) ++ (wY k arY fiY (uF faY 0 (g0Y_3)))) := ⟨hP, hD⟩
  have hl : lv_has ls 3 [(2, .int (Int32.ofInt (x2_1))), (0, .ref (arT 99)), (1, .int (Int32.ofInt (a0)))] := hl
  refine lv_iload_n hx hb dX9_append_3 rfl (lv_at hl 0 rfl) ?_
  refine iv_if_lt (tgt := 46) hx hb (by omega) dX9_append_4 (by decide) (fun q4 => ?_) (fun q4 => ?_)
  · exact W.vret hx hb hr (fun t ht hW => ⟨⟨(n1T_2, g0Y_3), rfl, (show (inR n1T_2) ∧ (∀ t, inR (g0Y_3 t)) ∧ (bnd g0Y_3 600 (-128) 128) ∧ (n1T_2 = fiT 1 + 4) from ⟨(by omega), r_g0Y_3, b_g0Y_3, (by omega)⟩), by rw [ht]; exact hP, hD⟩, hS.F ht⟩) hS.2.2 dX9_append_46
  · refine lv_aload_n hx hb dX9_append_7 rfl (lv_at hl 1 rfl) ?_
    refine va_get (D := G) (ci := 6) (v := .int (Int32.ofInt (n1T_2))) (C := RX9) (T := TX9) (N := 11) (ref := RX9) hx hb hts h1w hown hX.1 hP 0 rfl rfl 1 (by decide) h0w (fun _ h9 => h9) rfl dX9_append_8 ?_
    refine lv_sipush (v := Int32.ofInt 600) hx hb dX9_append_11 (by decide +kernel) ?_
    refine iv_icmp_ge (tgt := 46) hx hb (by omega) (by omega) dX9_append_14 (by decide) (fun q5 => ?_) (fun q5 => ?_)
    · exact W.vret hx hb hr (fun t ht hW => ⟨⟨(n1T_2, g0Y_3), rfl, (show (inR n1T_2) ∧ (∀ t, inR (g0Y_3 t)) ∧ (bnd g0Y_3 600 (-128) 128) ∧ (n1T_2 = fiT 1 + 4) from ⟨(by omega), r_g0Y_3, b_g0Y_3, (by omega)⟩), by rw [ht]; exact hP, hD⟩, hS.F ht⟩) hS.2.2 dX9_append_46
    · refine lv_aload_n hx hb dX9_append_17 rfl (lv_at hl 1 rfl) ?_
      refine va_get (D := G) (ci := 6) (v := .ref (arY 0)) (C := RX9) (T := TX9) (N := 11) (ref := RX9) hx hb hts h1w hown hX.1 hP 0 rfl rfl 0 (by decide) h2w (fun _ h9 => h9) rfl dX9_append_18 ?_
      refine lv_aload_n hx hb dX9_append_21 rfl (lv_at hl 1 rfl) ?_
      refine va_get (D := G) (ci := 6) (v := .int (Int32.ofInt (n1T_2))) (C := RX9) (T := TX9) (N := 11) (ref := RX9) hx hb hts h1w hown hX.1 hP 0 rfl rfl 1 (by decide) h0w (fun _ h9 => h9) rfl dX9_append_22 ?_
      refine lv_iload_n hx hb dX9_append_25 rfl (lv_at hl 2 rfl) ?_
      refine lv_iload_n hx hb dX9_append_26 rfl (lv_at hl 0 rfl) ?_
      refine iv_shr hx hb dX9_append_27 ?_
      refine iv_top (fun z6 ez6 => ?_)
      have rz6 : inR z6 := ez6 ▸ bShr_r _ _
      refine iv_i2b hx hb dX9_append_28 ?_
      refine iv_top (fun z7 ez7 => ?_)
      have rz7 : inR z7 := ez7 ▸ bByte_r _
      have bz7 : -128 ≤ z7 ∧ z7 < 128 := ez7 ▸ bByte_b _
      refine iv_bast hx hb hX.1 hP hD hS 2 1 rfl rfl (fun g' => show _ = ((wT k arT (arY 0) (paT) (ppT) (pdT) (pbT) (pkT) (psT) (uF fiT 1 (n1T_2)) faT) ++ (wY k arY fiY (uF faY 0 (g')))) from rfl) (by omega) (by omega) (by omega) (by decide) dX9_append_29 (fun H locs hP hD hS => ?_)
      obtain ⟨hP, hD⟩ : va_P G vwCl ((wT k arT (arY 0) (paT) (ppT) (pdT) (pbT) (pkT) (psT) (uF fiT 1 (n1T_2)) faT) ++ (wY k arY fiY (uF faY 0 (uA (g0Y_3) (n1T_2) (z7))))) H ∧ va_D A ((wT k arT (arY 0) (paT) (ppT) (pdT) (pbT) (pkT) (psT) (uF fiT 1 (n1T_2)) faT) ++ (wY k arY fiY (uF faY 0 (uA (g0Y_3) (n1T_2) (z7))))) := ⟨hP, hD⟩
      obtain ⟨g8, eg8, rg8⟩ : ∃ z, z = uA (g0Y_3) (n1T_2) (z7) ∧ ∀ t, inR (z t) := ⟨_, rfl, iU r_g0Y_3 (by omega)⟩
      rw [← eg8] at hP hD
      have bg8 : bnd g8 600 (-128) 128 := bnd_up b_g0Y_3 (by omega) (by omega) eg8
      refine lv_aload_n hx hb dX9_append_30 rfl (lv_at hl 1 rfl) ?_
      refine lv_dup hx hb dX9_append_31 rfl ?_
      refine va_get (D := G) (ci := 6) (v := .int (Int32.ofInt (n1T_2))) (C := RX9) (T := TX9) (N := 11) (ref := RX9) hx hb hts h1w hown hX.1 hP 0 rfl rfl 1 (by decide) h0w (fun _ h9 => h9) rfl dX9_append_32 ?_
      refine lv_iconst (v := Int32.ofInt 1) hx hb dX9_append_35 (by decide +kernel) ?_
      refine iv_add (x := n1T_2) (y := 1) hx hb dX9_append_36 ?_
      refine iv_put (ci := 6) (v := .int (Int32.ofInt ((n1T_2 + 1)))) (ty := .int) (C := RX9) (T := TX9) (N := 11) (ref := RX9) hx hb hts h1w tyX9 tyX9_ok nmX9 hown hX.1 hP hD hS 0 rfl rfl 1 (by decide) h0w (fun _ h9 => h9) rfl (by decide +kernel) rfl rfl (Nat.le_of_ble_eq_true rfl) (show _ = ((wT k arT (arY 0) (paT) (ppT) (pdT) (pbT) (pkT) (psT) (uF fiT 1 ((n1T_2 + 1))) faT) ++ (wY k arY fiY (uF faY 0 (g8)))) from rfl) dX9_append_37 (fun H locs hP hD hS => ?_)
      refine lv_iinc (v := Int32.ofInt (x2_1 + (-8))) (lv' := [(2, .int (Int32.ofInt ((x2_1 + (-8))))), (0, .ref (arT 99)), (1, .int (Int32.ofInt (a0)))]) hx hb dX9_append_40 hl (k := 0) rfl (Int32.ofInt_add _ _).symm (by decide) rfl (fun ls hl => ?_)
      refine lv_goto (tgt := 3) hx hb dX9_append_43 (by decide) ?_
      have hl : lv_has ls 3 [(2, .int (Int32.ofInt ((x2_1 + (-8))))), (0, .ref (arT 99)), (1, .int (Int32.ofInt (a0)))] := lv_sub hl [0, 1, 2] rfl
      exact ih ((x2_1 + (-8)), (n1T_2 + 1), g8) (show ((x2_1 + (-8)) + 8).toNat < (x2_1 + 8).toNat from by omega) (show inR (x2_1 + (-8)) ∧ inR (n1T_2 + 1) ∧ (∀ t, inR (g8 t)) ∧ (bnd g8 600 (-128) 128) ∧ (-8 ≤ (x2_1 + (-8)) ∧ (x2_1 + (-8)) ≤ 24 ∧ 8 * ((n1T_2 + 1) - fiT 1) = 24 - (x2_1 + (-8))) from ⟨(by omega), (by omega), rg8, bg8, (by omega)⟩) _ _ _ hP hD hS hl

set_option maxHeartbeats 4000000 in
set_option maxRecDepth 100000 in
theorem mX9_feed (l : Launch) (G : va_G) (k : Nat → ClassId) (arT : Nat → Nat) (paT : Nat) (ppT : Nat) (pdT : Nat) (pbT : Nat) (pkT : Nat) (psT : Nat) (fiT : Nat → Int) (faT : Nat → Int → Int) (arY : Nat → Nat) (fiY : Nat → Int) (faY : Nat → Int → Int) (a0 : Int) (b0 : Int) (c0 : Int) (d0 : Int) (e0 : Int) (sz : Nat) (hRT : ∀ j, inR (fiT j)) (hRaT : ∀ j t, inR (faT j t)) (hRY : ∀ j, inR (fiY j)) (hRaY : ∀ j t, inR (faY j t)) (hB0Y : bnd (faY 0) 600 (-128) 128) (hr_a0 : inR a0) (hr_b0 : inR b0) (hr_c0 : inR c0) (hr_d0 : inR d0) (hr_e0 : inR e0) (hfd : 0 ≤ fiT 1 ∧ fiT 1 ≤ 600) : CNi l G k (EZ k) yX9_feed wzX9_feed ({ frames := 1, cells := 0, slots := 0, locals := 22 }) [.ref (arT 99), .int (Int32.ofInt (a0)), .int (Int32.ofInt (b0)), .int (Int32.ofInt (c0)), .int (Int32.ofInt (d0)), .int (Int32.ofInt (e0))] sz ((wT k arT (arY 0) (paT) (ppT) (pdT) (pbT) (pkT) (psT) fiT faT) ++ (wY k arY fiY faY)) (fun (r0 : Int32) (u : Int × Int × (Int → Int)) => r0 = Int32.ofInt (u.1) ∧ (inR u.1) ∧ (inR u.2.1) ∧ (∀ t, inR (u.2.2 t)) ∧ (bnd u.2.2 600 (-128) 128) ∧ ((fiT 1 ≤ 580 → u.2.1 = fiT 1 + 20 ∧ u.1 = u.2.1) ∧ (580 < fiT 1 → u.2.1 = fiT 1 ∧ u.1 = -1))) (fun (u : Int × Int × (Int → Int)) => ((wT k arT (arY 0) (paT) (ppT) (pdT) (pbT) (pkT) (psT) (uF fiT 1 (u.2.1)) faT) ++ (wY k arY fiY (uF faY 0 (u.2.2))))) := by
  refine Met.ofW (cc := cX9_feed) (maxL := 6) (ret := (some .int)) (by decide) rfl ?_
  intro p e s m args below meth c s₁ B hml hv
  obtain ⟨rfl, hsz, hP, hX, hD0, hZ0⟩ := hv
  have hx := B.exec
  have hb := B.bytes
  have hr := B.returns
  have hts := atoms_spec (ws := wzX9_feed) B.pre
  have hown : s.vm.findClass RX9 = some m.cls := findClass_of_methodNamed B.named
  subst hsz
  have hD := hD0.self (sz := s.heap.size)
  have hZ := hZ0
  generalize hAe : va_A ((wT k arT (arY 0) (paT) (ppT) (pdT) (pbT) (pkT) (psT) fiT faT) ++ (wY k arY fiY faY)) s.heap.size = A at hD hZ ⊢
  have hA : ∀ q : Nat, s.heap.size ≤ q → A q := fun q h => by rw [← hAe]; exact Or.inr h
  have hS : va_S A s.heap s.heap [] := va_S.rf
  have hl := lv_entry ([.ref (arT 99), .int (Int32.ofInt (a0)), .int (Int32.ofInt (b0)), .int (Int32.ofInt (c0)), .int (Int32.ofInt (d0)), .int (Int32.ofInt (e0))]) (n := 6) (Nat.le_of_ble_eq_true rfl)
  rw [lg_entry_eq]
  generalize (lg_sl ([.ref (arT 99), .int (Int32.ofInt (a0)), .int (Int32.ofInt (b0)), .int (Int32.ofInt (c0)), .int (Int32.ofInt (d0)), .int (Int32.ofInt (e0))]) ++ List.replicate (6 - (lg_sl ([.ref (arT 99), .int (Int32.ofInt (a0)), .int (Int32.ofInt (b0)), .int (Int32.ofInt (c0)), .int (Int32.ofInt (d0)), .int (Int32.ofInt (e0))])).length) Slot.unset).toArray = ls at hl ⊢
  have hl : lv_has ls 6 [(0, .ref (arT 99)), (1, .int (Int32.ofInt (a0))), (2, .int (Int32.ofInt (b0))), (3, .int (Int32.ofInt (c0))), (4, .int (Int32.ofInt (d0))), (5, .int (Int32.ofInt (e0)))] := hl
  obtain ⟨H, eH⟩ : ∃ H, H = s.heap := ⟨_, rfl⟩
  rw [← eH] at hP
  have hS : va_S A s.heap H [] := by rw [eH]; exact hS
  have gW : s.heap = H := eH.symm
  refine iv_heap gW ?_
  have h0w := hts (.fieldLink RX9 13 "RopeTown" "fed" "I") (wz_at 0 15 rfl)
  have h1w : ∀ w ∈ wsX90, w ∈ wzX9_feed := fun w h => List.mem_cons_of_mem _ (inlX9 w h)
  refine lv_aload_n hx hb dX9_feed_0 rfl (lv_at hl 0 rfl) ?_
  refine va_get (D := G) (ci := 6) (v := .int (Int32.ofInt (fiT 1))) (C := RX9) (T := TX9) (N := 11) (ref := RX9) hx hb hts h1w hown hX.1 hP 0 rfl rfl 1 (by decide) h0w (fun _ h9 => h9) rfl dX9_feed_1 ?_
  have rf1T := hRT 1
  refine lv_bipush (v := Int32.ofInt 20) hx hb dX9_feed_4 (by decide +kernel) ?_
  refine iv_add (x := fiT 1) (y := 20) hx hb dX9_feed_6 ?_
  refine lv_sipush (v := Int32.ofInt 600) hx hb dX9_feed_7 (by decide +kernel) ?_
  refine iv_icmp_le (tgt := 15) hx hb (by omega) (by omega) dX9_feed_10 (by decide) (fun q1 => ?_) (fun q1 => ?_)
  · refine lv_aload_n hx hb dX9_feed_15 rfl (lv_at hl 0 rfl) ?_
    refine lv_iload_n hx hb dX9_feed_16 rfl (lv_at hl 1 rfl) ?_
    refine cr_v (va_runV (As := [.int (Int32.ofInt (a0))]) (rest := []) ⟨hx, hb, hml, hown, hts⟩ (mX9_append l G k arT paT ppT pdT pbT pkT psT fiT faT arY fiY faY a0 H.size hRT hRaT hRY hRaY hB0Y (by omega) (show 0 ≤ (fiT 1) ∧ (fiT 1) ≤ 596 from by omega)) (cwV 1 hts (gz [.methodLink RX9 72 yX9_append, .instanceMethod yX9_append, .selects RX9 yX9_append yX9_append, .initialized RX9] (.code yX9_append cX9_append 3 none) [(8, 4), (8, 5), (8, 6), (0, 2), (8, 7)] rfl) rfl rfl rfl (by decide +kernel) ⟨Nat.le_of_ble_eq_true rfl, Nat.le_of_ble_eq_true rfl⟩) (cr_preV (EZ_ok k) hZ hS hX hP hD hA (ci := 6) (q0 := 0) rfl rfl) rfl rfl hl.1 rfl (lv_room (Nat.le_of_ble_eq_true rfl)) dX9_feed_17 ⟨Nat.le_of_ble_eq_true rfl, Nat.le_of_ble_eq_true rfl⟩) hD hS hA (fun u H locs hp hP hD hS => ?_)
    obtain ⟨c2, c3⟩ := u
    obtain ⟨hP, hD⟩ : va_P G vwCl ((wT k arT (arY 0) (paT) (ppT) (pdT) (pbT) (pkT) (psT) (uF fiT 1 (c2)) faT) ++ (wY k arY fiY (uF faY 0 (c3)))) H ∧ va_D A ((wT k arT (arY 0) (paT) (ppT) (pdT) (pbT) (pkT) (psT) (uF fiT 1 (c2)) faT) ++ (wY k arY fiY (uF faY 0 (c3)))) := ⟨hP, hD⟩
    obtain ⟨rc2, rc3, bc3, hp3⟩ : (inR c2) ∧ (∀ t, inR (c3 t)) ∧ (bnd c3 600 (-128) 128) ∧ (c2 = (fiT 1) + 4) := hp
    refine lv_aload_n hx hb dX9_feed_20 rfl (lv_at hl 0 rfl) ?_
    refine lv_iload_n hx hb dX9_feed_21 rfl (lv_at hl 2 rfl) ?_
    refine cr_v (va_runV (As := [.int (Int32.ofInt (b0))]) (rest := []) ⟨hx, hb, hml, hown, hts⟩ (mX9_append l G k arT paT ppT pdT pbT pkT psT (uF fiT 1 (c2)) faT arY fiY (uF faY 0 (c3)) b0 H.size (iF hRT (by omega)) hRaT hRY (iG hRaY rc3) bc3 (by omega) (show 0 ≤ c2 ∧ c2 ≤ 596 from by omega)) (cwV 1 hts (gz [.methodLink RX9 72 yX9_append, .instanceMethod yX9_append, .selects RX9 yX9_append yX9_append, .initialized RX9] (.code yX9_append cX9_append 3 none) [(8, 4), (8, 5), (8, 6), (0, 2), (8, 7)] rfl) rfl rfl rfl (by decide +kernel) ⟨Nat.le_of_ble_eq_true rfl, Nat.le_of_ble_eq_true rfl⟩) (cr_preV (EZ_ok k) hZ hS hX hP hD hA (ci := 6) (q0 := 0) rfl rfl) rfl rfl hl.1 rfl (lv_room (Nat.le_of_ble_eq_true rfl)) dX9_feed_22 ⟨Nat.le_of_ble_eq_true rfl, Nat.le_of_ble_eq_true rfl⟩) hD hS hA (fun u H locs hp hP hD hS => ?_)
    obtain ⟨c4, c5⟩ := u
    obtain ⟨hP, hD⟩ : va_P G vwCl ((wT k arT (arY 0) (paT) (ppT) (pdT) (pbT) (pkT) (psT) (uF fiT 1 (c4)) faT) ++ (wY k arY fiY (uF faY 0 (c5)))) H ∧ va_D A ((wT k arT (arY 0) (paT) (ppT) (pdT) (pbT) (pkT) (psT) (uF fiT 1 (c4)) faT) ++ (wY k arY fiY (uF faY 0 (c5)))) := ⟨hP, hD⟩
    obtain ⟨rc4, rc5, bc5, hp5⟩ : (inR c4) ∧ (∀ t, inR (c5 t)) ∧ (bnd c5 600 (-128) 128) ∧ (c4 = c2 + 4) := hp
    refine lv_aload_n hx hb dX9_feed_25 rfl (lv_at hl 0 rfl) ?_
    refine lv_iload_n hx hb dX9_feed_26 rfl (lv_at hl 3 rfl) ?_
    refine cr_v (va_runV (As := [.int (Int32.ofInt (c0))]) (rest := []) ⟨hx, hb, hml, hown, hts⟩ (mX9_append l G k arT paT ppT pdT pbT pkT psT (uF fiT 1 (c4)) faT arY fiY (uF faY 0 (c5)) c0 H.size (iF hRT (by omega)) hRaT hRY (iG hRaY rc5) bc5 (by omega) (show 0 ≤ c4 ∧ c4 ≤ 596 from by omega)) (cwV 1 hts (gz [.methodLink RX9 72 yX9_append, .instanceMethod yX9_append, .selects RX9 yX9_append yX9_append, .initialized RX9] (.code yX9_append cX9_append 3 none) [(8, 4), (8, 5), (8, 6), (0, 2), (8, 7)] rfl) rfl rfl rfl (by decide +kernel) ⟨Nat.le_of_ble_eq_true rfl, Nat.le_of_ble_eq_true rfl⟩) (cr_preV (EZ_ok k) hZ hS hX hP hD hA (ci := 6) (q0 := 0) rfl rfl) rfl rfl hl.1 rfl (lv_room (Nat.le_of_ble_eq_true rfl)) dX9_feed_27 ⟨Nat.le_of_ble_eq_true rfl, Nat.le_of_ble_eq_true rfl⟩) hD hS hA (fun u H locs hp hP hD hS => ?_)
    obtain ⟨c6, c7⟩ := u
    obtain ⟨hP, hD⟩ : va_P G vwCl ((wT k arT (arY 0) (paT) (ppT) (pdT) (pbT) (pkT) (psT) (uF fiT 1 (c6)) faT) ++ (wY k arY fiY (uF faY 0 (c7)))) H ∧ va_D A ((wT k arT (arY 0) (paT) (ppT) (pdT) (pbT) (pkT) (psT) (uF fiT 1 (c6)) faT) ++ (wY k arY fiY (uF faY 0 (c7)))) := ⟨hP, hD⟩
    obtain ⟨rc6, rc7, bc7, hp7⟩ : (inR c6) ∧ (∀ t, inR (c7 t)) ∧ (bnd c7 600 (-128) 128) ∧ (c6 = c4 + 4) := hp
    refine lv_aload_n hx hb dX9_feed_30 rfl (lv_at hl 0 rfl) ?_
    refine lv_iload hx hb dX9_feed_31 (lv_at hl 4 rfl) ?_
    refine cr_v (va_runV (As := [.int (Int32.ofInt (d0))]) (rest := []) ⟨hx, hb, hml, hown, hts⟩ (mX9_append l G k arT paT ppT pdT pbT pkT psT (uF fiT 1 (c6)) faT arY fiY (uF faY 0 (c7)) d0 H.size (iF hRT (by omega)) hRaT hRY (iG hRaY rc7) bc7 (by omega) (show 0 ≤ c6 ∧ c6 ≤ 596 from by omega)) (cwV 1 hts (gz [.methodLink RX9 72 yX9_append, .instanceMethod yX9_append, .selects RX9 yX9_append yX9_append, .initialized RX9] (.code yX9_append cX9_append 3 none) [(8, 4), (8, 5), (8, 6), (0, 2), (8, 7)] rfl) rfl rfl rfl (by decide +kernel) ⟨Nat.le_of_ble_eq_true rfl, Nat.le_of_ble_eq_true rfl⟩) (cr_preV (EZ_ok k) hZ hS hX hP hD hA (ci := 6) (q0 := 0) rfl rfl) rfl rfl hl.1 rfl (lv_room (Nat.le_of_ble_eq_true rfl)) dX9_feed_33 ⟨Nat.le_of_ble_eq_true rfl, Nat.le_of_ble_eq_true rfl⟩) hD hS hA (fun u H locs hp hP hD hS => ?_)
    obtain ⟨c8, c9⟩ := u
    obtain ⟨hP, hD⟩ : va_P G vwCl ((wT k arT (arY 0) (paT) (ppT) (pdT) (pbT) (pkT) (psT) (uF fiT 1 (c8)) faT) ++ (wY k arY fiY (uF faY 0 (c9)))) H ∧ va_D A ((wT k arT (arY 0) (paT) (ppT) (pdT) (pbT) (pkT) (psT) (uF fiT 1 (c8)) faT) ++ (wY k arY fiY (uF faY 0 (c9)))) := ⟨hP, hD⟩
    obtain ⟨rc8, rc9, bc9, hp9⟩ : (inR c8) ∧ (∀ t, inR (c9 t)) ∧ (bnd c9 600 (-128) 128) ∧ (c8 = c6 + 4) := hp
    refine lv_aload_n hx hb dX9_feed_36 rfl (lv_at hl 0 rfl) ?_
    refine lv_iload hx hb dX9_feed_37 (lv_at hl 5 rfl) ?_
    refine cr_v (va_runV (As := [.int (Int32.ofInt (e0))]) (rest := []) ⟨hx, hb, hml, hown, hts⟩ (mX9_append l G k arT paT ppT pdT pbT pkT psT (uF fiT 1 (c8)) faT arY fiY (uF faY 0 (c9)) e0 H.size (iF hRT (by omega)) hRaT hRY (iG hRaY rc9) bc9 (by omega) (show 0 ≤ c8 ∧ c8 ≤ 596 from by omega)) (cwV 1 hts (gz [.methodLink RX9 72 yX9_append, .instanceMethod yX9_append, .selects RX9 yX9_append yX9_append, .initialized RX9] (.code yX9_append cX9_append 3 none) [(8, 4), (8, 5), (8, 6), (0, 2), (8, 7)] rfl) rfl rfl rfl (by decide +kernel) ⟨Nat.le_of_ble_eq_true rfl, Nat.le_of_ble_eq_true rfl⟩) (cr_preV (EZ_ok k) hZ hS hX hP hD hA (ci := 6) (q0 := 0) rfl rfl) rfl rfl hl.1 rfl (lv_room (Nat.le_of_ble_eq_true rfl)) dX9_feed_39 ⟨Nat.le_of_ble_eq_true rfl, Nat.le_of_ble_eq_true rfl⟩) hD hS hA (fun u H locs hp hP hD hS => ?_)
    obtain ⟨c10, c11⟩ := u
    obtain ⟨hP, hD⟩ : va_P G vwCl ((wT k arT (arY 0) (paT) (ppT) (pdT) (pbT) (pkT) (psT) (uF fiT 1 (c10)) faT) ++ (wY k arY fiY (uF faY 0 (c11)))) H ∧ va_D A ((wT k arT (arY 0) (paT) (ppT) (pdT) (pbT) (pkT) (psT) (uF fiT 1 (c10)) faT) ++ (wY k arY fiY (uF faY 0 (c11)))) := ⟨hP, hD⟩
    obtain ⟨rc10, rc11, bc11, hp11⟩ : (inR c10) ∧ (∀ t, inR (c11 t)) ∧ (bnd c11 600 (-128) 128) ∧ (c10 = c8 + 4) := hp
    refine lv_aload_n hx hb dX9_feed_42 rfl (lv_at hl 0 rfl) ?_
    refine va_get (D := G) (ci := 6) (v := .int (Int32.ofInt (c10))) (C := RX9) (T := TX9) (N := 11) (ref := RX9) hx hb hts h1w hown hX.1 hP 0 rfl rfl 1 (by decide) h0w (fun _ h9 => h9) rfl dX9_feed_43 ?_
    exact W.iret (v := Int32.ofInt (c10)) hx hb hr (fun t ht hW => ⟨⟨Int32.ofInt (c10), (c10, c10, c11), rfl, ⟨rfl, (show (inR c10) ∧ (inR c10) ∧ (∀ t, inR (c11 t)) ∧ (bnd c11 600 (-128) 128) ∧ ((fiT 1 ≤ 580 → c10 = fiT 1 + 20 ∧ c10 = c10) ∧ (580 < fiT 1 → c10 = fiT 1 ∧ c10 = -1)) from ⟨(by omega), (by omega), rc11, bc11, (by omega)⟩)⟩, by rw [ht]; exact hP, hD⟩, hS.F ht⟩) hS.2.2 dX9_feed_46
  · refine lv_iconst (v := Int32.ofInt (-1)) hx hb dX9_feed_13 (by decide +kernel) ?_
    exact W.iret (v := Int32.ofInt ((-1))) hx hb hr (fun t ht hW => ⟨⟨Int32.ofInt ((-1)), ((-1), fiT 1, faY 0), rfl, ⟨rfl, (show (inR (-1)) ∧ (inR (fiT 1)) ∧ (∀ t, inR ((faY 0) t)) ∧ (bnd (faY 0) 600 (-128) 128) ∧ ((fiT 1 ≤ 580 → (fiT 1) = fiT 1 + 20 ∧ (-1) = (fiT 1)) ∧ (580 < fiT 1 → (fiT 1) = fiT 1 ∧ (-1) = -1)) from ⟨(by omega), (hRT 1), (hRaY 0), hB0Y, (by omega)⟩)⟩, by rw [ht]; exact hP, hD⟩, hS.F ht⟩) hS.2.2 dX9_feed_14

set_option maxHeartbeats 4000000 in
set_option maxRecDepth 100000 in
theorem mX9_fault (l : Launch) (G : va_G) (k : Nat → ClassId) (ar : Nat → Nat) (tp : Nat) (pa : Nat) (pp : Nat) (pd : Nat) (pb : Nat) (pk : Nat) (ps : Nat) (fi : Nat → Int) (fa : Nat → Int → Int) (sz : Nat) (hR : ∀ j, inR (fi j)) (hRa : ∀ j t, inR (fa j t)) : CNi l G k (EZ k) yX9_fault wzX9_fault ({ frames := 0, cells := 0, slots := 0, locals := 0 }) [.ref (ar 99)] sz (wT k ar (tp) (pa) (pp) (pd) (pb) (pk) (ps) fi fa) (fun (r0 : Int32) (u : Int) => r0 = Int32.ofInt (u) ∧ (inR u) ∧ (True)) (fun (u : Int) => (wT k ar (tp) (pa) (pp) (pd) (pb) (pk) (ps) fi fa)) := by
  refine Met.ofW (cc := cX9_fault) (maxL := 1) (ret := (some .int)) (by decide) rfl ?_
  intro p e s m args below meth c s₁ B hml hv
  obtain ⟨rfl, hsz, hP, hX, hD0, hZ0⟩ := hv
  have hx := B.exec
  have hb := B.bytes
  have hr := B.returns
  have hts := atoms_spec (ws := wzX9_fault) B.pre
  have hown : s.vm.findClass RX9 = some m.cls := findClass_of_methodNamed B.named
  subst hsz
  have hD := hD0.self (sz := s.heap.size)
  have hZ := hZ0
  generalize hAe : va_A (wT k ar (tp) (pa) (pp) (pd) (pb) (pk) (ps) fi fa) s.heap.size = A at hD hZ ⊢
  have hA : ∀ q : Nat, s.heap.size ≤ q → A q := fun q h => by rw [← hAe]; exact Or.inr h
  have hS : va_S A s.heap s.heap [] := va_S.rf
  have hl := lv_entry ([.ref (ar 99)]) (n := 1) (Nat.le_of_ble_eq_true rfl)
  rw [lg_entry_eq]
  generalize (lg_sl ([.ref (ar 99)]) ++ List.replicate (1 - (lg_sl ([.ref (ar 99)])).length) Slot.unset).toArray = ls at hl ⊢
  have hl : lv_has ls 1 [(0, .ref (ar 99))] := hl
  obtain ⟨H, eH⟩ : ∃ H, H = s.heap := ⟨_, rfl⟩
  rw [← eH] at hP
  have hS : va_S A s.heap H [] := by rw [eH]; exact hS
  have gW : s.heap = H := eH.symm
  refine iv_heap gW ?_
  have h0w := hts (.fieldLink RX9 17 "RopeTown" "faultPlace" "I") (wz_at 0 16 rfl)
  have h1w : ∀ w ∈ wsX90, w ∈ wzX9_fault := fun w h => List.mem_cons_of_mem _ (inlX9 w h)
  refine lv_aload_n hx hb dX9_fault_0 rfl (lv_at hl 0 rfl) ?_
  refine va_get (D := G) (ci := 6) (v := .int (Int32.ofInt (fi 2))) (C := RX9) (T := TX9) (N := 11) (ref := RX9) hx hb hts h1w hown hX.1 hP 0 rfl rfl 2 (by decide) h0w (fun _ h9 => h9) rfl dX9_fault_1 ?_
  have rf2 := hR 2
  exact W.iret (v := Int32.ofInt (fi 2)) hx hb hr (fun t ht hW => ⟨⟨Int32.ofInt (fi 2), (fi 2), rfl, ⟨rfl, (show (inR (fi 2)) ∧ (True) from ⟨(hR 2), trivial⟩)⟩, by rw [ht]; exact hP, hD⟩, hS.F ht⟩) hS.2.2 dX9_fault_4

