set_option maxHeartbeats 4000000 in
set_option maxRecDepth 100000 in
theorem mX3_clear (l : Launch) (G : va_G) (k : Nat → ClassId) (ar : Nat → Nat) (fi : Nat → Int) (fa : Nat → Int → Int) (sz : Nat) (hR : ∀ j, inR (fi j)) (hRa : ∀ j t, inR (fa j t)) (hB8 : bnd (fa 8) 7 0 4) (hB20 : bnd (fa 20) 600 (-1000) 10000) (hB21 : bnd (fa 21) 4 0 601) : CNv l G k (EZ k) yX3_clear wzX3_clear ({ frames := 1, cells := 0, slots := 0, locals := 20 }) [.ref (ar 99)] sz (wP k ar fi fa) (fun (u : Int × Int × Int × Int × Int × Int × Int × Int × Int × Int) => (inR u.1) ∧ (inR u.2.1) ∧ (inR u.2.2.1) ∧ (inR u.2.2.2.1) ∧ (inR u.2.2.2.2.1) ∧ (inR u.2.2.2.2.2.1) ∧ (inR u.2.2.2.2.2.2.1) ∧ (inR u.2.2.2.2.2.2.2.1) ∧ (inR u.2.2.2.2.2.2.2.2.1) ∧ (inR u.2.2.2.2.2.2.2.2.2) ∧ (u.1 = 1 ∧ u.2.1 = 0 ∧ u.2.2.1 = 99 ∧ u.2.2.2.1 = 0 ∧ u.2.2.2.2.1 = 1 ∧ u.2.2.2.2.2.1 = 20 ∧ u.2.2.2.2.2.2.1 = 0 ∧ u.2.2.2.2.2.2.2.1 = 0 ∧ u.2.2.2.2.2.2.2.2.1 = 0 ∧ u.2.2.2.2.2.2.2.2.2 = 0)) (fun (u : Int × Int × Int × Int × Int × Int × Int × Int × Int × Int) => (wP k ar (uF (uF (uF (uF (uF (uF (uF (uF (uF (uF fi 0 (u.1)) 1 (u.2.1)) 2 (u.2.2.1)) 3 (u.2.2.2.1)) 4 (u.2.2.2.2.1)) 5 (u.2.2.2.2.2.1)) 6 (u.2.2.2.2.2.2.1)) 7 (u.2.2.2.2.2.2.2.1)) 23 (u.2.2.2.2.2.2.2.2.1)) 24 (u.2.2.2.2.2.2.2.2.2)) fa)) := by
  refine Met.ofW (cc := cX3_clear) (maxL := 1) (ret := none) (by decide) rfl ?_
  intro p e s m args below meth c s₁ B hml hv
  obtain ⟨rfl, hsz, hP, hX, hD0, hZ0⟩ := hv
  have hx := B.exec
  have hb := B.bytes
  have hr := B.returns
  have hts := atoms_spec (ws := wzX3_clear) B.pre
  have hown : s.vm.findClass RX3 = some m.cls := findClass_of_methodNamed B.named
  subst hsz
  have hD := hD0.self (sz := s.heap.size)
  have hZ := hZ0
  generalize hAe : va_A (wP k ar fi fa) s.heap.size = A at hD hZ ⊢
  have hA : ∀ q : Nat, s.heap.size ≤ q → A q := fun q h => by rw [← hAe]; exact Or.inr h
  have hS : va_S A s.heap s.heap [] := va_S.rf
  have hl := lv_entry ([.ref (ar 99)]) (n := 1) (Nat.le_of_ble_eq_true rfl)
  rw [lg_entry_eq]
  generalize (lg_sl ([.ref (ar 99)]) ++ List.replicate (1 - (lg_sl ([.ref (ar 99)])).length) Slot.unset).toArray = ls at hl ⊢
  have hl : lv_has ls 1 [(0, .ref (ar 99))] := hl
  obtain ⟨H, eH⟩ : ∃ H, H = s.heap := ⟨_, rfl⟩
  rw [← eH] at hP
  have hS : va_S A s.heap H [] := by rw [eH]; exact hS
  have gW : s.heap = H := eH.symm
  refine iv_heap gW ?_
  have h0w := hts (.fieldLink RX3 37 "RopeTown$Plan" "bottom" "I") (wz_at 2 18 rfl)
  have h1w : ∀ w ∈ wsX30, w ∈ wzX3_clear := fun w h => List.mem_cons_of_mem _ (inlX3 w h)
  have h2w := hts (.fieldLink RX3 41 "RopeTown$Plan" "start" "I") (wz_at 2 19 rfl)
  have h3w := hts (.fieldLink RX3 44 "RopeTown$Plan" "cap" "I") (wz_at 2 20 rfl)
  have h4w := hts (.fieldLink RX3 47 "RopeTown$Plan" "rope" "I") (wz_at 2 21 rfl)
  have h5w := hts (.fieldLink RX3 50 "RopeTown$Plan" "needs" "I") (wz_at 2 22 rfl)
  have h6w := hts (.fieldLink RX3 53 "RopeTown$Plan" "most" "I") (wz_at 2 23 rfl)
  have h7w := hts (.fieldLink RX3 56 "RopeTown$Plan" "brake" "I") (wz_at 3 0 rfl)
  have h8w := hts (.fieldLink RX3 59 "RopeTown$Plan" "things" "I") (wz_at 3 1 rfl)
  have h9w := hts (.fieldLink RX3 27 "RopeTown$Plan" "rules" "LRopeTown$Rules;") (wz_at 2 0 rfl)
  have h10w := hts (.initialized RX5) (wz_at 1 23 rfl)
  have h11w := hts (.instanceMethod yX5_clear) (wz_at 2 9 rfl)
  have h12w := hts (.selects RX5 yX5_clear yX5_clear) (wz_at 2 10 rfl)
  refine lv_aload_n hx hb dX3_clear_0 rfl (lv_at hl 0 rfl) ?_
  refine lv_iconst (v := Int32.ofInt 1) hx hb dX3_clear_1 (by decide +kernel) ?_
  refine iv_put (ci := 2) (v := .int (Int32.ofInt (1))) (ty := .int) (C := RX3) (T := TX3) (N := 14) (ref := RX3) hx hb hts h1w tyX3 tyX3_ok nmX3 hown hX.1 hP hD hS 0 rfl rfl 0 (by decide) h0w (fun _ h9 => h9) rfl (by decide +kernel) rfl rfl (Nat.le_of_ble_eq_true rfl) (show _ = (wP k ar (uF fi 0 (1)) fa) from rfl) dX3_clear_2 (fun H locs hP hD hS => ?_)
  refine lv_aload_n hx hb dX3_clear_5 rfl (lv_at hl 0 rfl) ?_
  refine lv_iconst (v := Int32.ofInt 0) hx hb dX3_clear_6 (by decide +kernel) ?_
  refine iv_put (ci := 2) (v := .int (Int32.ofInt (0))) (ty := .int) (C := RX3) (T := TX3) (N := 14) (ref := RX3) hx hb hts h1w tyX3 tyX3_ok nmX3 hown hX.1 hP hD hS 0 rfl rfl 1 (by decide) h2w (fun _ h9 => h9) rfl (by decide +kernel) rfl rfl (Nat.le_of_ble_eq_true rfl) (show _ = (wP k ar (uF (uF fi 0 (1)) 1 (0)) fa) from rfl) dX3_clear_7 (fun H locs hP hD hS => ?_)
  refine lv_aload_n hx hb dX3_clear_10 rfl (lv_at hl 0 rfl) ?_
  refine lv_bipush (v := Int32.ofInt 99) hx hb dX3_clear_11 (by decide +kernel) ?_
  refine iv_put (ci := 2) (v := .int (Int32.ofInt (99))) (ty := .int) (C := RX3) (T := TX3) (N := 14) (ref := RX3) hx hb hts h1w tyX3 tyX3_ok nmX3 hown hX.1 hP hD hS 0 rfl rfl 2 (by decide) h3w (fun _ h9 => h9) rfl (by decide +kernel) rfl rfl (Nat.le_of_ble_eq_true rfl) (show _ = (wP k ar (uF (uF (uF fi 0 (1)) 1 (0)) 2 (99)) fa) from rfl) dX3_clear_13 (fun H locs hP hD hS => ?_)
  refine lv_aload_n hx hb dX3_clear_16 rfl (lv_at hl 0 rfl) ?_
  refine lv_iconst (v := Int32.ofInt 0) hx hb dX3_clear_17 (by decide +kernel) ?_
  refine iv_put (ci := 2) (v := .int (Int32.ofInt (0))) (ty := .int) (C := RX3) (T := TX3) (N := 14) (ref := RX3) hx hb hts h1w tyX3 tyX3_ok nmX3 hown hX.1 hP hD hS 0 rfl rfl 3 (by decide) h4w (fun _ h9 => h9) rfl (by decide +kernel) rfl rfl (Nat.le_of_ble_eq_true rfl) (show _ = (wP k ar (uF (uF (uF (uF fi 0 (1)) 1 (0)) 2 (99)) 3 (0)) fa) from rfl) dX3_clear_18 (fun H locs hP hD hS => ?_)
  refine lv_aload_n hx hb dX3_clear_21 rfl (lv_at hl 0 rfl) ?_
  refine lv_iconst (v := Int32.ofInt 1) hx hb dX3_clear_22 (by decide +kernel) ?_
  refine iv_put (ci := 2) (v := .int (Int32.ofInt (1))) (ty := .int) (C := RX3) (T := TX3) (N := 14) (ref := RX3) hx hb hts h1w tyX3 tyX3_ok nmX3 hown hX.1 hP hD hS 0 rfl rfl 4 (by decide) h5w (fun _ h9 => h9) rfl (by decide +kernel) rfl rfl (Nat.le_of_ble_eq_true rfl) (show _ = (wP k ar (uF (uF (uF (uF (uF fi 0 (1)) 1 (0)) 2 (99)) 3 (0)) 4 (1)) fa) from rfl) dX3_clear_23 (fun H locs hP hD hS => ?_)
  refine lv_aload_n hx hb dX3_clear_26 rfl (lv_at hl 0 rfl) ?_
  refine lv_bipush (v := Int32.ofInt 20) hx hb dX3_clear_27 (by decide +kernel) ?_
  refine iv_put (ci := 2) (v := .int (Int32.ofInt (20))) (ty := .int) (C := RX3) (T := TX3) (N := 14) (ref := RX3) hx hb hts h1w tyX3 tyX3_ok nmX3 hown hX.1 hP hD hS 0 rfl rfl 5 (by decide) h6w (fun _ h9 => h9) rfl (by decide +kernel) rfl rfl (Nat.le_of_ble_eq_true rfl) (show _ = (wP k ar (uF (uF (uF (uF (uF (uF fi 0 (1)) 1 (0)) 2 (99)) 3 (0)) 4 (1)) 5 (20)) fa) from rfl) dX3_clear_29 (fun H locs hP hD hS => ?_)
  refine lv_aload_n hx hb dX3_clear_32 rfl (lv_at hl 0 rfl) ?_
  refine lv_iconst (v := Int32.ofInt 0) hx hb dX3_clear_33 (by decide +kernel) ?_
  refine iv_put (ci := 2) (v := .int (Int32.ofInt (0))) (ty := .int) (C := RX3) (T := TX3) (N := 14) (ref := RX3) hx hb hts h1w tyX3 tyX3_ok nmX3 hown hX.1 hP hD hS 0 rfl rfl 6 (by decide) h7w (fun _ h9 => h9) rfl (by decide +kernel) rfl rfl (Nat.le_of_ble_eq_true rfl) (show _ = (wP k ar (uF (uF (uF (uF (uF (uF (uF fi 0 (1)) 1 (0)) 2 (99)) 3 (0)) 4 (1)) 5 (20)) 6 (0)) fa) from rfl) dX3_clear_34 (fun H locs hP hD hS => ?_)
  refine lv_aload_n hx hb dX3_clear_37 rfl (lv_at hl 0 rfl) ?_
  refine lv_iconst (v := Int32.ofInt 0) hx hb dX3_clear_38 (by decide +kernel) ?_
  refine iv_put (ci := 2) (v := .int (Int32.ofInt (0))) (ty := .int) (C := RX3) (T := TX3) (N := 14) (ref := RX3) hx hb hts h1w tyX3 tyX3_ok nmX3 hown hX.1 hP hD hS 0 rfl rfl 7 (by decide) h8w (fun _ h9 => h9) rfl (by decide +kernel) rfl rfl (Nat.le_of_ble_eq_true rfl) (show _ = (wP k ar (uF (uF (uF (uF (uF (uF (uF (uF fi 0 (1)) 1 (0)) 2 (99)) 3 (0)) 4 (1)) 5 (20)) 6 (0)) 7 (0)) fa) from rfl) dX3_clear_39 (fun H locs hP hD hS => ?_)
  refine lv_aload_n hx hb dX3_clear_42 rfl (lv_at hl 0 rfl) ?_
  refine va_get (D := G) (ci := 2) (v := .ref (ar 98)) (C := RX3) (T := TX3) (N := 14) (ref := RX3) hx hb hts h1w hown hX.1 hP 0 rfl rfl 12 (by decide) h9w (fun _ h9 => h9) rfl dX3_clear_43 ?_
  refine cr_v (va_runVN (As := []) (rest := []) ⟨hx, hb, hml, hown, hts⟩ (mX5_clear l G k ar (uF (uF (uF (uF (uF (uF (uF (uF fi 0 (1)) 1 (0)) 2 (99)) 3 (0)) 4 (1)) 5 (20)) 6 (0)) 7 (0)) fa H.size (iF (iF (iF (iF (iF (iF (iF (iF hR (by omega)) (by omega)) (by omega)) (by omega)) (by omega)) (by omega)) (by omega)) (by omega)) hRa hB8 hB20 hB21) ⟨va_cnB 0 hts (gz [] (.code yX5_clear cX5_clear 1 none) [(2, 11)] rfl) rfl rfl rfl (nm_2 hX.2.2.1) h10w (by decide +kernel) ⟨Nat.le_of_ble_eq_true rfl, Nat.le_of_ble_eq_true rfl⟩, h11w, h12w⟩ (cr_preV (EZ_ok k) hZ hS hX hP hD hA (ci := 4) (q0 := 1) rfl rfl) rfl rfl hl.1 rfl (lv_room (Nat.le_of_ble_eq_true rfl)) dX3_clear_46 ⟨Nat.le_of_ble_eq_true rfl, Nat.le_of_ble_eq_true rfl⟩) hD hS hA (fun u H locs hp hP hD hS => ?_)
  obtain ⟨c1, c2⟩ := u
  obtain ⟨hP, hD⟩ : va_P G vwCl (wP k ar (uF (uF (uF (uF (uF (uF (uF (uF (uF (uF fi 0 (1)) 1 (0)) 2 (99)) 3 (0)) 4 (1)) 5 (20)) 6 (0)) 7 (0)) 23 (c1)) 24 (c2)) fa) H ∧ va_D A (wP k ar (uF (uF (uF (uF (uF (uF (uF (uF (uF (uF fi 0 (1)) 1 (0)) 2 (99)) 3 (0)) 4 (1)) 5 (20)) 6 (0)) 7 (0)) 23 (c1)) 24 (c2)) fa) := ⟨hP, hD⟩
  obtain ⟨rc1, rc2, hp2⟩ : (inR c1) ∧ (inR c2) ∧ (c1 = 0 ∧ c2 = 0) := hp
  exact W.vret hx hb hr (fun t ht hW => ⟨⟨(1, 0, 99, 0, 1, 20, 0, 0, c1, c2), rfl, (show (inR 1) ∧ (inR 0) ∧ (inR 99) ∧ (inR 0) ∧ (inR 1) ∧ (inR 20) ∧ (inR 0) ∧ (inR 0) ∧ (inR c1) ∧ (inR c2) ∧ (1 = 1 ∧ 0 = 0 ∧ 99 = 99 ∧ 0 = 0 ∧ 1 = 1 ∧ 20 = 20 ∧ 0 = 0 ∧ 0 = 0 ∧ c1 = 0 ∧ c2 = 0) from ⟨(by omega), (by omega), (by omega), (by omega), (by omega), (by omega), (by omega), (by omega), (by omega), (by omega), (by omega)⟩), by rw [ht]; exact hP, hD⟩, hS.F ht⟩) hS.2.2 dX3_clear_49

