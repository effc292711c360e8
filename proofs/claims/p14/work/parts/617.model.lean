set_option maxHeartbeats 4000000 in
set_option maxRecDepth 100000 in
theorem mX10_rideOn (l : Launch) (G : va_G) (k : Nat → ClassId) (ar : Nat → Nat) (fi : Nat → Int) (fa : Nat → Int → Int) (fl : Nat → Int64) (sz : Nat) (hR : ∀ j, inR (fi j)) (hRa : ∀ j t, inR (fa j t)) (hth : 0 ≤ fi 12 ∧ fi 12 ≤ 7) (hru : 0 ≤ fi 13 ∧ fi 13 ≤ 4) (hRW : ∀ q9, 0 ≤ q9 → q9 < fi 13 → RWf (fa 10) (fa 8 q9) (fa 9 q9)) (hdp : 0 ≤ fa 3 0 ∧ fa 3 0 ≤ 11) (s1 : 0 ≤ fi 50) (s2 : fi 50 ≤ 1500) (s3 : ∀ f, 0 ≤ f → f < 8192 → -1 ≤ fa 48 f ∧ fa 48 f < fi 50) (s4 : ∀ t, 0 ≤ t → t < fi 50 → -1 ≤ fa 47 t ∧ fa 47 t < t) : CNv l G k (EZ k) yX10_rideOn wzX10_rideOn ({ frames := 4, cells := 0, slots := 0, locals := 95 }) [.ref (ar 71)] sz (wM k ar fi fa fl) (fun (u : (Int → Int) × (Int → Int) × (Int → Int) × (Int → Int) × (Int → Int) × (Int → Int) × Int × Int × Int × Int × Int × (Nat → Int64)) => (∀ t, inR (u.1 t)) ∧ (∀ t, inR (u.2.1 t)) ∧ (∀ t, inR (u.2.2.1 t)) ∧ (∀ t, inR (u.2.2.2.1 t)) ∧ (∀ t, inR (u.2.2.2.2.1 t)) ∧ (∀ t, inR (u.2.2.2.2.2.1 t)) ∧ (inR u.2.2.2.2.2.2.1) ∧ (inR u.2.2.2.2.2.2.2.1) ∧ (inR u.2.2.2.2.2.2.2.2.1) ∧ (inR u.2.2.2.2.2.2.2.2.2.1) ∧ (inR u.2.2.2.2.2.2.2.2.2.2.1) ∧ (0 ≤ u.2.2.2.2.2.2.2.2.2.1 ∧ u.2.2.2.2.2.2.2.2.2.1 ≤ 1500 ∧ (∀ f, 0 ≤ f → f < 8192 → -1 ≤ u.2.2.2.2.1 f ∧ u.2.2.2.2.1 f < u.2.2.2.2.2.2.2.2.2.1) ∧ (∀ t, 0 ≤ t → t < u.2.2.2.2.2.2.2.2.2.1 → -1 ≤ u.2.2.2.1 t ∧ u.2.2.2.1 t < t) ∧ FR (fi 50) (fa 49) u.2.2.2.2.2.2.2.2.2.1 u.2.2.2.2.2.1)) (fun (u : (Int → Int) × (Int → Int) × (Int → Int) × (Int → Int) × (Int → Int) × (Int → Int) × Int × Int × Int × Int × Int × (Nat → Int64)) => (wM k ar (uF (uF (uF (uF (uF fi 41 (u.2.2.2.2.2.2.1)) 42 (u.2.2.2.2.2.2.2.1)) 43 (u.2.2.2.2.2.2.2.2.1)) 50 (u.2.2.2.2.2.2.2.2.2.1)) 52 (u.2.2.2.2.2.2.2.2.2.2.1)) (uF (uF (uF (uF (uF (uF fa 39 (u.1)) 40 (u.2.1)) 46 (u.2.2.1)) 47 (u.2.2.2.1)) 48 (u.2.2.2.2.1)) 49 (u.2.2.2.2.2.1)) u.2.2.2.2.2.2.2.2.2.2.2)) := by
  refine Met.ofW (cc := cX10_rideOn) (maxL := 2) (ret := none) (by decide) rfl ?_
  intro p e s m args below meth c s₁ B hml hv
  obtain ⟨rfl, hsz, hP, hX, hD0, hZ0⟩ := hv
  have hx := B.exec
  have hb := B.bytes
  have hr := B.returns
  have hts := atoms_spec (ws := wzX10_rideOn) B.pre
  have hown : s.vm.findClass RX10 = some m.cls := findClass_of_methodNamed B.named
  subst hsz
  have hD := hD0.self (sz := s.heap.size)
  have hZ := hZ0
  generalize hAe : va_A (wM k ar fi fa fl) s.heap.size = A at hD hZ ⊢
  have hA : ∀ q : Nat, s.heap.size ≤ q → A q := fun q h => by rw [← hAe]; exact Or.inr h
  have hS : va_S A s.heap s.heap [] := va_S.rf
  have hl := lv_entry ([.ref (ar 71)]) (n := 2) (Nat.le_of_ble_eq_true rfl)
  rw [lg_entry_eq]
  generalize (lg_sl ([.ref (ar 71)]) ++ List.replicate (2 - (lg_sl ([.ref (ar 71)])).length) Slot.unset).toArray = ls at hl ⊢
  have hl : lv_has ls 2 [(0, .ref (ar 71))] := hl
  obtain ⟨H, eH⟩ : ∃ H, H = s.heap := ⟨_, rfl⟩
  rw [← eH] at hP
  have hS : va_S A s.heap H [] := by rw [eH]; exact hS
  have gW : s.heap = H := eH.symm
  refine iv_heap gW ?_
  have h0w := hts (.fieldLink RX10 137 "RopeTownModel" "then" "[I") (wz_at 7 10 rfl)
  have h1w : ∀ w ∈ wsX100, w ∈ wzX10_rideOn := fun w h => List.mem_cons_of_mem _ (inlX10 w h)
  have h2w := hts (.fieldLink RX10 427 "RopeTownModel" "rowBucket" "I") (wz_at 36 21 rfl)
  have h3w := hts (.fieldLink RX10 448 "RopeTownModel" "byWinding" "Z") (wz_at 35 23 rfl)
  have h4w := hts (.fieldLink RX10 455 "RopeTownModel" "from" "I") (wz_at 36 0 rfl)
  have h5w := hts (.fieldLink RX10 391 "RopeTownModel" "wound" "I") (wz_at 30 6 rfl)
  have hFR := FR.rf (n := fi 50) (d := fa 49)
  refine lv_aload_n hx hb dX10_rideOn_0 rfl (lv_at hl 0 rfl) ?_
  refine lv_aload_n hx hb dX10_rideOn_1 rfl (lv_at hl 0 rfl) ?_
  refine va_get (D := G) (ci := 7) (v := .ref (ar 54)) (C := RX10) (T := TX10) (N := 71) (ref := RX10) hx hb hts h1w hown hX.1 hP 0 rfl rfl 54 (by decide) h0w (fun _ h9 => h9) rfl dX10_rideOn_2 ?_
  refine cr_i (va_runV (As := [.ref (ar 54)]) (rest := []) ⟨hx, hb, hml, hown, hts⟩ (mX10_keepsCap_54 l G k ar fi fa fl H.size hR hRa (show 0 ≤ (fi 12) ∧ (fi 12) ≤ 7 from by omega)) (cwV 1 hts (gz [.methodLink RX10 397 yX10_keepsCap, .instanceMethod yX10_keepsCap, .selects RX10 yX10_keepsCap yX10_keepsCap, .initialized RX10] (.code yX10_keepsCap cX10_keepsCap 2 (some .boolean)) [(30, 11), (30, 12), (30, 13), (0, 5), (30, 14)] rfl) rfl rfl rfl (by decide +kernel) ⟨Nat.le_of_ble_eq_true rfl, Nat.le_of_ble_eq_true rfl⟩) (cr_preV (EZ_ok k) hZ hS hX hP hD hA (ci := 7) (q0 := 0) rfl rfl) rfl rfl hl.1 rfl (lv_room (Nat.le_of_ble_eq_true rfl)) dX10_rideOn_5 ⟨Nat.le_of_ble_eq_true rfl, Nat.le_of_ble_eq_true rfl⟩) hD hS hA (fun r u H locs hp hP hD hS => ?_)
  obtain ⟨c1, rfl⟩ : ∃ z, z = u := ⟨_, rfl⟩
  obtain ⟨h9, rc1, hp1⟩ : r = Int32.ofInt c1 ∧ (inR c1) ∧ ((c1 = 1 ∧ (gs (lc ((fa 54)) ((fa 5)) 0) ((fi 12))) ≤ (fa 3) 2 ∧ (gs (lc ((fa 54)) ((fa 5)) 1) ((fi 12))) ≤ (fa 3) 2) ∨ (c1 = 0 ∧ ¬ ((gs (lc ((fa 54)) ((fa 5)) 0) ((fi 12))) ≤ (fa 3) 2 ∧ (gs (lc ((fa 54)) ((fa 5)) 1) ((fi 12))) ≤ (fa 3) 2))) := hp
  subst h9
  refine iv_if_eq (tgt := 26) hx hb (by omega) dX10_rideOn_8 (by decide) (fun q2 => ?_) (fun q2 => ?_)
  · exact W.vret hx hb hr (fun t ht hW => ⟨⟨(fa 39, fa 40, fa 46, fa 47, fa 48, fa 49, fi 41, fi 42, fi 43, fi 50, fi 52, fl), rfl, (show (∀ t, inR ((fa 39) t)) ∧ (∀ t, inR ((fa 40) t)) ∧ (∀ t, inR ((fa 46) t)) ∧ (∀ t, inR ((fa 47) t)) ∧ (∀ t, inR ((fa 48) t)) ∧ (∀ t, inR ((fa 49) t)) ∧ (inR (fi 41)) ∧ (inR (fi 42)) ∧ (inR (fi 43)) ∧ (inR (fi 50)) ∧ (inR (fi 52)) ∧ (0 ≤ (fi 50) ∧ (fi 50) ≤ 1500 ∧ (∀ f, 0 ≤ f → f < 8192 → -1 ≤ (fa 48) f ∧ (fa 48) f < (fi 50)) ∧ (∀ t, 0 ≤ t → t < (fi 50) → -1 ≤ (fa 47) t ∧ (fa 47) t < t) ∧ FR (fi 50) (fa 49) (fi 50) (fa 49)) from ⟨(hRa 39), (hRa 40), (hRa 46), (hRa 47), (hRa 48), (hRa 49), (hR 41), (hR 42), (hR 43), (hR 50), (hR 52), (by exact ⟨s1, s2, s3, s4, hFR⟩)⟩), by rw [ht]; exact hP, hD⟩, hS.F ht⟩) hS.2.2 dX10_rideOn_26
  · refine lv_aload_n hx hb dX10_rideOn_11 rfl (lv_at hl 0 rfl) ?_
    refine lv_aload_n hx hb dX10_rideOn_12 rfl (lv_at hl 0 rfl) ?_
    refine va_get (D := G) (ci := 7) (v := .ref (ar 54)) (C := RX10) (T := TX10) (N := 71) (ref := RX10) hx hb hts h1w hown hX.1 hP 0 rfl rfl 54 (by decide) h0w (fun _ h9 => h9) rfl dX10_rideOn_13 ?_
    refine lv_aload_n hx hb dX10_rideOn_16 rfl (lv_at hl 0 rfl) ?_
    refine va_get (D := G) (ci := 7) (v := .int (Int32.ofInt (fi 55))) (C := RX10) (T := TX10) (N := 71) (ref := RX10) hx hb hts h1w hown hX.1 hP 0 rfl rfl 55 (by decide) h2w (fun _ h9 => h9) rfl dX10_rideOn_17 ?_
    have rf55 := hR 55
    refine cr_i (va_runV (As := [.ref (ar 54), .int (Int32.ofInt (fi 55))]) (rest := []) ⟨hx, hb, hml, hown, hts⟩ (mX10_keepsRules_54 l G k ar fi fa fl (fi 55) H.size hR hRa (hR 55) (show 0 ≤ (fi 12) ∧ (fi 12) ≤ 7 from by omega) (show 0 ≤ (fi 13) ∧ (fi 13) ≤ 4 from by omega) (show ∀ q9, 0 ≤ q9 → q9 < (fi 13) → RWf ((fa 10)) ((fa 8) q9) ((fa 9) q9) from by first | exact hRW | omega)) (cwV 2 hts (gz [.methodLink RX10 401 yX10_keepsRules, .instanceMethod yX10_keepsRules, .selects RX10 yX10_keepsRules yX10_keepsRules, .initialized RX10] (.code yX10_keepsRules cX10_keepsRules 3 (some .boolean)) [(30, 15), (30, 16), (30, 17), (0, 5), (30, 18)] rfl) rfl rfl rfl (by decide +kernel) ⟨Nat.le_of_ble_eq_true rfl, Nat.le_of_ble_eq_true rfl⟩) (cr_preV (EZ_ok k) hZ hS hX hP hD hA (ci := 7) (q0 := 0) rfl rfl) rfl rfl hl.1 rfl (lv_room (Nat.le_of_ble_eq_true rfl)) dX10_rideOn_20 ⟨Nat.le_of_ble_eq_true rfl, Nat.le_of_ble_eq_true rfl⟩) hD hS hA (fun r u H locs hp hP hD hS => ?_)
    obtain ⟨c3, c4, c5⟩ := u
    obtain ⟨hP, hD⟩ : va_P G vwCl (wM k ar fi (uF (uF fa 39 (c4)) 40 (c5)) fl) H ∧ va_D A (wM k ar fi (uF (uF fa 39 (c4)) 40 (c5)) fl) := ⟨hP, hD⟩
    obtain ⟨h9, rc3, rc4, rc5, hp5⟩ : r = Int32.ofInt c3 ∧ (inR c3) ∧ (∀ t, inR (c4 t)) ∧ (∀ t, inR (c5 t)) ∧ (KrP c3 (bkI (fun q => evR ((fa 10)) (vls ((fa 54)) ((fa 4)) ((fa 5)) 0 ((fi 12)) ((fa 3) 0) (fi 55)) ((fa 8) q) ((fa 9) q)) ((fi 13))) (bkI (fun q => evR ((fa 10)) (vls ((fa 54)) ((fa 4)) ((fa 5)) 1 ((fi 12)) ((fa 3) 0) (fi 55)) ((fa 8) q) ((fa 9) q)) ((fi 13)))) := hp
    subst h9
    have hKr20 := hp5
    unfold KrP at hp5
    refine iv_if_ne (tgt := 27) hx hb (by omega) dX10_rideOn_23 (by decide) (fun q6 => ?_) (fun q6 => ?_)
    · refine lv_iconst (v := Int32.ofInt 0) hx hb dX10_rideOn_27 (by decide +kernel) ?_
      refine lv_istore_n (lv' := [(1, .int (Int32.ofInt (0))), (0, .ref (ar 71))]) hx hb dX10_rideOn_28 rfl hl (by decide) rfl (fun ls hl => ?_)
      refine iv_loop (α := Int × Int × Int × Int × Int × Int × (Int → Int) × (Int → Int) × (Int → Int) × (Int → Int) × (Nat → Int64)) (nL := 2) (fun b9 => (wM k ar (uF (uF (uF (uF (uF fi 41 (b9.2.1)) 42 (b9.2.2.1)) 43 (b9.2.2.2.1)) 50 (b9.2.2.2.2.1)) 52 (b9.2.2.2.2.2.1)) (uF (uF (uF (uF (uF (uF fa 39 (c4)) 40 (c5)) 46 (b9.2.2.2.2.2.2.1)) 47 (b9.2.2.2.2.2.2.2.1)) 48 (b9.2.2.2.2.2.2.2.2.1)) 49 (b9.2.2.2.2.2.2.2.2.2.1)) b9.2.2.2.2.2.2.2.2.2.2)) (fun b9 => [(1, .int (Int32.ofInt (b9.1))), (0, .ref (ar 71))]) (fun b9 => (fa 3 0 + 1 - b9.1).toNat) (fun b9 => inR b9.1 ∧ inR b9.2.1 ∧ inR b9.2.2.1 ∧ inR b9.2.2.2.1 ∧ inR b9.2.2.2.2.1 ∧ inR b9.2.2.2.2.2.1 ∧ (∀ t, inR (b9.2.2.2.2.2.2.1 t)) ∧ (∀ t, inR (b9.2.2.2.2.2.2.2.1 t)) ∧ (∀ t, inR (b9.2.2.2.2.2.2.2.2.1 t)) ∧ (∀ t, inR (b9.2.2.2.2.2.2.2.2.2.1 t)) ∧ (0 ≤ b9.1 ∧ 0 ≤ b9.2.2.2.2.1 ∧ b9.2.2.2.2.1 ≤ 1500 ∧ (∀ f, 0 ≤ f → f < 8192 → -1 ≤ b9.2.2.2.2.2.2.2.2.1 f ∧ b9.2.2.2.2.2.2.2.2.1 f < b9.2.2.2.2.1) ∧ (∀ t, 0 ≤ t → t < b9.2.2.2.2.1 → -1 ≤ b9.2.2.2.2.2.2.2.1 t ∧ b9.2.2.2.2.2.2.2.1 t < t) ∧ FR (fi 50) (fa 49) b9.2.2.2.2.1 b9.2.2.2.2.2.2.2.2.2.1)) ?_ (0, fi 41, fi 42, fi 43, fi 50, fi 52, fa 46, fa 47, fa 48, fa 49, fl) (show inR 0 ∧ inR (fi 41) ∧ inR (fi 42) ∧ inR (fi 43) ∧ inR (fi 50) ∧ inR (fi 52) ∧ (∀ t, inR ((fa 46) t)) ∧ (∀ t, inR ((fa 47) t)) ∧ (∀ t, inR ((fa 48) t)) ∧ (∀ t, inR ((fa 49) t)) ∧ (0 ≤ 0 ∧ 0 ≤ (fi 50) ∧ (fi 50) ≤ 1500 ∧ (∀ f, 0 ≤ f → f < 8192 → -1 ≤ (fa 48) f ∧ (fa 48) f < (fi 50)) ∧ (∀ t, 0 ≤ t → t < (fi 50) → -1 ≤ (fa 47) t ∧ (fa 47) t < t) ∧ FR (fi 50) (fa 49) (fi 50) (fa 49)) from ⟨(by omega), (hR 41), (hR 42), (hR 43), (hR 50), (hR 52), (hRa 46), (hRa 47), (hRa 48), (hRa 49), (by exact ⟨by omega, s1, s2, s3, s4, hFR⟩)⟩) hP hD hS hl
      rintro ⟨x1_7, n41_8, n42_9, n43_10, n50_11, n52_12, g46_13, g47_14, g48_15, g49_16, gl_17⟩ ih hi9 H locs ls hP hD hS hl
      obtain ⟨r_x1_7, r_n41_8, r_n42_9, r_n43_10, r_n50_11, r_n52_12, r_g46_13, r_g47_14, r_g48_15, r_g49_16, hinv⟩ : inR x1_7 ∧ inR n41_8 ∧ inR n42_9 ∧ inR n43_10 ∧ inR n50_11 ∧ inR n52_12 ∧ (∀ t, inR (g46_13 t)) ∧ (∀ t, inR (g47_14 t)) ∧ (∀ t, inR (g48_15 t)) ∧ (∀ t, inR (g49_16 t)) ∧ (0 ≤ x1_7 ∧ 0 ≤ n50_11 ∧ n50_11 ≤ 1500 ∧ (∀ f, 0 ≤ f → f < 8192 → -1 ≤ g48_15 f ∧ g48_15 f < n50_11) ∧ (∀ t, 0 ≤ t → t < n50_11 → -1 ≤ g47_14 t ∧ g47_14 t < t) ∧ FR (fi 50) (fa 49) n50_11 g49_16) := hi9
      obtain ⟨i0, s1, s2, s3, s4, hFR⟩ := hinv
      obtain ⟨hP, hD⟩ : va_P G vwCl (wM k ar (uF (uF (uF (uF (uF fi 41 (n41_8)) 42 (n42_9)) 43 (n43_10)) 50 (n50_11)) 52 (n52_12)) (uF (uF (uF (uF (uF (uF fa 39 (c4)) 40 (c5)) 46 (g46_13)) 47 (g47_14)) 48 (g48_15)) 49 (g49_16)) gl_17) H ∧ va_D A (wM k ar (uF (uF (uF (uF (uF fi 41 (n41_8)) 42 (n42_9)) 43 (n43_10)) 50 (n50_11)) 52 (n52_12)) (uF (uF (uF (uF (uF (uF fa 39 (c4)) 40 (c5)) 46 (g46_13)) 47 (g47_14)) 48 (g48_15)) 49 (g49_16)) gl_17) := ⟨hP, hD⟩
      have hl : lv_has ls 2 [(1, .int (Int32.ofInt (x1_7))), (0, .ref (ar 71))] := hl
      refine lv_iload_n hx hb dX10_rideOn_29 rfl (lv_at hl 0 rfl) ?_
      refine lv_aload_n hx hb dX10_rideOn_30 rfl (lv_at hl 1 rfl) ?_
      refine cr_i (va_runV (As := []) (rest := [.int (Int32.ofInt (x1_7))]) ⟨hx, hb, hml, hown, hts⟩ (mX10_depths l G k ar (uF (uF (uF (uF (uF fi 41 (n41_8)) 42 (n42_9)) 43 (n43_10)) 50 (n50_11)) 52 (n52_12)) (uF (uF (uF (uF (uF (uF fa 39 (c4)) 40 (c5)) 46 (g46_13)) 47 (g47_14)) 48 (g48_15)) 49 (g49_16)) gl_17 H.size (iF (iF (iF (iF (iF hR (by omega)) (by omega)) (by omega)) (by omega)) (by omega)) (iG (iG (iG (iG (iG (iG hRa rc4) rc5) r_g46_13) r_g47_14) r_g48_15) r_g49_16)) (cwV 0 hts (gz [.methodLink RX10 346 yX10_depths, .instanceMethod yX10_depths, .selects RX10 yX10_depths yX10_depths, .initialized RX10] (.code yX10_depths cX10_depths 1 (some .int)) [(24, 11), (24, 12), (24, 13), (0, 5), (24, 14)] rfl) rfl rfl rfl (by decide +kernel) ⟨Nat.le_of_ble_eq_true rfl, Nat.le_of_ble_eq_true rfl⟩) (cr_preV (EZ_ok k) hZ hS hX hP hD hA (ci := 7) (q0 := 0) rfl rfl) rfl rfl hl.1 rfl (lv_room (Nat.le_of_ble_eq_true rfl)) dX10_rideOn_31 ⟨Nat.le_of_ble_eq_true rfl, Nat.le_of_ble_eq_true rfl⟩) hD hS hA (fun r u H locs hp hP hD hS => ?_)
      obtain ⟨c18, rfl⟩ : ∃ z, z = u := ⟨_, rfl⟩
      obtain ⟨h9, rc18, hp18⟩ : r = Int32.ofInt c18 ∧ (inR c18) ∧ (c18 = (fa 3) 0) := hp
      subst h9
      refine iv_icmp_gt (tgt := 114) hx hb (by omega) (by omega) dX10_rideOn_34 (by decide) (fun q19 => ?_) (fun q19 => ?_)
      · exact W.vret hx hb hr (fun t ht hW => ⟨⟨(c4, c5, g46_13, g47_14, g48_15, g49_16, n41_8, n42_9, n43_10, n50_11, n52_12, gl_17), rfl, (show (∀ t, inR (c4 t)) ∧ (∀ t, inR (c5 t)) ∧ (∀ t, inR (g46_13 t)) ∧ (∀ t, inR (g47_14 t)) ∧ (∀ t, inR (g48_15 t)) ∧ (∀ t, inR (g49_16 t)) ∧ (inR n41_8) ∧ (inR n42_9) ∧ (inR n43_10) ∧ (inR n50_11) ∧ (inR n52_12) ∧ (0 ≤ n50_11 ∧ n50_11 ≤ 1500 ∧ (∀ f, 0 ≤ f → f < 8192 → -1 ≤ g48_15 f ∧ g48_15 f < n50_11) ∧ (∀ t, 0 ≤ t → t < n50_11 → -1 ≤ g47_14 t ∧ g47_14 t < t) ∧ FR (fi 50) (fa 49) n50_11 g49_16) from ⟨rc4, rc5, r_g46_13, r_g47_14, r_g48_15, r_g49_16, (by omega), (by omega), (by omega), (by omega), (by omega), (by exact ⟨s1, s2, s3, s4, hFR⟩)⟩), by rw [ht]; exact hP, hD⟩, hS.F ht⟩) hS.2.2 dX10_rideOn_114
      · refine lv_iload_n hx hb dX10_rideOn_37 rfl (lv_at hl 0 rfl) ?_
        refine lv_aload_n hx hb dX10_rideOn_38 rfl (lv_at hl 1 rfl) ?_
        refine va_get (D := G) (ci := 7) (v := .int (Int32.ofInt (fi 55))) (C := RX10) (T := TX10) (N := 71) (ref := RX10) hx hb hts h1w hown hX.1 hP 0 rfl rfl 55 (by decide) h2w (fun _ h9 => h9) rfl dX10_rideOn_39 ?_
        have rf55 := hR 55
        refine iv_icmp_ne (tgt := 48) hx hb (by omega) (by omega) dX10_rideOn_42 (by decide) (fun q20 => ?_) (fun q20 => ?_)
        · refine lv_aload_n hx hb dX10_rideOn_48 rfl (lv_at hl 1 rfl) ?_
          refine lv_aload_n hx hb dX10_rideOn_49 rfl (lv_at hl 1 rfl) ?_
          refine va_get (D := G) (ci := 7) (v := .ref (ar 54)) (C := RX10) (T := TX10) (N := 71) (ref := RX10) hx hb hts h1w hown hX.1 hP 0 rfl rfl 54 (by decide) h0w (fun _ h9 => h9) rfl dX10_rideOn_50 ?_
          refine lv_aload_n hx hb dX10_rideOn_53 rfl (lv_at hl 1 rfl) ?_
          refine va_get (D := G) (ci := 7) (v := .int (Int32.ofInt (fi 55))) (C := RX10) (T := TX10) (N := 71) (ref := RX10) hx hb hts h1w hown hX.1 hP 0 rfl rfl 55 (by decide) h2w (fun _ h9 => h9) rfl dX10_rideOn_54 ?_
          have rf55 := hR 55
          refine lv_iload_n hx hb dX10_rideOn_57 rfl (lv_at hl 0 rfl) ?_
          refine cr_v (va_runV (As := [.ref (ar 54), .int (Int32.ofInt (fi 55)), .int (Int32.ofInt (x1_7))]) (rest := []) ⟨hx, hb, hml, hown, hts⟩ (mX10_tellRide_54 l G k ar (uF (uF (uF (uF (uF fi 41 (n41_8)) 42 (n42_9)) 43 (n43_10)) 50 (n50_11)) 52 (n52_12)) (uF (uF (uF (uF (uF (uF fa 39 (c4)) 40 (c5)) 46 (g46_13)) 47 (g47_14)) 48 (g48_15)) 49 (g49_16)) gl_17 (fi 55) x1_7 H.size (iF (iF (iF (iF (iF hR (by omega)) (by omega)) (by omega)) (by omega)) (by omega)) (iG (iG (iG (iG (iG (iG hRa rc4) rc5) r_g46_13) r_g47_14) r_g48_15) r_g49_16) (hR 55) (by omega) (show 0 ≤ (fi 12) ∧ (fi 12) ≤ 7 from by omega)) (cwV 3 hts (gz [.methodLink RX10 405 yX10_tellRide, .instanceMethod yX10_tellRide, .selects RX10 yX10_tellRide yX10_tellRide, .initialized RX10] (.code yX10_tellRide cX10_tellRide 8 none) [(30, 19), (30, 20), (30, 21), (0, 5), (30, 22)] rfl) rfl rfl rfl (by decide +kernel) ⟨Nat.le_of_ble_eq_true rfl, Nat.le_of_ble_eq_true rfl⟩) (cr_preV (EZ_ok k) hZ hS hX hP hD hA (ci := 7) (q0 := 0) rfl rfl) rfl rfl hl.1 rfl (lv_room (Nat.le_of_ble_eq_true rfl)) dX10_rideOn_58 ⟨Nat.le_of_ble_eq_true rfl, Nat.le_of_ble_eq_true rfl⟩) hD hS hA (fun u H locs hp hP hD hS => ?_)
          obtain ⟨c21, c22, c23⟩ := u
          obtain ⟨hP, hD⟩ : va_P G vwCl (wM k ar (uF (uF (uF (uF (uF fi 41 (c21)) 42 (c22)) 43 (c23)) 50 (n50_11)) 52 (n52_12)) (uF (uF (uF (uF (uF (uF fa 39 (c4)) 40 (c5)) 46 (g46_13)) 47 (g47_14)) 48 (g48_15)) 49 (g49_16)) gl_17) H ∧ va_D A (wM k ar (uF (uF (uF (uF (uF fi 41 (c21)) 42 (c22)) 43 (c23)) 50 (n50_11)) 52 (n52_12)) (uF (uF (uF (uF (uF (uF fa 39 (c4)) 40 (c5)) 46 (g46_13)) 47 (g47_14)) 48 (g48_15)) 49 (g49_16)) gl_17) := ⟨hP, hD⟩
          obtain ⟨rc21, rc22, rc23, hp23⟩ : (inR c21) ∧ (inR c22) ∧ (inR c23) ∧ (LM c21 c22 (exM (gs (lc ((fa 54)) ((fa 5)) 0) ((fi 12))) (gs (lc ((fa 54)) ((fa 5)) 1) ((fi 12))) ((fa 3) 3) ((fa 3) 0) (stD (fi 55) x1_7)) (fi 55) x1_7) := hp
          have hLm58 := hp23
          refine lv_aload_n hx hb dX10_rideOn_61 rfl (lv_at hl 1 rfl) ?_
          refine va_get (D := G) (ci := 7) (v := .int (Int32.ofInt (fi 51))) (C := RX10) (T := TX10) (N := 71) (ref := RX10) hx hb hts h1w hown hX.1 hP 0 rfl rfl 51 (by decide) h3w (fun _ h9 => h9) rfl dX10_rideOn_62 ?_
          have rf51 := hR 51
          refine iv_if_ne (tgt := 76) hx hb (by omega) dX10_rideOn_65 (by decide) (fun q24 => ?_) (fun q24 => ?_)
          · refine lv_aload_n hx hb dX10_rideOn_76 rfl (lv_at hl 1 rfl) ?_
            refine lv_aload_n hx hb dX10_rideOn_77 rfl (lv_at hl 1 rfl) ?_
            refine va_get (D := G) (ci := 7) (v := .ref (ar 54)) (C := RX10) (T := TX10) (N := 71) (ref := RX10) hx hb hts h1w hown hX.1 hP 0 rfl rfl 54 (by decide) h0w (fun _ h9 => h9) rfl dX10_rideOn_78 ?_
            refine lv_iload_n hx hb dX10_rideOn_81 rfl (lv_at hl 0 rfl) ?_
            refine cr_l (va_runS (As := [.ref (ar 54), .int (Int32.ofInt (x1_7))]) (rest := [.ref (ar 71)]) ⟨hx, hb, hml, hown, hts⟩ (mX10_pack l G k ar (uF (uF (uF (uF (uF fi 41 (c21)) 42 (c22)) 43 (c23)) 50 (n50_11)) 52 (n52_12)) (uF (uF (uF (uF (uF (uF fa 39 (c4)) 40 (c5)) 46 (g46_13)) 47 (g47_14)) 48 (g48_15)) 49 (g49_16)) gl_17 x1_7 H.size (iF (iF (iF (iF (iF hR (by omega)) (by omega)) (by omega)) (by omega)) (by omega)) (iG (iG (iG (iG (iG (iG hRa rc4) rc5) r_g46_13) r_g47_14) r_g48_15) r_g49_16) (by omega)) (cwS 2 hts (gz [.methodLink RX10 451 yX10_pack, .static yX10_pack, .initialized RX10] (.code yX10_pack cX10_pack 5 (some .long)) [(36, 1), (36, 2), (0, 5), (36, 3)] rfl) rfl rfl rfl (by decide +kernel) ⟨Nat.le_of_ble_eq_true rfl, Nat.le_of_ble_eq_true rfl⟩) (cr_preS (EZ_ok k) hZ hS hX hP hD hA) rfl rfl hl.1 rfl (lv_room (Nat.le_of_ble_eq_true rfl)) dX10_rideOn_82 ⟨Nat.le_of_ble_eq_true rfl, Nat.le_of_ble_eq_true rfl⟩) hD hS hA (fun r u H locs hp hP hD hS => ?_)
            obtain ⟨c25, rfl⟩ : ∃ z, z = u := ⟨_, rfl⟩
            obtain ⟨h9, hp25⟩ : r = c25 ∧ (True) := hp
            replace h9 := h9.symm; subst h9
            refine lv_aload_n hx hb dX10_rideOn_85 rfl (lv_at hl 1 rfl) ?_
            refine va_get (D := G) (ci := 7) (v := .int (Int32.ofInt (fi 56))) (C := RX10) (T := TX10) (N := 71) (ref := RX10) hx hb hts h1w hown hX.1 hP 0 rfl rfl 56 (by decide) h4w (fun _ h9 => h9) rfl dX10_rideOn_86 ?_
            have rf56 := hR 56
            refine lv_aload_n hx hb dX10_rideOn_89 rfl (lv_at hl 1 rfl) ?_
            refine va_get (D := G) (ci := 7) (v := .int (Int32.ofInt (fi 51))) (C := RX10) (T := TX10) (N := 71) (ref := RX10) hx hb hts h1w hown hX.1 hP 0 rfl rfl 51 (by decide) h3w (fun _ h9 => h9) rfl dX10_rideOn_90 ?_
            have rf51 := hR 51
            refine iv_if_eq (tgt := 103) hx hb (by omega) dX10_rideOn_93 (by decide) (fun q26 => ?_) (fun q26 => ?_)
            · refine lv_iconst (v := Int32.ofInt 1) hx hb dX10_rideOn_103 (by decide +kernel) ?_
              refine iv_add (x := fi 56) (y := 1) hx hb dX10_rideOn_104 ?_
              refine iv_wr ?_
              refine iv_top (fun z27 ez27 => ?_)
              have rz27 : inR z27 := ez27 ▸ bWr_r _
              refine cr_v (va_runV (As := [.long (c25), .int (Int32.ofInt (z27))]) (rest := []) ⟨hx, hb, hml, hown, hts⟩ (mX10_come l G k ar (uF (uF (uF (uF (uF fi 41 (c21)) 42 (c22)) 43 (c23)) 50 (n50_11)) 52 (n52_12)) (uF (uF (uF (uF (uF (uF fa 39 (c4)) 40 (c5)) 46 (g46_13)) 47 (g47_14)) 48 (g48_15)) 49 (g49_16)) gl_17 c25 z27 H.size (iF (iF (iF (iF (iF hR (by omega)) (by omega)) (by omega)) (by omega)) (by omega)) (iG (iG (iG (iG (iG (iG hRa rc4) rc5) r_g46_13) r_g47_14) r_g48_15) r_g49_16) (by omega) (show 0 ≤ n50_11 from by omega) (show n50_11 ≤ 1500 from by omega) (show ∀ f, 0 ≤ f → f < 8192 → -1 ≤ g48_15 f ∧ g48_15 f < n50_11 from by first | exact s3 | omega) (show ∀ t, 0 ≤ t → t < n50_11 → -1 ≤ g47_14 t ∧ g47_14 t < t from by first | exact s4 | omega)) (cwV 2 hts (gz [.methodLink RX10 458 yX10_come, .instanceMethod yX10_come, .selects RX10 yX10_come yX10_come, .initialized RX10] (.code yX10_come cX10_come 6 none) [(36, 5), (36, 6), (36, 7), (0, 5), (36, 8)] rfl) rfl rfl rfl (by decide +kernel) ⟨Nat.le_of_ble_eq_true rfl, Nat.le_of_ble_eq_true rfl⟩) (cr_preV (EZ_ok k) hZ hS hX hP hD hA (ci := 7) (q0 := 0) rfl rfl) rfl rfl hl.1 rfl (lv_room (Nat.le_of_ble_eq_true rfl)) dX10_rideOn_105 ⟨Nat.le_of_ble_eq_true rfl, Nat.le_of_ble_eq_true rfl⟩) hD hS hA (fun u H locs hp hP hD hS => ?_)
              obtain ⟨c28, c29, c30, c31, c32, c33, c34⟩ := u
              obtain ⟨hP, hD⟩ : va_P G vwCl (wM k ar (uF (uF (uF (uF (uF fi 41 (c21)) 42 (c22)) 43 (c23)) 50 (c32)) 52 (c33)) (uF (uF (uF (uF (uF (uF fa 39 (c4)) 40 (c5)) 46 (c28)) 47 (c29)) 48 (c30)) 49 (c31)) c34) H ∧ va_D A (wM k ar (uF (uF (uF (uF (uF fi 41 (c21)) 42 (c22)) 43 (c23)) 50 (c32)) 52 (c33)) (uF (uF (uF (uF (uF (uF fa 39 (c4)) 40 (c5)) 46 (c28)) 47 (c29)) 48 (c30)) 49 (c31)) c34) := ⟨hP, hD⟩
              obtain ⟨rc28, rc29, rc30, rc31, rc32, rc33, hp34⟩ : (∀ t, inR (c28 t)) ∧ (∀ t, inR (c29 t)) ∧ (∀ t, inR (c30 t)) ∧ (∀ t, inR (c31 t)) ∧ (inR c32) ∧ (inR c33) ∧ (0 ≤ c32 ∧ c32 ≤ 1500 ∧ (∀ f, 0 ≤ f → f < 8192 → -1 ≤ c30 f ∧ c30 f < c32) ∧ (∀ t, 0 ≤ t → t < c32 → -1 ≤ c29 t ∧ c29 t < t) ∧ FR (n50_11) (g49_16) c32 c31) := hp
              obtain ⟨s1, s2, s3, s4, hF1⟩ := hp34
              have hFR := hFR.tr hF1
              refine lv_iinc (v := Int32.ofInt (x1_7 + 1)) (lv' := [(1, .int (Int32.ofInt ((x1_7 + 1)))), (0, .ref (ar 71))]) hx hb dX10_rideOn_108 hl (k := 0) rfl (Int32.ofInt_add _ _).symm (by decide) rfl (fun ls hl => ?_)
              refine lv_goto (tgt := 29) hx hb dX10_rideOn_111 (by decide) ?_
              have hl : lv_has ls 2 [(1, .int (Int32.ofInt ((x1_7 + 1)))), (0, .ref (ar 71))] := lv_sub hl [0, 1] rfl
              exact ih ((x1_7 + 1), c21, c22, c23, c32, c33, c28, c29, c30, c31, c34) (show (fa 3 0 + 1 - (x1_7 + 1)).toNat < (fa 3 0 + 1 - x1_7).toNat from by omega) (show inR (x1_7 + 1) ∧ inR c21 ∧ inR c22 ∧ inR c23 ∧ inR c32 ∧ inR c33 ∧ (∀ t, inR (c28 t)) ∧ (∀ t, inR (c29 t)) ∧ (∀ t, inR (c30 t)) ∧ (∀ t, inR (c31 t)) ∧ (0 ≤ (x1_7 + 1) ∧ 0 ≤ c32 ∧ c32 ≤ 1500 ∧ (∀ f, 0 ≤ f → f < 8192 → -1 ≤ c30 f ∧ c30 f < c32) ∧ (∀ t, 0 ≤ t → t < c32 → -1 ≤ c29 t ∧ c29 t < t) ∧ FR (fi 50) (fa 49) c32 c31) from ⟨(by omega), (by omega), (by omega), (by omega), (by omega), (by omega), rc28, rc29, rc30, rc31, (by exact ⟨by omega, s1, s2, s3, s4, hFR⟩)⟩) _ _ _ hP hD hS hl
            · refine lv_aload_n hx hb dX10_rideOn_96 rfl (lv_at hl 1 rfl) ?_
              refine va_get (D := G) (ci := 7) (v := .int (Int32.ofInt (c23))) (C := RX10) (T := TX10) (N := 71) (ref := RX10) hx hb hts h1w hown hX.1 hP 0 rfl rfl 43 (by decide) h5w (fun _ h9 => h9) rfl dX10_rideOn_97 ?_
              refine lv_goto (tgt := 104) hx hb dX10_rideOn_100 (by decide) ?_
              refine iv_add (x := fi 56) (y := c23) hx hb dX10_rideOn_104 ?_
              refine iv_wr ?_
              refine iv_top (fun z35 ez35 => ?_)
              have rz35 : inR z35 := ez35 ▸ bWr_r _
              refine cr_v (va_runV (As := [.long (c25), .int (Int32.ofInt (z35))]) (rest := []) ⟨hx, hb, hml, hown, hts⟩ (mX10_come l G k ar (uF (uF (uF (uF (uF fi 41 (c21)) 42 (c22)) 43 (c23)) 50 (n50_11)) 52 (n52_12)) (uF (uF (uF (uF (uF (uF fa 39 (c4)) 40 (c5)) 46 (g46_13)) 47 (g47_14)) 48 (g48_15)) 49 (g49_16)) gl_17 c25 z35 H.size (iF (iF (iF (iF (iF hR (by omega)) (by omega)) (by omega)) (by omega)) (by omega)) (iG (iG (iG (iG (iG (iG hRa rc4) rc5) r_g46_13) r_g47_14) r_g48_15) r_g49_16) (by omega) (show 0 ≤ n50_11 from by omega) (show n50_11 ≤ 1500 from by omega) (show ∀ f, 0 ≤ f → f < 8192 → -1 ≤ g48_15 f ∧ g48_15 f < n50_11 from by first | exact s3 | omega) (show ∀ t, 0 ≤ t → t < n50_11 → -1 ≤ g47_14 t ∧ g47_14 t < t from by first | exact s4 | omega)) (cwV 2 hts (gz [.methodLink RX10 458 yX10_come, .instanceMethod yX10_come, .selects RX10 yX10_come yX10_come, .initialized RX10] (.code yX10_come cX10_come 6 none) [(36, 5), (36, 6), (36, 7), (0, 5), (36, 8)] rfl) rfl rfl rfl (by decide +kernel) ⟨Nat.le_of_ble_eq_true rfl, Nat.le_of_ble_eq_true rfl⟩) (cr_preV (EZ_ok k) hZ hS hX hP hD hA (ci := 7) (q0 := 0) rfl rfl) rfl rfl hl.1 rfl (lv_room (Nat.le_of_ble_eq_true rfl)) dX10_rideOn_105 ⟨Nat.le_of_ble_eq_true rfl, Nat.le_of_ble_eq_true rfl⟩) hD hS hA (fun u H locs hp hP hD hS => ?_)
              obtain ⟨c36, c37, c38, c39, c40, c41, c42⟩ := u
              obtain ⟨hP, hD⟩ : va_P G vwCl (wM k ar (uF (uF (uF (uF (uF fi 41 (c21)) 42 (c22)) 43 (c23)) 50 (c40)) 52 (c41)) (uF (uF (uF (uF (uF (uF fa 39 (c4)) 40 (c5)) 46 (c36)) 47 (c37)) 48 (c38)) 49 (c39)) c42) H ∧ va_D A (wM k ar (uF (uF (uF (uF (uF fi 41 (c21)) 42 (c22)) 43 (c23)) 50 (c40)) 52 (c41)) (uF (uF (uF (uF (uF (uF fa 39 (c4)) 40 (c5)) 46 (c36)) 47 (c37)) 48 (c38)) 49 (c39)) c42) := ⟨hP, hD⟩
              obtain ⟨rc36, rc37, rc38, rc39, rc40, rc41, hp42⟩ : (∀ t, inR (c36 t)) ∧ (∀ t, inR (c37 t)) ∧ (∀ t, inR (c38 t)) ∧ (∀ t, inR (c39 t)) ∧ (inR c40) ∧ (inR c41) ∧ (0 ≤ c40 ∧ c40 ≤ 1500 ∧ (∀ f, 0 ≤ f → f < 8192 → -1 ≤ c38 f ∧ c38 f < c40) ∧ (∀ t, 0 ≤ t → t < c40 → -1 ≤ c37 t ∧ c37 t < t) ∧ FR (n50_11) (g49_16) c40 c39) := hp
              obtain ⟨s1, s2, s3, s4, hF1⟩ := hp42
              have hFR := hFR.tr hF1
              refine lv_iinc (v := Int32.ofInt (x1_7 + 1)) (lv' := [(1, .int (Int32.ofInt ((x1_7 + 1)))), (0, .ref (ar 71))]) hx hb dX10_rideOn_108 hl (k := 0) rfl (Int32.ofInt_add _ _).symm (by decide) rfl (fun ls hl => ?_)
              refine lv_goto (tgt := 29) hx hb dX10_rideOn_111 (by decide) ?_
              have hl : lv_has ls 2 [(1, .int (Int32.ofInt ((x1_7 + 1)))), (0, .ref (ar 71))] := lv_sub hl [0, 1] rfl
              exact ih ((x1_7 + 1), c21, c22, c23, c40, c41, c36, c37, c38, c39, c42) (show (fa 3 0 + 1 - (x1_7 + 1)).toNat < (fa 3 0 + 1 - x1_7).toNat from by omega) (show inR (x1_7 + 1) ∧ inR c21 ∧ inR c22 ∧ inR c23 ∧ inR c40 ∧ inR c41 ∧ (∀ t, inR (c36 t)) ∧ (∀ t, inR (c37 t)) ∧ (∀ t, inR (c38 t)) ∧ (∀ t, inR (c39 t)) ∧ (0 ≤ (x1_7 + 1) ∧ 0 ≤ c40 ∧ c40 ≤ 1500 ∧ (∀ f, 0 ≤ f → f < 8192 → -1 ≤ c38 f ∧ c38 f < c40) ∧ (∀ t, 0 ≤ t → t < c40 → -1 ≤ c37 t ∧ c37 t < t) ∧ FR (fi 50) (fa 49) c40 c39) from ⟨(by omega), (by omega), (by omega), (by omega), (by omega), (by omega), rc36, rc37, rc38, rc39, (by exact ⟨by omega, s1, s2, s3, s4, hFR⟩)⟩) _ _ _ hP hD hS hl
          · refine lv_aload_n hx hb dX10_rideOn_68 rfl (lv_at hl 1 rfl) ?_
            refine lv_iconst (v := Int32.ofInt 1) hx hb dX10_rideOn_69 (by decide +kernel) ?_
            refine cr_i (va_runV (As := [.int (Int32.ofInt (1))]) (rest := []) ⟨hx, hb, hml, hown, hts⟩ (mX10_swing l G k ar (uF (uF (uF (uF (uF fi 41 (c21)) 42 (c22)) 43 (c23)) 50 (n50_11)) 52 (n52_12)) (uF (uF (uF (uF (uF (uF fa 39 (c4)) 40 (c5)) 46 (g46_13)) 47 (g47_14)) 48 (g48_15)) 49 (g49_16)) gl_17 1 H.size (iF (iF (iF (iF (iF hR (by omega)) (by omega)) (by omega)) (by omega)) (by omega)) (iG (iG (iG (iG (iG (iG hRa rc4) rc5) r_g46_13) r_g47_14) r_g48_15) r_g49_16) (by omega)) (cwV 1 hts (gz [.methodLink RX10 409 yX10_swing, .instanceMethod yX10_swing, .selects RX10 yX10_swing yX10_swing, .initialized RX10] (.code yX10_swing cX10_swing 2 (some .int)) [(31, 6), (31, 7), (31, 8), (0, 5), (31, 9)] rfl) rfl rfl rfl (by decide +kernel) ⟨Nat.le_of_ble_eq_true rfl, Nat.le_of_ble_eq_true rfl⟩) (cr_preV (EZ_ok k) hZ hS hX hP hD hA (ci := 7) (q0 := 0) rfl rfl) rfl rfl hl.1 rfl (lv_room (Nat.le_of_ble_eq_true rfl)) dX10_rideOn_70 ⟨Nat.le_of_ble_eq_true rfl, Nat.le_of_ble_eq_true rfl⟩) hD hS hA (fun r u H locs hp hP hD hS => ?_)
            obtain ⟨c43, rfl⟩ : ∃ z, z = u := ⟨_, rfl⟩
            obtain ⟨h9, rc43, hp43⟩ : r = Int32.ofInt c43 ∧ (inR c43) ∧ (c43 = swM 1 (c21) (c22) ((fa 3) 4) ((fa 3) 5) ((fa 3) 6)) := hp
            subst h9
            have hSw70 := hp43
            refine iv_if_ne (tgt := 108) hx hb (by omega) dX10_rideOn_73 (by decide) (fun q44 => ?_) (fun q44 => ?_)
            · refine lv_iinc (v := Int32.ofInt (x1_7 + 1)) (lv' := [(1, .int (Int32.ofInt ((x1_7 + 1)))), (0, .ref (ar 71))]) hx hb dX10_rideOn_108 hl (k := 0) rfl (Int32.ofInt_add _ _).symm (by decide) rfl (fun ls hl => ?_)
              refine lv_goto (tgt := 29) hx hb dX10_rideOn_111 (by decide) ?_
              have hl : lv_has ls 2 [(1, .int (Int32.ofInt ((x1_7 + 1)))), (0, .ref (ar 71))] := lv_sub hl [0, 1] rfl
              exact ih ((x1_7 + 1), c21, c22, c23, n50_11, n52_12, g46_13, g47_14, g48_15, g49_16, gl_17) (show (fa 3 0 + 1 - (x1_7 + 1)).toNat < (fa 3 0 + 1 - x1_7).toNat from by omega) (show inR (x1_7 + 1) ∧ inR c21 ∧ inR c22 ∧ inR c23 ∧ inR n50_11 ∧ inR n52_12 ∧ (∀ t, inR (g46_13 t)) ∧ (∀ t, inR (g47_14 t)) ∧ (∀ t, inR (g48_15 t)) ∧ (∀ t, inR (g49_16 t)) ∧ (0 ≤ (x1_7 + 1) ∧ 0 ≤ n50_11 ∧ n50_11 ≤ 1500 ∧ (∀ f, 0 ≤ f → f < 8192 → -1 ≤ g48_15 f ∧ g48_15 f < n50_11) ∧ (∀ t, 0 ≤ t → t < n50_11 → -1 ≤ g47_14 t ∧ g47_14 t < t) ∧ FR (fi 50) (fa 49) n50_11 g49_16) from ⟨(by omega), (by omega), (by omega), (by omega), (by omega), (by omega), r_g46_13, r_g47_14, r_g48_15, r_g49_16, (by exact ⟨by omega, s1, s2, s3, s4, hFR⟩)⟩) _ _ _ hP hD hS hl
            · refine lv_aload_n hx hb dX10_rideOn_76 rfl (lv_at hl 1 rfl) ?_
              refine lv_aload_n hx hb dX10_rideOn_77 rfl (lv_at hl 1 rfl) ?_
              refine va_get (D := G) (ci := 7) (v := .ref (ar 54)) (C := RX10) (T := TX10) (N := 71) (ref := RX10) hx hb hts h1w hown hX.1 hP 0 rfl rfl 54 (by decide) h0w (fun _ h9 => h9) rfl dX10_rideOn_78 ?_
              refine lv_iload_n hx hb dX10_rideOn_81 rfl (lv_at hl 0 rfl) ?_
              refine cr_l (va_runS (As := [.ref (ar 54), .int (Int32.ofInt (x1_7))]) (rest := [.ref (ar 71)]) ⟨hx, hb, hml, hown, hts⟩ (mX10_pack l G k ar (uF (uF (uF (uF (uF fi 41 (c21)) 42 (c22)) 43 (c23)) 50 (n50_11)) 52 (n52_12)) (uF (uF (uF (uF (uF (uF fa 39 (c4)) 40 (c5)) 46 (g46_13)) 47 (g47_14)) 48 (g48_15)) 49 (g49_16)) gl_17 x1_7 H.size (iF (iF (iF (iF (iF hR (by omega)) (by omega)) (by omega)) (by omega)) (by omega)) (iG (iG (iG (iG (iG (iG hRa rc4) rc5) r_g46_13) r_g47_14) r_g48_15) r_g49_16) (by omega)) (cwS 2 hts (gz [.methodLink RX10 451 yX10_pack, .static yX10_pack, .initialized RX10] (.code yX10_pack cX10_pack 5 (some .long)) [(36, 1), (36, 2), (0, 5), (36, 3)] rfl) rfl rfl rfl (by decide +kernel) ⟨Nat.le_of_ble_eq_true rfl, Nat.le_of_ble_eq_true rfl⟩) (cr_preS (EZ_ok k) hZ hS hX hP hD hA) rfl rfl hl.1 rfl (lv_room (Nat.le_of_ble_eq_true rfl)) dX10_rideOn_82 ⟨Nat.le_of_ble_eq_true rfl, Nat.le_of_ble_eq_true rfl⟩) hD hS hA (fun r u H locs hp hP hD hS => ?_)
              obtain ⟨c45, rfl⟩ : ∃ z, z = u := ⟨_, rfl⟩
              obtain ⟨h9, hp45⟩ : r = c45 ∧ (True) := hp
              replace h9 := h9.symm; subst h9
              refine lv_aload_n hx hb dX10_rideOn_85 rfl (lv_at hl 1 rfl) ?_
              refine va_get (D := G) (ci := 7) (v := .int (Int32.ofInt (fi 56))) (C := RX10) (T := TX10) (N := 71) (ref := RX10) hx hb hts h1w hown hX.1 hP 0 rfl rfl 56 (by decide) h4w (fun _ h9 => h9) rfl dX10_rideOn_86 ?_
              have rf56 := hR 56
              refine lv_aload_n hx hb dX10_rideOn_89 rfl (lv_at hl 1 rfl) ?_
              refine va_get (D := G) (ci := 7) (v := .int (Int32.ofInt (fi 51))) (C := RX10) (T := TX10) (N := 71) (ref := RX10) hx hb hts h1w hown hX.1 hP 0 rfl rfl 51 (by decide) h3w (fun _ h9 => h9) rfl dX10_rideOn_90 ?_
              have rf51 := hR 51
              refine iv_if_eq (tgt := 103) hx hb (by omega) dX10_rideOn_93 (by decide) (fun q46 => ?_) (fun q46 => ?_)
              · refine lv_iconst (v := Int32.ofInt 1) hx hb dX10_rideOn_103 (by decide +kernel) ?_
                refine iv_add (x := fi 56) (y := 1) hx hb dX10_rideOn_104 ?_
                refine iv_wr ?_
                refine iv_top (fun z47 ez47 => ?_)
                have rz47 : inR z47 := ez47 ▸ bWr_r _
                refine cr_v (va_runV (As := [.long (c45), .int (Int32.ofInt (z47))]) (rest := []) ⟨hx, hb, hml, hown, hts⟩ (mX10_come l G k ar (uF (uF (uF (uF (uF fi 41 (c21)) 42 (c22)) 43 (c23)) 50 (n50_11)) 52 (n52_12)) (uF (uF (uF (uF (uF (uF fa 39 (c4)) 40 (c5)) 46 (g46_13)) 47 (g47_14)) 48 (g48_15)) 49 (g49_16)) gl_17 c45 z47 H.size (iF (iF (iF (iF (iF hR (by omega)) (by omega)) (by omega)) (by omega)) (by omega)) (iG (iG (iG (iG (iG (iG hRa rc4) rc5) r_g46_13) r_g47_14) r_g48_15) r_g49_16) (by omega) (show 0 ≤ n50_11 from by omega) (show n50_11 ≤ 1500 from by omega) (show ∀ f, 0 ≤ f → f < 8192 → -1 ≤ g48_15 f ∧ g48_15 f < n50_11 from by first | exact s3 | omega) (show ∀ t, 0 ≤ t → t < n50_11 → -1 ≤ g47_14 t ∧ g47_14 t < t from by first | exact s4 | omega)) (cwV 2 hts (gz [.methodLink RX10 458 yX10_come, .instanceMethod yX10_come, .selects RX10 yX10_come yX10_come, .initialized RX10] (.code yX10_come cX10_come 6 none) [(36, 5), (36, 6), (36, 7), (0, 5), (36, 8)] rfl) rfl rfl rfl (by decide +kernel) ⟨Nat.le_of_ble_eq_true rfl, Nat.le_of_ble_eq_true rfl⟩) (cr_preV (EZ_ok k) hZ hS hX hP hD hA (ci := 7) (q0 := 0) rfl rfl) rfl rfl hl.1 rfl (lv_room (Nat.le_of_ble_eq_true rfl)) dX10_rideOn_105 ⟨Nat.le_of_ble_eq_true rfl, Nat.le_of_ble_eq_true rfl⟩) hD hS hA (fun u H locs hp hP hD hS => ?_)
                obtain ⟨c48, c49, c50, c51, c52, c53, c54⟩ := u
                obtain ⟨hP, hD⟩ : va_P G vwCl (wM k ar (uF (uF (uF (uF (uF fi 41 (c21)) 42 (c22)) 43 (c23)) 50 (c52)) 52 (c53)) (uF (uF (uF (uF (uF (uF fa 39 (c4)) 40 (c5)) 46 (c48)) 47 (c49)) 48 (c50)) 49 (c51)) c54) H ∧ va_D A (wM k ar (uF (uF (uF (uF (uF fi 41 (c21)) 42 (c22)) 43 (c23)) 50 (c52)) 52 (c53)) (uF (uF (uF (uF (uF (uF fa 39 (c4)) 40 (c5)) 46 (c48)) 47 (c49)) 48 (c50)) 49 (c51)) c54) := ⟨hP, hD⟩
                obtain ⟨rc48, rc49, rc50, rc51, rc52, rc53, hp54⟩ : (∀ t, inR (c48 t)) ∧ (∀ t, inR (c49 t)) ∧ (∀ t, inR (c50 t)) ∧ (∀ t, inR (c51 t)) ∧ (inR c52) ∧ (inR c53) ∧ (0 ≤ c52 ∧ c52 ≤ 1500 ∧ (∀ f, 0 ≤ f → f < 8192 → -1 ≤ c50 f ∧ c50 f < c52) ∧ (∀ t, 0 ≤ t → t < c52 → -1 ≤ c49 t ∧ c49 t < t) ∧ FR (n50_11) (g49_16) c52 c51) := hp
                obtain ⟨s1, s2, s3, s4, hF1⟩ := hp54
                have hFR := hFR.tr hF1
                refine lv_iinc (v := Int32.ofInt (x1_7 + 1)) (lv' := [(1, .int (Int32.ofInt ((x1_7 + 1)))), (0, .ref (ar 71))]) hx hb dX10_rideOn_108 hl (k := 0) rfl (Int32.ofInt_add _ _).symm (by decide) rfl (fun ls hl => ?_)
                refine lv_goto (tgt := 29) hx hb dX10_rideOn_111 (by decide) ?_
                have hl : lv_has ls 2 [(1, .int (Int32.ofInt ((x1_7 + 1)))), (0, .ref (ar 71))] := lv_sub hl [0, 1] rfl
                exact ih ((x1_7 + 1), c21, c22, c23, c52, c53, c48, c49, c50, c51, c54) (show (fa 3 0 + 1 - (x1_7 + 1)).toNat < (fa 3 0 + 1 - x1_7).toNat from by omega) (show inR (x1_7 + 1) ∧ inR c21 ∧ inR c22 ∧ inR c23 ∧ inR c52 ∧ inR c53 ∧ (∀ t, inR (c48 t)) ∧ (∀ t, inR (c49 t)) ∧ (∀ t, inR (c50 t)) ∧ (∀ t, inR (c51 t)) ∧ (0 ≤ (x1_7 + 1) ∧ 0 ≤ c52 ∧ c52 ≤ 1500 ∧ (∀ f, 0 ≤ f → f < 8192 → -1 ≤ c50 f ∧ c50 f < c52) ∧ (∀ t, 0 ≤ t → t < c52 → -1 ≤ c49 t ∧ c49 t < t) ∧ FR (fi 50) (fa 49) c52 c51) from ⟨(by omega), (by omega), (by omega), (by omega), (by omega), (by omega), rc48, rc49, rc50, rc51, (by exact ⟨by omega, s1, s2, s3, s4, hFR⟩)⟩) _ _ _ hP hD hS hl
              · refine lv_aload_n hx hb dX10_rideOn_96 rfl (lv_at hl 1 rfl) ?_
                refine va_get (D := G) (ci := 7) (v := .int (Int32.ofInt (c23))) (C := RX10) (T := TX10) (N := 71) (ref := RX10) hx hb hts h1w hown hX.1 hP 0 rfl rfl 43 (by decide) h5w (fun _ h9 => h9) rfl dX10_rideOn_97 ?_
                refine lv_goto (tgt := 104) hx hb dX10_rideOn_100 (by decide) ?_
                refine iv_add (x := fi 56) (y := c23) hx hb dX10_rideOn_104 ?_
                refine iv_wr ?_
                refine iv_top (fun z55 ez55 => ?_)
                have rz55 : inR z55 := ez55 ▸ bWr_r _
                refine cr_v (va_runV (As := [.long (c45), .int (Int32.ofInt (z55))]) (rest := []) ⟨hx, hb, hml, hown, hts⟩ (mX10_come l G k ar (uF (uF (uF (uF (uF fi 41 (c21)) 42 (c22)) 43 (c23)) 50 (n50_11)) 52 (n52_12)) (uF (uF (uF (uF (uF (uF fa 39 (c4)) 40 (c5)) 46 (g46_13)) 47 (g47_14)) 48 (g48_15)) 49 (g49_16)) gl_17 c45 z55 H.size (iF (iF (iF (iF (iF hR (by omega)) (by omega)) (by omega)) (by omega)) (by omega)) (iG (iG (iG (iG (iG (iG hRa rc4) rc5) r_g46_13) r_g47_14) r_g48_15) r_g49_16) (by omega) (show 0 ≤ n50_11 from by omega) (show n50_11 ≤ 1500 from by omega) (show ∀ f, 0 ≤ f → f < 8192 → -1 ≤ g48_15 f ∧ g48_15 f < n50_11 from by first | exact s3 | omega) (show ∀ t, 0 ≤ t → t < n50_11 → -1 ≤ g47_14 t ∧ g47_14 t < t from by first | exact s4 | omega)) (cwV 2 hts (gz [.methodLink RX10 458 yX10_come, .instanceMethod yX10_come, .selects RX10 yX10_come yX10_come, .initialized RX10] (.code yX10_come cX10_come 6 none) [(36, 5), (36, 6), (36, 7), (0, 5), (36, 8)] rfl) rfl rfl rfl (by decide +kernel) ⟨Nat.le_of_ble_eq_true rfl, Nat.le_of_ble_eq_true rfl⟩) (cr_preV (EZ_ok k) hZ hS hX hP hD hA (ci := 7) (q0 := 0) rfl rfl) rfl rfl hl.1 rfl (lv_room (Nat.le_of_ble_eq_true rfl)) dX10_rideOn_105 ⟨Nat.le_of_ble_eq_true rfl, Nat.le_of_ble_eq_true rfl⟩) hD hS hA (fun u H locs hp hP hD hS => ?_)
                obtain ⟨c56, c57, c58, c59, c60, c61, c62⟩ := u
                obtain ⟨hP, hD⟩ : va_P G vwCl (wM k ar (uF (uF (uF (uF (uF fi 41 (c21)) 42 (c22)) 43 (c23)) 50 (c60)) 52 (c61)) (uF (uF (uF (uF (uF (uF fa 39 (c4)) 40 (c5)) 46 (c56)) 47 (c57)) 48 (c58)) 49 (c59)) c62) H ∧ va_D A (wM k ar (uF (uF (uF (uF (uF fi 41 (c21)) 42 (c22)) 43 (c23)) 50 (c60)) 52 (c61)) (uF (uF (uF (uF (uF (uF fa 39 (c4)) 40 (c5)) 46 (c56)) 47 (c57)) 48 (c58)) 49 (c59)) c62) := ⟨hP, hD⟩
                obtain ⟨rc56, rc57, rc58, rc59, rc60, rc61, hp62⟩ : (∀ t, inR (c56 t)) ∧ (∀ t, inR (c57 t)) ∧ (∀ t, inR (c58 t)) ∧ (∀ t, inR (c59 t)) ∧ (inR c60) ∧ (inR c61) ∧ (0 ≤ c60 ∧ c60 ≤ 1500 ∧ (∀ f, 0 ≤ f → f < 8192 → -1 ≤ c58 f ∧ c58 f < c60) ∧ (∀ t, 0 ≤ t → t < c60 → -1 ≤ c57 t ∧ c57 t < t) ∧ FR (n50_11) (g49_16) c60 c59) := hp
                obtain ⟨s1, s2, s3, s4, hF1⟩ := hp62
                have hFR := hFR.tr hF1
                refine lv_iinc (v := Int32.ofInt (x1_7 + 1)) (lv' := [(1, .int (Int32.ofInt ((x1_7 + 1)))), (0, .ref (ar 71))]) hx hb dX10_rideOn_108 hl (k := 0) rfl (Int32.ofInt_add _ _).symm (by decide) rfl (fun ls hl => ?_)
                refine lv_goto (tgt := 29) hx hb dX10_rideOn_111 (by decide) ?_
                have hl : lv_has ls 2 [(1, .int (Int32.ofInt ((x1_7 + 1)))), (0, .ref (ar 71))] := lv_sub hl [0, 1] rfl
                exact ih ((x1_7 + 1), c21, c22, c23, c60, c61, c56, c57, c58, c59, c62) (show (fa 3 0 + 1 - (x1_7 + 1)).toNat < (fa 3 0 + 1 - x1_7).toNat from by omega) (show inR (x1_7 + 1) ∧ inR c21 ∧ inR c22 ∧ inR c23 ∧ inR c60 ∧ inR c61 ∧ (∀ t, inR (c56 t)) ∧ (∀ t, inR (c57 t)) ∧ (∀ t, inR (c58 t)) ∧ (∀ t, inR (c59 t)) ∧ (0 ≤ (x1_7 + 1) ∧ 0 ≤ c60 ∧ c60 ≤ 1500 ∧ (∀ f, 0 ≤ f → f < 8192 → -1 ≤ c58 f ∧ c58 f < c60) ∧ (∀ t, 0 ≤ t → t < c60 → -1 ≤ c57 t ∧ c57 t < t) ∧ FR (fi 50) (fa 49) c60 c59) from ⟨(by omega), (by omega), (by omega), (by omega), (by omega), (by omega), rc56, rc57, rc58, rc59, (by exact ⟨by omega, s1, s2, s3, s4, hFR⟩)⟩) _ _ _ hP hD hS hl
        · refine lv_goto (tgt := 108) hx hb dX10_rideOn_45 (by decide) ?_
          refine lv_iinc (v := Int32.ofInt (x1_7 + 1)) (lv' := [(1, .int (Int32.ofInt ((x1_7 + 1)))), (0, .ref (ar 71))]) hx hb dX10_rideOn_108 hl (k := 0) rfl (Int32.ofInt_add _ _).symm (by decide) rfl (fun ls hl => ?_)
          refine lv_goto (tgt := 29) hx hb dX10_rideOn_111 (by decide) ?_
          have hl : lv_has ls 2 [(1, .int (Int32.ofInt ((x1_7 + 1)))), (0, .ref (ar 71))] := lv_sub hl [0, 1] rfl
          exact ih ((x1_7 + 1), n41_8, n42_9, n43_10, n50_11, n52_12, g46_13, g47_14, g48_15, g49_16, gl_17) (show (fa 3 0 + 1 - (x1_7 + 1)).toNat < (fa 3 0 + 1 - x1_7).toNat from by omega) (show inR (x1_7 + 1) ∧ inR n41_8 ∧ inR n42_9 ∧ inR n43_10 ∧ inR n50_11 ∧ inR n52_12 ∧ (∀ t, inR (g46_13 t)) ∧ (∀ t, inR (g47_14 t)) ∧ (∀ t, inR (g48_15 t)) ∧ (∀ t, inR (g49_16 t)) ∧ (0 ≤ (x1_7 + 1) ∧ 0 ≤ n50_11 ∧ n50_11 ≤ 1500 ∧ (∀ f, 0 ≤ f → f < 8192 → -1 ≤ g48_15 f ∧ g48_15 f < n50_11) ∧ (∀ t, 0 ≤ t → t < n50_11 → -1 ≤ g47_14 t ∧ g47_14 t < t) ∧ FR (fi 50) (fa 49) n50_11 g49_16) from ⟨(by omega), (by omega), (by omega), (by omega), (by omega), (by omega), r_g46_13, r_g47_14, r_g48_15, r_g49_16, (by exact ⟨by omega, s1, s2, s3, s4, hFR⟩)⟩) _ _ _ hP hD hS hl
    · exact W.vret hx hb hr (fun t ht hW => ⟨⟨(c4, c5, fa 46, fa 47, fa 48, fa 49, fi 41, fi 42, fi 43, fi 50, fi 52, fl), rfl, (show (∀ t, inR (c4 t)) ∧ (∀ t, inR (c5 t)) ∧ (∀ t, inR ((fa 46) t)) ∧ (∀ t, inR ((fa 47) t)) ∧ (∀ t, inR ((fa 48) t)) ∧ (∀ t, inR ((fa 49) t)) ∧ (inR (fi 41)) ∧ (inR (fi 42)) ∧ (inR (fi 43)) ∧ (inR (fi 50)) ∧ (inR (fi 52)) ∧ (0 ≤ (fi 50) ∧ (fi 50) ≤ 1500 ∧ (∀ f, 0 ≤ f → f < 8192 → -1 ≤ (fa 48) f ∧ (fa 48) f < (fi 50)) ∧ (∀ t, 0 ≤ t → t < (fi 50) → -1 ≤ (fa 47) t ∧ (fa 47) t < t) ∧ FR (fi 50) (fa 49) (fi 50) (fa 49)) from ⟨rc4, rc5, (hRa 46), (hRa 47), (hRa 48), (hRa 49), (hR 41), (hR 42), (hR 43), (hR 50), (hR 52), (by exact ⟨s1, s2, s3, s4, hFR⟩)⟩), by rw [ht]; exact hP, hD⟩, hS.F ht⟩) hS.2.2 dX10_rideOn_26

set_option maxHeartbeats 4000000 in
set_option maxRecDepth 100000 in
theorem mX10_arrange_7 (l : Launch) (G : va_G) (k : Nat → ClassId) (ar : Nat → Nat) (fi : Nat → Int) (fa : Nat → Int → Int) (fl : Nat → Int64) (sz : Nat) (hR : ∀ j, inR (fi j)) (hRa : ∀ j t, inR (fa j t)) (hth : 0 ≤ fi 12 ∧ fi 12 ≤ 7) (hru : 0 ≤ fi 13 ∧ fi 13 ≤ 4) (hRW : ∀ q9, 0 ≤ q9 → q9 < fi 13 → RWf (fa 10) (fa 8 q9) (fa 9 q9)) (hdp : 0 ≤ fa 3 0 ∧ fa 3 0 ≤ 11) (s1 : 0 ≤ fi 50) (s2 : fi 50 ≤ 1500) (s3 : ∀ f, 0 ≤ f → f < 8192 → -1 ≤ fa 48 f ∧ fa 48 f < fi 50) (s4 : ∀ t, 0 ≤ t → t < fi 50 → -1 ≤ fa 47 t ∧ fa 47 t < t) (hi : 7 ≤ fi 12) : CNv l G k (EZ k) yX10_arrange wzX10_arrange ({ frames := 5, cells := 0, slots := 0, locals := 116 }) [.ref (ar 71), .int (Int32.ofInt (7))] sz (wM k ar fi fa fl) (fun (u : (Int → Int) × (Int → Int) × (Int → Int) × (Int → Int) × (Int → Int) × (Int → Int) × Int × Int × Int × Int × Int × (Nat → Int64)) => (∀ t, inR (u.1 t)) ∧ (∀ t, inR (u.2.1 t)) ∧ (∀ t, inR (u.2.2.1 t)) ∧ (∀ t, inR (u.2.2.2.1 t)) ∧ (∀ t, inR (u.2.2.2.2.1 t)) ∧ (∀ t, inR (u.2.2.2.2.2.1 t)) ∧ (inR u.2.2.2.2.2.2.1) ∧ (inR u.2.2.2.2.2.2.2.1) ∧ (inR u.2.2.2.2.2.2.2.2.1) ∧ (inR u.2.2.2.2.2.2.2.2.2.1) ∧ (inR u.2.2.2.2.2.2.2.2.2.2.1) ∧ (0 ≤ u.2.2.2.2.2.2.2.2.2.1 ∧ u.2.2.2.2.2.2.2.2.2.1 ≤ 1500 ∧ (∀ f, 0 ≤ f → f < 8192 → -1 ≤ u.2.2.2.2.1 f ∧ u.2.2.2.2.1 f < u.2.2.2.2.2.2.2.2.2.1) ∧ (∀ t, 0 ≤ t → t < u.2.2.2.2.2.2.2.2.2.1 → -1 ≤ u.2.2.2.1 t ∧ u.2.2.2.1 t < t) ∧ FR (fi 50) (fa 49) u.2.2.2.2.2.2.2.2.2.1 u.2.2.2.2.2.1)) (fun (u : (Int → Int) × (Int → Int) × (Int → Int) × (Int → Int) × (Int → Int) × (Int → Int) × Int × Int × Int × Int × Int × (Nat → Int64)) => (wM k ar (uF (uF (uF (uF (uF fi 41 (u.2.2.2.2.2.2.1)) 42 (u.2.2.2.2.2.2.2.1)) 43 (u.2.2.2.2.2.2.2.2.1)) 50 (u.2.2.2.2.2.2.2.2.2.1)) 52 (u.2.2.2.2.2.2.2.2.2.2.1)) (uF (uF (uF (uF (uF (uF fa 39 (u.1)) 40 (u.2.1)) 46 (u.2.2.1)) 47 (u.2.2.2.1)) 48 (u.2.2.2.2.1)) 49 (u.2.2.2.2.2.1)) u.2.2.2.2.2.2.2.2.2.2.2)) := by
  refine Met.ofW (cc := cX10_arrange) (maxL := 7) (ret := none) (by decide) rfl ?_
  intro p e s m args below meth c s₁ B hml hv
  obtain ⟨rfl, hsz, hP, hX, hD0, hZ0⟩ := hv
  have hx := B.exec
  have hb := B.bytes
  have hr := B.returns
  have hts := atoms_spec (ws := wzX10_arrange) B.pre
  have hown : s.vm.findClass RX10 = some m.cls := findClass_of_methodNamed B.named
  subst hsz
  have hD := hD0.self (sz := s.heap.size)
  have hZ := hZ0
  generalize hAe : va_A (wM k ar fi fa fl) s.heap.size = A at hD hZ ⊢
  have hA : ∀ q : Nat, s.heap.size ≤ q → A q := fun q h => by rw [← hAe]; exact Or.inr h
  have hS : va_S A s.heap s.heap [] := va_S.rf
  have hl := lv_entry ([.ref (ar 71), .int (Int32.ofInt (7))]) (n := 7) (Nat.le_of_ble_eq_true rfl)
  rw [lg_entry_eq]
  generalize (lg_sl ([.ref (ar 71), .int (Int32.ofInt (7))]) ++ List.replicate (7 - (lg_sl ([.ref (ar 71), .int (Int32.ofInt (7))])).length) Slot.unset).toArray = ls at hl ⊢
  have hl : lv_has ls 7 [(0, .ref (ar 71)), (1, .int (Int32.ofInt (7)))] := hl
  obtain ⟨H, eH⟩ : ∃ H, H = s.heap := ⟨_, rfl⟩
  rw [← eH] at hP
  have hS : va_S A s.heap H [] := by rw [eH]; exact hS
  have gW : s.heap = H := eH.symm
  refine iv_heap gW ?_
  have h0w := hts (.fieldLink RX10 439 "RopeTownModel" "isSpent" "Z") (wz_at 35 22 rfl)
  have h1w : ∀ w ∈ wsX100, w ∈ wzX10_arrange := fun w h => List.mem_cons_of_mem _ (inlX10 w h)
  have h2w := hts (.fieldLink RX10 174 "RopeTownModel" "things" "I") (wz_at 21 11 rfl)
  have hFR := FR.rf (n := fi 50) (d := fa 49)
  refine lv_aload_n hx hb dX10_arrange_0 rfl (lv_at hl 0 rfl) ?_
  refine va_get (D := G) (ci := 7) (v := .int (Int32.ofInt (fi 52))) (C := RX10) (T := TX10) (N := 71) (ref := RX10) hx hb hts h1w hown hX.1 hP 0 rfl rfl 52 (by decide) h0w (fun _ h9 => h9) rfl dX10_arrange_1 ?_
  have rf52 := hR 52
  refine iv_if_eq (tgt := 8) hx hb (by omega) dX10_arrange_4 (by decide) (fun q1 => ?_) (fun q1 => ?_)
  · refine lv_iload_n hx hb dX10_arrange_8 rfl (lv_at hl 1 rfl) ?_
    refine lv_aload_n hx hb dX10_arrange_9 rfl (lv_at hl 0 rfl) ?_
    refine va_get (D := G) (ci := 7) (v := .int (Int32.ofInt (fi 12))) (C := RX10) (T := TX10) (N := 71) (ref := RX10) hx hb hts h1w hown hX.1 hP 0 rfl rfl 12 (by decide) h2w (fun _ h9 => h9) rfl dX10_arrange_10 ?_
    have rf12 := hR 12
    refine iv_icmp_ne (tgt := 21) hx hb (by omega) (by omega) dX10_arrange_13 (by decide) (fun q2 => ?_) (fun q2 => ?_)
    · exfalso; omega
    · refine lv_aload_n hx hb dX10_arrange_16 rfl (lv_at hl 0 rfl) ?_
      refine cr_v (va_runV (As := []) (rest := []) ⟨hx, hb, hml, hown, hts⟩ (mX10_rideOn l G k ar fi fa fl H.size hR hRa (show 0 ≤ (fi 12) ∧ (fi 12) ≤ 7 from by omega) (show 0 ≤ (fi 13) ∧ (fi 13) ≤ 4 from by omega) (show ∀ q9, 0 ≤ q9 → q9 < (fi 13) → RWf ((fa 10)) ((fa 8) q9) ((fa 9) q9) from by first | exact hRW | omega) (show 0 ≤ (fa 3) 0 ∧ (fa 3) 0 ≤ 11 from by omega) (show 0 ≤ (fi 50) from by omega) (show (fi 50) ≤ 1500 from by omega) (show ∀ f, 0 ≤ f → f < 8192 → -1 ≤ (fa 48) f ∧ (fa 48) f < (fi 50) from by first | exact s3 | omega) (show ∀ t, 0 ≤ t → t < (fi 50) → -1 ≤ (fa 47) t ∧ (fa 47) t < t from by first | exact s4 | omega)) (cwV 0 hts (gz [.methodLink RX10 442 yX10_rideOn, .instanceMethod yX10_rideOn, .selects RX10 yX10_rideOn yX10_rideOn, .initialized RX10] (.code yX10_rideOn cX10_rideOn 2 none) [(37, 2), (37, 3), (37, 4), (0, 5), (37, 5)] rfl) rfl rfl rfl (by decide +kernel) ⟨Nat.le_of_ble_eq_true rfl, Nat.le_of_ble_eq_true rfl⟩) (cr_preV (EZ_ok k) hZ hS hX hP hD hA (ci := 7) (q0 := 0) rfl rfl) rfl rfl hl.1 rfl (lv_room (Nat.le_of_ble_eq_true rfl)) dX10_arrange_17 ⟨Nat.le_of_ble_eq_true rfl, Nat.le_of_ble_eq_true rfl⟩) hD hS hA (fun u H locs hp hP hD hS => ?_)
      obtain ⟨c3, c4, c5, c6, c7, c8, c9, c10, c11, c12, c13, c14⟩ := u
      obtain ⟨hP, hD⟩ : va_P G vwCl (wM k ar (uF (uF (uF (uF (uF fi 41 (c9)) 42 (c10)) 43 (c11)) 50 (c12)) 52 (c13)) (uF (uF (uF (uF (uF (uF fa 39 (c3)) 40 (c4)) 46 (c5)) 47 (c6)) 48 (c7)) 49 (c8)) c14) H ∧ va_D A (wM k ar (uF (uF (uF (uF (uF fi 41 (c9)) 42 (c10)) 43 (c11)) 50 (c12)) 52 (c13)) (uF (uF (uF (uF (uF (uF fa 39 (c3)) 40 (c4)) 46 (c5)) 47 (c6)) 48 (c7)) 49 (c8)) c14) := ⟨hP, hD⟩
      obtain ⟨rc3, rc4, rc5, rc6, rc7, rc8, rc9, rc10, rc11, rc12, rc13, hp14⟩ : (∀ t, inR (c3 t)) ∧ (∀ t, inR (c4 t)) ∧ (∀ t, inR (c5 t)) ∧ (∀ t, inR (c6 t)) ∧ (∀ t, inR (c7 t)) ∧ (∀ t, inR (c8 t)) ∧ (inR c9) ∧ (inR c10) ∧ (inR c11) ∧ (inR c12) ∧ (inR c13) ∧ (0 ≤ c12 ∧ c12 ≤ 1500 ∧ (∀ f, 0 ≤ f → f < 8192 → -1 ≤ c7 f ∧ c7 f < c12) ∧ (∀ t, 0 ≤ t → t < c12 → -1 ≤ c6 t ∧ c6 t < t) ∧ FR ((fi 50)) ((fa 49)) c12 c8) := hp
      obtain ⟨s1, s2, s3, s4, hF1⟩ := hp14
      have hFR := hFR.tr hF1
      exact W.vret hx hb hr (fun t ht hW => ⟨⟨(c3, c4, c5, c6, c7, c8, c9, c10, c11, c12, c13, c14), rfl, (show (∀ t, inR (c3 t)) ∧ (∀ t, inR (c4 t)) ∧ (∀ t, inR (c5 t)) ∧ (∀ t, inR (c6 t)) ∧ (∀ t, inR (c7 t)) ∧ (∀ t, inR (c8 t)) ∧ (inR c9) ∧ (inR c10) ∧ (inR c11) ∧ (inR c12) ∧ (inR c13) ∧ (0 ≤ c12 ∧ c12 ≤ 1500 ∧ (∀ f, 0 ≤ f → f < 8192 → -1 ≤ c7 f ∧ c7 f < c12) ∧ (∀ t, 0 ≤ t → t < c12 → -1 ≤ c6 t ∧ c6 t < t) ∧ FR (fi 50) (fa 49) c12 c8) from ⟨rc3, rc4, rc5, rc6, rc7, rc8, (by omega), (by omega), (by omega), (by omega), (by omega), (by exact ⟨s1, s2, s3, s4, hFR⟩)⟩), by rw [ht]; exact hP, hD⟩, hS.F ht⟩) hS.2.2 dX10_arrange_20
  · exact W.vret hx hb hr (fun t ht hW => ⟨⟨(fa 39, fa 40, fa 46, fa 47, fa 48, fa 49, fi 41, fi 42, fi 43, fi 50, fi 52, fl), rfl, (show (∀ t, inR ((fa 39) t)) ∧ (∀ t, inR ((fa 40) t)) ∧ (∀ t, inR ((fa 46) t)) ∧ (∀ t, inR ((fa 47) t)) ∧ (∀ t, inR ((fa 48) t)) ∧ (∀ t, inR ((fa 49) t)) ∧ (inR (fi 41)) ∧ (inR (fi 42)) ∧ (inR (fi 43)) ∧ (inR (fi 50)) ∧ (inR (fi 52)) ∧ (0 ≤ (fi 50) ∧ (fi 50) ≤ 1500 ∧ (∀ f, 0 ≤ f → f < 8192 → -1 ≤ (fa 48) f ∧ (fa 48) f < (fi 50)) ∧ (∀ t, 0 ≤ t → t < (fi 50) → -1 ≤ (fa 47) t ∧ (fa 47) t < t) ∧ FR (fi 50) (fa 49) (fi 50) (fa 49)) from ⟨(hRa 39), (hRa 40), (hRa 46), (hRa 47), (hRa 48), (hRa 49), (hR 41), (hR 42), (hR 43), (hR 50), (hR 52), (by exact ⟨s1, s2, s3, s4, hFR⟩)⟩), by rw [ht]; exact hP, hD⟩, hS.F ht⟩) hS.2.2 dX10_arrange_7

