set_option maxHeartbeats 4000000 in
set_option maxRecDepth 100000 in
theorem mX10_arrange_7 (l : Launch) (G : va_G) (k : Nat → ClassId) (ar : Nat → Nat) (fi : Nat → Int) (fa : Nat → Int → Int) (fl : Nat → Int64) (sz : Nat) (hR : ∀ j, inR (fi j)) (hRa : ∀ j t, inR (fa j t)) (hth : 0 ≤ fi 12 ∧ fi 12 ≤ 7) (hru : 0 ≤ fi 13 ∧ fi 13 ≤ 4) (hRW : ∀ q9, 0 ≤ q9 → q9 < fi 13 → RWf (fa 10) (fa 8 q9) (fa 9 q9)) (hdp : 0 ≤ fa 3 0 ∧ fa 3 0 ≤ 11) (s1 : 0 ≤ fi 50) (s2 : fi 50 ≤ 1500) (s3 : ∀ f, 0 ≤ f → f < 8192 → -1 ≤ fa 48 f ∧ fa 48 f < fi 50) (s4 : ∀ t, 0 ≤ t → t < fi 50 → -1 ≤ fa 47 t ∧ fa 47 t < t) (hi : 7 ≤ fi 12) : CNv l G k (EZ k) yX10_arrange wsX10_arrange ({ frames := 5, cells := 0, slots := 0, locals := 116 }) [.ref (ar 71), .int (Int32.ofInt (7))] sz (wM k ar fi fa fl) (fun (u : (Int → Int) × (Int → Int) × (Int → Int) × (Int → Int) × (Int → Int) × (Int → Int) × Int × Int × Int × Int × Int × (Nat → Int64)) => (∀ t, inR (u.1 t)) ∧ (∀ t, inR (u.2.1 t)) ∧ (∀ t, inR (u.2.2.1 t)) ∧ (∀ t, inR (u.2.2.2.1 t)) ∧ (∀ t, inR (u.2.2.2.2.1 t)) ∧ (∀ t, inR (u.2.2.2.2.2.1 t)) ∧ (inR u.2.2.2.2.2.2.1) ∧ (inR u.2.2.2.2.2.2.2.1) ∧ (inR u.2.2.2.2.2.2.2.2.1) ∧ (inR u.2.2.2.2.2.2.2.2.2.1) ∧ (inR u.2.2.2.2.2.2.2.2.2.2.1) ∧ (0 ≤ u.2.2.2.2.2.2.2.2.2.1 ∧ u.2.2.2.2.2.2.2.2.2.1 ≤ 1500 ∧ (∀ f, 0 ≤ f → f < 8192 → -1 ≤ u.2.2.2.2.1 f ∧ u.2.2.2.2.1 f < u.2.2.2.2.2.2.2.2.2.1) ∧ (∀ t, 0 ≤ t → t < u.2.2.2.2.2.2.2.2.2.1 → -1 ≤ u.2.2.2.1 t ∧ u.2.2.2.1 t < t) ∧ FR (fi 50) (fa 49) u.2.2.2.2.2.2.2.2.2.1 u.2.2.2.2.2.1)) (fun (u : (Int → Int) × (Int → Int) × (Int → Int) × (Int → Int) × (Int → Int) × (Int → Int) × Int × Int × Int × Int × Int × (Nat → Int64)) => (wM k ar (uF (uF (uF (uF (uF fi 41 (u.2.2.2.2.2.2.1)) 42 (u.2.2.2.2.2.2.2.1)) 43 (u.2.2.2.2.2.2.2.2.1)) 50 (u.2.2.2.2.2.2.2.2.2.1)) 52 (u.2.2.2.2.2.2.2.2.2.2.1)) (uF (uF (uF (uF (uF (uF fa 39 (u.1)) 40 (u.2.1)) 46 (u.2.2.1)) 47 (u.2.2.2.1)) 48 (u.2.2.2.2.1)) 49 (u.2.2.2.2.2.1)) u.2.2.2.2.2.2.2.2.2.2.2)) := by
  refine Met.ofW (cc := cX10_arrange) (maxL := 7) (ret := none) (by decide) rfl ?_
  intro p e s m args below meth c s₁ B hml hv
  obtain ⟨rfl, hsz, hP, hX, hD0, hZ0⟩ := hv
  have hx := B.exec
  have hb := B.bytes
  have hr := B.returns
  have hts := atoms_spec (ws := wsX10_arrange) B.pre
  have hown : s.vm.findClass RX10 = some m.cls := findClass_of_methodNamed B.named
  subst hsz
  have hD := hD0.self (sz := s.heap.size)
  have hZ := hZ0
  generalize hAe : va_A (wM k ar fi fa fl) s.heap.size = A at hD hZ ⊢
  have hA : ∀ q : Nat, s.heap.size ≤ q → A q := fun q h => by rw [← hAe]; exact Or.inr h
  have hS : va_S A s.heap s.heap [] := va_S.rf
  have hl := lv_entry ([.ref (ar 71), .int (Int32.ofInt (7))]) (n := 7) (Nat.le_of_ble_eq_true rfl)
  rw [lg_entry_eq]
  generalize (lg_sl ([.ref (ar 71), .int (Int32.ofInt (7))]) ++ List.replicate (7 - (lg_sl ([.ref (ar 71), .int (Int32.ofInt (7))])).length) Slot.unset).toArray = ls at hl ⊢
  have hl : lv_has ls 7 [(0, .ref (ar 71)), (1, .int (Int32.ofInt (7)))] := hl
  obtain ⟨H, eH⟩ : ∃ H, H = s.heap := ⟨_, rfl⟩
  rw [← eH] at hP
  have hS : va_S A s.heap H [] := by rw [eH]; exact hS
  have gW : s.heap = H := eH.symm
  refine iv_heap gW ?_
  have h0w := hts (.fieldLink RX10 439 "RopeTownModel" "isSpent" "Z") (by decide +kernel)
  have h1w : ∀ w ∈ wsX100, w ∈ wsX10_arrange := by decide +kernel
  have h2w := hts (.fieldLink RX10 174 "RopeTownModel" "things" "I") (by decide +kernel)
  have hFR := FR.rf (n := fi 50) (d := fa 49)
  refine lv_aload_n hx hb dX10_arrange_0 rfl (lv_at hl 0 rfl) ?_
  refine va_get (D := G) (ci := 7) (v := .int (Int32.ofInt (fi 52))) (C := RX10) (T := TX10) (N := 71) (ref := RX10) hx hb hts h1w hown hX.1 hP 0 rfl rfl 52 (by decide) h0w (fun _ h9 => h9) rfl dX10_arrange_1 ?_
  have rf52 := hR 52
  refine iv_if_eq (tgt := 8) hx hb (by omega) dX10_arrange_4 (by decide) (fun q1 => ?_) (fun q1 => ?_)
  · refine lv_iload_n hx hb dX10_arrange_8 rfl (lv_at hl 1 rfl) ?_
    refine lv_aload_n hx hb dX10_arrange_9 rfl (lv_at hl 0 rfl) ?_
    refine va_get (D := G) (ci := 7) (v := .int (Int32.ofInt (fi 12))) (C := RX10) (T := TX10) (N := 71) (ref := RX10) hx hb hts h1w hown hX.1 hP 0 rfl rfl 12 (by decide) h2w (fun _ h9 => h9) rfl dX10_arrange_10 ?_
    have rf12 := hR 12
    refine iv_icmp_ne (tgt := 21) hx hb (by omega) (by omega) dX10_arrange_13 (by decide) (fun q2 => ?_) (fun q2 => ?_)
    · exfalso; omega
    · refine lv_aload_n hx hb dX10_arrange_16 rfl (lv_at hl 0 rfl) ?_
      refine cr_v (va_runV (As := []) (rest := []) ⟨hx, hb, hml, hown, hts⟩ (mX10_rideOn l G k ar fi fa fl H.size hR hRa (show 0 ≤ (fi 12) ∧ (fi 12) ≤ 7 from by omega) (show 0 ≤ (fi 13) ∧ (fi 13) ≤ 4 from by omega) (show ∀ q9, 0 ≤ q9 → q9 < (fi 13) → RWf ((fa 10)) ((fa 8) q9) ((fa 9) q9) from by first | exact hRW | omega) (show 0 ≤ (fa 3) 0 ∧ (fa 3) 0 ≤ 11 from by omega) (show 0 ≤ (fi 50) from by omega) (show (fi 50) ≤ 1500 from by omega) (show ∀ f, 0 ≤ f → f < 8192 → -1 ≤ (fa 48) f ∧ (fa 48) f < (fi 50) from by first | exact s3 | omega) (show ∀ t, 0 ≤ t → t < (fi 50) → -1 ≤ (fa 47) t ∧ (fa 47) t < t from by first | exact s4 | omega)) (cwV 0 hts gX10_arrange_X10_rideOn rfl rfl rfl (by decide +kernel) ⟨Nat.le_of_ble_eq_true rfl, Nat.le_of_ble_eq_true rfl⟩) (cr_preV (EZ_ok k) hZ hS hX hP hD hA (ci := 7) (q0 := 0) rfl rfl) rfl rfl hl.1 rfl (lv_room (Nat.le_of_ble_eq_true rfl)) dX10_arrange_17 ⟨Nat.le_of_ble_eq_true rfl, Nat.le_of_ble_eq_true rfl⟩) hD hS hA (fun u H locs hp hP hD hS => ?_)
      obtain ⟨c3, c4, c5, c6, c7, c8, c9, c10, c11, c12, c13, c14⟩ := u
      obtain ⟨hP, hD⟩ : va_P G vwCl (wM k ar (uF (uF (uF (uF (uF fi 41 (c9)) 42 (c10)) 43 (c11)) 50 (c12)) 52 (c13)) (uF (uF (uF (uF (uF (uF fa 39 (c3)) 40 (c4)) 46 (c5)) 47 (c6)) 48 (c7)) 49 (c8)) c14) H ∧ va_D A (wM k ar (uF (uF (uF (uF (uF fi 41 (c9)) 42 (c10)) 43 (c11)) 50 (c12)) 52 (c13)) (uF (uF (uF (uF (uF (uF fa 39 (c3)) 40 (c4)) 46 (c5)) 47 (c6)) 48 (c7)) 49 (c8)) c14) := ⟨hP, hD⟩
      obtain ⟨rc3, rc4, rc5, rc6, rc7, rc8, rc9, rc10, rc11, rc12, rc13, hp14⟩ : (∀ t, inR (c3 t)) ∧ (∀ t, inR (c4 t)) ∧ (∀ t, inR (c5 t)) ∧ (∀ t, inR (c6 t)) ∧ (∀ t, inR (c7 t)) ∧ (∀ t, inR (c8 t)) ∧ (inR c9) ∧ (inR c10) ∧ (inR c11) ∧ (inR c12) ∧ (inR c13) ∧ (0 ≤ c12 ∧ c12 ≤ 1500 ∧ (∀ f, 0 ≤ f → f < 8192 → -1 ≤ c7 f ∧ c7 f < c12) ∧ (∀ t, 0 ≤ t → t < c12 → -1 ≤ c6 t ∧ c6 t < t) ∧ FR ((fi 50)) ((fa 49)) c12 c8) := hp
      obtain ⟨s1, s2, s3, s4, hF1⟩ := hp14
      have hFR := hFR.tr hF1
      exact W.vret hx hb hr (fun t ht hW => ⟨⟨(c3, c4, c5, c6, c7, c8, c9, c10, c11, c12, c13, c14), rfl, (show (∀ t, inR (c3 t)) ∧ (∀ t, inR (c4 t)) ∧ (∀ t, inR (c5 t)) ∧ (∀ t, inR (c6 t)) ∧ (∀ t, inR (c7 t)) ∧ (∀ t, inR (c8 t)) ∧ (inR c9) ∧ (inR c10) ∧ (inR c11) ∧ (inR c12) ∧ (inR c13) ∧ (0 ≤ c12 ∧ c12 ≤ 1500 ∧ (∀ f, 0 ≤ f → f < 8192 → -1 ≤ c7 f ∧ c7 f < c12) ∧ (∀ t, 0 ≤ t → t < c12 → -1 ≤ c6 t ∧ c6 t < t) ∧ FR (fi 50) (fa 49) c12 c8) from ⟨rc3, rc4, rc5, rc6, rc7, rc8, (by omega), (by omega), (by omega), (by omega), (by omega), (by exact ⟨s1, s2, s3, s4, hFR⟩)⟩), by rw [ht]; exact hP, hD⟩, hS.F ht⟩) hS.2.2 dX10_arrange_20
  · exact W.vret hx hb hr (fun t ht hW => ⟨⟨(fa 39, fa 40, fa 46, fa 47, fa 48, fa 49, fi 41, fi 42, fi 43, fi 50, fi 52, fl), rfl, (show (∀ t, inR ((fa 39) t)) ∧ (∀ t, inR ((fa 40) t)) ∧ (∀ t, inR ((fa 46) t)) ∧ (∀ t, inR ((fa 47) t)) ∧ (∀ t, inR ((fa 48) t)) ∧ (∀ t, inR ((fa 49) t)) ∧ (inR (fi 41)) ∧ (inR (fi 42)) ∧ (inR (fi 43)) ∧ (inR (fi 50)) ∧ (inR (fi 52)) ∧ (0 ≤ (fi 50) ∧ (fi 50) ≤ 1500 ∧ (∀ f, 0 ≤ f → f < 8192 → -1 ≤ (fa 48) f ∧ (fa 48) f < (fi 50)) ∧ (∀ t, 0 ≤ t → t < (fi 50) → -1 ≤ (fa 47) t ∧ (fa 47) t < t) ∧ FR (fi 50) (fa 49) (fi 50) (fa 49)) from ⟨(hRa 39), (hRa 40), (hRa 46), (hRa 47), (hRa 48), (hRa 49), (hR 41), (hR 42), (hR 43), (hR 50), (hR 52), (by exact ⟨s1, s2, s3, s4, hFR⟩)⟩), by rw [ht]; exact hP, hD⟩, hS.F ht⟩) hS.2.2 dX10_arrange_7

