set_option maxHeartbeats 4000000 in
set_option maxRecDepth 100000 in
theorem mX10_reachOf (l : Launch) (G : va_G) (k : Nat → ClassId) (ar : Nat → Nat) (fi : Nat → Int) (fa : Nat → Int → Int) (fl : Nat → Int64) (t0 : Int) (w0 : Int) (sz : Nat) (hR : ∀ j, inR (fi j)) (hRa : ∀ j t, inR (fa j t)) (hr_t0 : inR t0) (hr_w0 : inR w0) (hth : 0 ≤ fi 12 ∧ fi 12 ≤ 7) (hru : 0 ≤ fi 13 ∧ fi 13 ≤ 4) (hRW : ∀ q9, 0 ≤ q9 → q9 < fi 13 → RWf (fa 10) (fa 8 q9) (fa 9 q9)) (hdp : 0 ≤ fa 3 0 ∧ fa 3 0 ≤ 11) (ht0 : 0 ≤ t0 ∧ t0 < 7) : CNi l G k (EZ k) yX10_reachOf wzX10_reachOf ({ frames := 14, cells := 0, slots := 0, locals := 349 }) [.ref (ar 71), .int (Int32.ofInt (t0)), .int (Int32.ofInt (w0))] sz (wM k ar fi fa fl) (fun (r0 : Int32) (u : Int × (Int → Int) × (Int → Int) × (Int → Int) × (Int → Int) × (Int → Int) × (Int → Int) × (Int → Int) × (Int → Int) × (Int → Int) × Int × Int × Int × Int × Int × Int × Int × Int × (Nat → Int64)) => r0 = Int32.ofInt (u.1) ∧ (inR u.1) ∧ (∀ t, inR (u.2.1 t)) ∧ (∀ t, inR (u.2.2.1 t)) ∧ (∀ t, inR (u.2.2.2.1 t)) ∧ (∀ t, inR (u.2.2.2.2.1 t)) ∧ (∀ t, inR (u.2.2.2.2.2.1 t)) ∧ (∀ t, inR (u.2.2.2.2.2.2.1 t)) ∧ (∀ t, inR (u.2.2.2.2.2.2.2.1 t)) ∧ (∀ t, inR (u.2.2.2.2.2.2.2.2.1 t)) ∧ (∀ t, inR (u.2.2.2.2.2.2.2.2.2.1 t)) ∧ (inR u.2.2.2.2.2.2.2.2.2.2.1) ∧ (inR u.2.2.2.2.2.2.2.2.2.2.2.1) ∧ (inR u.2.2.2.2.2.2.2.2.2.2.2.2.1) ∧ (inR u.2.2.2.2.2.2.2.2.2.2.2.2.2.1) ∧ (inR u.2.2.2.2.2.2.2.2.2.2.2.2.2.2.1) ∧ (inR u.2.2.2.2.2.2.2.2.2.2.2.2.2.2.2.1) ∧ (inR u.2.2.2.2.2.2.2.2.2.2.2.2.2.2.2.2.1) ∧ (inR u.2.2.2.2.2.2.2.2.2.2.2.2.2.2.2.2.2.1) ∧ (True)) (fun (u : Int × (Int → Int) × (Int → Int) × (Int → Int) × (Int → Int) × (Int → Int) × (Int → Int) × (Int → Int) × (Int → Int) × (Int → Int) × Int × Int × Int × Int × Int × Int × Int × Int × (Nat → Int64)) => (wM k ar (uF (uF (uF (uF (uF (uF (uF (uF fi 41 (u.2.2.2.2.2.2.2.2.2.2.1)) 42 (u.2.2.2.2.2.2.2.2.2.2.2.1)) 43 (u.2.2.2.2.2.2.2.2.2.2.2.2.1)) 50 (u.2.2.2.2.2.2.2.2.2.2.2.2.2.1)) 51 (u.2.2.2.2.2.2.2.2.2.2.2.2.2.2.1)) 52 (u.2.2.2.2.2.2.2.2.2.2.2.2.2.2.2.1)) 55 (u.2.2.2.2.2.2.2.2.2.2.2.2.2.2.2.2.1)) 56 (u.2.2.2.2.2.2.2.2.2.2.2.2.2.2.2.2.2.1)) (uF (uF (uF (uF (uF (uF (uF (uF (uF fa 39 (u.2.1)) 40 (u.2.2.1)) 46 (u.2.2.2.1)) 47 (u.2.2.2.2.1)) 48 (u.2.2.2.2.2.1)) 49 (u.2.2.2.2.2.2.1)) 53 (u.2.2.2.2.2.2.2.1)) 54 (u.2.2.2.2.2.2.2.2.1)) 57 (u.2.2.2.2.2.2.2.2.2.1)) u.2.2.2.2.2.2.2.2.2.2.2.2.2.2.2.2.2.2)) := by
  refine Met.ofW (cc := cX10_reachOf) (maxL := 5) (ret := (some .int)) (by decide) rfl ?_
  intro p e s m args below meth c s₁ B hml hv
  obtain ⟨rfl, hsz, hP, hX, hD0, hZ0⟩ := hv
  have hx := B.exec
  have hb := B.bytes
  have hr := B.returns
  have hts := atoms_spec (ws := wzX10_reachOf) B.pre
  have hown : s.vm.findClass RX10 = some m.cls := findClass_of_methodNamed B.named
  subst hsz
  have hD := hD0.self (sz := s.heap.size)
  have hZ := hZ0
  generalize hAe : va_A (wM k ar fi fa fl) s.heap.size = A at hD hZ ⊢
  have hA : ∀ q : Nat, s.heap.size ≤ q → A q := fun q h => by rw [← hAe]; exact Or.inr h
  have hS : va_S A s.heap s.heap [] := va_S.rf
  have hl := lv_entry ([.ref (ar 71), .int (Int32.ofInt (t0)), .int (Int32.ofInt (w0))]) (n := 5) (Nat.le_of_ble_eq_true rfl)
  rw [lg_entry_eq]
  generalize (lg_sl ([.ref (ar 71), .int (Int32.ofInt (t0)), .int (Int32.ofInt (w0))]) ++ List.replicate (5 - (lg_sl ([.ref (ar 71), .int (Int32.ofInt (t0)), .int (Int32.ofInt (w0))])).length) Slot.unset).toArray = ls at hl ⊢
  have hl : lv_has ls 5 [(0, .ref (ar 71)), (1, .int (Int32.ofInt (t0))), (2, .int (Int32.ofInt (w0)))] := hl
  obtain ⟨H, eH⟩ : ∃ H, H = s.heap := ⟨_, rfl⟩
  rw [← eH] at hP
  have hS : va_S A s.heap H [] := by rw [eH]; exact hS
  have gW : s.heap = H := eH.symm
  refine iv_heap gW ?_
  have h0w := hts (.fieldLink RX10 87 "RopeTownModel" "place" "[I") (wz_at 6 17 rfl)
  have h1w : ∀ w ∈ wsX100, w ∈ wzX10_reachOf := fun w h => List.mem_cons_of_mem _ (inlX10 w h)
  have h2w := hts (.fieldLink RX10 140 "RopeTownModel" "fewer" "[I") (wz_at 7 11 rfl)
  have h3w := hts (.fieldLink RX10 327 "RopeTownModel" "bucket0" "I") (wz_at 21 13 rfl)
  have h4w := hts (.fieldLink RX10 436 "RopeTownModel" "states" "I") (wz_at 35 21 rfl)
  have h5w := hts (.fieldLink RX10 117 "RopeTownModel" "state" "[J") (wz_at 7 3 rfl)
  have h6w := hts (.fieldLink RX10 134 "RopeTownModel" "row" "[I") (wz_at 7 9 rfl)
  have h7w := hts (.fieldLink RX10 427 "RopeTownModel" "rowBucket" "I") (wz_at 36 21 rfl)
  refine lv_aload_n hx hb dX10_reachOf_0 rfl (lv_at hl 0 rfl) ?_
  refine lv_iload_n hx hb dX10_reachOf_1 rfl (lv_at hl 1 rfl) ?_
  refine lv_aload_n hx hb dX10_reachOf_2 rfl (lv_at hl 0 rfl) ?_
  refine va_get (D := G) (ci := 7) (v := .ref (ar 32)) (C := RX10) (T := TX10) (N := 71) (ref := RX10) hx hb hts h1w hown hX.1 hP 0 rfl rfl 32 (by decide) h0w (fun _ h9 => h9) rfl dX10_reachOf_3 ?_
  refine lv_iload_n hx hb dX10_reachOf_6 rfl (lv_at hl 1 rfl) ?_
  refine iv_iald hx hb hX.1 hP 11 0 rfl rfl (by omega) (by omega) (by decide) dX10_reachOf_7 ?_
  refine iv_top (fun z1 ez1 => ?_)
  have rz1 : inR z1 := ez1 ▸ (hRa 32) _
  have ez1 : z1 = (fa 32) t0 := ez1
  refine cr_i (va_runV (As := [.int (Int32.ofInt (t0)), .int (Int32.ofInt (z1))]) (rest := []) ⟨hx, hb, hml, hown, hts⟩ (mX10_isServed l G k ar fi fa fl t0 z1 H.size hR hRa (by omega) (by omega) (show 0 ≤ t0 ∧ t0 < 14 from by omega)) (cwV 2 hts (gz [.methodLink RX10 355 yX10_isServed, .instanceMethod yX10_isServed, .selects RX10 yX10_isServed yX10_isServed, .initialized RX10] (.code yX10_isServed cX10_isServed 3 (some .boolean)) [(24, 15), (24, 16), (24, 17), (0, 5), (24, 18)] rfl) rfl rfl rfl (by decide +kernel) ⟨Nat.le_of_ble_eq_true rfl, Nat.le_of_ble_eq_true rfl⟩) (cr_preV (EZ_ok k) hZ hS hX hP hD hA (ci := 7) (q0 := 0) rfl rfl) rfl rfl hl.1 rfl (lv_room (Nat.le_of_ble_eq_true rfl)) dX10_reachOf_8 ⟨Nat.le_of_ble_eq_true rfl, Nat.le_of_ble_eq_true rfl⟩) hD hS hA (fun r u H locs hp hP hD hS => ?_)
  obtain ⟨c2, rfl⟩ : ∃ z, z = u := ⟨_, rfl⟩
  obtain ⟨h9, rc2, hp2⟩ : r = Int32.ofInt c2 ∧ (inR c2) ∧ ((c2 = 1 ∧ svM z1 ((fa 7) t0)) ∨ (c2 = 0 ∧ ¬ svM z1 ((fa 7) t0))) := hp
  subst h9
  unfold svM at hp2
  refine iv_if_eq (tgt := 38) hx hb (by omega) dX10_reachOf_11 (by decide) (fun q3 => ?_) (fun q3 => ?_)
  · refine lv_iconst (v := Int32.ofInt 0) hx hb dX10_reachOf_38 (by decide +kernel) ?_
    refine lv_istore_n (lv' := [(3, .int (Int32.ofInt (0))), (0, .ref (ar 71)), (1, .int (Int32.ofInt (t0))), (2, .int (Int32.ofInt (w0)))]) hx hb dX10_reachOf_39 rfl hl (by decide) rfl (fun ls hl => ?_)
    refine iv_loop (α := Int × (Int → Int)) (nL := 5) (fun b9 => (wM k ar fi (uF fa 57 (b9.2)) fl)) (fun b9 => [(3, .int (Int32.ofInt (b9.1))), (0, .ref (ar 71)), (1, .int (Int32.ofInt (t0))), (2, .int (Int32.ofInt (w0)))]) (fun b9 => (7 - b9.1).toNat) (fun b9 => inR b9.1 ∧ (∀ t, inR (b9.2 t)) ∧ (0 ≤ b9.1 ∧ b9.1 ≤ 7)) ?_ (0, fa 57) (show inR 0 ∧ (∀ t, inR ((fa 57) t)) ∧ (0 ≤ 0 ∧ 0 ≤ 7) from ⟨(by omega), (hRa 57), (by omega)⟩) hP hD hS hl
    rintro ⟨x3_4, g57_5⟩ ih hi9 H locs ls hP hD hS hl
    obtain ⟨r_x3_4, r_g57_5, hinv⟩ : inR x3_4 ∧ (∀ t, inR (g57_5 t)) ∧ (0 ≤ x3_4 ∧ x3_4 ≤ 7) := hi9
    obtain ⟨hP, hD⟩ : va_P G vwCl (wM k ar fi (uF fa 57 (g57_5)) fl) H ∧ va_D A (wM k ar fi (uF fa 57 (g57_5)) fl) := ⟨hP, hD⟩
    have hl : lv_has ls 5 [(3, .int (Int32.ofInt (x3_4))), (0, .ref (ar 71)), (1, .int (Int32.ofInt (t0))), (2, .int (Int32.ofInt (w0)))] := hl
    refine lv_iload_n hx hb dX10_reachOf_40 rfl (lv_at hl 0 rfl) ?_
    refine lv_bipush (v := Int32.ofInt 7) hx hb dX10_reachOf_41 (by decide +kernel) ?_
    refine iv_icmp_ge (tgt := 78) hx hb (by omega) (by omega) dX10_reachOf_43 (by decide) (fun q6 => ?_) (fun q6 => ?_)
    · refine lv_aload_n hx hb dX10_reachOf_78 rfl (lv_at hl 1 rfl) ?_
      refine lv_aload_n hx hb dX10_reachOf_79 rfl (lv_at hl 1 rfl) ?_
      refine va_get (D := G) (ci := 7) (v := .ref (ar 57)) (C := RX10) (T := TX10) (N := 71) (ref := RX10) hx hb hts h1w hown hX.1 hP 0 rfl rfl 57 (by decide) h2w (fun _ h9 => h9) rfl dX10_reachOf_80 ?_
      refine lv_aload_n hx hb dX10_reachOf_83 rfl (lv_at hl 1 rfl) ?_
      refine va_get (D := G) (ci := 7) (v := .int (Int32.ofInt (fi 28))) (C := RX10) (T := TX10) (N := 71) (ref := RX10) hx hb hts h1w hown hX.1 hP 0 rfl rfl 28 (by decide) h3w (fun _ h9 => h9) rfl dX10_reachOf_84 ?_
      have rf28 := hR 28
      refine lv_iconst (v := Int32.ofInt 0) hx hb dX10_reachOf_87 (by decide +kernel) ?_
      refine cr_i (va_runV (As := [.ref (ar 57), .int (Int32.ofInt (fi 28)), .int (Int32.ofInt (0))]) (rest := []) ⟨hx, hb, hml, hown, hts⟩ (mX10_seek_57 l G k ar fi (uF fa 57 (g57_5)) fl (fi 28) 0 H.size hR (iG hRa r_g57_5) (hR 28) (by omega) (show 0 ≤ (fi 12) ∧ (fi 12) ≤ 7 from by omega) (show 0 ≤ (fi 13) ∧ (fi 13) ≤ 4 from by omega) (show ∀ q9, 0 ≤ q9 → q9 < (fi 13) → RWf ((fa 10)) ((fa 8) q9) ((fa 9) q9) from by first | exact hRW | omega) (show 0 ≤ (fa 3) 0 ∧ (fa 3) 0 ≤ 11 from by omega) (show 0 = 0 ∨ 0 = 1 from by omega)) (cwV 3 hts (gz [.methodLink RX10 472 yX10_seek, .instanceMethod yX10_seek, .selects RX10 yX10_seek yX10_seek, .initialized RX10] (.code yX10_seek cX10_seek 6 (some .boolean)) [(35, 17), (35, 18), (35, 19), (0, 5), (35, 20)] rfl) rfl rfl rfl (by decide +kernel) ⟨Nat.le_of_ble_eq_true rfl, Nat.le_of_ble_eq_true rfl⟩) (cr_preV (EZ_ok k) hZ hS hX hP hD hA (ci := 7) (q0 := 0) rfl rfl) rfl rfl hl.1 rfl (lv_room (Nat.le_of_ble_eq_true rfl)) dX10_reachOf_88 ⟨Nat.le_of_ble_eq_true rfl, Nat.le_of_ble_eq_true rfl⟩) hD hS hA (fun r u H locs hp hP hD hS => ?_)
      obtain ⟨c7, c8, c9, c10, c11, c12, c13, c14, c15, c16, c17, c18, c19, c20, c21, c22, c23, c24⟩ := u
      obtain ⟨hP, hD⟩ : va_P G vwCl (wM k ar (uF (uF (uF (uF (uF (uF (uF (uF fi 41 (c16)) 42 (c17)) 43 (c18)) 50 (c19)) 51 (c20)) 52 (c21)) 55 (c22)) 56 (c23)) (uF (uF (uF (uF (uF (uF (uF (uF (uF fa 39 (c8)) 40 (c9)) 46 (c10)) 47 (c11)) 48 (c12)) 49 (c13)) 53 (c14)) 54 (c15)) 57 (g57_5)) c24) H ∧ va_D A (wM k ar (uF (uF (uF (uF (uF (uF (uF (uF fi 41 (c16)) 42 (c17)) 43 (c18)) 50 (c19)) 51 (c20)) 52 (c21)) 55 (c22)) 56 (c23)) (uF (uF (uF (uF (uF (uF (uF (uF (uF fa 39 (c8)) 40 (c9)) 46 (c10)) 47 (c11)) 48 (c12)) 49 (c13)) 53 (c14)) 54 (c15)) 57 (g57_5)) c24) := ⟨hP, hD⟩
      obtain ⟨h9, rc7, rc8, rc9, rc10, rc11, rc12, rc13, rc14, rc15, rc16, rc17, rc18, rc19, rc20, rc21, rc22, rc23, hp24⟩ : r = Int32.ofInt c7 ∧ (inR c7) ∧ (∀ t, inR (c8 t)) ∧ (∀ t, inR (c9 t)) ∧ (∀ t, inR (c10 t)) ∧ (∀ t, inR (c11 t)) ∧ (∀ t, inR (c12 t)) ∧ (∀ t, inR (c13 t)) ∧ (∀ t, inR (c14 t)) ∧ (∀ t, inR (c15 t)) ∧ (inR c16) ∧ (inR c17) ∧ (inR c18) ∧ (inR c19) ∧ (inR c20) ∧ (inR c21) ∧ (inR c22) ∧ (inR c23) ∧ ((c7 = 0 ∨ c7 = 1) ∧ 0 ≤ c19 ∧ c19 ≤ 1500) := hp
      subst h9
      refine iv_if_ne (tgt := 97) hx hb (by omega) dX10_reachOf_91 (by decide) (fun q25 => ?_) (fun q25 => ?_)
      · refine lv_iconst (v := Int32.ofInt 0) hx hb dX10_reachOf_97 (by decide +kernel) ?_
        refine lv_istore_n (lv' := [(3, .int (Int32.ofInt (0))), (0, .ref (ar 71)), (1, .int (Int32.ofInt (t0))), (2, .int (Int32.ofInt (w0)))]) hx hb dX10_reachOf_98 rfl hl (by decide) rfl (fun ls hl => ?_)
        refine lv_iconst (v := Int32.ofInt 0) hx hb dX10_reachOf_99 (by decide +kernel) ?_
        refine lv_istore (lv' := [(4, .int (Int32.ofInt (0))), (3, .int (Int32.ofInt (0))), (0, .ref (ar 71)), (1, .int (Int32.ofInt (t0))), (2, .int (Int32.ofInt (w0)))]) hx hb dX10_reachOf_100 hl (by decide) rfl (fun ls hl => ?_)
        refine iv_loop (α := Int × Int × Int × (Int → Int)) (nL := 5) (fun b9 => (wM k ar (uF (uF (uF (uF (uF (uF (uF (uF fi 41 (c16)) 42 (c17)) 43 (c18)) 50 (c19)) 51 (c20)) 52 (c21)) 55 (b9.2.2.1)) 56 (c23)) (uF (uF (uF (uF (uF (uF (uF (uF (uF fa 39 (c8)) 40 (c9)) 46 (c10)) 47 (c11)) 48 (c12)) 49 (c13)) 53 (b9.2.2.2)) 54 (c15)) 57 (g57_5)) c24)) (fun b9 => [(4, .int (Int32.ofInt (b9.1))), (3, .int (Int32.ofInt (b9.2.1))), (0, .ref (ar 71)), (1, .int (Int32.ofInt (t0))), (2, .int (Int32.ofInt (w0)))]) (fun b9 => (c19 - b9.1).toNat) (fun b9 => inR b9.1 ∧ inR b9.2.1 ∧ inR b9.2.2.1 ∧ (∀ t, inR (b9.2.2.2 t)) ∧ (0 ≤ b9.1)) ?_ (0, 0, c22, c14) (show inR 0 ∧ inR 0 ∧ inR c22 ∧ (∀ t, inR (c14 t)) ∧ (0 ≤ 0) from ⟨(by omega), (by omega), (by omega), rc14, (by omega)⟩) hP hD hS hl
        rintro ⟨x4_26, x3_27, n55_28, g53_29⟩ ih hi9 H locs ls hP hD hS hl
        obtain ⟨r_x4_26, r_x3_27, r_n55_28, r_g53_29, hinv⟩ : inR x4_26 ∧ inR x3_27 ∧ inR n55_28 ∧ (∀ t, inR (g53_29 t)) ∧ (0 ≤ x4_26) := hi9
        obtain ⟨hP, hD⟩ : va_P G vwCl (wM k ar (uF (uF (uF (uF (uF (uF (uF (uF fi 41 (c16)) 42 (c17)) 43 (c18)) 50 (c19)) 51 (c20)) 52 (c21)) 55 (n55_28)) 56 (c23)) (uF (uF (uF (uF (uF (uF (uF (uF (uF fa 39 (c8)) 40 (c9)) 46 (c10)) 47 (c11)) 48 (c12)) 49 (c13)) 53 (g53_29)) 54 (c15)) 57 (g57_5)) c24) H ∧ va_D A (wM k ar (uF (uF (uF (uF (uF (uF (uF (uF fi 41 (c16)) 42 (c17)) 43 (c18)) 50 (c19)) 51 (c20)) 52 (c21)) 55 (n55_28)) 56 (c23)) (uF (uF (uF (uF (uF (uF (uF (uF (uF fa 39 (c8)) 40 (c9)) 46 (c10)) 47 (c11)) 48 (c12)) 49 (c13)) 53 (g53_29)) 54 (c15)) 57 (g57_5)) c24) := ⟨hP, hD⟩
        have hl : lv_has ls 5 [(4, .int (Int32.ofInt (x4_26))), (3, .int (Int32.ofInt (x3_27))), (0, .ref (ar 71)), (1, .int (Int32.ofInt (t0))), (2, .int (Int32.ofInt (w0)))] := hl
        refine lv_iload hx hb dX10_reachOf_102 (lv_at hl 0 rfl) ?_
        refine lv_aload_n hx hb dX10_reachOf_104 rfl (lv_at hl 2 rfl) ?_
        refine va_get (D := G) (ci := 7) (v := .int (Int32.ofInt (c19))) (C := RX10) (T := TX10) (N := 71) (ref := RX10) hx hb hts h1w hown hX.1 hP 0 rfl rfl 50 (by decide) h4w (fun _ h9 => h9) rfl dX10_reachOf_105 ?_
        refine iv_icmp_ge (tgt := 186) hx hb (by omega) (by omega) dX10_reachOf_108 (by decide) (fun q30 => ?_) (fun q30 => ?_)
        · refine lv_iload_n hx hb dX10_reachOf_186 rfl (lv_at hl 1 rfl) ?_
          exact W.iret (v := Int32.ofInt (x3_27)) hx hb hr (fun t ht hW => ⟨⟨Int32.ofInt (x3_27), (x3_27, c8, c9, c10, c11, c12, c13, g53_29, c15, g57_5, c16, c17, c18, c19, c20, c21, n55_28, c23, c24), rfl, ⟨rfl, (show (inR x3_27) ∧ (∀ t, inR (c8 t)) ∧ (∀ t, inR (c9 t)) ∧ (∀ t, inR (c10 t)) ∧ (∀ t, inR (c11 t)) ∧ (∀ t, inR (c12 t)) ∧ (∀ t, inR (c13 t)) ∧ (∀ t, inR (g53_29 t)) ∧ (∀ t, inR (c15 t)) ∧ (∀ t, inR (g57_5 t)) ∧ (inR c16) ∧ (inR c17) ∧ (inR c18) ∧ (inR c19) ∧ (inR c20) ∧ (inR c21) ∧ (inR n55_28) ∧ (inR c23) ∧ (True) from ⟨(by omega), rc8, rc9, rc10, rc11, rc12, rc13, r_g53_29, rc15, r_g57_5, (by omega), (by omega), (by omega), (by omega), (by omega), (by omega), (by omega), (by omega), trivial⟩)⟩, by rw [ht]; exact hP, hD⟩, hS.F ht⟩) hS.2.2 dX10_reachOf_187
        · refine lv_aload_n hx hb dX10_reachOf_111 rfl (lv_at hl 2 rfl) ?_
          refine lv_aload_n hx hb dX10_reachOf_112 rfl (lv_at hl 2 rfl) ?_
          refine va_get (D := G) (ci := 7) (v := .ref (ar 45)) (C := RX10) (T := TX10) (N := 71) (ref := RX10) hx hb hts h1w hown hX.1 hP 0 rfl rfl 45 (by decide) h5w (fun _ h9 => h9) rfl dX10_reachOf_113 ?_
          refine lv_iload hx hb dX10_reachOf_116 (lv_at hl 0 rfl) ?_
          refine iv_lald hx hb hX.1 hP 21 2 rfl rfl (by omega) (by omega) (by decide) dX10_reachOf_118 ?_
          refine lv_topl (fun z31 ez31 => ?_)
          refine cr_v (va_runV (As := [.long (z31)]) (rest := []) ⟨hx, hb, hml, hown, hts⟩ (mX10_unpack l G k ar (uF (uF (uF (uF (uF (uF (uF (uF fi 41 (c16)) 42 (c17)) 43 (c18)) 50 (c19)) 51 (c20)) 52 (c21)) 55 (n55_28)) 56 (c23)) (uF (uF (uF (uF (uF (uF (uF (uF (uF fa 39 (c8)) 40 (c9)) 46 (c10)) 47 (c11)) 48 (c12)) 49 (c13)) 53 (g53_29)) 54 (c15)) 57 (g57_5)) c24 z31 H.size (iF (iF (iF (iF (iF (iF (iF (iF hR (by omega)) (by omega)) (by omega)) (by omega)) (by omega)) (by omega)) (by omega)) (by omega)) (iG (iG (iG (iG (iG (iG (iG (iG (iG hRa rc8) rc9) rc10) rc11) rc12) rc13) r_g53_29) rc15) r_g57_5)) (cwV 1 hts (gz [.methodLink RX10 465 yX10_unpack, .instanceMethod yX10_unpack, .selects RX10 yX10_unpack yX10_unpack, .initialized RX10] (.code yX10_unpack cX10_unpack 6 none) [(36, 17), (36, 18), (36, 19), (0, 5), (36, 20)] rfl) rfl rfl rfl (by decide +kernel) ⟨Nat.le_of_ble_eq_true rfl, Nat.le_of_ble_eq_true rfl⟩) (cr_preV (EZ_ok k) hZ hS hX hP hD hA (ci := 7) (q0 := 0) rfl rfl) rfl rfl hl.1 rfl (lv_room (Nat.le_of_ble_eq_true rfl)) dX10_reachOf_119 ⟨Nat.le_of_ble_eq_true rfl, Nat.le_of_ble_eq_true rfl⟩) hD hS hA (fun u H locs hp hP hD hS => ?_)
          obtain ⟨c32, c33⟩ := u
          obtain ⟨hP, hD⟩ : va_P G vwCl (wM k ar (uF (uF (uF (uF (uF (uF (uF (uF fi 41 (c16)) 42 (c17)) 43 (c18)) 50 (c19)) 51 (c20)) 52 (c21)) 55 (c33)) 56 (c23)) (uF (uF (uF (uF (uF (uF (uF (uF (uF fa 39 (c8)) 40 (c9)) 46 (c10)) 47 (c11)) 48 (c12)) 49 (c13)) 53 (c32)) 54 (c15)) 57 (g57_5)) c24) H ∧ va_D A (wM k ar (uF (uF (uF (uF (uF (uF (uF (uF fi 41 (c16)) 42 (c17)) 43 (c18)) 50 (c19)) 51 (c20)) 52 (c21)) 55 (c33)) 56 (c23)) (uF (uF (uF (uF (uF (uF (uF (uF (uF fa 39 (c8)) 40 (c9)) 46 (c10)) 47 (c11)) 48 (c12)) 49 (c13)) 53 (c32)) 54 (c15)) 57 (g57_5)) c24) := ⟨hP, hD⟩
          obtain ⟨rc32, rc33, hp33⟩ : (∀ t, inR (c32 t)) ∧ (inR c33) ∧ (True) := hp
          refine lv_aload_n hx hb dX10_reachOf_122 rfl (lv_at hl 2 rfl) ?_
          refine va_get (D := G) (ci := 7) (v := .ref (ar 53)) (C := RX10) (T := TX10) (N := 71) (ref := RX10) hx hb hts h1w hown hX.1 hP 0 rfl rfl 53 (by decide) h6w (fun _ h9 => h9) rfl dX10_reachOf_123 ?_
          refine lv_iload_n hx hb dX10_reachOf_126 rfl (lv_at hl 3 rfl) ?_
          refine iv_iald hx hb hX.1 hP 26 0 rfl rfl (by omega) (by omega) (by decide) dX10_reachOf_127 ?_
          refine iv_top (fun z34 ez34 => ?_)
          have rz34 : inR z34 := ez34 ▸ rc32 _
          have ez34 : z34 = c32 t0 := ez34
          refine lv_bipush (v := Int32.ofInt 12) hx hb dX10_reachOf_128 (by decide +kernel) ?_
          refine iv_icmp_ge (tgt := 147) hx hb (by omega) (by omega) dX10_reachOf_130 (by decide) (fun q35 => ?_) (fun q35 => ?_)
          · refine lv_aload_n hx hb dX10_reachOf_147 rfl (lv_at hl 2 rfl) ?_
            refine va_get (D := G) (ci := 7) (v := .ref (ar 53)) (C := RX10) (T := TX10) (N := 71) (ref := RX10) hx hb hts h1w hown hX.1 hP 0 rfl rfl 53 (by decide) h6w (fun _ h9 => h9) rfl dX10_reachOf_148 ?_
            refine lv_iload_n hx hb dX10_reachOf_151 rfl (lv_at hl 3 rfl) ?_
            refine iv_iald hx hb hX.1 hP 26 0 rfl rfl (by omega) (by omega) (by decide) dX10_reachOf_152 ?_
            refine iv_top (fun z36 ez36 => ?_)
            have rz36 : inR z36 := ez36 ▸ rc32 _
            have ez36 : z36 = c32 t0 := ez36
            refine lv_bipush (v := Int32.ofInt 14) hx hb dX10_reachOf_153 (by decide +kernel) ?_
            refine iv_icmp_eq (tgt := 180) hx hb (by omega) (by omega) dX10_reachOf_155 (by decide) (fun q37 => ?_) (fun q37 => ?_)
            · refine lv_iinc (v := Int32.ofInt (x4_26 + 1)) (lv' := [(4, .int (Int32.ofInt ((x4_26 + 1)))), (3, .int (Int32.ofInt (x3_27))), (0, .ref (ar 71)), (1, .int (Int32.ofInt (t0))), (2, .int (Int32.ofInt (w0)))]) hx hb dX10_reachOf_180 hl (k := 0) rfl (Int32.ofInt_add _ _).symm (by decide) rfl (fun ls hl => ?_)
              refine lv_goto (tgt := 102) hx hb dX10_reachOf_183 (by decide) ?_
              have hl : lv_has ls 5 [(4, .int (Int32.ofInt ((x4_26 + 1)))), (3, .int (Int32.ofInt (x3_27))), (0, .ref (ar 71)), (1, .int (Int32.ofInt (t0))), (2, .int (Int32.ofInt (w0)))] := lv_sub hl [0, 1, 2, 3, 4] rfl
              exact ih ((x4_26 + 1), x3_27, c33, c32) (show (c19 - (x4_26 + 1)).toNat < (c19 - x4_26).toNat from by omega) (show inR (x4_26 + 1) ∧ inR x3_27 ∧ inR c33 ∧ (∀ t, inR (c32 t)) ∧ (0 ≤ (x4_26 + 1)) from ⟨(by omega), (by omega), (by omega), rc32, (by omega)⟩) _ _ _ hP hD hS hl
            · refine lv_iload_n hx hb dX10_reachOf_158 rfl (lv_at hl 1 rfl) ?_
              refine lv_iconst (v := Int32.ofInt 1) hx hb dX10_reachOf_159 (by decide +kernel) ?_
              refine lv_aload_n hx hb dX10_reachOf_160 rfl (lv_at hl 2 rfl) ?_
              refine lv_aload_n hx hb dX10_reachOf_161 rfl (lv_at hl 2 rfl) ?_
              refine va_get (D := G) (ci := 7) (v := .ref (ar 53)) (C := RX10) (T := TX10) (N := 71) (ref := RX10) hx hb hts h1w hown hX.1 hP 0 rfl rfl 53 (by decide) h6w (fun _ h9 => h9) rfl dX10_reachOf_162 ?_
              refine lv_iload_n hx hb dX10_reachOf_165 rfl (lv_at hl 3 rfl) ?_
              refine iv_iald hx hb hX.1 hP 26 0 rfl rfl (by omega) (by omega) (by decide) dX10_reachOf_166 ?_
              refine iv_top (fun z38 ez38 => ?_)
              have rz38 : inR z38 := ez38 ▸ rc32 _
              have ez38 : z38 = c32 t0 := ez38
              refine lv_bipush (v := Int32.ofInt 12) hx hb dX10_reachOf_167 (by decide +kernel) ?_
              refine iv_sub (x := z38) (y := 12) hx hb dX10_reachOf_169 ?_
              refine iv_wr ?_
              refine iv_top (fun z39 ez39 => ?_)
              have rz39 : inR z39 := ez39 ▸ bWr_r _
              refine lv_aload_n hx hb dX10_reachOf_170 rfl (lv_at hl 2 rfl) ?_
              refine va_get (D := G) (ci := 7) (v := .int (Int32.ofInt (c33))) (C := RX10) (T := TX10) (N := 71) (ref := RX10) hx hb hts h1w hown hX.1 hP 0 rfl rfl 55 (by decide) h7w (fun _ h9 => h9) rfl dX10_reachOf_171 ?_
              refine cr_i (va_runV (As := [.int (Int32.ofInt (z39)), .int (Int32.ofInt (c33))]) (rest := [.int (Int32.ofInt (1)), .int (Int32.ofInt (x3_27))]) ⟨hx, hb, hml, hown, hts⟩ (mX10_depthOf l G k ar (uF (uF (uF (uF (uF (uF (uF (uF fi 41 (c16)) 42 (c17)) 43 (c18)) 50 (c19)) 51 (c20)) 52 (c21)) 55 (c33)) 56 (c23)) (uF (uF (uF (uF (uF (uF (uF (uF (uF fa 39 (c8)) 40 (c9)) 46 (c10)) 47 (c11)) 48 (c12)) 49 (c13)) 53 (c32)) 54 (c15)) 57 (g57_5)) c24 z39 c33 H.size (iF (iF (iF (iF (iF (iF (iF (iF hR (by omega)) (by omega)) (by omega)) (by omega)) (by omega)) (by omega)) (by omega)) (by omega)) (iG (iG (iG (iG (iG (iG (iG (iG (iG hRa rc8) rc9) rc10) rc11) rc12) rc13) rc32) rc15) r_g57_5) (by omega) (by omega)) (cwV 2 hts (gz [.methodLink RX10 352 yX10_depthOf, .instanceMethod yX10_depthOf, .selects RX10 yX10_depthOf yX10_depthOf, .initialized RX10] (.code yX10_depthOf cX10_depthOf 3 (some .int)) [(24, 7), (24, 8), (24, 9), (0, 5), (24, 10)] rfl) rfl rfl rfl (by decide +kernel) ⟨Nat.le_of_ble_eq_true rfl, Nat.le_of_ble_eq_true rfl⟩) (cr_preV (EZ_ok k) hZ hS hX hP hD hA (ci := 7) (q0 := 0) rfl rfl) rfl rfl hl.1 rfl (lv_room (Nat.le_of_ble_eq_true rfl)) dX10_reachOf_174 ⟨Nat.le_of_ble_eq_true rfl, Nat.le_of_ble_eq_true rfl⟩) hD hS hA (fun r u H locs hp hP hD hS => ?_)
              obtain ⟨c40, rfl⟩ : ∃ z, z = u := ⟨_, rfl⟩
              obtain ⟨h9, rc40, hp40⟩ : r = Int32.ofInt c40 ∧ (inR c40) ∧ (c40 = buD z39 c33 ((fa 3) 0)) := hp
              subst h9
              have hBu174 := hp40
              refine iv_shl hx hb dX10_reachOf_177 ?_
              refine iv_top (fun z41 ez41 => ?_)
              have rz41 : inR z41 := ez41 ▸ bShl_r _ _
              refine iv_or hx hb dX10_reachOf_178 ?_
              refine iv_top (fun z42 ez42 => ?_)
              have rz42 : inR z42 := ez42 ▸ bOr_r _ _
              refine lv_istore_n (lv' := [(3, .int (Int32.ofInt (z42))), (4, .int (Int32.ofInt (x4_26))), (0, .ref (ar 71)), (1, .int (Int32.ofInt (t0))), (2, .int (Int32.ofInt (w0)))]) hx hb dX10_reachOf_179 rfl hl (by decide) rfl (fun ls hl => ?_)
              refine lv_iinc (v := Int32.ofInt (x4_26 + 1)) (lv' := [(4, .int (Int32.ofInt ((x4_26 + 1)))), (3, .int (Int32.ofInt (z42))), (0, .ref (ar 71)), (1, .int (Int32.ofInt (t0))), (2, .int (Int32.ofInt (w0)))]) hx hb dX10_reachOf_180 hl (k := 1) rfl (Int32.ofInt_add _ _).symm (by decide) rfl (fun ls hl => ?_)
              refine lv_goto (tgt := 102) hx hb dX10_reachOf_183 (by decide) ?_
              have hl : lv_has ls 5 [(4, .int (Int32.ofInt ((x4_26 + 1)))), (3, .int (Int32.ofInt (z42))), (0, .ref (ar 71)), (1, .int (Int32.ofInt (t0))), (2, .int (Int32.ofInt (w0)))] := lv_sub hl [0, 1, 2, 3, 4] rfl
              exact ih ((x4_26 + 1), z42, c33, c32) (show (c19 - (x4_26 + 1)).toNat < (c19 - x4_26).toNat from by omega) (show inR (x4_26 + 1) ∧ inR z42 ∧ inR c33 ∧ (∀ t, inR (c32 t)) ∧ (0 ≤ (x4_26 + 1)) from ⟨(by omega), (by omega), (by omega), rc32, (by omega)⟩) _ _ _ hP hD hS hl
          · refine lv_iload_n hx hb dX10_reachOf_133 rfl (lv_at hl 1 rfl) ?_
            refine lv_iconst (v := Int32.ofInt 1) hx hb dX10_reachOf_134 (by decide +kernel) ?_
            refine lv_aload_n hx hb dX10_reachOf_135 rfl (lv_at hl 2 rfl) ?_
            refine va_get (D := G) (ci := 7) (v := .ref (ar 53)) (C := RX10) (T := TX10) (N := 71) (ref := RX10) hx hb hts h1w hown hX.1 hP 0 rfl rfl 53 (by decide) h6w (fun _ h9 => h9) rfl dX10_reachOf_136 ?_
            refine lv_iload_n hx hb dX10_reachOf_139 rfl (lv_at hl 3 rfl) ?_
            refine iv_iald hx hb hX.1 hP 26 0 rfl rfl (by omega) (by omega) (by decide) dX10_reachOf_140 ?_
            refine iv_top (fun z43 ez43 => ?_)
            have rz43 : inR z43 := ez43 ▸ rc32 _
            have ez43 : z43 = c32 t0 := ez43
            refine iv_shl hx hb dX10_reachOf_141 ?_
            refine iv_top (fun z44 ez44 => ?_)
            have rz44 : inR z44 := ez44 ▸ bShl_r _ _
            refine iv_or hx hb dX10_reachOf_142 ?_
            refine iv_top (fun z45 ez45 => ?_)
            have rz45 : inR z45 := ez45 ▸ bOr_r _ _
            refine lv_istore_n (lv' := [(3, .int (Int32.ofInt (z45))), (4, .int (Int32.ofInt (x4_26))), (0, .ref (ar 71)), (1, .int (Int32.ofInt (t0))), (2, .int (Int32.ofInt (w0)))]) hx hb dX10_reachOf_143 rfl hl (by decide) rfl (fun ls hl => ?_)
            refine lv_goto (tgt := 180) hx hb dX10_reachOf_144 (by decide) ?_
            refine lv_iinc (v := Int32.ofInt (x4_26 + 1)) (lv' := [(4, .int (Int32.ofInt ((x4_26 + 1)))), (3, .int (Int32.ofInt (z45))), (0, .ref (ar 71)), (1, .int (Int32.ofInt (t0))), (2, .int (Int32.ofInt (w0)))]) hx hb dX10_reachOf_180 hl (k := 1) rfl (Int32.ofInt_add _ _).symm (by decide) rfl (fun ls hl => ?_)
            refine lv_goto (tgt := 102) hx hb dX10_reachOf_183 (by decide) ?_
            have hl : lv_has ls 5 [(4, .int (Int32.ofInt ((x4_26 + 1)))), (3, .int (Int32.ofInt (z45))), (0, .ref (ar 71)), (1, .int (Int32.ofInt (t0))), (2, .int (Int32.ofInt (w0)))] := lv_sub hl [0, 1, 2, 3, 4] rfl
            exact ih ((x4_26 + 1), z45, c33, c32) (show (c19 - (x4_26 + 1)).toNat < (c19 - x4_26).toNat from by omega) (show inR (x4_26 + 1) ∧ inR z45 ∧ inR c33 ∧ (∀ t, inR (c32 t)) ∧ (0 ≤ (x4_26 + 1)) from ⟨(by omega), (by omega), (by omega), rc32, (by omega)⟩) _ _ _ hP hD hS hl
      · refine lv_bipush (v := Int32.ofInt (-2)) hx hb dX10_reachOf_94 (by decide +kernel) ?_
        exact W.iret (v := Int32.ofInt ((-2))) hx hb hr (fun t ht hW => ⟨⟨Int32.ofInt ((-2)), ((-2), c8, c9, c10, c11, c12, c13, c14, c15, g57_5, c16, c17, c18, c19, c20, c21, c22, c23, c24), rfl, ⟨rfl, (show (inR (-2)) ∧ (∀ t, inR (c8 t)) ∧ (∀ t, inR (c9 t)) ∧ (∀ t, inR (c10 t)) ∧ (∀ t, inR (c11 t)) ∧ (∀ t, inR (c12 t)) ∧ (∀ t, inR (c13 t)) ∧ (∀ t, inR (c14 t)) ∧ (∀ t, inR (c15 t)) ∧ (∀ t, inR (g57_5 t)) ∧ (inR c16) ∧ (inR c17) ∧ (inR c18) ∧ (inR c19) ∧ (inR c20) ∧ (inR c21) ∧ (inR c22) ∧ (inR c23) ∧ (True) from ⟨(by omega), rc8, rc9, rc10, rc11, rc12, rc13, rc14, rc15, r_g57_5, (by omega), (by omega), (by omega), (by omega), (by omega), (by omega), (by omega), (by omega), trivial⟩)⟩, by rw [ht]; exact hP, hD⟩, hS.F ht⟩) hS.2.2 dX10_reachOf_96
    · refine lv_aload_n hx hb dX10_reachOf_46 rfl (lv_at hl 1 rfl) ?_
      refine va_get (D := G) (ci := 7) (v := .ref (ar 57)) (C := RX10) (T := TX10) (N := 71) (ref := RX10) hx hb hts h1w hown hX.1 hP 0 rfl rfl 57 (by decide) h2w (fun _ h9 => h9) rfl dX10_reachOf_47 ?_
      refine lv_iload_n hx hb dX10_reachOf_50 rfl (lv_at hl 0 rfl) ?_
      refine lv_iload_n hx hb dX10_reachOf_51 rfl (lv_at hl 3 rfl) ?_
      refine lv_iload_n hx hb dX10_reachOf_52 rfl (lv_at hl 0 rfl) ?_
      refine iv_shr hx hb dX10_reachOf_53 ?_
      refine iv_top (fun z46 ez46 => ?_)
      have rz46 : inR z46 := ez46 ▸ bShr_r _ _
      refine lv_iconst (v := Int32.ofInt 1) hx hb dX10_reachOf_54 (by decide +kernel) ?_
      refine iv_and hx hb dX10_reachOf_55 ?_
      refine iv_top (fun z47 ez47 => ?_)
      have rz47 : inR z47 := ez47 ▸ bAnd_r _ _
      refine lv_iconst (v := Int32.ofInt 1) hx hb dX10_reachOf_56 (by decide +kernel) ?_
      refine iv_icmp_ne (tgt := 65) hx hb (by omega) (by omega) dX10_reachOf_57 (by decide) (fun q48 => ?_) (fun q48 => ?_)
      · refine lv_aload_n hx hb dX10_reachOf_65 rfl (lv_at hl 1 rfl) ?_
        refine va_get (D := G) (ci := 7) (v := .ref (ar 32)) (C := RX10) (T := TX10) (N := 71) (ref := RX10) hx hb hts h1w hown hX.1 hP 0 rfl rfl 32 (by decide) h0w (fun _ h9 => h9) rfl dX10_reachOf_66 ?_
        refine lv_iload_n hx hb dX10_reachOf_69 rfl (lv_at hl 0 rfl) ?_
        refine iv_iald hx hb hX.1 hP 11 0 rfl rfl (by omega) (by omega) (by decide) dX10_reachOf_70 ?_
        refine iv_top (fun z49 ez49 => ?_)
        have rz49 : inR z49 := ez49 ▸ (hRa 32) _
        have ez49 : z49 = (fa 32) x3_4 := ez49
        refine iv_iast hx hb hX.1 hP hD hS 28 0 rfl rfl (wM_A57 _ _ _ _ _) (by omega) (by omega) (by decide) dX10_reachOf_71 (fun H locs hP hD hS => ?_)
        obtain ⟨hP, hD⟩ : va_P G vwCl (wM k ar fi (uF fa 57 (uA (g57_5) (x3_4) (z49))) fl) H ∧ va_D A (wM k ar fi (uF fa 57 (uA (g57_5) (x3_4) (z49))) fl) := ⟨hP, hD⟩
        obtain ⟨g50, eg50, rg50⟩ : ∃ z, z = uA (g57_5) (x3_4) (z49) ∧ ∀ t, inR (z t) := ⟨_, rfl, iU r_g57_5 (by omega)⟩
        rw [← eg50] at hP hD
        refine lv_iinc (v := Int32.ofInt (x3_4 + 1)) (lv' := [(3, .int (Int32.ofInt ((x3_4 + 1)))), (0, .ref (ar 71)), (1, .int (Int32.ofInt (t0))), (2, .int (Int32.ofInt (w0)))]) hx hb dX10_reachOf_72 hl (k := 0) rfl (Int32.ofInt_add _ _).symm (by decide) rfl (fun ls hl => ?_)
        refine lv_goto (tgt := 40) hx hb dX10_reachOf_75 (by decide) ?_
        have hl : lv_has ls 5 [(3, .int (Int32.ofInt ((x3_4 + 1)))), (0, .ref (ar 71)), (1, .int (Int32.ofInt (t0))), (2, .int (Int32.ofInt (w0)))] := lv_sub hl [0, 1, 2, 3] rfl
        exact ih ((x3_4 + 1), g50) (show (7 - (x3_4 + 1)).toNat < (7 - x3_4).toNat from by omega) (show inR (x3_4 + 1) ∧ (∀ t, inR (g50 t)) ∧ (0 ≤ (x3_4 + 1) ∧ (x3_4 + 1) ≤ 7) from ⟨(by omega), rg50, (by omega)⟩) _ _ _ hP hD hS hl
      · refine lv_bipush (v := Int32.ofInt 15) hx hb dX10_reachOf_60 (by decide +kernel) ?_
        refine lv_goto (tgt := 71) hx hb dX10_reachOf_62 (by decide) ?_
        refine iv_iast hx hb hX.1 hP hD hS 28 0 rfl rfl (wM_A57 _ _ _ _ _) (by omega) (by omega) (by decide) dX10_reachOf_71 (fun H locs hP hD hS => ?_)
        obtain ⟨hP, hD⟩ : va_P G vwCl (wM k ar fi (uF fa 57 (uA (g57_5) (x3_4) (15))) fl) H ∧ va_D A (wM k ar fi (uF fa 57 (uA (g57_5) (x3_4) (15))) fl) := ⟨hP, hD⟩
        obtain ⟨g51, eg51, rg51⟩ : ∃ z, z = uA (g57_5) (x3_4) (15) ∧ ∀ t, inR (z t) := ⟨_, rfl, iU r_g57_5 (by omega)⟩
        rw [← eg51] at hP hD
        refine lv_iinc (v := Int32.ofInt (x3_4 + 1)) (lv' := [(3, .int (Int32.ofInt ((x3_4 + 1)))), (0, .ref (ar 71)), (1, .int (Int32.ofInt (t0))), (2, .int (Int32.ofInt (w0)))]) hx hb dX10_reachOf_72 hl (k := 0) rfl (Int32.ofInt_add _ _).symm (by decide) rfl (fun ls hl => ?_)
        refine lv_goto (tgt := 40) hx hb dX10_reachOf_75 (by decide) ?_
        have hl : lv_has ls 5 [(3, .int (Int32.ofInt ((x3_4 + 1)))), (0, .ref (ar 71)), (1, .int (Int32.ofInt (t0))), (2, .int (Int32.ofInt (w0)))] := lv_sub hl [0, 1, 2, 3] rfl
        exact ih ((x3_4 + 1), g51) (show (7 - (x3_4 + 1)).toNat < (7 - x3_4).toNat from by omega) (show inR (x3_4 + 1) ∧ (∀ t, inR (g51 t)) ∧ (0 ≤ (x3_4 + 1) ∧ (x3_4 + 1) ≤ 7) from ⟨(by omega), rg51, (by omega)⟩) _ _ _ hP hD hS hl
  · refine lv_aload_n hx hb dX10_reachOf_14 rfl (lv_at hl 0 rfl) ?_
    refine va_get (D := G) (ci := 7) (v := .ref (ar 32)) (C := RX10) (T := TX10) (N := 71) (ref := RX10) hx hb hts h1w hown hX.1 hP 0 rfl rfl 32 (by decide) h0w (fun _ h9 => h9) rfl dX10_reachOf_15 ?_
    refine lv_iload_n hx hb dX10_reachOf_18 rfl (lv_at hl 1 rfl) ?_
    refine iv_iald hx hb hX.1 hP 11 0 rfl rfl (by omega) (by omega) (by decide) dX10_reachOf_19 ?_
    refine iv_top (fun z52 ez52 => ?_)
    have rz52 : inR z52 := ez52 ▸ (hRa 32) _
    have ez52 : z52 = (fa 32) t0 := ez52
    refine lv_bipush (v := Int32.ofInt 14) hx hb dX10_reachOf_20 (by decide +kernel) ?_
    refine iv_icmp_ne (tgt := 29) hx hb (by omega) (by omega) dX10_reachOf_22 (by decide) (fun q53 => ?_) (fun q53 => ?_)
    · refine lv_iconst (v := Int32.ofInt 1) hx hb dX10_reachOf_29 (by decide +kernel) ?_
      refine lv_aload_n hx hb dX10_reachOf_30 rfl (lv_at hl 0 rfl) ?_
      refine va_get (D := G) (ci := 7) (v := .ref (ar 32)) (C := RX10) (T := TX10) (N := 71) (ref := RX10) hx hb hts h1w hown hX.1 hP 0 rfl rfl 32 (by decide) h0w (fun _ h9 => h9) rfl dX10_reachOf_31 ?_
      refine lv_iload_n hx hb dX10_reachOf_34 rfl (lv_at hl 1 rfl) ?_
      refine iv_iald hx hb hX.1 hP 11 0 rfl rfl (by omega) (by omega) (by decide) dX10_reachOf_35 ?_
      refine iv_top (fun z54 ez54 => ?_)
      have rz54 : inR z54 := ez54 ▸ (hRa 32) _
      have ez54 : z54 = (fa 32) t0 := ez54
      refine iv_shl hx hb dX10_reachOf_36 ?_
      refine iv_top (fun z55 ez55 => ?_)
      have rz55 : inR z55 := ez55 ▸ bShl_r _ _
      exact W.iret (v := Int32.ofInt (z55)) hx hb hr (fun t ht hW => ⟨⟨Int32.ofInt (z55), (z55, fa 39, fa 40, fa 46, fa 47, fa 48, fa 49, fa 53, fa 54, fa 57, fi 41, fi 42, fi 43, fi 50, fi 51, fi 52, fi 55, fi 56, fl), rfl, ⟨rfl, (show (inR z55) ∧ (∀ t, inR ((fa 39) t)) ∧ (∀ t, inR ((fa 40) t)) ∧ (∀ t, inR ((fa 46) t)) ∧ (∀ t, inR ((fa 47) t)) ∧ (∀ t, inR ((fa 48) t)) ∧ (∀ t, inR ((fa 49) t)) ∧ (∀ t, inR ((fa 53) t)) ∧ (∀ t, inR ((fa 54) t)) ∧ (∀ t, inR ((fa 57) t)) ∧ (inR (fi 41)) ∧ (inR (fi 42)) ∧ (inR (fi 43)) ∧ (inR (fi 50)) ∧ (inR (fi 51)) ∧ (inR (fi 52)) ∧ (inR (fi 55)) ∧ (inR (fi 56)) ∧ (True) from ⟨(by omega), (hRa 39), (hRa 40), (hRa 46), (hRa 47), (hRa 48), (hRa 49), (hRa 53), (hRa 54), (hRa 57), (hR 41), (hR 42), (hR 43), (hR 50), (hR 51), (hR 52), (hR 55), (hR 56), trivial⟩)⟩, by rw [ht]; exact hP, hD⟩, hS.F ht⟩) hS.2.2 dX10_reachOf_37
    · refine lv_iconst (v := Int32.ofInt 0) hx hb dX10_reachOf_25 (by decide +kernel) ?_
      refine lv_goto (tgt := 37) hx hb dX10_reachOf_26 (by decide) ?_
      exact W.iret (v := Int32.ofInt (0)) hx hb hr (fun t ht hW => ⟨⟨Int32.ofInt (0), (0, fa 39, fa 40, fa 46, fa 47, fa 48, fa 49, fa 53, fa 54, fa 57, fi 41, fi 42, fi 43, fi 50, fi 51, fi 52, fi 55, fi 56, fl), rfl, ⟨rfl, (show (inR 0) ∧ (∀ t, inR ((fa 39) t)) ∧ (∀ t, inR ((fa 40) t)) ∧ (∀ t, inR ((fa 46) t)) ∧ (∀ t, inR ((fa 47) t)) ∧ (∀ t, inR ((fa 48) t)) ∧ (∀ t, inR ((fa 49) t)) ∧ (∀ t, inR ((fa 53) t)) ∧ (∀ t, inR ((fa 54) t)) ∧ (∀ t, inR ((fa 57) t)) ∧ (inR (fi 41)) ∧ (inR (fi 42)) ∧ (inR (fi 43)) ∧ (inR (fi 50)) ∧ (inR (fi 51)) ∧ (inR (fi 52)) ∧ (inR (fi 55)) ∧ (inR (fi 56)) ∧ (True) from ⟨(by omega), (hRa 39), (hRa 40), (hRa 46), (hRa 47), (hRa 48), (hRa 49), (hRa 53), (hRa 54), (hRa 57), (hR 41), (hR 42), (hR 43), (hR 50), (hR 51), (hR 52), (hR 55), (hR 56), trivial⟩)⟩, by rw [ht]; exact hP, hD⟩, hS.F ht⟩) hS.2.2 dX10_reachOf_37

set_option maxHeartbeats 4000000 in
set_option maxRecDepth 100000 in
theorem mX10_reach (l : Launch) (G : va_G) (k : Nat → ClassId) (ar : Nat → Nat) (fi : Nat → Int) (fa : Nat → Int → Int) (fl : Nat → Int64) (t0 : Int) (sz : Nat) (hR : ∀ j, inR (fi j)) (hRa : ∀ j t, inR (fa j t)) (hr_t0 : inR t0) (hth : 0 ≤ fi 12 ∧ fi 12 ≤ 7) (hru : 0 ≤ fi 13 ∧ fi 13 ≤ 4) (hRW : ∀ q9, 0 ≤ q9 → q9 < fi 13 → RWf (fa 10) (fa 8 q9) (fa 9 q9)) (hdp : 0 ≤ fa 3 0 ∧ fa 3 0 ≤ 11) : CNi l G k (EZ k) yX10_reach wzX10_reach ({ frames := 15, cells := 0, slots := 0, locals := 373 }) [.ref (ar 71), .int (Int32.ofInt (t0))] sz (wM k ar fi fa fl) (fun (r0 : Int32) (u : Int × (Int → Int) × (Int → Int) × (Int → Int) × (Int → Int) × (Int → Int) × (Int → Int) × (Int → Int) × (Int → Int) × (Int → Int) × Int × Int × Int × Int × Int × Int × Int × Int × Int × (Nat → Int64)) => r0 = Int32.ofInt (u.1) ∧ (inR u.1) ∧ (∀ t, inR (u.2.1 t)) ∧ (∀ t, inR (u.2.2.1 t)) ∧ (∀ t, inR (u.2.2.2.1 t)) ∧ (∀ t, inR (u.2.2.2.2.1 t)) ∧ (∀ t, inR (u.2.2.2.2.2.1 t)) ∧ (∀ t, inR (u.2.2.2.2.2.2.1 t)) ∧ (∀ t, inR (u.2.2.2.2.2.2.2.1 t)) ∧ (∀ t, inR (u.2.2.2.2.2.2.2.2.1 t)) ∧ (∀ t, inR (u.2.2.2.2.2.2.2.2.2.1 t)) ∧ (inR u.2.2.2.2.2.2.2.2.2.2.1) ∧ (inR u.2.2.2.2.2.2.2.2.2.2.2.1) ∧ (inR u.2.2.2.2.2.2.2.2.2.2.2.2.1) ∧ (inR u.2.2.2.2.2.2.2.2.2.2.2.2.2.1) ∧ (inR u.2.2.2.2.2.2.2.2.2.2.2.2.2.2.1) ∧ (inR u.2.2.2.2.2.2.2.2.2.2.2.2.2.2.2.1) ∧ (inR u.2.2.2.2.2.2.2.2.2.2.2.2.2.2.2.2.1) ∧ (inR u.2.2.2.2.2.2.2.2.2.2.2.2.2.2.2.2.2.1) ∧ (inR u.2.2.2.2.2.2.2.2.2.2.2.2.2.2.2.2.2.2.1) ∧ (True)) (fun (u : Int × (Int → Int) × (Int → Int) × (Int → Int) × (Int → Int) × (Int → Int) × (Int → Int) × (Int → Int) × (Int → Int) × (Int → Int) × Int × Int × Int × Int × Int × Int × Int × Int × Int × (Nat → Int64)) => (wM k ar (uF (uF (uF (uF (uF (uF (uF (uF (uF fi 2 (u.2.2.2.2.2.2.2.2.2.2.1)) 41 (u.2.2.2.2.2.2.2.2.2.2.2.1)) 42 (u.2.2.2.2.2.2.2.2.2.2.2.2.1)) 43 (u.2.2.2.2.2.2.2.2.2.2.2.2.2.1)) 50 (u.2.2.2.2.2.2.2.2.2.2.2.2.2.2.1)) 51 (u.2.2.2.2.2.2.2.2.2.2.2.2.2.2.2.1)) 52 (u.2.2.2.2.2.2.2.2.2.2.2.2.2.2.2.2.1)) 55 (u.2.2.2.2.2.2.2.2.2.2.2.2.2.2.2.2.2.1)) 56 (u.2.2.2.2.2.2.2.2.2.2.2.2.2.2.2.2.2.2.1)) (uF (uF (uF (uF (uF (uF (uF (uF (uF fa 39 (u.2.1)) 40 (u.2.2.1)) 46 (u.2.2.2.1)) 47 (u.2.2.2.2.1)) 48 (u.2.2.2.2.2.1)) 49 (u.2.2.2.2.2.2.1)) 53 (u.2.2.2.2.2.2.2.1)) 54 (u.2.2.2.2.2.2.2.2.1)) 57 (u.2.2.2.2.2.2.2.2.2.1)) u.2.2.2.2.2.2.2.2.2.2.2.2.2.2.2.2.2.2.2)) := by
  refine Met.ofW (cc := cX10_reach) (maxL := 2) (ret := (some .int)) (by decide) rfl ?_
  intro p e s m args below meth c s₁ B hml hv
  obtain ⟨rfl, hsz, hP, hX, hD0, hZ0⟩ := hv
  have hx := B.exec
  have hb := B.bytes
  have hr := B.returns
  have hts := atoms_spec (ws := wzX10_reach) B.pre
  have hown : s.vm.findClass RX10 = some m.cls := findClass_of_methodNamed B.named
  subst hsz
  have hD := hD0.self (sz := s.heap.size)
  have hZ := hZ0
  generalize hAe : va_A (wM k ar fi fa fl) s.heap.size = A at hD hZ ⊢
  have hA : ∀ q : Nat, s.heap.size ≤ q → A q := fun q h => by rw [← hAe]; exact Or.inr h
  have hS : va_S A s.heap s.heap [] := va_S.rf
  have hl := lv_entry ([.ref (ar 71), .int (Int32.ofInt (t0))]) (n := 2) (Nat.le_of_ble_eq_true rfl)
  rw [lg_entry_eq]
  generalize (lg_sl ([.ref (ar 71), .int (Int32.ofInt (t0))]) ++ List.replicate (2 - (lg_sl ([.ref (ar 71), .int (Int32.ofInt (t0))])).length) Slot.unset).toArray = ls at hl ⊢
  have hl : lv_has ls 2 [(0, .ref (ar 71)), (1, .int (Int32.ofInt (t0)))] := hl
  obtain ⟨H, eH⟩ : ∃ H, H = s.heap := ⟨_, rfl⟩
  rw [← eH] at hP
  have hS : va_S A s.heap H [] := by rw [eH]; exact hS
  have gW : s.heap = H := eH.symm
  refine iv_heap gW ?_
  have h0w := hts (.fieldLink RX10 171 "RopeTownModel" "code" "I") (wz_at 8 12 rfl)
  have h1w : ∀ w ∈ wsX100, w ∈ wzX10_reach := fun w h => List.mem_cons_of_mem _ (inlX10 w h)
  refine lv_aload_n hx hb dX10_reach_0 rfl (lv_at hl 0 rfl) ?_
  refine lv_iconst (v := Int32.ofInt 0) hx hb dX10_reach_1 (by decide +kernel) ?_
  refine iv_put (ci := 7) (v := .int (Int32.ofInt (0))) (ty := .int) (C := RX10) (T := TX10) (N := 71) (ref := RX10) hx hb hts h1w tyX10 tyX10_ok nmX10 hown hX.1 hP hD hS 0 rfl rfl 2 (by decide) h0w (fun _ h9 => h9) rfl (by decide +kernel) rfl rfl (Nat.le_of_ble_eq_true rfl) (wM_F2 _ _ _ _ _) dX10_reach_2 (fun H locs hP hD hS => ?_)
  refine lv_aload_n hx hb dX10_reach_5 rfl (lv_at hl 0 rfl) ?_
  refine lv_iload_n hx hb dX10_reach_6 rfl (lv_at hl 1 rfl) ?_
  refine cr_i (va_runV (As := [.int (Int32.ofInt (t0))]) (rest := []) ⟨hx, hb, hml, hown, hts⟩ (mX10_isThing l G k ar (uF fi 2 (0)) fa fl t0 H.size (iF hR (by omega)) hRa (by omega) (show 0 ≤ (fi 12) ∧ (fi 12) ≤ 7 from by omega)) (cwV 1 hts (gz [.methodLink RX10 349 yX10_isThing, .instanceMethod yX10_isThing, .selects RX10 yX10_isThing yX10_isThing, .initialized RX10] (.code yX10_isThing cX10_isThing 2 (some .boolean)) [(24, 3), (24, 4), (24, 5), (0, 5), (24, 6)] rfl) rfl rfl rfl (by decide +kernel) ⟨Nat.le_of_ble_eq_true rfl, Nat.le_of_ble_eq_true rfl⟩) (cr_preV (EZ_ok k) hZ hS hX hP hD hA (ci := 7) (q0 := 0) rfl rfl) rfl rfl hl.1 rfl (lv_room (Nat.le_of_ble_eq_true rfl)) dX10_reach_7 ⟨Nat.le_of_ble_eq_true rfl, Nat.le_of_ble_eq_true rfl⟩) hD hS hA (fun r u H locs hp hP hD hS => ?_)
  obtain ⟨c1, rfl⟩ : ∃ z, z = u := ⟨_, rfl⟩
  obtain ⟨h9, rc1, hp1⟩ : r = Int32.ofInt c1 ∧ (inR c1) ∧ ((c1 = 1 ∧ 0 ≤ t0 ∧ t0 < (fi 12)) ∨ (c1 = 0 ∧ (t0 < 0 ∨ (fi 12) ≤ t0))) := hp
  subst h9
  refine iv_if_eq (tgt := 22) hx hb (by omega) dX10_reach_10 (by decide) (fun q2 => ?_) (fun q2 => ?_)
  · refine lv_aload_n hx hb dX10_reach_22 rfl (lv_at hl 0 rfl) ?_
    refine lv_iconst (v := Int32.ofInt 1) hx hb dX10_reach_23 (by decide +kernel) ?_
    refine cr_i (va_runV (As := [.int (Int32.ofInt (1))]) (rest := []) ⟨hx, hb, hml, hown, hts⟩ (mX10_fail l G k ar (uF fi 2 (0)) fa fl 1 H.size (iF hR (by omega)) hRa (by omega)) (cwV 1 hts (gz [.methodLink RX10 315 yX10_fail, .instanceMethod yX10_fail, .selects RX10 yX10_fail yX10_fail, .initialized RX10] (.code yX10_fail cX10_fail 2 (some .int)) [(16, 17), (16, 18), (16, 19), (0, 5), (16, 20)] rfl) rfl rfl rfl (by decide +kernel) ⟨Nat.le_of_ble_eq_true rfl, Nat.le_of_ble_eq_true rfl⟩) (cr_preV (EZ_ok k) hZ hS hX hP hD hA (ci := 7) (q0 := 0) rfl rfl) rfl rfl hl.1 rfl (lv_room (Nat.le_of_ble_eq_true rfl)) dX10_reach_24 ⟨Nat.le_of_ble_eq_true rfl, Nat.le_of_ble_eq_true rfl⟩) hD hS hA (fun r u H locs hp hP hD hS => ?_)
    obtain ⟨c3, c4⟩ := u
    obtain ⟨hP, hD⟩ : va_P G vwCl (wM k ar (uF fi 2 (c4)) fa fl) H ∧ va_D A (wM k ar (uF fi 2 (c4)) fa fl) := ⟨hP, hD⟩
    obtain ⟨h9, rc3, rc4, hp4⟩ : r = Int32.ofInt c3 ∧ (inR c3) ∧ (inR c4) ∧ (c3 = 0 ∧ c4 = 1) := hp
    subst h9
    exact W.iret (v := Int32.ofInt (c3)) hx hb hr (fun t ht hW => ⟨⟨Int32.ofInt (c3), (c3, fa 39, fa 40, fa 46, fa 47, fa 48, fa 49, fa 53, fa 54, fa 57, c4, fi 41, fi 42, fi 43, fi 50, fi 51, fi 52, fi 55, fi 56, fl), rfl, ⟨rfl, (show (inR c3) ∧ (∀ t, inR ((fa 39) t)) ∧ (∀ t, inR ((fa 40) t)) ∧ (∀ t, inR ((fa 46) t)) ∧ (∀ t, inR ((fa 47) t)) ∧ (∀ t, inR ((fa 48) t)) ∧ (∀ t, inR ((fa 49) t)) ∧ (∀ t, inR ((fa 53) t)) ∧ (∀ t, inR ((fa 54) t)) ∧ (∀ t, inR ((fa 57) t)) ∧ (inR c4) ∧ (inR (fi 41)) ∧ (inR (fi 42)) ∧ (inR (fi 43)) ∧ (inR (fi 50)) ∧ (inR (fi 51)) ∧ (inR (fi 52)) ∧ (inR (fi 55)) ∧ (inR (fi 56)) ∧ (True) from ⟨(by omega), (hRa 39), (hRa 40), (hRa 46), (hRa 47), (hRa 48), (hRa 49), (hRa 53), (hRa 54), (hRa 57), (by omega), (hR 41), (hR 42), (hR 43), (hR 50), (hR 51), (hR 52), (hR 55), (hR 56), trivial⟩)⟩, by rw [ht]; exact hP, hD⟩, hS.F ht⟩) hS.2.2 dX10_reach_27
  · refine lv_aload_n hx hb dX10_reach_13 rfl (lv_at hl 0 rfl) ?_
    refine lv_iload_n hx hb dX10_reach_14 rfl (lv_at hl 1 rfl) ?_
    refine lv_iconst (v := Int32.ofInt 0) hx hb dX10_reach_15 (by decide +kernel) ?_
    refine cr_i (va_runV (As := [.int (Int32.ofInt (t0)), .int (Int32.ofInt (0))]) (rest := []) ⟨hx, hb, hml, hown, hts⟩ (mX10_reachOf l G k ar (uF fi 2 (0)) fa fl t0 0 H.size (iF hR (by omega)) hRa (by omega) (by omega) (show 0 ≤ (fi 12) ∧ (fi 12) ≤ 7 from by omega) (show 0 ≤ (fi 13) ∧ (fi 13) ≤ 4 from by omega) (show ∀ q9, 0 ≤ q9 → q9 < (fi 13) → RWf ((fa 10)) ((fa 8) q9) ((fa 9) q9) from by first | exact hRW | omega) (show 0 ≤ (fa 3) 0 ∧ (fa 3) 0 ≤ 11 from by omega) (show 0 ≤ t0 ∧ t0 < 7 from by omega)) (cwV 2 hts (gz [.methodLink RX10 479 yX10_reachOf, .instanceMethod yX10_reachOf, .selects RX10 yX10_reachOf yX10_reachOf, .initialized RX10] (.code yX10_reachOf cX10_reachOf 5 (some .int)) [(38, 4), (38, 5), (38, 6), (0, 5), (38, 7)] rfl) rfl rfl rfl (by decide +kernel) ⟨Nat.le_of_ble_eq_true rfl, Nat.le_of_ble_eq_true rfl⟩) (cr_preV (EZ_ok k) hZ hS hX hP hD hA (ci := 7) (q0 := 0) rfl rfl) rfl rfl hl.1 rfl (lv_room (Nat.le_of_ble_eq_true rfl)) dX10_reach_16 ⟨Nat.le_of_ble_eq_true rfl, Nat.le_of_ble_eq_true rfl⟩) hD hS hA (fun r u H locs hp hP hD hS => ?_)
    obtain ⟨c5, c6, c7, c8, c9, c10, c11, c12, c13, c14, c15, c16, c17, c18, c19, c20, c21, c22, c23⟩ := u
    obtain ⟨hP, hD⟩ : va_P G vwCl (wM k ar (uF (uF (uF (uF (uF (uF (uF (uF (uF fi 2 (0)) 41 (c15)) 42 (c16)) 43 (c17)) 50 (c18)) 51 (c19)) 52 (c20)) 55 (c21)) 56 (c22)) (uF (uF (uF (uF (uF (uF (uF (uF (uF fa 39 (c6)) 40 (c7)) 46 (c8)) 47 (c9)) 48 (c10)) 49 (c11)) 53 (c12)) 54 (c13)) 57 (c14)) c23) H ∧ va_D A (wM k ar (uF (uF (uF (uF (uF (uF (uF (uF (uF fi 2 (0)) 41 (c15)) 42 (c16)) 43 (c17)) 50 (c18)) 51 (c19)) 52 (c20)) 55 (c21)) 56 (c22)) (uF (uF (uF (uF (uF (uF (uF (uF (uF fa 39 (c6)) 40 (c7)) 46 (c8)) 47 (c9)) 48 (c10)) 49 (c11)) 53 (c12)) 54 (c13)) 57 (c14)) c23) := ⟨hP, hD⟩
    obtain ⟨h9, rc5, rc6, rc7, rc8, rc9, rc10, rc11, rc12, rc13, rc14, rc15, rc16, rc17, rc18, rc19, rc20, rc21, rc22, hp23⟩ : r = Int32.ofInt c5 ∧ (inR c5) ∧ (∀ t, inR (c6 t)) ∧ (∀ t, inR (c7 t)) ∧ (∀ t, inR (c8 t)) ∧ (∀ t, inR (c9 t)) ∧ (∀ t, inR (c10 t)) ∧ (∀ t, inR (c11 t)) ∧ (∀ t, inR (c12 t)) ∧ (∀ t, inR (c13 t)) ∧ (∀ t, inR (c14 t)) ∧ (inR c15) ∧ (inR c16) ∧ (inR c17) ∧ (inR c18) ∧ (inR c19) ∧ (inR c20) ∧ (inR c21) ∧ (inR c22) ∧ (True) := hp
    subst h9
    refine lv_goto (tgt := 27) hx hb dX10_reach_19 (by decide) ?_
    exact W.iret (v := Int32.ofInt (c5)) hx hb hr (fun t ht hW => ⟨⟨Int32.ofInt (c5), (c5, c6, c7, c8, c9, c10, c11, c12, c13, c14, 0, c15, c16, c17, c18, c19, c20, c21, c22, c23), rfl, ⟨rfl, (show (inR c5) ∧ (∀ t, inR (c6 t)) ∧ (∀ t, inR (c7 t)) ∧ (∀ t, inR (c8 t)) ∧ (∀ t, inR (c9 t)) ∧ (∀ t, inR (c10 t)) ∧ (∀ t, inR (c11 t)) ∧ (∀ t, inR (c12 t)) ∧ (∀ t, inR (c13 t)) ∧ (∀ t, inR (c14 t)) ∧ (inR 0) ∧ (inR c15) ∧ (inR c16) ∧ (inR c17) ∧ (inR c18) ∧ (inR c19) ∧ (inR c20) ∧ (inR c21) ∧ (inR c22) ∧ (True) from ⟨(by omega), rc6, rc7, rc8, rc9, rc10, rc11, rc12, rc13, rc14, (by omega), (by omega), (by omega), (by omega), (by omega), (by omega), (by omega), (by omega), (by omega), trivial⟩)⟩, by rw [ht]; exact hP, hD⟩, hS.F ht⟩) hS.2.2 dX10_reach_27

set_option maxHeartbeats 4000000 in
set_option maxRecDepth 100000 in
theorem mX10_bitsOf (l : Launch) (G : va_G) (k : Nat → ClassId) (s0 : Int) (sz : Nat) (hr_s0 : inR s0) (hs0 : 0 ≤ s0 ∧ s0 ≤ 127) : CNi l G k (EZ k) yX10_bitsOf wzX10_bitsOf ({ frames := 0, cells := 0, slots := 0, locals := 0 }) [.int (Int32.ofInt (s0))] sz [] (fun (r0 : Int32) (u : Int) => r0 = Int32.ofInt (u) ∧ (inR u) ∧ (0 ≤ u ∧ u ≤ 127)) (fun (u : Int) => []) := by
  refine Met.ofW (cc := cX10_bitsOf) (maxL := 3) (ret := (some .int)) (by decide) rfl ?_
  intro p e s m args below meth c s₁ B hml hv
  obtain ⟨rfl, hsz, hP, hX, hD0, hZ0⟩ := hv
  have hx := B.exec
  have hb := B.bytes
  have hr := B.returns
  have hts := atoms_spec (ws := wzX10_bitsOf) B.pre
  have hown : s.vm.findClass RX10 = some m.cls := findClass_of_methodNamed B.named
  subst hsz
  have hD := hD0.self (sz := s.heap.size)
  have hZ := hZ0
  generalize hAe : va_A [] s.heap.size = A at hD hZ ⊢
  have hA : ∀ q : Nat, s.heap.size ≤ q → A q := fun q h => by rw [← hAe]; exact Or.inr h
  have hS : va_S A s.heap s.heap [] := va_S.rf
  have hl := lv_entry ([.int (Int32.ofInt (s0))]) (n := 3) (Nat.le_of_ble_eq_true rfl)
  rw [lg_entry_eq]
  generalize (lg_sl ([.int (Int32.ofInt (s0))]) ++ List.replicate (3 - (lg_sl ([.int (Int32.ofInt (s0))])).length) Slot.unset).toArray = ls at hl ⊢
  have hl : lv_has ls 3 [(0, .int (Int32.ofInt (s0)))] := hl
  obtain ⟨H, eH⟩ : ∃ H, H = s.heap := ⟨_, rfl⟩
  rw [← eH] at hP
  have hS : va_S A s.heap H [] := by rw [eH]; exact hS
  have gW : s.heap = H := eH.symm
  refine iv_heap gW ?_
  refine lv_iconst (v := Int32.ofInt 0) hx hb dX10_bitsOf_0 (by decide +kernel) ?_
  refine lv_istore_n (lv' := [(1, .int (Int32.ofInt (0))), (0, .int (Int32.ofInt (s0)))]) hx hb dX10_bitsOf_1 rfl hl (by decide) rfl (fun ls hl => ?_)
  refine lv_iload_n hx hb dX10_bitsOf_2 rfl (lv_at hl 1 rfl) ?_
  refine lv_istore_n (lv' := [(2, .int (Int32.ofInt (s0))), (1, .int (Int32.ofInt (0))), (0, .int (Int32.ofInt (s0)))]) hx hb dX10_bitsOf_3 rfl hl (by decide) rfl (fun ls hl => ?_)
  refine iv_loop (α := Int × Int) (nL := 3) (fun b9 => []) (fun b9 => [(2, .int (Int32.ofInt (b9.1))), (1, .int (Int32.ofInt (b9.2))), (0, .int (Int32.ofInt (s0)))]) (fun b9 => (b9.1).toNat) (fun b9 => inR b9.1 ∧ inR b9.2 ∧ (0 ≤ b9.2 ∧ 0 ≤ b9.1 ∧ b9.2 + b9.1 ≤ 127)) ?_ (s0, 0) (show inR s0 ∧ inR 0 ∧ (0 ≤ 0 ∧ 0 ≤ s0 ∧ 0 + s0 ≤ 127) from ⟨(by omega), (by omega), (by omega)⟩) hP hD hS hl
  rintro ⟨x2_1, x1_2⟩ ih hi9 H locs ls hP hD hS hl
  obtain ⟨r_x2_1, r_x1_2, hinv⟩ : inR x2_1 ∧ inR x1_2 ∧ (0 ≤ x1_2 ∧ 0 ≤ x2_1 ∧ x1_2 + x2_1 ≤ 127) := hi9
  obtain ⟨hP, hD⟩ : va_P G vwCl [] H ∧ va_D A [] := ⟨hP, hD⟩
  have hl : lv_has ls 3 [(2, .int (Int32.ofInt (x2_1))), (1, .int (Int32.ofInt (x1_2))), (0, .int (Int32.ofInt (s0)))] := hl
  refine lv_iload_n hx hb dX10_bitsOf_4 rfl (lv_at hl 0 rfl) ?_
  refine iv_if_eq (tgt := 20) hx hb (by omega) dX10_bitsOf_5 (by decide) (fun q3 => ?_) (fun q3 => ?_)
  · refine lv_iload_n hx hb dX10_bitsOf_20 rfl (lv_at hl 1 rfl) ?_
    exact W.iret (v := Int32.ofInt (x1_2)) hx hb hr (fun t ht hW => ⟨⟨Int32.ofInt (x1_2), (x1_2), rfl, ⟨rfl, (show (inR x1_2) ∧ (0 ≤ x1_2 ∧ x1_2 ≤ 127) from ⟨(by omega), (by omega)⟩)⟩, by rw [ht]; exact hP, hD⟩, hS.F ht⟩) hS.2.2 dX10_bitsOf_21
  · have hd := band_dec (n := x2_1) (by omega) (by omega)
    refine lv_iinc (v := Int32.ofInt (x1_2 + 1)) (lv' := [(1, .int (Int32.ofInt ((x1_2 + 1)))), (2, .int (Int32.ofInt (x2_1))), (0, .int (Int32.ofInt (s0)))]) hx hb dX10_bitsOf_8 hl (k := 1) rfl (Int32.ofInt_add _ _).symm (by decide) rfl (fun ls hl => ?_)
    refine lv_iload_n hx hb dX10_bitsOf_11 rfl (lv_at hl 1 rfl) ?_
    refine lv_iload_n hx hb dX10_bitsOf_12 rfl (lv_at hl 1 rfl) ?_
    refine lv_iconst (v := Int32.ofInt 1) hx hb dX10_bitsOf_13 (by decide +kernel) ?_
    refine iv_sub (x := x2_1) (y := 1) hx hb dX10_bitsOf_14 ?_
    refine iv_and hx hb dX10_bitsOf_15 ?_
    refine iv_top (fun z4 ez4 => ?_)
    have rz4 : inR z4 := ez4 ▸ bAnd_r _ _
    refine lv_istore_n (lv' := [(2, .int (Int32.ofInt (z4))), (1, .int (Int32.ofInt ((x1_2 + 1)))), (0, .int (Int32.ofInt (s0)))]) hx hb dX10_bitsOf_16 rfl hl (by decide) rfl (fun ls hl => ?_)
    refine lv_goto (tgt := 4) hx hb dX10_bitsOf_17 (by decide) ?_
    have hl : lv_has ls 3 [(2, .int (Int32.ofInt (z4))), (1, .int (Int32.ofInt ((x1_2 + 1)))), (0, .int (Int32.ofInt (s0)))] := lv_sub hl [0, 1, 2] rfl
    exact ih (z4, (x1_2 + 1)) (show (z4).toNat < (x2_1).toNat from by omega) (show inR z4 ∧ inR (x1_2 + 1) ∧ (0 ≤ (x1_2 + 1) ∧ 0 ≤ z4 ∧ (x1_2 + 1) + z4 ≤ 127) from ⟨(by omega), (by omega), (by omega)⟩) _ _ _ hP hD hS hl

