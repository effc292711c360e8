set_option maxHeartbeats 4000000 in
set_option maxRecDepth 100000 in
theorem mX10_take (l : Launch) (G : va_G) (k : Nat → ClassId) (ar : Nat → Nat) (fi : Nat → Int) (fa : Nat → Int → Int) (fl : Nat → Int64) (sz : Nat) (hR : ∀ j, inR (fi j)) (hRa : ∀ j t, inR (fa j t)) (hrt : 0 ≤ fi 14 ∧ fi 14 ≤ 7 ∧ 0 ≤ fi 15 ∧ fi 15 ≤ 4) (hla : 0 ≤ fi 27 ∧ fi 27 ≤ 600) (hd7 : 0 ≤ fa 3 7 ∧ fa 3 7 ≤ 11) (hRR : ∀ q9, 0 ≤ q9 → q9 < fi 15 → RWu (fa 10) (fa 8 (4 + q9)) (fa 9 (4 + q9)) (fi 27)) : CNv l G k (EZ k) yX10_take wzX10_take ({ frames := 0, cells := 0, slots := 0, locals := 0 }) [.ref (ar 71)] sz (wM k ar fi fa fl) (fun (u : (Int → Int) × (Int → Int) × (Int → Int) × (Int → Int) × (Int → Int) × (Int → Int) × (Int → Int) × (Int → Int) × (Int → Int) × Int × Int × Int × Int × Int × Int × Int) => (∀ t, inR (u.1 t)) ∧ (∀ t, inR (u.2.1 t)) ∧ (∀ t, inR (u.2.2.1 t)) ∧ (∀ t, inR (u.2.2.2.1 t)) ∧ (∀ t, inR (u.2.2.2.2.1 t)) ∧ (∀ t, inR (u.2.2.2.2.2.1 t)) ∧ (∀ t, inR (u.2.2.2.2.2.2.1 t)) ∧ (∀ t, inR (u.2.2.2.2.2.2.2.1 t)) ∧ (∀ t, inR (u.2.2.2.2.2.2.2.2.1 t)) ∧ (inR u.2.2.2.2.2.2.2.2.2.1) ∧ (inR u.2.2.2.2.2.2.2.2.2.2.1) ∧ (inR u.2.2.2.2.2.2.2.2.2.2.2.1) ∧ (inR u.2.2.2.2.2.2.2.2.2.2.2.2.1) ∧ (inR u.2.2.2.2.2.2.2.2.2.2.2.2.2.1) ∧ (inR u.2.2.2.2.2.2.2.2.2.2.2.2.2.2.1) ∧ (inR u.2.2.2.2.2.2.2.2.2.2.2.2.2.2.2) ∧ ((u.2.2.2.2.2.2.2.2.2.1 = fi 14 ∧ u.2.2.2.2.2.2.2.2.2.2.1 = fi 15 ∧ u.2.2.2.2.2.2.2.2.2.2.2.2.1 = 0 ∧ u.2.2.2.2.2.2.2.2.2.2.2.2.2.2.1 = 0 ∧ u.2.2.2.2.2.2.2.2.2.2.2.2.2.2.2 = 0 ∧ 0 ≤ u.1 0 ∧ u.1 0 ≤ 11) ∧ (∀ q9, 0 ≤ q9 → q9 < u.2.2.2.2.2.2.2.2.2.2.1 → RWf u.2.2.2.2.2.2.2.1 (u.2.2.2.2.2.1 q9) (u.2.2.2.2.2.2.1 q9)) ∧ TkP (fa 3) (fa 4) (fa 5) (fa 6) (fa 7) (fa 8) (fa 9) (fa 10) u.1 u.2.1 u.2.2.1 u.2.2.2.1 u.2.2.2.2.1 u.2.2.2.2.2.1 u.2.2.2.2.2.2.1 u.2.2.2.2.2.2.2.1 u.2.2.2.2.2.2.2.2.1 (fi 27) (fi 14) u.2.2.2.2.2.2.2.2.2.2.2.1)) (fun (u : (Int → Int) × (Int → Int) × (Int → Int) × (Int → Int) × (Int → Int) × (Int → Int) × (Int → Int) × (Int → Int) × (Int → Int) × Int × Int × Int × Int × Int × Int × Int) => (wM k ar (uF (uF (uF (uF (uF (uF (uF fi 12 (u.2.2.2.2.2.2.2.2.2.1)) 13 (u.2.2.2.2.2.2.2.2.2.2.1)) 28 (u.2.2.2.2.2.2.2.2.2.2.2.1)) 29 (u.2.2.2.2.2.2.2.2.2.2.2.2.1)) 30 (u.2.2.2.2.2.2.2.2.2.2.2.2.2.1)) 31 (u.2.2.2.2.2.2.2.2.2.2.2.2.2.2.1)) 58 (u.2.2.2.2.2.2.2.2.2.2.2.2.2.2.2)) (uF (uF (uF (uF (uF (uF (uF (uF (uF fa 3 (u.1)) 4 (u.2.1)) 5 (u.2.2.1)) 6 (u.2.2.2.1)) 7 (u.2.2.2.2.1)) 8 (u.2.2.2.2.2.1)) 9 (u.2.2.2.2.2.2.1)) 10 (u.2.2.2.2.2.2.2.1)) 32 (u.2.2.2.2.2.2.2.2.1)) fl)) := by
  refine Met.ofW (cc := cX10_take) (maxL := 2) (ret := none) (by decide) rfl ?_
  intro p e s m args below meth c s₁ B hml hv
  obtain ⟨rfl, hsz, hP, hX, hD0, hZ0⟩ := hv
  have hx := B.exec
  have hb := B.bytes
  have hr := B.returns
  have hts := atoms_spec (ws := wzX10_take) B.pre
  have hown : s.vm.findClass RX10 = some m.cls := findClass_of_methodNamed B.named
  subst hsz
  have hD := hD0.self (sz := s.heap.size)
  have hZ := hZ0
  generalize hAe : va_A (wM k ar fi fa fl) s.heap.size = A at hD hZ ⊢
  have hA : ∀ q : Nat, s.heap.size ≤ q → A q := fun q h => by rw [← hAe]; exact Or.inr h
  have hS : va_S A s.heap s.heap [] := va_S.rf
  have hl := lv_entry ([.ref (ar 71)]) (n := 2) (Nat.le_of_ble_eq_true rfl)
  rw [lg_entry_eq]
  generalize (lg_sl ([.ref (ar 71)]) ++ List.replicate (2 - (lg_sl ([.ref (ar 71)])).length) Slot.unset).toArray = ls at hl ⊢
  have hl : lv_has ls 2 [(0, .ref (ar 71))] := hl
  obtain ⟨H, eH⟩ : ∃ H, H = s.heap := ⟨_, rfl⟩
  rw [← eH] at hP
  have hS : va_S A s.heap H [] := by rw [eH]; exact hS
  have gW : s.heap = H := eH.symm
  refine iv_heap gW ?_
  have h0w := hts (.fieldLink RX10 290 "RopeTownModel" "readThings" "I") (wz_at 16 13 rfl)
  have h1w : ∀ w ∈ wsX100, w ∈ wzX10_take := fun w h => List.mem_cons_of_mem _ (inlX10 w h)
  have h2w := hts (.fieldLink RX10 174 "RopeTownModel" "things" "I") (wz_at 21 11 rfl)
  have h3w := hts (.fieldLink RX10 303 "RopeTownModel" "readRules" "I") (wz_at 16 14 rfl)
  have h4w := hts (.fieldLink RX10 324 "RopeTownModel" "rules" "I") (wz_at 21 12 rfl)
  have h5w := hts (.fieldLink RX10 250 "RopeTownModel" "laid" "I") (wz_at 16 12 rfl)
  have h6w := hts (.fieldLink RX10 54 "RopeTownModel" "rule" "[I") (wz_at 6 6 rfl)
  have h7w := hts (.fieldLink RX10 327 "RopeTownModel" "bucket0" "I") (wz_at 21 13 rfl)
  have h8w := hts (.fieldLink RX10 330 "RopeTownModel" "moves" "I") (wz_at 21 14 rfl)
  have h9w := hts (.fieldLink RX10 333 "RopeTownModel" "cost" "I") (wz_at 21 15 rfl)
  have h10w := hts (.fieldLink RX10 336 "RopeTownModel" "days" "I") (wz_at 21 16 rfl)
  have h11w := hts (.fieldLink RX10 339 "RopeTownModel" "hasImage" "Z") (wz_at 21 17 rfl)
  have h12w := hts (.fieldLink RX10 87 "RopeTownModel" "place" "[I") (wz_at 6 17 rfl)
  have h13w := hts (.fieldLink RX10 62 "RopeTownModel" "begins0" "[I") (wz_at 6 9 rfl)
  have h14w := hts (.fieldLink RX10 74 "RopeTownModel" "signs" "[I") (wz_at 6 13 rfl)
  have h15w := hts (.fieldLink RX10 68 "RopeTownModel" "begin" "[I") (wz_at 6 11 rfl)
  have h16w := hts (.fieldLink RX10 71 "RopeTownModel" "finish" "[I") (wz_at 6 12 rfl)
  have h17w := hts (.fieldLink RX10 57 "RopeTownModel" "kind" "[I") (wz_at 6 7 rfl)
  have h18w := hts (.fieldLink RX10 60 "RopeTownModel" "weight" "[I") (wz_at 6 8 rfl)
  have h19w := hts (.fieldLink RX10 65 "RopeTownModel" "aim" "[I") (wz_at 6 10 rfl)
  refine lv_iconst (v := Int32.ofInt 0) hx hb dX10_take_0 (by decide +kernel) ?_
  refine lv_istore_n (lv' := [(1, .int (Int32.ofInt (0))), (0, .ref (ar 71))]) hx hb dX10_take_1 rfl hl (by decide) rfl (fun ls hl => ?_)
  refine iv_loop (α := Int × (Int → Int)) (nL := 2) (fun b9 => (wM k ar fi (uF fa 3 (b9.2)) fl)) (fun b9 => [(1, .int (Int32.ofInt (b9.1))), (0, .ref (ar 71))]) (fun b9 => (7 - b9.1).toNat) (fun b9 => inR b9.1 ∧ (∀ t, inR (b9.2 t)) ∧ (0 ≤ b9.1 ∧ b9.1 ≤ 7 ∧ (∀ t, 7 ≤ t → b9.2 t = fa 3 t) ∧ (∀ t, 0 ≤ t → t < b9.1 → b9.2 t = fa 3 (7 + t)))) ?_ (0, fa 3) (show inR 0 ∧ (∀ t, inR ((fa 3) t)) ∧ (0 ≤ 0 ∧ 0 ≤ 7 ∧ (∀ t, 7 ≤ t → (fa 3) t = fa 3 t) ∧ (∀ t, 0 ≤ t → t < 0 → (fa 3) t = fa 3 (7 + t))) from ⟨(by omega), (hRa 3), (by exact ⟨by omega, by omega, fun t _ => rfl, fun t h1 h2 => by omega⟩)⟩) hP hD hS hl
  rintro ⟨x1_1, g3_2⟩ ih hi9 H locs ls hP hD hS hl
  obtain ⟨r_x1_1, r_g3_2, hinv⟩ : inR x1_1 ∧ (∀ t, inR (g3_2 t)) ∧ (0 ≤ x1_1 ∧ x1_1 ≤ 7 ∧ (∀ t, 7 ≤ t → g3_2 t = fa 3 t) ∧ (∀ t, 0 ≤ t → t < x1_1 → g3_2 t = fa 3 (7 + t))) := hi9
  obtain ⟨i1, i2, i3, i4⟩ := hinv
  obtain ⟨hP, hD⟩ : va_P G vwCl (wM k ar fi (uF fa 3 (g3_2)) fl) H ∧ va_D A (wM k ar fi (uF fa 3 (g3_2)) fl) := ⟨hP, hD⟩
  have hl : lv_has ls 2 [(1, .int (Int32.ofInt (x1_1))), (0, .ref (ar 71))] := hl
  refine lv_iload_n hx hb dX10_take_2 rfl (lv_at hl 0 rfl) ?_
  refine lv_bipush (v := Int32.ofInt 7) hx hb dX10_take_3 (by decide +kernel) ?_
  refine iv_icmp_ge (tgt := 29) hx hb (by omega) (by omega) dX10_take_5 (by decide) (fun q3 => ?_) (fun q3 => ?_)
  · have r30 := i4 0 (by omega) (by omega)
    have hc3 : cpT 7 (fa 3) g3_2 7 := fun t h1 h2 => i4 t h1 (by omega)
    refine lv_aload_n hx hb dX10_take_29 rfl (lv_at hl 1 rfl) ?_
    refine lv_aload_n hx hb dX10_take_30 rfl (lv_at hl 1 rfl) ?_
    refine va_get (D := G) (ci := 7) (v := .int (Int32.ofInt (fi 14))) (C := RX10) (T := TX10) (N := 71) (ref := RX10) hx hb hts h1w hown hX.1 hP 0 rfl rfl 14 (by decide) h0w (fun _ h9 => h9) rfl dX10_take_31 ?_
    have rf14 := hR 14
    refine iv_put (ci := 7) (v := .int (Int32.ofInt (fi 14))) (ty := .int) (C := RX10) (T := TX10) (N := 71) (ref := RX10) hx hb hts h1w tyX10 tyX10_ok nmX10 hown hX.1 hP hD hS 0 rfl rfl 12 (by decide) h2w (fun _ h9 => h9) rfl (by decide +kernel) rfl rfl (Nat.le_of_ble_eq_true rfl) (wM_F12 _ _ _ _ _) dX10_take_34 (fun H locs hP hD hS => ?_)
    refine lv_aload_n hx hb dX10_take_37 rfl (lv_at hl 1 rfl) ?_
    refine lv_aload_n hx hb dX10_take_38 rfl (lv_at hl 1 rfl) ?_
    refine va_get (D := G) (ci := 7) (v := .int (Int32.ofInt (fi 15))) (C := RX10) (T := TX10) (N := 71) (ref := RX10) hx hb hts h1w hown hX.1 hP 0 rfl rfl 15 (by decide) h3w (fun _ h9 => h9) rfl dX10_take_39 ?_
    have rf15 := hR 15
    refine iv_put (ci := 7) (v := .int (Int32.ofInt (fi 15))) (ty := .int) (C := RX10) (T := TX10) (N := 71) (ref := RX10) hx hb hts h1w tyX10 tyX10_ok nmX10 hown hX.1 hP hD hS 0 rfl rfl 13 (by decide) h4w (fun _ h9 => h9) rfl (by decide +kernel) rfl rfl (Nat.le_of_ble_eq_true rfl) (wM_F13 _ _ _ _ _) dX10_take_42 (fun H locs hP hD hS => ?_)
    refine lv_iconst (v := Int32.ofInt 0) hx hb dX10_take_45 (by decide +kernel) ?_
    refine lv_istore_n (lv' := [(1, .int (Int32.ofInt (0))), (0, .ref (ar 71))]) hx hb dX10_take_46 rfl hl (by decide) rfl (fun ls hl => ?_)
    refine iv_loop (α := Int × (Int → Int) × (Int → Int) × (Int → Int) × (Int → Int)) (nL := 2) (fun b9 => (wM k ar (uF (uF fi 12 (fi 14)) 13 (fi 15)) (uF (uF (uF (uF (uF fa 3 (g3_2)) 4 (b9.2.1)) 5 (b9.2.2.1)) 6 (b9.2.2.2.1)) 7 (b9.2.2.2.2)) fl)) (fun b9 => [(1, .int (Int32.ofInt (b9.1))), (0, .ref (ar 71))]) (fun b9 => (7 - b9.1).toNat) (fun b9 => inR b9.1 ∧ (∀ t, inR (b9.2.1 t)) ∧ (∀ t, inR (b9.2.2.1 t)) ∧ (∀ t, inR (b9.2.2.2.1 t)) ∧ (∀ t, inR (b9.2.2.2.2 t)) ∧ ((0 ≤ b9.1 ∧ b9.1 ≤ 7) ∧ (∀ t, 7 ≤ t → b9.2.1 t = fa 4 t) ∧ (∀ t, 0 ≤ t → t < b9.1 → b9.2.1 t = fa 4 (7 + t)) ∧ (∀ t, 7 ≤ t → b9.2.2.1 t = fa 5 t) ∧ (∀ t, 0 ≤ t → t < b9.1 → b9.2.2.1 t = fa 5 (7 + t)) ∧ (∀ t, 7 ≤ t → b9.2.2.2.1 t = fa 6 t) ∧ (∀ t, 0 ≤ t → t < b9.1 → b9.2.2.2.1 t = fa 6 (7 + t)) ∧ (∀ t, 7 ≤ t → b9.2.2.2.2 t = fa 7 t) ∧ (∀ t, 0 ≤ t → t < b9.1 → b9.2.2.2.2 t = fa 7 (7 + t)))) ?_ (0, fa 4, fa 5, fa 6, fa 7) (show inR 0 ∧ (∀ t, inR ((fa 4) t)) ∧ (∀ t, inR ((fa 5) t)) ∧ (∀ t, inR ((fa 6) t)) ∧ (∀ t, inR ((fa 7) t)) ∧ ((0 ≤ 0 ∧ 0 ≤ 7) ∧ (∀ t, 7 ≤ t → (fa 4) t = fa 4 t) ∧ (∀ t, 0 ≤ t → t < 0 → (fa 4) t = fa 4 (7 + t)) ∧ (∀ t, 7 ≤ t → (fa 5) t = fa 5 t) ∧ (∀ t, 0 ≤ t → t < 0 → (fa 5) t = fa 5 (7 + t)) ∧ (∀ t, 7 ≤ t → (fa 6) t = fa 6 t) ∧ (∀ t, 0 ≤ t → t < 0 → (fa 6) t = fa 6 (7 + t)) ∧ (∀ t, 7 ≤ t → (fa 7) t = fa 7 t) ∧ (∀ t, 0 ≤ t → t < 0 → (fa 7) t = fa 7 (7 + t))) from ⟨(by omega), (hRa 4), (hRa 5), (hRa 6), (hRa 7), (by exact ⟨by omega, fun t _ => rfl, fun t h1 h2 => by omega, fun t _ => rfl, fun t h1 h2 => by omega, fun t _ => rfl, fun t h1 h2 => by omega, fun t _ => rfl, fun t h1 h2 => by omega⟩)⟩) hP hD hS hl
    rintro ⟨x1_4, g4_5, g5_6, g6_7, g7_8⟩ ih hi9 H locs ls hP hD hS hl
    obtain ⟨r_x1_4, r_g4_5, r_g5_6, r_g6_7, r_g7_8, hinv⟩ : inR x1_4 ∧ (∀ t, inR (g4_5 t)) ∧ (∀ t, inR (g5_6 t)) ∧ (∀ t, inR (g6_7 t)) ∧ (∀ t, inR (g7_8 t)) ∧ ((0 ≤ x1_4 ∧ x1_4 ≤ 7) ∧ (∀ t, 7 ≤ t → g4_5 t = fa 4 t) ∧ (∀ t, 0 ≤ t → t < x1_4 → g4_5 t = fa 4 (7 + t)) ∧ (∀ t, 7 ≤ t → g5_6 t = fa 5 t) ∧ (∀ t, 0 ≤ t → t < x1_4 → g5_6 t = fa 5 (7 + t)) ∧ (∀ t, 7 ≤ t → g6_7 t = fa 6 t) ∧ (∀ t, 0 ≤ t → t < x1_4 → g6_7 t = fa 6 (7 + t)) ∧ (∀ t, 7 ≤ t → g7_8 t = fa 7 t) ∧ (∀ t, 0 ≤ t → t < x1_4 → g7_8 t = fa 7 (7 + t))) := hi9
    obtain ⟨hinv, l1, l2, l3, l4, l5, l6, l7, l8⟩ := hinv
    obtain ⟨hP, hD⟩ : va_P G vwCl (wM k ar (uF (uF fi 12 (fi 14)) 13 (fi 15)) (uF (uF (uF (uF (uF fa 3 (g3_2)) 4 (g4_5)) 5 (g5_6)) 6 (g6_7)) 7 (g7_8)) fl) H ∧ va_D A (wM k ar (uF (uF fi 12 (fi 14)) 13 (fi 15)) (uF (uF (uF (uF (uF fa 3 (g3_2)) 4 (g4_5)) 5 (g5_6)) 6 (g6_7)) 7 (g7_8)) fl) := ⟨hP, hD⟩
    have hl : lv_has ls 2 [(1, .int (Int32.ofInt (x1_4))), (0, .ref (ar 71))] := hl
    refine lv_iload_n hx hb dX10_take_47 rfl (lv_at hl 0 rfl) ?_
    refine lv_bipush (v := Int32.ofInt 7) hx hb dX10_take_48 (by decide +kernel) ?_
    refine iv_icmp_ge (tgt := 119) hx hb (by omega) (by omega) dX10_take_50 (by decide) (fun q9 => ?_) (fun q9 => ?_)
    · have hc4 : cpT 7 (fa 4) g4_5 7 := fun t h1 h2 => l2 t h1 (by omega)
      have hc5 : cpT 7 (fa 5) g5_6 7 := fun t h1 h2 => l4 t h1 (by omega)
      have hc6 : cpT 7 (fa 6) g6_7 7 := fun t h1 h2 => l6 t h1 (by omega)
      have hc7 : cpT 7 (fa 7) g7_8 7 := fun t h1 h2 => l8 t h1 (by omega)
      refine lv_iconst (v := Int32.ofInt 0) hx hb dX10_take_119 (by decide +kernel) ?_
      refine lv_istore_n (lv' := [(1, .int (Int32.ofInt (0))), (0, .ref (ar 71))]) hx hb dX10_take_120 rfl hl (by decide) rfl (fun ls hl => ?_)
      refine iv_loop (α := Int × (Int → Int) × (Int → Int)) (nL := 2) (fun b9 => (wM k ar (uF (uF fi 12 (fi 14)) 13 (fi 15)) (uF (uF (uF (uF (uF (uF (uF fa 3 (g3_2)) 4 (g4_5)) 5 (g5_6)) 6 (g6_7)) 7 (g7_8)) 8 (b9.2.1)) 9 (b9.2.2)) fl)) (fun b9 => [(1, .int (Int32.ofInt (b9.1))), (0, .ref (ar 71))]) (fun b9 => (4 - b9.1).toNat) (fun b9 => inR b9.1 ∧ (∀ t, inR (b9.2.1 t)) ∧ (∀ t, inR (b9.2.2 t)) ∧ (0 ≤ b9.1 ∧ b9.1 ≤ 4 ∧ (∀ t, 4 ≤ t → b9.2.1 t = fa 8 t) ∧ (∀ t, 0 ≤ t → t < b9.1 → b9.2.1 t = fa 8 (4 + t)) ∧ (∀ t, 4 ≤ t → b9.2.2 t = fa 9 t) ∧ (∀ t, 0 ≤ t → t < b9.1 → b9.2.2 t = fa 9 (4 + t)))) ?_ (0, fa 8, fa 9) (show inR 0 ∧ (∀ t, inR ((fa 8) t)) ∧ (∀ t, inR ((fa 9) t)) ∧ (0 ≤ 0 ∧ 0 ≤ 4 ∧ (∀ t, 4 ≤ t → (fa 8) t = fa 8 t) ∧ (∀ t, 0 ≤ t → t < 0 → (fa 8) t = fa 8 (4 + t)) ∧ (∀ t, 4 ≤ t → (fa 9) t = fa 9 t) ∧ (∀ t, 0 ≤ t → t < 0 → (fa 9) t = fa 9 (4 + t))) from ⟨(by omega), (hRa 8), (hRa 9), (by exact ⟨by omega, by omega, fun t _ => rfl, fun t h1 h2 => by omega, fun t _ => rfl, fun t h1 h2 => by omega⟩)⟩) hP hD hS hl
      rintro ⟨x1_10, g8_11, g9_12⟩ ih hi9 H locs ls hP hD hS hl
      obtain ⟨r_x1_10, r_g8_11, r_g9_12, hinv⟩ : inR x1_10 ∧ (∀ t, inR (g8_11 t)) ∧ (∀ t, inR (g9_12 t)) ∧ (0 ≤ x1_10 ∧ x1_10 ≤ 4 ∧ (∀ t, 4 ≤ t → g8_11 t = fa 8 t) ∧ (∀ t, 0 ≤ t → t < x1_10 → g8_11 t = fa 8 (4 + t)) ∧ (∀ t, 4 ≤ t → g9_12 t = fa 9 t) ∧ (∀ t, 0 ≤ t → t < x1_10 → g9_12 t = fa 9 (4 + t))) := hi9
      obtain ⟨j1, j2, j3, j4, j5, j6⟩ := hinv
      obtain ⟨hP, hD⟩ : va_P G vwCl (wM k ar (uF (uF fi 12 (fi 14)) 13 (fi 15)) (uF (uF (uF (uF (uF (uF (uF fa 3 (g3_2)) 4 (g4_5)) 5 (g5_6)) 6 (g6_7)) 7 (g7_8)) 8 (g8_11)) 9 (g9_12)) fl) H ∧ va_D A (wM k ar (uF (uF fi 12 (fi 14)) 13 (fi 15)) (uF (uF (uF (uF (uF (uF (uF fa 3 (g3_2)) 4 (g4_5)) 5 (g5_6)) 6 (g6_7)) 7 (g7_8)) 8 (g8_11)) 9 (g9_12)) fl) := ⟨hP, hD⟩
      have hl : lv_has ls 2 [(1, .int (Int32.ofInt (x1_10))), (0, .ref (ar 71))] := hl
      refine lv_iload_n hx hb dX10_take_121 rfl (lv_at hl 0 rfl) ?_
      refine lv_iconst (v := Int32.ofInt 4) hx hb dX10_take_122 (by decide +kernel) ?_
      refine iv_icmp_ge (tgt := 160) hx hb (by omega) (by omega) dX10_take_123 (by decide) (fun q13 => ?_) (fun q13 => ?_)
      · have hb9 := j4
        have he9 := j6
        have hc8 : cpT 4 (fa 8) g8_11 4 := fun t h1 h2 => j4 t h1 (by omega)
        have hc9 : cpT 4 (fa 9) g9_12 4 := fun t h1 h2 => j6 t h1 (by omega)
        refine lv_iconst (v := Int32.ofInt 0) hx hb dX10_take_160 (by decide +kernel) ?_
        refine lv_istore_n (lv' := [(1, .int (Int32.ofInt (0))), (0, .ref (ar 71))]) hx hb dX10_take_161 rfl hl (by decide) rfl (fun ls hl => ?_)
        refine iv_loop (α := Int × (Int → Int)) (nL := 2) (fun b9 => (wM k ar (uF (uF fi 12 (fi 14)) 13 (fi 15)) (uF (uF (uF (uF (uF (uF (uF (uF fa 3 (g3_2)) 4 (g4_5)) 5 (g5_6)) 6 (g6_7)) 7 (g7_8)) 8 (g8_11)) 9 (g9_12)) 10 (b9.2)) fl)) (fun b9 => [(1, .int (Int32.ofInt (b9.1))), (0, .ref (ar 71))]) (fun b9 => (600 - b9.1).toNat) (fun b9 => inR b9.1 ∧ (∀ t, inR (b9.2 t)) ∧ (0 ≤ b9.1 ∧ b9.1 ≤ fi 27 ∧ (∀ t, 600 ≤ t → b9.2 t = fa 10 t) ∧ (∀ t, 0 ≤ t → t < b9.1 → b9.2 t = fa 10 (600 + t)))) ?_ (0, fa 10) (show inR 0 ∧ (∀ t, inR ((fa 10) t)) ∧ (0 ≤ 0 ∧ 0 ≤ fi 27 ∧ (∀ t, 600 ≤ t → (fa 10) t = fa 10 t) ∧ (∀ t, 0 ≤ t → t < 0 → (fa 10) t = fa 10 (600 + t))) from ⟨(by omega), (hRa 10), (by exact ⟨by omega, by omega, fun t _ => rfl, fun t h1 h2 => by omega⟩)⟩) hP hD hS hl
        rintro ⟨x1_14, g10_15⟩ ih hi9 H locs ls hP hD hS hl
        obtain ⟨r_x1_14, r_g10_15, hinv⟩ : inR x1_14 ∧ (∀ t, inR (g10_15 t)) ∧ (0 ≤ x1_14 ∧ x1_14 ≤ fi 27 ∧ (∀ t, 600 ≤ t → g10_15 t = fa 10 t) ∧ (∀ t, 0 ≤ t → t < x1_14 → g10_15 t = fa 10 (600 + t))) := hi9
        obtain ⟨k1, k2, k3, k4⟩ := hinv
        obtain ⟨hP, hD⟩ : va_P G vwCl (wM k ar (uF (uF fi 12 (fi 14)) 13 (fi 15)) (uF (uF (uF (uF (uF (uF (uF (uF fa 3 (g3_2)) 4 (g4_5)) 5 (g5_6)) 6 (g6_7)) 7 (g7_8)) 8 (g8_11)) 9 (g9_12)) 10 (g10_15)) fl) H ∧ va_D A (wM k ar (uF (uF fi 12 (fi 14)) 13 (fi 15)) (uF (uF (uF (uF (uF (uF (uF (uF fa 3 (g3_2)) 4 (g4_5)) 5 (g5_6)) 6 (g6_7)) 7 (g7_8)) 8 (g8_11)) 9 (g9_12)) 10 (g10_15)) fl) := ⟨hP, hD⟩
        have hl : lv_has ls 2 [(1, .int (Int32.ofInt (x1_14))), (0, .ref (ar 71))] := hl
        refine lv_iload_n hx hb dX10_take_162 rfl (lv_at hl 0 rfl) ?_
        refine lv_aload_n hx hb dX10_take_163 rfl (lv_at hl 1 rfl) ?_
        refine va_get (D := G) (ci := 7) (v := .int (Int32.ofInt (fi 27))) (C := RX10) (T := TX10) (N := 71) (ref := RX10) hx hb hts h1w hown hX.1 hP 0 rfl rfl 27 (by decide) h5w (fun _ h9 => h9) rfl dX10_take_164 ?_
        have rf27 := hR 27
        refine iv_icmp_ge (tgt := 192) hx hb (by omega) (by omega) dX10_take_167 (by decide) (fun q16 => ?_) (fun q16 => ?_)
        · have hs9 := k4
          have hc10 : cpT 600 (fa 10) g10_15 (fi 27) := fun t h1 h2 => k4 t h1 (by omega)
          refine lv_iconst (v := Int32.ofInt 0) hx hb dX10_take_192 (by decide +kernel) ?_
          refine lv_istore_n (lv' := [(1, .int (Int32.ofInt (0))), (0, .ref (ar 71))]) hx hb dX10_take_193 rfl hl (by decide) rfl (fun ls hl => ?_)
          refine iv_loop (α := Int × (Int → Int)) (nL := 2) (fun b9 => (wM k ar (uF (uF fi 12 (fi 14)) 13 (fi 15)) (uF (uF (uF (uF (uF (uF (uF (uF (uF fa 3 (g3_2)) 4 (g4_5)) 5 (g5_6)) 6 (g6_7)) 7 (g7_8)) 8 (g8_11)) 9 (g9_12)) 10 (g10_15)) 32 (b9.2)) fl)) (fun b9 => [(1, .int (Int32.ofInt (b9.1))), (0, .ref (ar 71))]) (fun b9 => (7 - b9.1).toNat) (fun b9 => inR b9.1 ∧ (∀ t, inR (b9.2 t)) ∧ ((0 ≤ b9.1 ∧ b9.1 ≤ 7) ∧ ∀ t, 0 ≤ t → t < b9.1 → b9.2 t = if t < fi 14 then g6_7 t else 15)) ?_ (0, fa 32) (show inR 0 ∧ (∀ t, inR ((fa 32) t)) ∧ ((0 ≤ 0 ∧ 0 ≤ 7) ∧ ∀ t, 0 ≤ t → t < 0 → (fa 32) t = if t < fi 14 then g6_7 t else 15) from ⟨(by omega), (hRa 32), (by exact ⟨by omega, fun t h1 h2 => by omega⟩)⟩) hP hD hS hl
          rintro ⟨x1_17, g32_18⟩ ih hi9 H locs ls hP hD hS hl
          obtain ⟨r_x1_17, r_g32_18, hinv⟩ : inR x1_17 ∧ (∀ t, inR (g32_18 t)) ∧ ((0 ≤ x1_17 ∧ x1_17 ≤ 7) ∧ ∀ t, 0 ≤ t → t < x1_17 → g32_18 t = if t < fi 14 then g6_7 t else 15) := hi9
          obtain ⟨hinv, hPp⟩ := hinv
          obtain ⟨hP, hD⟩ : va_P G vwCl (wM k ar (uF (uF fi 12 (fi 14)) 13 (fi 15)) (uF (uF (uF (uF (uF (uF (uF (uF (uF fa 3 (g3_2)) 4 (g4_5)) 5 (g5_6)) 6 (g6_7)) 7 (g7_8)) 8 (g8_11)) 9 (g9_12)) 10 (g10_15)) 32 (g32_18)) fl) H ∧ va_D A (wM k ar (uF (uF fi 12 (fi 14)) 13 (fi 15)) (uF (uF (uF (uF (uF (uF (uF (uF (uF fa 3 (g3_2)) 4 (g4_5)) 5 (g5_6)) 6 (g6_7)) 7 (g7_8)) 8 (g8_11)) 9 (g9_12)) 10 (g10_15)) 32 (g32_18)) fl) := ⟨hP, hD⟩
          have hl : lv_has ls 2 [(1, .int (Int32.ofInt (x1_17))), (0, .ref (ar 71))] := hl
          refine lv_iload_n hx hb dX10_take_194 rfl (lv_at hl 0 rfl) ?_
          refine lv_bipush (v := Int32.ofInt 7) hx hb dX10_take_195 (by decide +kernel) ?_
          refine iv_icmp_ge (tgt := 231) hx hb (by omega) (by omega) dX10_take_197 (by decide) (fun q19 => ?_) (fun q19 => ?_)
          · have r31 : g3_2 0 = fa 3 7 := r30
            have hPq : ∀ t, 0 ≤ t → t < 7 → g32_18 t = if t < fi 14 then g6_7 t else 15 := fun t h1 h2 => hPp t h1 (by omega)
            refine lv_aload_n hx hb dX10_take_231 rfl (lv_at hl 1 rfl) ?_
            refine lv_aload_n hx hb dX10_take_232 rfl (lv_at hl 1 rfl) ?_
            refine va_get (D := G) (ci := 7) (v := .ref (ar 3)) (C := RX10) (T := TX10) (N := 71) (ref := RX10) hx hb hts h1w hown hX.1 hP 0 rfl rfl 3 (by decide) h6w (fun _ h9 => h9) rfl dX10_take_233 ?_
            refine lv_iconst (v := Int32.ofInt 1) hx hb dX10_take_236 (by decide +kernel) ?_
            refine iv_iald hx hb hX.1 hP 1 0 rfl rfl (by omega) (by omega) (by decide) dX10_take_237 ?_
            refine iv_top (fun z20 ez20 => ?_)
            have rz20 : inR z20 := ez20 ▸ r_g3_2 _
            have ez20 : z20 = g3_2 1 := ez20
            have h28 := ez20
            refine iv_put (ci := 7) (v := .int (Int32.ofInt (z20))) (ty := .int) (C := RX10) (T := TX10) (N := 71) (ref := RX10) hx hb hts h1w tyX10 tyX10_ok nmX10 hown hX.1 hP hD hS 0 rfl rfl 28 (by decide) h7w (fun _ h9 => h9) rfl (by decide +kernel) rfl rfl (Nat.le_of_ble_eq_true rfl) (wM_F28 _ _ _ _ _) dX10_take_238 (fun H locs hP hD hS => ?_)
            refine lv_aload_n hx hb dX10_take_241 rfl (lv_at hl 1 rfl) ?_
            refine lv_iconst (v := Int32.ofInt 0) hx hb dX10_take_242 (by decide +kernel) ?_
            refine iv_put (ci := 7) (v := .int (Int32.ofInt (0))) (ty := .int) (C := RX10) (T := TX10) (N := 71) (ref := RX10) hx hb hts h1w tyX10 tyX10_ok nmX10 hown hX.1 hP hD hS 0 rfl rfl 29 (by decide) h8w (fun _ h9 => h9) rfl (by decide +kernel) rfl rfl (Nat.le_of_ble_eq_true rfl) (wM_F29 _ _ _ _ _) dX10_take_243 (fun H locs hP hD hS => ?_)
            refine lv_aload_n hx hb dX10_take_246 rfl (lv_at hl 1 rfl) ?_
            refine lv_iconst (v := Int32.ofInt 0) hx hb dX10_take_247 (by decide +kernel) ?_
            refine iv_put (ci := 7) (v := .int (Int32.ofInt (0))) (ty := .int) (C := RX10) (T := TX10) (N := 71) (ref := RX10) hx hb hts h1w tyX10 tyX10_ok nmX10 hown hX.1 hP hD hS 0 rfl rfl 30 (by decide) h9w (fun _ h9 => h9) rfl (by decide +kernel) rfl rfl (Nat.le_of_ble_eq_true rfl) (wM_F30 _ _ _ _ _) dX10_take_248 (fun H locs hP hD hS => ?_)
            refine lv_aload_n hx hb dX10_take_251 rfl (lv_at hl 1 rfl) ?_
            refine lv_iconst (v := Int32.ofInt 0) hx hb dX10_take_252 (by decide +kernel) ?_
            refine iv_put (ci := 7) (v := .int (Int32.ofInt (0))) (ty := .int) (C := RX10) (T := TX10) (N := 71) (ref := RX10) hx hb hts h1w tyX10 tyX10_ok nmX10 hown hX.1 hP hD hS 0 rfl rfl 31 (by decide) h10w (fun _ h9 => h9) rfl (by decide +kernel) rfl rfl (Nat.le_of_ble_eq_true rfl) (wM_F31 _ _ _ _ _) dX10_take_253 (fun H locs hP hD hS => ?_)
            refine lv_aload_n hx hb dX10_take_256 rfl (lv_at hl 1 rfl) ?_
            refine lv_iconst (v := Int32.ofInt 0) hx hb dX10_take_257 (by decide +kernel) ?_
            refine iv_put (ci := 7) (v := .int (Int32.ofInt (0))) (ty := .boolean) (C := RX10) (T := TX10) (N := 71) (ref := RX10) hx hb hts h1w tyX10 tyX10_ok nmX10 hown hX.1 hP hD hS 0 rfl rfl 58 (by decide) h11w (fun _ h9 => h9) rfl (by decide +kernel) (nz_bool (by omega)) (fz_bool (by omega)) (Nat.le_of_ble_eq_true rfl) (wM_F58 _ _ _ _ _) dX10_take_258 (fun H locs hP hD hS => ?_)
            exact W.vret hx hb hr (fun t ht hW => ⟨⟨(g3_2, g4_5, g5_6, g6_7, g7_8, g8_11, g9_12, g10_15, g32_18, fi 14, fi 15, z20, 0, 0, 0, 0), rfl, (show (∀ t, inR (g3_2 t)) ∧ (∀ t, inR (g4_5 t)) ∧ (∀ t, inR (g5_6 t)) ∧ (∀ t, inR (g6_7 t)) ∧ (∀ t, inR (g7_8 t)) ∧ (∀ t, inR (g8_11 t)) ∧ (∀ t, inR (g9_12 t)) ∧ (∀ t, inR (g10_15 t)) ∧ (∀ t, inR (g32_18 t)) ∧ (inR (fi 14)) ∧ (inR (fi 15)) ∧ (inR z20) ∧ (inR 0) ∧ (inR 0) ∧ (inR 0) ∧ (inR 0) ∧ (((fi 14) = fi 14 ∧ (fi 15) = fi 15 ∧ 0 = 0 ∧ 0 = 0 ∧ 0 = 0 ∧ 0 ≤ g3_2 0 ∧ g3_2 0 ≤ 11) ∧ (∀ q9, 0 ≤ q9 → q9 < (fi 15) → RWf g10_15 (g8_11 q9) (g9_12 q9)) ∧ TkP (fa 3) (fa 4) (fa 5) (fa 6) (fa 7) (fa 8) (fa 9) (fa 10) g3_2 g4_5 g5_6 g6_7 g7_8 g8_11 g9_12 g10_15 g32_18 (fi 27) (fi 14) z20) from ⟨r_g3_2, r_g4_5, r_g5_6, r_g6_7, r_g7_8, r_g8_11, r_g9_12, r_g10_15, r_g32_18, (hR 14), (hR 15), (by omega), (by omega), (by omega), (by omega), (by omega), (by exact ⟨by omega, rr_take hRR (fun q h1 h2 => hb9 q h1 (by omega)) (fun q h1 h2 => he9 q h1 (by omega)) (fun t h1 h2 => hs9 t h1 (by omega)) (by omega) (by omega), ⟨hc3, hc4, hc5, hc6, hc7, hc8, hc9, hc10, hPq, h28⟩⟩)⟩), by rw [ht]; exact hP, hD⟩, hS.F ht⟩) hS.2.2 dX10_take_261
          · refine lv_aload_n hx hb dX10_take_200 rfl (lv_at hl 1 rfl) ?_
            refine va_get (D := G) (ci := 7) (v := .ref (ar 32)) (C := RX10) (T := TX10) (N := 71) (ref := RX10) hx hb hts h1w hown hX.1 hP 0 rfl rfl 32 (by decide) h12w (fun _ h9 => h9) rfl dX10_take_201 ?_
            refine lv_iload_n hx hb dX10_take_204 rfl (lv_at hl 0 rfl) ?_
            refine lv_iload_n hx hb dX10_take_205 rfl (lv_at hl 0 rfl) ?_
            refine lv_aload_n hx hb dX10_take_206 rfl (lv_at hl 1 rfl) ?_
            refine va_get (D := G) (ci := 7) (v := .int (Int32.ofInt (fi 14))) (C := RX10) (T := TX10) (N := 71) (ref := RX10) hx hb hts h1w hown hX.1 hP 0 rfl rfl 12 (by decide) h2w (fun _ h9 => h9) rfl dX10_take_207 ?_
            refine iv_icmp_ge (tgt := 222) hx hb (by omega) (by omega) dX10_take_210 (by decide) (fun q21 => ?_) (fun q21 => ?_)
            · refine lv_bipush (v := Int32.ofInt 15) hx hb dX10_take_222 (by decide +kernel) ?_
              refine iv_iast hx hb hX.1 hP hD hS 11 0 rfl rfl (wM_A32 _ _ _ _ _) (by omega) (by omega) (by decide) dX10_take_224 (fun H locs hP hD hS => ?_)
              obtain ⟨hP, hD⟩ : va_P G vwCl (wM k ar (uF (uF fi 12 (fi 14)) 13 (fi 15)) (uF (uF (uF (uF (uF (uF (uF (uF (uF fa 3 (g3_2)) 4 (g4_5)) 5 (g5_6)) 6 (g6_7)) 7 (g7_8)) 8 (g8_11)) 9 (g9_12)) 10 (g10_15)) 32 (uA (g32_18) (x1_17) (15))) fl) H ∧ va_D A (wM k ar (uF (uF fi 12 (fi 14)) 13 (fi 15)) (uF (uF (uF (uF (uF (uF (uF (uF (uF fa 3 (g3_2)) 4 (g4_5)) 5 (g5_6)) 6 (g6_7)) 7 (g7_8)) 8 (g8_11)) 9 (g9_12)) 10 (g10_15)) 32 (uA (g32_18) (x1_17) (15))) fl) := ⟨hP, hD⟩
              obtain ⟨g22, eg22, rg22⟩ : ∃ z, z = uA (g32_18) (x1_17) (15) ∧ ∀ t, inR (z t) := ⟨_, rfl, iU r_g32_18 (by omega)⟩
              rw [← eg22] at hP hD
              refine lv_iinc (v := Int32.ofInt (x1_17 + 1)) (lv' := [(1, .int (Int32.ofInt ((x1_17 + 1)))), (0, .ref (ar 71))]) hx hb dX10_take_225 hl (k := 0) rfl (Int32.ofInt_add _ _).symm (by decide) rfl (fun ls hl => ?_)
              refine lv_goto (tgt := 194) hx hb dX10_take_228 (by decide) ?_
              have hl : lv_has ls 2 [(1, .int (Int32.ofInt ((x1_17 + 1)))), (0, .ref (ar 71))] := lv_sub hl [0, 1] rfl
              exact ih ((x1_17 + 1), g22) (show (7 - (x1_17 + 1)).toNat < (7 - x1_17).toNat from by omega) (show inR (x1_17 + 1) ∧ (∀ t, inR (g22 t)) ∧ ((0 ≤ (x1_17 + 1) ∧ (x1_17 + 1) ≤ 7) ∧ ∀ t, 0 ≤ t → t < (x1_17 + 1) → g22 t = if t < fi 14 then g6_7 t else 15) from ⟨(by omega), rg22, (by exact ⟨by omega, tk_p hPp eg22 (by omega) rfl⟩)⟩) _ _ _ hP hD hS hl
            · refine lv_aload_n hx hb dX10_take_213 rfl (lv_at hl 1 rfl) ?_
              refine va_get (D := G) (ci := 7) (v := .ref (ar 6)) (C := RX10) (T := TX10) (N := 71) (ref := RX10) hx hb hts h1w hown hX.1 hP 0 rfl rfl 6 (by decide) h13w (fun _ h9 => h9) rfl dX10_take_214 ?_
              refine lv_iload_n hx hb dX10_take_217 rfl (lv_at hl 0 rfl) ?_
              refine iv_iald hx hb hX.1 hP 4 0 rfl rfl (by omega) (by omega) (by decide) dX10_take_218 ?_
              refine iv_top (fun z23 ez23 => ?_)
              have rz23 : inR z23 := ez23 ▸ r_g6_7 _
              have ez23 : z23 = g6_7 x1_17 := ez23
              refine lv_goto (tgt := 224) hx hb dX10_take_219 (by decide) ?_
              refine iv_iast hx hb hX.1 hP hD hS 11 0 rfl rfl (wM_A32 _ _ _ _ _) (by omega) (by omega) (by decide) dX10_take_224 (fun H locs hP hD hS => ?_)
              obtain ⟨hP, hD⟩ : va_P G vwCl (wM k ar (uF (uF fi 12 (fi 14)) 13 (fi 15)) (uF (uF (uF (uF (uF (uF (uF (uF (uF fa 3 (g3_2)) 4 (g4_5)) 5 (g5_6)) 6 (g6_7)) 7 (g7_8)) 8 (g8_11)) 9 (g9_12)) 10 (g10_15)) 32 (uA (g32_18) (x1_17) (z23))) fl) H ∧ va_D A (wM k ar (uF (uF fi 12 (fi 14)) 13 (fi 15)) (uF (uF (uF (uF (uF (uF (uF (uF (uF fa 3 (g3_2)) 4 (g4_5)) 5 (g5_6)) 6 (g6_7)) 7 (g7_8)) 8 (g8_11)) 9 (g9_12)) 10 (g10_15)) 32 (uA (g32_18) (x1_17) (z23))) fl) := ⟨hP, hD⟩
              obtain ⟨g24, eg24, rg24⟩ : ∃ z, z = uA (g32_18) (x1_17) (z23) ∧ ∀ t, inR (z t) := ⟨_, rfl, iU r_g32_18 (by omega)⟩
              rw [← eg24] at hP hD
              refine lv_iinc (v := Int32.ofInt (x1_17 + 1)) (lv' := [(1, .int (Int32.ofInt ((x1_17 + 1)))), (0, .ref (ar 71))]) hx hb dX10_take_225 hl (k := 0) rfl (Int32.ofInt_add _ _).symm (by decide) rfl (fun ls hl => ?_)
              refine lv_goto (tgt := 194) hx hb dX10_take_228 (by decide) ?_
              have hl : lv_has ls 2 [(1, .int (Int32.ofInt ((x1_17 + 1)))), (0, .ref (ar 71))] := lv_sub hl [0, 1] rfl
              exact ih ((x1_17 + 1), g24) (show (7 - (x1_17 + 1)).toNat < (7 - x1_17).toNat from by omega) (show inR (x1_17 + 1) ∧ (∀ t, inR (g24 t)) ∧ ((0 ≤ (x1_17 + 1) ∧ (x1_17 + 1) ≤ 7) ∧ ∀ t, 0 ≤ t → t < (x1_17 + 1) → g24 t = if t < fi 14 then g6_7 t else 15) from ⟨(by omega), rg24, (by exact ⟨by omega, tk_p hPp eg24 (by omega) rfl⟩)⟩) _ _ _ hP hD hS hl
        · refine lv_aload_n hx hb dX10_take_170 rfl (lv_at hl 1 rfl) ?_
          refine va_get (D := G) (ci := 7) (v := .ref (ar 10)) (C := RX10) (T := TX10) (N := 71) (ref := RX10) hx hb hts h1w hown hX.1 hP 0 rfl rfl 10 (by decide) h14w (fun _ h9 => h9) rfl dX10_take_171 ?_
          refine lv_iload_n hx hb dX10_take_174 rfl (lv_at hl 0 rfl) ?_
          refine lv_aload_n hx hb dX10_take_175 rfl (lv_at hl 1 rfl) ?_
          refine va_get (D := G) (ci := 7) (v := .ref (ar 10)) (C := RX10) (T := TX10) (N := 71) (ref := RX10) hx hb hts h1w hown hX.1 hP 0 rfl rfl 10 (by decide) h14w (fun _ h9 => h9) rfl dX10_take_176 ?_
          refine lv_sipush (v := Int32.ofInt 600) hx hb dX10_take_179 (by decide +kernel) ?_
          refine lv_iload_n hx hb dX10_take_182 rfl (lv_at hl 0 rfl) ?_
          refine iv_add (x := 600) (y := x1_14) hx hb dX10_take_183 ?_
          refine iv_iald hx hb hX.1 hP 8 0 rfl rfl (by omega) (by omega) (by decide) dX10_take_184 ?_
          refine iv_top (fun z25 ez25 => ?_)
          have rz25 : inR z25 := ez25 ▸ r_g10_15 _
          have ez25 : z25 = g10_15 (600 + x1_14) := ez25
          have ez10 := ez25
          refine iv_iast hx hb hX.1 hP hD hS 8 0 rfl rfl (wM_A10 _ _ _ _ _) (by omega) (by omega) (by decide) dX10_take_185 (fun H locs hP hD hS => ?_)
          obtain ⟨hP, hD⟩ : va_P G vwCl (wM k ar (uF (uF fi 12 (fi 14)) 13 (fi 15)) (uF (uF (uF (uF (uF (uF (uF (uF fa 3 (g3_2)) 4 (g4_5)) 5 (g5_6)) 6 (g6_7)) 7 (g7_8)) 8 (g8_11)) 9 (g9_12)) 10 (uA (g10_15) (x1_14) (z25))) fl) H ∧ va_D A (wM k ar (uF (uF fi 12 (fi 14)) 13 (fi 15)) (uF (uF (uF (uF (uF (uF (uF (uF fa 3 (g3_2)) 4 (g4_5)) 5 (g5_6)) 6 (g6_7)) 7 (g7_8)) 8 (g8_11)) 9 (g9_12)) 10 (uA (g10_15) (x1_14) (z25))) fl) := ⟨hP, hD⟩
          obtain ⟨g26, eg26, rg26⟩ : ∃ z, z = uA (g10_15) (x1_14) (z25) ∧ ∀ t, inR (z t) := ⟨_, rfl, iU r_g10_15 (by omega)⟩
          rw [← eg26] at hP hD
          refine lv_iinc (v := Int32.ofInt (x1_14 + 1)) (lv' := [(1, .int (Int32.ofInt ((x1_14 + 1)))), (0, .ref (ar 71))]) hx hb dX10_take_186 hl (k := 0) rfl (Int32.ofInt_add _ _).symm (by decide) rfl (fun ls hl => ?_)
          refine lv_goto (tgt := 162) hx hb dX10_take_189 (by decide) ?_
          have hl : lv_has ls 2 [(1, .int (Int32.ofInt ((x1_14 + 1)))), (0, .ref (ar 71))] := lv_sub hl [0, 1] rfl
          exact ih ((x1_14 + 1), g26) (show (600 - (x1_14 + 1)).toNat < (600 - x1_14).toNat from by omega) (show inR (x1_14 + 1) ∧ (∀ t, inR (g26 t)) ∧ (0 ≤ (x1_14 + 1) ∧ (x1_14 + 1) ≤ fi 27 ∧ (∀ t, 600 ≤ t → g26 t = fa 10 t) ∧ (∀ t, 0 ≤ t → t < (x1_14 + 1) → g26 t = fa 10 (600 + t))) from ⟨(by omega), rg26, (by have cp := cpo_step k3 k4 (by omega) (by omega) ez10 eg26; exact ⟨by omega, by omega, cp.1, cp.2⟩)⟩) _ _ _ hP hD hS hl
      · refine lv_aload_n hx hb dX10_take_126 rfl (lv_at hl 1 rfl) ?_
        refine va_get (D := G) (ci := 7) (v := .ref (ar 8)) (C := RX10) (T := TX10) (N := 71) (ref := RX10) hx hb hts h1w hown hX.1 hP 0 rfl rfl 8 (by decide) h15w (fun _ h9 => h9) rfl dX10_take_127 ?_
        refine lv_iload_n hx hb dX10_take_130 rfl (lv_at hl 0 rfl) ?_
        refine lv_aload_n hx hb dX10_take_131 rfl (lv_at hl 1 rfl) ?_
        refine va_get (D := G) (ci := 7) (v := .ref (ar 8)) (C := RX10) (T := TX10) (N := 71) (ref := RX10) hx hb hts h1w hown hX.1 hP 0 rfl rfl 8 (by decide) h15w (fun _ h9 => h9) rfl dX10_take_132 ?_
        refine lv_iconst (v := Int32.ofInt 4) hx hb dX10_take_135 (by decide +kernel) ?_
        refine lv_iload_n hx hb dX10_take_136 rfl (lv_at hl 0 rfl) ?_
        refine iv_add (x := 4) (y := x1_10) hx hb dX10_take_137 ?_
        refine iv_iald hx hb hX.1 hP 6 0 rfl rfl (by omega) (by omega) (by decide) dX10_take_138 ?_
        refine iv_top (fun z27 ez27 => ?_)
        have rz27 : inR z27 := ez27 ▸ r_g8_11 _
        have ez27 : z27 = g8_11 (4 + x1_10) := ez27
        have ez8 := ez27
        refine iv_iast hx hb hX.1 hP hD hS 6 0 rfl rfl (wM_A8 _ _ _ _ _) (by omega) (by omega) (by decide) dX10_take_139 (fun H locs hP hD hS => ?_)
        obtain ⟨hP, hD⟩ : va_P G vwCl (wM k ar (uF (uF fi 12 (fi 14)) 13 (fi 15)) (uF (uF (uF (uF (uF (uF (uF fa 3 (g3_2)) 4 (g4_5)) 5 (g5_6)) 6 (g6_7)) 7 (g7_8)) 8 (uA (g8_11) (x1_10) (z27))) 9 (g9_12)) fl) H ∧ va_D A (wM k ar (uF (uF fi 12 (fi 14)) 13 (fi 15)) (uF (uF (uF (uF (uF (uF (uF fa 3 (g3_2)) 4 (g4_5)) 5 (g5_6)) 6 (g6_7)) 7 (g7_8)) 8 (uA (g8_11) (x1_10) (z27))) 9 (g9_12)) fl) := ⟨hP, hD⟩
        obtain ⟨g28, eg28, rg28⟩ : ∃ z, z = uA (g8_11) (x1_10) (z27) ∧ ∀ t, inR (z t) := ⟨_, rfl, iU r_g8_11 (by omega)⟩
        rw [← eg28] at hP hD
        refine lv_aload_n hx hb dX10_take_140 rfl (lv_at hl 1 rfl) ?_
        refine va_get (D := G) (ci := 7) (v := .ref (ar 9)) (C := RX10) (T := TX10) (N := 71) (ref := RX10) hx hb hts h1w hown hX.1 hP 0 rfl rfl 9 (by decide) h16w (fun _ h9 => h9) rfl dX10_take_141 ?_
        refine lv_iload_n hx hb dX10_take_144 rfl (lv_at hl 0 rfl) ?_
        refine lv_aload_n hx hb dX10_take_145 rfl (lv_at hl 1 rfl) ?_
        refine va_get (D := G) (ci := 7) (v := .ref (ar 9)) (C := RX10) (T := TX10) (N := 71) (ref := RX10) hx hb hts h1w hown hX.1 hP 0 rfl rfl 9 (by decide) h16w (fun _ h9 => h9) rfl dX10_take_146 ?_
        refine lv_iconst (v := Int32.ofInt 4) hx hb dX10_take_149 (by decide +kernel) ?_
        refine lv_iload_n hx hb dX10_take_150 rfl (lv_at hl 0 rfl) ?_
        refine iv_add (x := 4) (y := x1_10) hx hb dX10_take_151 ?_
        refine iv_iald hx hb hX.1 hP 7 0 rfl rfl (by omega) (by omega) (by decide) dX10_take_152 ?_
        refine iv_top (fun z29 ez29 => ?_)
        have rz29 : inR z29 := ez29 ▸ r_g9_12 _
        have ez29 : z29 = g9_12 (4 + x1_10) := ez29
        have ez9 := ez29
        refine iv_iast hx hb hX.1 hP hD hS 7 0 rfl rfl (wM_A9 _ _ _ _ _) (by omega) (by omega) (by decide) dX10_take_153 (fun H locs hP hD hS => ?_)
        obtain ⟨hP, hD⟩ : va_P G vwCl (wM k ar (uF (uF fi 12 (fi 14)) 13 (fi 15)) (uF (uF (uF (uF (uF (uF (uF fa 3 (g3_2)) 4 (g4_5)) 5 (g5_6)) 6 (g6_7)) 7 (g7_8)) 8 (g28)) 9 (uA (g9_12) (x1_10) (z29))) fl) H ∧ va_D A (wM k ar (uF (uF fi 12 (fi 14)) 13 (fi 15)) (uF (uF (uF (uF (uF (uF (uF fa 3 (g3_2)) 4 (g4_5)) 5 (g5_6)) 6 (g6_7)) 7 (g7_8)) 8 (g28)) 9 (uA (g9_12) (x1_10) (z29))) fl) := ⟨hP, hD⟩
        obtain ⟨g30, eg30, rg30⟩ : ∃ z, z = uA (g9_12) (x1_10) (z29) ∧ ∀ t, inR (z t) := ⟨_, rfl, iU r_g9_12 (by omega)⟩
        rw [← eg30] at hP hD
        refine lv_iinc (v := Int32.ofInt (x1_10 + 1)) (lv' := [(1, .int (Int32.ofInt ((x1_10 + 1)))), (0, .ref (ar 71))]) hx hb dX10_take_154 hl (k := 0) rfl (Int32.ofInt_add _ _).symm (by decide) rfl (fun ls hl => ?_)
        refine lv_goto (tgt := 121) hx hb dX10_take_157 (by decide) ?_
        have hl : lv_has ls 2 [(1, .int (Int32.ofInt ((x1_10 + 1)))), (0, .ref (ar 71))] := lv_sub hl [0, 1] rfl
        exact ih ((x1_10 + 1), g28, g30) (show (4 - (x1_10 + 1)).toNat < (4 - x1_10).toNat from by omega) (show inR (x1_10 + 1) ∧ (∀ t, inR (g28 t)) ∧ (∀ t, inR (g30 t)) ∧ (0 ≤ (x1_10 + 1) ∧ (x1_10 + 1) ≤ 4 ∧ (∀ t, 4 ≤ t → g28 t = fa 8 t) ∧ (∀ t, 0 ≤ t → t < (x1_10 + 1) → g28 t = fa 8 (4 + t)) ∧ (∀ t, 4 ≤ t → g30 t = fa 9 t) ∧ (∀ t, 0 ≤ t → t < (x1_10 + 1) → g30 t = fa 9 (4 + t))) from ⟨(by omega), rg28, rg30, (by have cp := cpo_step j3 j4 (by omega) (by omega) ez8 eg28; have cq := cpo_step j5 j6 (by omega) (by omega) ez9 eg30; exact ⟨by omega, by omega, cp.1, cp.2, cq.1, cq.2⟩)⟩) _ _ _ hP hD hS hl
    · refine lv_aload_n hx hb dX10_take_53 rfl (lv_at hl 1 rfl) ?_
      refine va_get (D := G) (ci := 7) (v := .ref (ar 4)) (C := RX10) (T := TX10) (N := 71) (ref := RX10) hx hb hts h1w hown hX.1 hP 0 rfl rfl 4 (by decide) h17w (fun _ h9 => h9) rfl dX10_take_54 ?_
      refine lv_iload_n hx hb dX10_take_57 rfl (lv_at hl 0 rfl) ?_
      refine lv_aload_n hx hb dX10_take_58 rfl (lv_at hl 1 rfl) ?_
      refine va_get (D := G) (ci := 7) (v := .ref (ar 4)) (C := RX10) (T := TX10) (N := 71) (ref := RX10) hx hb hts h1w hown hX.1 hP 0 rfl rfl 4 (by decide) h17w (fun _ h9 => h9) rfl dX10_take_59 ?_
      refine lv_bipush (v := Int32.ofInt 7) hx hb dX10_take_62 (by decide +kernel) ?_
      refine lv_iload_n hx hb dX10_take_64 rfl (lv_at hl 0 rfl) ?_
      refine iv_add (x := 7) (y := x1_4) hx hb dX10_take_65 ?_
      refine iv_iald hx hb hX.1 hP 2 0 rfl rfl (by omega) (by omega) (by decide) dX10_take_66 ?_
      refine iv_top (fun z31 ez31 => ?_)
      have rz31 : inR z31 := ez31 ▸ r_g4_5 _
      have ez31 : z31 = g4_5 (7 + x1_4) := ez31
      have ez4 := ez31
      refine iv_iast hx hb hX.1 hP hD hS 2 0 rfl rfl (wM_A4 _ _ _ _ _) (by omega) (by omega) (by decide) dX10_take_67 (fun H locs hP hD hS => ?_)
      obtain ⟨hP, hD⟩ : va_P G vwCl (wM k ar (uF (uF fi 12 (fi 14)) 13 (fi 15)) (uF (uF (uF (uF (uF fa 3 (g3_2)) 4 (uA (g4_5) (x1_4) (z31))) 5 (g5_6)) 6 (g6_7)) 7 (g7_8)) fl) H ∧ va_D A (wM k ar (uF (uF fi 12 (fi 14)) 13 (fi 15)) (uF (uF (uF (uF (uF fa 3 (g3_2)) 4 (uA (g4_5) (x1_4) (z31))) 5 (g5_6)) 6 (g6_7)) 7 (g7_8)) fl) := ⟨hP, hD⟩
      obtain ⟨g32, eg32, rg32⟩ : ∃ z, z = uA (g4_5) (x1_4) (z31) ∧ ∀ t, inR (z t) := ⟨_, rfl, iU r_g4_5 (by omega)⟩
      rw [← eg32] at hP hD
      refine lv_aload_n hx hb dX10_take_68 rfl (lv_at hl 1 rfl) ?_
      refine va_get (D := G) (ci := 7) (v := .ref (ar 5)) (C := RX10) (T := TX10) (N := 71) (ref := RX10) hx hb hts h1w hown hX.1 hP 0 rfl rfl 5 (by decide) h18w (fun _ h9 => h9) rfl dX10_take_69 ?_
      refine lv_iload_n hx hb dX10_take_72 rfl (lv_at hl 0 rfl) ?_
      refine lv_aload_n hx hb dX10_take_73 rfl (lv_at hl 1 rfl) ?_
      refine va_get (D := G) (ci := 7) (v := .ref (ar 5)) (C := RX10) (T := TX10) (N := 71) (ref := RX10) hx hb hts h1w hown hX.1 hP 0 rfl rfl 5 (by decide) h18w (fun _ h9 => h9) rfl dX10_take_74 ?_
      refine lv_bipush (v := Int32.ofInt 7) hx hb dX10_take_77 (by decide +kernel) ?_
      refine lv_iload_n hx hb dX10_take_79 rfl (lv_at hl 0 rfl) ?_
      refine iv_add (x := 7) (y := x1_4) hx hb dX10_take_80 ?_
      refine iv_iald hx hb hX.1 hP 3 0 rfl rfl (by omega) (by omega) (by decide) dX10_take_81 ?_
      refine iv_top (fun z33 ez33 => ?_)
      have rz33 : inR z33 := ez33 ▸ r_g5_6 _
      have ez33 : z33 = g5_6 (7 + x1_4) := ez33
      have ez5 := ez33
      refine iv_iast hx hb hX.1 hP hD hS 3 0 rfl rfl (wM_A5 _ _ _ _ _) (by omega) (by omega) (by decide) dX10_take_82 (fun H locs hP hD hS => ?_)
      obtain ⟨hP, hD⟩ : va_P G vwCl (wM k ar (uF (uF fi 12 (fi 14)) 13 (fi 15)) (uF (uF (uF (uF (uF fa 3 (g3_2)) 4 (g32)) 5 (uA (g5_6) (x1_4) (z33))) 6 (g6_7)) 7 (g7_8)) fl) H ∧ va_D A (wM k ar (uF (uF fi 12 (fi 14)) 13 (fi 15)) (uF (uF (uF (uF (uF fa 3 (g3_2)) 4 (g32)) 5 (uA (g5_6) (x1_4) (z33))) 6 (g6_7)) 7 (g7_8)) fl) := ⟨hP, hD⟩
      obtain ⟨g34, eg34, rg34⟩ : ∃ z, z = uA (g5_6) (x1_4) (z33) ∧ ∀ t, inR (z t) := ⟨_, rfl, iU r_g5_6 (by omega)⟩
      rw [← eg34] at hP hD
      refine lv_aload_n hx hb dX10_take_83 rfl (lv_at hl 1 rfl) ?_
      refine va_get (D := G) (ci := 7) (v := .ref (ar 6)) (C := RX10) (T := TX10) (N := 71) (ref := RX10) hx hb hts h1w hown hX.1 hP 0 rfl rfl 6 (by decide) h13w (fun _ h9 => h9) rfl dX10_take_84 ?_
      refine lv_iload_n hx hb dX10_take_87 rfl (lv_at hl 0 rfl) ?_
      refine lv_aload_n hx hb dX10_take_88 rfl (lv_at hl 1 rfl) ?_
      refine va_get (D := G) (ci := 7) (v := .ref (ar 6)) (C := RX10) (T := TX10) (N := 71) (ref := RX10) hx hb hts h1w hown hX.1 hP 0 rfl rfl 6 (by decide) h13w (fun _ h9 => h9) rfl dX10_take_89 ?_
      refine lv_bipush (v := Int32.ofInt 7) hx hb dX10_take_92 (by decide +kernel) ?_
      refine lv_iload_n hx hb dX10_take_94 rfl (lv_at hl 0 rfl) ?_
      refine iv_add (x := 7) (y := x1_4) hx hb dX10_take_95 ?_
      refine iv_iald hx hb hX.1 hP 4 0 rfl rfl (by omega) (by omega) (by decide) dX10_take_96 ?_
      refine iv_top (fun z35 ez35 => ?_)
      have rz35 : inR z35 := ez35 ▸ r_g6_7 _
      have ez35 : z35 = g6_7 (7 + x1_4) := ez35
      have ez6 := ez35
      refine iv_iast hx hb hX.1 hP hD hS 4 0 rfl rfl (wM_A6 _ _ _ _ _) (by omega) (by omega) (by decide) dX10_take_97 (fun H locs hP hD hS => ?_)
      obtain ⟨hP, hD⟩ : va_P G vwCl (wM k ar (uF (uF fi 12 (fi 14)) 13 (fi 15)) (uF (uF (uF (uF (uF fa 3 (g3_2)) 4 (g32)) 5 (g34)) 6 (uA (g6_7) (x1_4) (z35))) 7 (g7_8)) fl) H ∧ va_D A (wM k ar (uF (uF fi 12 (fi 14)) 13 (fi 15)) (uF (uF (uF (uF (uF fa 3 (g3_2)) 4 (g32)) 5 (g34)) 6 (uA (g6_7) (x1_4) (z35))) 7 (g7_8)) fl) := ⟨hP, hD⟩
      obtain ⟨g36, eg36, rg36⟩ : ∃ z, z = uA (g6_7) (x1_4) (z35) ∧ ∀ t, inR (z t) := ⟨_, rfl, iU r_g6_7 (by omega)⟩
      rw [← eg36] at hP hD
      refine lv_aload_n hx hb dX10_take_98 rfl (lv_at hl 1 rfl) ?_
      refine va_get (D := G) (ci := 7) (v := .ref (ar 7)) (C := RX10) (T := TX10) (N := 71) (ref := RX10) hx hb hts h1w hown hX.1 hP 0 rfl rfl 7 (by decide) h19w (fun _ h9 => h9) rfl dX10_take_99 ?_
      refine lv_iload_n hx hb dX10_take_102 rfl (lv_at hl 0 rfl) ?_
      refine lv_aload_n hx hb dX10_take_103 rfl (lv_at hl 1 rfl) ?_
      refine va_get (D := G) (ci := 7) (v := .ref (ar 7)) (C := RX10) (T := TX10) (N := 71) (ref := RX10) hx hb hts h1w hown hX.1 hP 0 rfl rfl 7 (by decide) h19w (fun _ h9 => h9) rfl dX10_take_104 ?_
      refine lv_bipush (v := Int32.ofInt 7) hx hb dX10_take_107 (by decide +kernel) ?_
      refine lv_iload_n hx hb dX10_take_109 rfl (lv_at hl 0 rfl) ?_
      refine iv_add (x := 7) (y := x1_4) hx hb dX10_take_110 ?_
      refine iv_iald hx hb hX.1 hP 5 0 rfl rfl (by omega) (by omega) (by decide) dX10_take_111 ?_
      refine iv_top (fun z37 ez37 => ?_)
      have rz37 : inR z37 := ez37 ▸ r_g7_8 _
      have ez37 : z37 = g7_8 (7 + x1_4) := ez37
      have ez7 := ez37
      refine iv_iast hx hb hX.1 hP hD hS 5 0 rfl rfl (wM_A7 _ _ _ _ _) (by omega) (by omega) (by decide) dX10_take_112 (fun H locs hP hD hS => ?_)
      obtain ⟨hP, hD⟩ : va_P G vwCl (wM k ar (uF (uF fi 12 (fi 14)) 13 (fi 15)) (uF (uF (uF (uF (uF fa 3 (g3_2)) 4 (g32)) 5 (g34)) 6 (g36)) 7 (uA (g7_8) (x1_4) (z37))) fl) H ∧ va_D A (wM k ar (uF (uF fi 12 (fi 14)) 13 (fi 15)) (uF (uF (uF (uF (uF fa 3 (g3_2)) 4 (g32)) 5 (g34)) 6 (g36)) 7 (uA (g7_8) (x1_4) (z37))) fl) := ⟨hP, hD⟩
      obtain ⟨g38, eg38, rg38⟩ : ∃ z, z = uA (g7_8) (x1_4) (z37) ∧ ∀ t, inR (z t) := ⟨_, rfl, iU r_g7_8 (by omega)⟩
      rw [← eg38] at hP hD
      refine lv_iinc (v := Int32.ofInt (x1_4 + 1)) (lv' := [(1, .int (Int32.ofInt ((x1_4 + 1)))), (0, .ref (ar 71))]) hx hb dX10_take_113 hl (k := 0) rfl (Int32.ofInt_add _ _).symm (by decide) rfl (fun ls hl => ?_)
      refine lv_goto (tgt := 47) hx hb dX10_take_116 (by decide) ?_
      have hl : lv_has ls 2 [(1, .int (Int32.ofInt ((x1_4 + 1)))), (0, .ref (ar 71))] := lv_sub hl [0, 1] rfl
      exact ih ((x1_4 + 1), g32, g34, g36, g38) (show (7 - (x1_4 + 1)).toNat < (7 - x1_4).toNat from by omega) (show inR (x1_4 + 1) ∧ (∀ t, inR (g32 t)) ∧ (∀ t, inR (g34 t)) ∧ (∀ t, inR (g36 t)) ∧ (∀ t, inR (g38 t)) ∧ ((0 ≤ (x1_4 + 1) ∧ (x1_4 + 1) ≤ 7) ∧ (∀ t, 7 ≤ t → g32 t = fa 4 t) ∧ (∀ t, 0 ≤ t → t < (x1_4 + 1) → g32 t = fa 4 (7 + t)) ∧ (∀ t, 7 ≤ t → g34 t = fa 5 t) ∧ (∀ t, 0 ≤ t → t < (x1_4 + 1) → g34 t = fa 5 (7 + t)) ∧ (∀ t, 7 ≤ t → g36 t = fa 6 t) ∧ (∀ t, 0 ≤ t → t < (x1_4 + 1) → g36 t = fa 6 (7 + t)) ∧ (∀ t, 7 ≤ t → g38 t = fa 7 t) ∧ (∀ t, 0 ≤ t → t < (x1_4 + 1) → g38 t = fa 7 (7 + t))) from ⟨(by omega), rg32, rg34, rg36, rg38, (by have cp := cpo_step l1 l2 (by omega) (by omega) ez4 eg32; have cq := cpo_step l3 l4 (by omega) (by omega) ez5 eg34; have cr := cpo_step l5 l6 (by omega) (by omega) ez6 eg36; have cs := cpo_step l7 l8 (by omega) (by omega) ez7 eg38; exact ⟨by omega, cp.1, cp.2, cq.1, cq.2, cr.1, cr.2, cs.1, cs.2⟩)⟩) _ _ _ hP hD hS hl
  · refine lv_aload_n hx hb dX10_take_8 rfl (lv_at hl 1 rfl) ?_
    refine va_get (D := G) (ci := 7) (v := .ref (ar 3)) (C := RX10) (T := TX10) (N := 71) (ref := RX10) hx hb hts h1w hown hX.1 hP 0 rfl rfl 3 (by decide) h6w (fun _ h9 => h9) rfl dX10_take_9 ?_
    refine lv_iload_n hx hb dX10_take_12 rfl (lv_at hl 0 rfl) ?_
    refine lv_aload_n hx hb dX10_take_13 rfl (lv_at hl 1 rfl) ?_
    refine va_get (D := G) (ci := 7) (v := .ref (ar 3)) (C := RX10) (T := TX10) (N := 71) (ref := RX10) hx hb hts h1w hown hX.1 hP 0 rfl rfl 3 (by decide) h6w (fun _ h9 => h9) rfl dX10_take_14 ?_
    refine lv_bipush (v := Int32.ofInt 7) hx hb dX10_take_17 (by decide +kernel) ?_
    refine lv_iload_n hx hb dX10_take_19 rfl (lv_at hl 0 rfl) ?_
    refine iv_add (x := 7) (y := x1_1) hx hb dX10_take_20 ?_
    refine iv_iald hx hb hX.1 hP 1 0 rfl rfl (by omega) (by omega) (by decide) dX10_take_21 ?_
    refine iv_top (fun z39 ez39 => ?_)
    have rz39 : inR z39 := ez39 ▸ r_g3_2 _
    have ez39 : z39 = g3_2 (7 + x1_1) := ez39
    have ez3 := ez39
    refine iv_iast hx hb hX.1 hP hD hS 1 0 rfl rfl (wM_A3 _ _ _ _ _) (by omega) (by omega) (by decide) dX10_take_22 (fun H locs hP hD hS => ?_)
    obtain ⟨hP, hD⟩ : va_P G vwCl (wM k ar fi (uF fa 3 (uA (g3_2) (x1_1) (z39))) fl) H ∧ va_D A (wM k ar fi (uF fa 3 (uA (g3_2) (x1_1) (z39))) fl) := ⟨hP, hD⟩
    obtain ⟨g40, eg40, rg40⟩ : ∃ z, z = uA (g3_2) (x1_1) (z39) ∧ ∀ t, inR (z t) := ⟨_, rfl, iU r_g3_2 (by omega)⟩
    rw [← eg40] at hP hD
    refine lv_iinc (v := Int32.ofInt (x1_1 + 1)) (lv' := [(1, .int (Int32.ofInt ((x1_1 + 1)))), (0, .ref (ar 71))]) hx hb dX10_take_23 hl (k := 0) rfl (Int32.ofInt_add _ _).symm (by decide) rfl (fun ls hl => ?_)
    refine lv_goto (tgt := 2) hx hb dX10_take_26 (by decide) ?_
    have hl : lv_has ls 2 [(1, .int (Int32.ofInt ((x1_1 + 1)))), (0, .ref (ar 71))] := lv_sub hl [0, 1] rfl
    exact ih ((x1_1 + 1), g40) (show (7 - (x1_1 + 1)).toNat < (7 - x1_1).toNat from by omega) (show inR (x1_1 + 1) ∧ (∀ t, inR (g40 t)) ∧ (0 ≤ (x1_1 + 1) ∧ (x1_1 + 1) ≤ 7 ∧ (∀ t, 7 ≤ t → g40 t = fa 3 t) ∧ (∀ t, 0 ≤ t → t < (x1_1 + 1) → g40 t = fa 3 (7 + t))) from ⟨(by omega), rg40, (by have cp := cpo_step i3 i4 (by omega) (by omega) ez3 eg40; exact ⟨by omega, by omega, cp.1, cp.2⟩)⟩) _ _ _ hP hD hS hl

