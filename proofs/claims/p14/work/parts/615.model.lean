set_option maxHeartbeats 4000000 in
set_option maxRecDepth 100000 in
theorem mX10_back (l : Launch) (G : va_G) (k : Nat → ClassId) (ar : Nat → Nat) (fi : Nat → Int) (fa : Nat → Int → Int) (fl : Nat → Int64) (sz : Nat) (hR : ∀ j, inR (fi j)) (hRa : ∀ j t, inR (fa j t)) (hth : 0 ≤ fi 12 ∧ fi 12 ≤ 7) (hru : 0 ≤ fi 13 ∧ fi 13 ≤ 4) (hRW : ∀ q9, 0 ≤ q9 → q9 < fi 13 → RWf (fa 10) (fa 8 q9) (fa 9 q9)) (hmv : 0 ≤ fi 29 ∧ fi 29 ≤ 60) (hPM : ∀ i, 0 ≤ i → i < fi 29 → ¬ fa 34 i = 2 → 0 ≤ fa 35 i ∧ fa 35 i < 7) (hpb : 0 ≤ fa 3 4 ∧ fa 3 4 ≤ 99 ∧ 0 ≤ fa 3 5 ∧ fa 3 5 ≤ 999 ∧ 0 ≤ fa 3 6 ∧ fa 3 6 ≤ 999) : CNi l G k (EZ k) yX10_back wzX10_back ({ frames := 4, cells := 0, slots := 0, locals := 95 }) [.ref (ar 71)] sz (wM k ar fi fa fl) (fun (r0 : Int32) (u : Int × (Int → Int) × (Int → Int) × (Int → Int) × Int × Int × Int × Int) => r0 = Int32.ofInt (u.1) ∧ (inR u.1) ∧ (∀ t, inR (u.2.1 t)) ∧ (∀ t, inR (u.2.2.1 t)) ∧ (∀ t, inR (u.2.2.2.1 t)) ∧ (inR u.2.2.2.2.1) ∧ (inR u.2.2.2.2.2.1) ∧ (inR u.2.2.2.2.2.2.1) ∧ (inR u.2.2.2.2.2.2.2) ∧ (BkG (BmP (fa 34) (fa 35) (fa 37) (fa 32) (fi 29) (fa 3 0) (fi 12) (fi 13) (fa 3 2) (fa 3 3) (fa 3 4) (fa 3 5) (fa 3 6) (fa 4) (fa 5) (fa 8) (fa 9) (fa 10)) (fa 34) (fi 29).toNat u.1)) (fun (u : Int × (Int → Int) × (Int → Int) × (Int → Int) × Int × Int × Int × Int) => (wM k ar (uF (uF (uF (uF fi 2 (u.2.2.2.2.1)) 41 (u.2.2.2.2.2.1)) 42 (u.2.2.2.2.2.2.1)) 43 (u.2.2.2.2.2.2.2)) (uF (uF (uF fa 39 (u.2.1)) 40 (u.2.2.1)) 44 (u.2.2.2.1)) fl)) := by
  refine Met.ofW (cc := cX10_back) (maxL := 3) (ret := (some .int)) (by decide) rfl ?_
  intro p e s m args below meth c s₁ B hml hv
  obtain ⟨rfl, hsz, hP, hX, hD0, hZ0⟩ := hv
  have hx := B.exec
  have hb := B.bytes
  have hr := B.returns
  have hts := atoms_spec (ws := wzX10_back) B.pre
  have hown : s.vm.findClass RX10 = some m.cls := findClass_of_methodNamed B.named
  subst hsz
  have hD := hD0.self (sz := s.heap.size)
  have hZ := hZ0
  generalize hAe : va_A (wM k ar fi fa fl) s.heap.size = A at hD hZ ⊢
  have hA : ∀ q : Nat, s.heap.size ≤ q → A q := fun q h => by rw [← hAe]; exact Or.inr h
  have hS : va_S A s.heap s.heap [] := va_S.rf
  have hl := lv_entry ([.ref (ar 71)]) (n := 3) (Nat.le_of_ble_eq_true rfl)
  rw [lg_entry_eq]
  generalize (lg_sl ([.ref (ar 71)]) ++ List.replicate (3 - (lg_sl ([.ref (ar 71)])).length) Slot.unset).toArray = ls at hl ⊢
  have hl : lv_has ls 3 [(0, .ref (ar 71))] := hl
  obtain ⟨H, eH⟩ : ∃ H, H = s.heap := ⟨_, rfl⟩
  rw [← eH] at hP
  have hS : va_S A s.heap H [] := by rw [eH]; exact hS
  have gW : s.heap = H := eH.symm
  refine iv_heap gW ?_
  have h0w := hts (.fieldLink RX10 171 "RopeTownModel" "code" "I") (wz_at 8 12 rfl)
  have h1w : ∀ w ∈ wsX100, w ∈ wzX10_back := fun w h => List.mem_cons_of_mem _ (inlX10 w h)
  have h2w := hts (.fieldLink RX10 330 "RopeTownModel" "moves" "I") (wz_at 21 14 rfl)
  have h3w := hts (.fieldLink RX10 93 "RopeTownModel" "moveWhich" "[I") (wz_at 6 19 rfl)
  have h4w := hts (.fieldLink RX10 114 "RopeTownModel" "rowThen" "[I") (wz_at 7 2 rfl)
  have h5w := hts (.fieldLink RX10 96 "RopeTownModel" "moveWhat" "[I") (wz_at 6 20 rfl)
  have h6w := hts (.fieldLink RX10 102 "RopeTownModel" "moveWas" "[I") (wz_at 6 22 rfl)
  have h7w := hts (.fieldLink RX10 87 "RopeTownModel" "place" "[I") (wz_at 6 17 rfl)
  refine lv_aload_n hx hb dX10_back_0 rfl (lv_at hl 0 rfl) ?_
  refine lv_iconst (v := Int32.ofInt 0) hx hb dX10_back_1 (by decide +kernel) ?_
  refine iv_put (ci := 7) (v := .int (Int32.ofInt (0))) (ty := .int) (C := RX10) (T := TX10) (N := 71) (ref := RX10) hx hb hts h1w tyX10 tyX10_ok nmX10 hown hX.1 hP hD hS 0 rfl rfl 2 (by decide) h0w (fun _ h9 => h9) rfl (by decide +kernel) rfl rfl (Nat.le_of_ble_eq_true rfl) (wM_F2 _ _ _ _ _) dX10_back_2 (fun H locs hP hD hS => ?_)
  refine lv_iconst (v := Int32.ofInt 0) hx hb dX10_back_5 (by decide +kernel) ?_
  refine lv_istore_n (lv' := [(1, .int (Int32.ofInt (0))), (0, .ref (ar 71))]) hx hb dX10_back_6 rfl hl (by decide) rfl (fun ls hl => ?_)
  refine iv_loop (α := Int × (Int → Int)) (nL := 3) (fun b9 => (wM k ar (uF fi 2 (0)) (uF fa 44 (b9.2)) fl)) (fun b9 => [(1, .int (Int32.ofInt (b9.1))), (0, .ref (ar 71))]) (fun b9 => (7 - b9.1).toNat) (fun b9 => inR b9.1 ∧ (∀ t, inR (b9.2 t)) ∧ ((0 ≤ b9.1 ∧ b9.1 ≤ 7) ∧ ∀ t, 0 ≤ t → t < b9.1 → b9.2 t = fa 32 t)) ?_ (0, fa 44) (show inR 0 ∧ (∀ t, inR ((fa 44) t)) ∧ ((0 ≤ 0 ∧ 0 ≤ 7) ∧ ∀ t, 0 ≤ t → t < 0 → (fa 44) t = fa 32 t) from ⟨(by omega), (hRa 44), (by exact ⟨by omega, fun t h1 h2 => absurd h2 (by omega)⟩)⟩) hP hD hS hl
  rintro ⟨x1_1, g44_2⟩ ih hi9 H locs ls hP hD hS hl
  obtain ⟨r_x1_1, r_g44_2, hinv⟩ : inR x1_1 ∧ (∀ t, inR (g44_2 t)) ∧ ((0 ≤ x1_1 ∧ x1_1 ≤ 7) ∧ ∀ t, 0 ≤ t → t < x1_1 → g44_2 t = fa 32 t) := hi9
  obtain ⟨hinv, hB7⟩ := hinv
  obtain ⟨hP, hD⟩ : va_P G vwCl (wM k ar (uF fi 2 (0)) (uF fa 44 (g44_2)) fl) H ∧ va_D A (wM k ar (uF fi 2 (0)) (uF fa 44 (g44_2)) fl) := ⟨hP, hD⟩
  have hl : lv_has ls 3 [(1, .int (Int32.ofInt (x1_1))), (0, .ref (ar 71))] := hl
  refine lv_iload_n hx hb dX10_back_7 rfl (lv_at hl 0 rfl) ?_
  refine lv_bipush (v := Int32.ofInt 7) hx hb dX10_back_8 (by decide +kernel) ?_
  refine iv_icmp_ge (tgt := 31) hx hb (by omega) (by omega) dX10_back_10 (by decide) (fun q3 => ?_) (fun q3 => ?_)
  · refine lv_iconst (v := Int32.ofInt 0) hx hb dX10_back_31 (by decide +kernel) ?_
    refine lv_istore_n (lv' := [(1, .int (Int32.ofInt (0))), (0, .ref (ar 71))]) hx hb dX10_back_32 rfl hl (by decide) rfl (fun ls hl => ?_)
    refine lv_aload_n hx hb dX10_back_33 rfl (lv_at hl 1 rfl) ?_
    refine va_get (D := G) (ci := 7) (v := .int (Int32.ofInt (fi 29))) (C := RX10) (T := TX10) (N := 71) (ref := RX10) hx hb hts h1w hown hX.1 hP 0 rfl rfl 29 (by decide) h2w (fun _ h9 => h9) rfl dX10_back_34 ?_
    have rf29 := hR 29
    refine lv_iconst (v := Int32.ofInt 1) hx hb dX10_back_37 (by decide +kernel) ?_
    refine iv_sub (x := fi 29) (y := 1) hx hb dX10_back_38 ?_
    refine lv_istore_n (lv' := [(2, .int (Int32.ofInt ((fi 29 - 1)))), (1, .int (Int32.ofInt (0))), (0, .ref (ar 71))]) hx hb dX10_back_39 rfl hl (by decide) rfl (fun ls hl => ?_)
    refine iv_loop (α := Int × Int × Int × Int × Int × (Int → Int) × (Int → Int) × (Int → Int)) (nL := 3) (fun b9 => (wM k ar (uF (uF (uF (uF fi 2 (0)) 41 (b9.2.2.1)) 42 (b9.2.2.2.1)) 43 (b9.2.2.2.2.1)) (uF (uF (uF fa 39 (b9.2.2.2.2.2.1)) 40 (b9.2.2.2.2.2.2.1)) 44 (b9.2.2.2.2.2.2.2)) fl)) (fun b9 => [(2, .int (Int32.ofInt (b9.1))), (1, .int (Int32.ofInt (b9.2.1))), (0, .ref (ar 71))]) (fun b9 => (b9.1 + 1).toNat) (fun b9 => inR b9.1 ∧ inR b9.2.1 ∧ inR b9.2.2.1 ∧ inR b9.2.2.2.1 ∧ inR b9.2.2.2.2.1 ∧ (∀ t, inR (b9.2.2.2.2.2.1 t)) ∧ (∀ t, inR (b9.2.2.2.2.2.2.1 t)) ∧ (∀ t, inR (b9.2.2.2.2.2.2.2 t)) ∧ ((-1 ≤ b9.1 ∧ b9.1 < fi 29 ∧ 0 ≤ b9.2.1 ∧ b9.2.1 ≤ fi 29 - 1 - b9.1) ∧ mrI (fa 34) (fa 35) (fa 37) (fa 32) (fi 29) b9.1 b9.2.2.2.2.2.2.2 ∧ BkI (BmP (fa 34) (fa 35) (fa 37) (fa 32) (fi 29) (fa 3 0) (fi 12) (fi 13) (fa 3 2) (fa 3 3) (fa 3 4) (fa 3 5) (fa 3 6) (fa 4) (fa 5) (fa 8) (fa 9) (fa 10)) (fa 34) (fi 29) (b9.1 + 1) b9.2.1)) ?_ ((fi 29 - 1), 0, fi 41, fi 42, fi 43, fa 39, fa 40, g44_2) (show inR (fi 29 - 1) ∧ inR 0 ∧ inR (fi 41) ∧ inR (fi 42) ∧ inR (fi 43) ∧ (∀ t, inR ((fa 39) t)) ∧ (∀ t, inR ((fa 40) t)) ∧ (∀ t, inR (g44_2 t)) ∧ ((-1 ≤ (fi 29 - 1) ∧ (fi 29 - 1) < fi 29 ∧ 0 ≤ 0 ∧ 0 ≤ fi 29 - 1 - (fi 29 - 1)) ∧ mrI (fa 34) (fa 35) (fa 37) (fa 32) (fi 29) (fi 29 - 1) g44_2 ∧ BkI (BmP (fa 34) (fa 35) (fa 37) (fa 32) (fi 29) (fa 3 0) (fi 12) (fi 13) (fa 3 2) (fa 3 3) (fa 3 4) (fa 3 5) (fa 3 6) (fa 4) (fa 5) (fa 8) (fa 9) (fa 10)) (fa 34) (fi 29) ((fi 29 - 1) + 1) 0) from ⟨(by omega), (by omega), (hR 41), (hR 42), (hR 43), (hRa 39), (hRa 40), r_g44_2, (by exact ⟨by omega, mr_0 (by omega) (fun t h1 h2 => hB7 t h1 (by omega)), bk_0 (by omega) rfl⟩)⟩) hP hD hS hl
    rintro ⟨x2_4, x1_5, n41_6, n42_7, n43_8, g39_9, g40_10, g44_11⟩ ih hi9 H locs ls hP hD hS hl
    obtain ⟨r_x2_4, r_x1_5, r_n41_6, r_n42_7, r_n43_8, r_g39_9, r_g40_10, r_g44_11, hinv⟩ : inR x2_4 ∧ inR x1_5 ∧ inR n41_6 ∧ inR n42_7 ∧ inR n43_8 ∧ (∀ t, inR (g39_9 t)) ∧ (∀ t, inR (g40_10 t)) ∧ (∀ t, inR (g44_11 t)) ∧ ((-1 ≤ x2_4 ∧ x2_4 < fi 29 ∧ 0 ≤ x1_5 ∧ x1_5 ≤ fi 29 - 1 - x2_4) ∧ mrI (fa 34) (fa 35) (fa 37) (fa 32) (fi 29) x2_4 g44_11 ∧ BkI (BmP (fa 34) (fa 35) (fa 37) (fa 32) (fi 29) (fa 3 0) (fi 12) (fi 13) (fa 3 2) (fa 3 3) (fa 3 4) (fa 3 5) (fa 3 6) (fa 4) (fa 5) (fa 8) (fa 9) (fa 10)) (fa 34) (fi 29) (x2_4 + 1) x1_5) := hi9
    obtain ⟨hinv, hMR, hBK⟩ := hinv
    obtain ⟨hP, hD⟩ : va_P G vwCl (wM k ar (uF (uF (uF (uF fi 2 (0)) 41 (n41_6)) 42 (n42_7)) 43 (n43_8)) (uF (uF (uF fa 39 (g39_9)) 40 (g40_10)) 44 (g44_11)) fl) H ∧ va_D A (wM k ar (uF (uF (uF (uF fi 2 (0)) 41 (n41_6)) 42 (n42_7)) 43 (n43_8)) (uF (uF (uF fa 39 (g39_9)) 40 (g40_10)) 44 (g44_11)) fl) := ⟨hP, hD⟩
    have hl : lv_has ls 3 [(2, .int (Int32.ofInt (x2_4))), (1, .int (Int32.ofInt (x1_5))), (0, .ref (ar 71))] := hl
    refine lv_iload_n hx hb dX10_back_40 rfl (lv_at hl 0 rfl) ?_
    refine iv_if_lt (tgt := 141) hx hb (by omega) dX10_back_41 (by decide) (fun q12 => ?_) (fun q12 => ?_)
    · refine lv_iload_n hx hb dX10_back_141 rfl (lv_at hl 1 rfl) ?_
      exact W.iret (v := Int32.ofInt (x1_5)) hx hb hr (fun t ht hW => ⟨⟨Int32.ofInt (x1_5), (x1_5, g39_9, g40_10, g44_11, 0, n41_6, n42_7, n43_8), rfl, ⟨rfl, (show (inR x1_5) ∧ (∀ t, inR (g39_9 t)) ∧ (∀ t, inR (g40_10 t)) ∧ (∀ t, inR (g44_11 t)) ∧ (inR 0) ∧ (inR n41_6) ∧ (inR n42_7) ∧ (inR n43_8) ∧ (BkG (BmP (fa 34) (fa 35) (fa 37) (fa 32) (fi 29) (fa 3 0) (fi 12) (fi 13) (fa 3 2) (fa 3 3) (fa 3 4) (fa 3 5) (fa 3 6) (fa 4) (fa 5) (fa 8) (fa 9) (fa 10)) (fa 34) (fi 29).toNat x1_5) from ⟨(by omega), r_g39_9, r_g40_10, r_g44_11, (by omega), (by omega), (by omega), (by omega), (by first | exact bk_x hBK (by omega) rfl | exact bk_e (r := 4) hBK rfl (by omega) hw9 (by omega) ⟨_, hMR, fun z => rt_4 (by omega) (by omega) (by omega) rfl⟩ (by decide) rfl | exact bk_e (r := 5) hBK rfl (by omega) hw9 (by omega) ⟨_, hMR, fun z => rt_5 (by omega) (by omega) (by omega) (kr_n hKr116 (by omega)) rfl⟩ (by decide) rfl | exact bk_e hBK rfl (by omega) hw9 (by omega) ⟨_, hMR, fun z => rt_sw (by omega) (by omega) (by omega) (kr_y hKr116 (by omega)) hLm91 (by omega) hSw124⟩ (by omega) rfl)⟩)⟩, by rw [ht]; exact hP, hD⟩, hS.F ht⟩) hS.2.2 dX10_back_142
    · refine lv_aload_n hx hb dX10_back_44 rfl (lv_at hl 2 rfl) ?_
      refine va_get (D := G) (ci := 7) (v := .ref (ar 34)) (C := RX10) (T := TX10) (N := 71) (ref := RX10) hx hb hts h1w hown hX.1 hP 0 rfl rfl 34 (by decide) h3w (fun _ h9 => h9) rfl dX10_back_45 ?_
      refine lv_iload_n hx hb dX10_back_48 rfl (lv_at hl 0 rfl) ?_
      refine iv_iald hx hb hX.1 hP 13 0 rfl rfl (by omega) (by omega) (by decide) dX10_back_49 ?_
      refine iv_top (fun z13 ez13 => ?_)
      have rz13 : inR z13 := ez13 ▸ (hRa 34) _
      have ez13 : z13 = (fa 34) x2_4 := ez13
      have hw9 := ez13
      refine lv_iconst (v := Int32.ofInt 2) hx hb dX10_back_50 (by decide +kernel) ?_
      refine iv_icmp_eq (tgt := 74) hx hb (by omega) (by omega) dX10_back_51 (by decide) (fun q14 => ?_) (fun q14 => ?_)
      · refine lv_aload_n hx hb dX10_back_74 rfl (lv_at hl 2 rfl) ?_
        refine lv_aload_n hx hb dX10_back_75 rfl (lv_at hl 2 rfl) ?_
        refine va_get (D := G) (ci := 7) (v := .ref (ar 44)) (C := RX10) (T := TX10) (N := 71) (ref := RX10) hx hb hts h1w hown hX.1 hP 0 rfl rfl 44 (by decide) h4w (fun _ h9 => h9) rfl dX10_back_76 ?_
        refine lv_aload_n hx hb dX10_back_79 rfl (lv_at hl 2 rfl) ?_
        refine va_get (D := G) (ci := 7) (v := .ref (ar 35)) (C := RX10) (T := TX10) (N := 71) (ref := RX10) hx hb hts h1w hown hX.1 hP 0 rfl rfl 35 (by decide) h5w (fun _ h9 => h9) rfl dX10_back_80 ?_
        refine lv_iload_n hx hb dX10_back_83 rfl (lv_at hl 0 rfl) ?_
        refine iv_iald hx hb hX.1 hP 14 0 rfl rfl (by omega) (by omega) (by decide) dX10_back_84 ?_
        refine iv_top (fun z15 ez15 => ?_)
        have rz15 : inR z15 := ez15 ▸ (hRa 35) _
        have ez15 : z15 = (fa 35) x2_4 := ez15
        have hy1 := ez15
        refine lv_aload_n hx hb dX10_back_85 rfl (lv_at hl 2 rfl) ?_
        refine va_get (D := G) (ci := 7) (v := .ref (ar 37)) (C := RX10) (T := TX10) (N := 71) (ref := RX10) hx hb hts h1w hown hX.1 hP 0 rfl rfl 37 (by decide) h6w (fun _ h9 => h9) rfl dX10_back_86 ?_
        refine lv_iload_n hx hb dX10_back_89 rfl (lv_at hl 0 rfl) ?_
        refine iv_iald hx hb hX.1 hP 16 0 rfl rfl (by omega) (by omega) (by decide) dX10_back_90 ?_
        refine iv_top (fun z16 ez16 => ?_)
        have rz16 : inR z16 := ez16 ▸ (hRa 37) _
        have ez16 : z16 = (fa 37) x2_4 := ez16
        have hy2 := ez16
        refine cr_v (va_runV (As := [.ref (ar 44), .int (Int32.ofInt (z15)), .int (Int32.ofInt (z16))]) (rest := []) ⟨hx, hb, hml, hown, hts⟩ (mX10_tellRide_44 l G k ar (uF (uF (uF (uF fi 2 (0)) 41 (n41_6)) 42 (n42_7)) 43 (n43_8)) (uF (uF (uF fa 39 (g39_9)) 40 (g40_10)) 44 (g44_11)) fl z15 z16 H.size (iF (iF (iF (iF hR (by omega)) (by omega)) (by omega)) (by omega)) (iG (iG (iG hRa r_g39_9) r_g40_10) r_g44_11) (by omega) (by omega) (show 0 ≤ (fi 12) ∧ (fi 12) ≤ 7 from by omega)) (cwV 3 hts (gz [.methodLink RX10 405 yX10_tellRide, .instanceMethod yX10_tellRide, .selects RX10 yX10_tellRide yX10_tellRide, .initialized RX10] (.code yX10_tellRide cX10_tellRide 8 none) [(30, 19), (30, 20), (30, 21), (0, 5), (30, 22)] rfl) rfl rfl rfl (by decide +kernel) ⟨Nat.le_of_ble_eq_true rfl, Nat.le_of_ble_eq_true rfl⟩) (cr_preV (EZ_ok k) hZ hS hX hP hD hA (ci := 7) (q0 := 0) rfl rfl) rfl rfl hl.1 rfl (lv_room (Nat.le_of_ble_eq_true rfl)) dX10_back_91 ⟨Nat.le_of_ble_eq_true rfl, Nat.le_of_ble_eq_true rfl⟩) hD hS hA (fun u H locs hp hP hD hS => ?_)
        obtain ⟨c17, c18, c19⟩ := u
        obtain ⟨hP, hD⟩ : va_P G vwCl (wM k ar (uF (uF (uF (uF fi 2 (0)) 41 (c17)) 42 (c18)) 43 (c19)) (uF (uF (uF fa 39 (g39_9)) 40 (g40_10)) 44 (g44_11)) fl) H ∧ va_D A (wM k ar (uF (uF (uF (uF fi 2 (0)) 41 (c17)) 42 (c18)) 43 (c19)) (uF (uF (uF fa 39 (g39_9)) 40 (g40_10)) 44 (g44_11)) fl) := ⟨hP, hD⟩
        obtain ⟨rc17, rc18, rc19, hp19⟩ : (inR c17) ∧ (inR c18) ∧ (inR c19) ∧ (LM c17 c18 (exM (gs (lc (g44_11) ((fa 5)) 0) ((fi 12))) (gs (lc (g44_11) ((fa 5)) 1) ((fi 12))) ((fa 3) 3) ((fa 3) 0) (stD z15 z16)) z15 z16) := hp
        have hLm91 := hp19
        rw [hy1, hy2] at hLm91
        refine lv_aload_n hx hb dX10_back_94 rfl (lv_at hl 2 rfl) ?_
        refine lv_aload_n hx hb dX10_back_95 rfl (lv_at hl 2 rfl) ?_
        refine va_get (D := G) (ci := 7) (v := .ref (ar 44)) (C := RX10) (T := TX10) (N := 71) (ref := RX10) hx hb hts h1w hown hX.1 hP 0 rfl rfl 44 (by decide) h4w (fun _ h9 => h9) rfl dX10_back_96 ?_
        refine cr_i (va_runV (As := [.ref (ar 44)]) (rest := []) ⟨hx, hb, hml, hown, hts⟩ (mX10_keepsCap_44 l G k ar (uF (uF (uF (uF fi 2 (0)) 41 (c17)) 42 (c18)) 43 (c19)) (uF (uF (uF fa 39 (g39_9)) 40 (g40_10)) 44 (g44_11)) fl H.size (iF (iF (iF (iF hR (by omega)) (by omega)) (by omega)) (by omega)) (iG (iG (iG hRa r_g39_9) r_g40_10) r_g44_11) (show 0 ≤ (fi 12) ∧ (fi 12) ≤ 7 from by omega)) (cwV 1 hts (gz [.methodLink RX10 397 yX10_keepsCap, .instanceMethod yX10_keepsCap, .selects RX10 yX10_keepsCap yX10_keepsCap, .initialized RX10] (.code yX10_keepsCap cX10_keepsCap 2 (some .boolean)) [(30, 11), (30, 12), (30, 13), (0, 5), (30, 14)] rfl) rfl rfl rfl (by decide +kernel) ⟨Nat.le_of_ble_eq_true rfl, Nat.le_of_ble_eq_true rfl⟩) (cr_preV (EZ_ok k) hZ hS hX hP hD hA (ci := 7) (q0 := 0) rfl rfl) rfl rfl hl.1 rfl (lv_room (Nat.le_of_ble_eq_true rfl)) dX10_back_99 ⟨Nat.le_of_ble_eq_true rfl, Nat.le_of_ble_eq_true rfl⟩) hD hS hA (fun r u H locs hp hP hD hS => ?_)
        obtain ⟨c20, rfl⟩ : ∃ z, z = u := ⟨_, rfl⟩
        obtain ⟨h9, rc20, hp20⟩ : r = Int32.ofInt c20 ∧ (inR c20) ∧ ((c20 = 1 ∧ (gs (lc (g44_11) ((fa 5)) 0) ((fi 12))) ≤ (fa 3) 2 ∧ (gs (lc (g44_11) ((fa 5)) 1) ((fi 12))) ≤ (fa 3) 2) ∨ (c20 = 0 ∧ ¬ ((gs (lc (g44_11) ((fa 5)) 0) ((fi 12))) ≤ (fa 3) 2 ∧ (gs (lc (g44_11) ((fa 5)) 1) ((fi 12))) ≤ (fa 3) 2))) := hp
        subst h9
        refine iv_if_eq (tgt := 130) hx hb (by omega) dX10_back_102 (by decide) (fun q21 => ?_) (fun q21 => ?_)
        · refine lv_iload_n hx hb dX10_back_130 rfl (lv_at hl 1 rfl) ?_
          exact W.iret (v := Int32.ofInt (x1_5)) hx hb hr (fun t ht hW => ⟨⟨Int32.ofInt (x1_5), (x1_5, g39_9, g40_10, g44_11, 0, c17, c18, c19), rfl, ⟨rfl, (show (inR x1_5) ∧ (∀ t, inR (g39_9 t)) ∧ (∀ t, inR (g40_10 t)) ∧ (∀ t, inR (g44_11 t)) ∧ (inR 0) ∧ (inR c17) ∧ (inR c18) ∧ (inR c19) ∧ (BkG (BmP (fa 34) (fa 35) (fa 37) (fa 32) (fi 29) (fa 3 0) (fi 12) (fi 13) (fa 3 2) (fa 3 3) (fa 3 4) (fa 3 5) (fa 3 6) (fa 4) (fa 5) (fa 8) (fa 9) (fa 10)) (fa 34) (fi 29).toNat x1_5) from ⟨(by omega), r_g39_9, r_g40_10, r_g44_11, (by omega), (by omega), (by omega), (by omega), (by first | exact bk_x hBK (by omega) rfl | exact bk_e (r := 4) hBK rfl (by omega) hw9 (by omega) ⟨_, hMR, fun z => rt_4 (by omega) (by omega) (by omega) rfl⟩ (by decide) rfl | exact bk_e (r := 5) hBK rfl (by omega) hw9 (by omega) ⟨_, hMR, fun z => rt_5 (by omega) (by omega) (by omega) (kr_n hKr116 (by omega)) rfl⟩ (by decide) rfl | exact bk_e hBK rfl (by omega) hw9 (by omega) ⟨_, hMR, fun z => rt_sw (by omega) (by omega) (by omega) (kr_y hKr116 (by omega)) hLm91 (by omega) hSw124⟩ (by omega) rfl)⟩)⟩, by rw [ht]; exact hP, hD⟩, hS.F ht⟩) hS.2.2 dX10_back_131
        · refine lv_aload_n hx hb dX10_back_105 rfl (lv_at hl 2 rfl) ?_
          refine lv_aload_n hx hb dX10_back_106 rfl (lv_at hl 2 rfl) ?_
          refine va_get (D := G) (ci := 7) (v := .ref (ar 44)) (C := RX10) (T := TX10) (N := 71) (ref := RX10) hx hb hts h1w hown hX.1 hP 0 rfl rfl 44 (by decide) h4w (fun _ h9 => h9) rfl dX10_back_107 ?_
          refine lv_aload_n hx hb dX10_back_110 rfl (lv_at hl 2 rfl) ?_
          refine va_get (D := G) (ci := 7) (v := .ref (ar 35)) (C := RX10) (T := TX10) (N := 71) (ref := RX10) hx hb hts h1w hown hX.1 hP 0 rfl rfl 35 (by decide) h5w (fun _ h9 => h9) rfl dX10_back_111 ?_
          refine lv_iload_n hx hb dX10_back_114 rfl (lv_at hl 0 rfl) ?_
          refine iv_iald hx hb hX.1 hP 14 0 rfl rfl (by omega) (by omega) (by decide) dX10_back_115 ?_
          refine iv_top (fun z22 ez22 => ?_)
          have rz22 : inR z22 := ez22 ▸ (hRa 35) _
          have ez22 : z22 = (fa 35) x2_4 := ez22
          have hy3 := ez22
          refine cr_i (va_runV (As := [.ref (ar 44), .int (Int32.ofInt (z22))]) (rest := []) ⟨hx, hb, hml, hown, hts⟩ (mX10_keepsRules_44 l G k ar (uF (uF (uF (uF fi 2 (0)) 41 (c17)) 42 (c18)) 43 (c19)) (uF (uF (uF fa 39 (g39_9)) 40 (g40_10)) 44 (g44_11)) fl z22 H.size (iF (iF (iF (iF hR (by omega)) (by omega)) (by omega)) (by omega)) (iG (iG (iG hRa r_g39_9) r_g40_10) r_g44_11) (by omega) (show 0 ≤ (fi 12) ∧ (fi 12) ≤ 7 from by omega) (show 0 ≤ (fi 13) ∧ (fi 13) ≤ 4 from by omega) (show ∀ q9, 0 ≤ q9 → q9 < (fi 13) → RWf ((fa 10)) ((fa 8) q9) ((fa 9) q9) from by first | exact hRW | omega)) (cwV 2 hts (gz [.methodLink RX10 401 yX10_keepsRules, .instanceMethod yX10_keepsRules, .selects RX10 yX10_keepsRules yX10_keepsRules, .initialized RX10] (.code yX10_keepsRules cX10_keepsRules 3 (some .boolean)) [(30, 15), (30, 16), (30, 17), (0, 5), (30, 18)] rfl) rfl rfl rfl (by decide +kernel) ⟨Nat.le_of_ble_eq_true rfl, Nat.le_of_ble_eq_true rfl⟩) (cr_preV (EZ_ok k) hZ hS hX hP hD hA (ci := 7) (q0 := 0) rfl rfl) rfl rfl hl.1 rfl (lv_room (Nat.le_of_ble_eq_true rfl)) dX10_back_116 ⟨Nat.le_of_ble_eq_true rfl, Nat.le_of_ble_eq_true rfl⟩) hD hS hA (fun r u H locs hp hP hD hS => ?_)
          obtain ⟨c23, c24, c25⟩ := u
          obtain ⟨hP, hD⟩ : va_P G vwCl (wM k ar (uF (uF (uF (uF fi 2 (0)) 41 (c17)) 42 (c18)) 43 (c19)) (uF (uF (uF fa 39 (c24)) 40 (c25)) 44 (g44_11)) fl) H ∧ va_D A (wM k ar (uF (uF (uF (uF fi 2 (0)) 41 (c17)) 42 (c18)) 43 (c19)) (uF (uF (uF fa 39 (c24)) 40 (c25)) 44 (g44_11)) fl) := ⟨hP, hD⟩
          obtain ⟨h9, rc23, rc24, rc25, hp25⟩ : r = Int32.ofInt c23 ∧ (inR c23) ∧ (∀ t, inR (c24 t)) ∧ (∀ t, inR (c25 t)) ∧ (KrP c23 (bkI (fun q => evR ((fa 10)) (vls (g44_11) ((fa 4)) ((fa 5)) 0 ((fi 12)) ((fa 3) 0) z22) ((fa 8) q) ((fa 9) q)) ((fi 13))) (bkI (fun q => evR ((fa 10)) (vls (g44_11) ((fa 4)) ((fa 5)) 1 ((fi 12)) ((fa 3) 0) z22) ((fa 8) q) ((fa 9) q)) ((fi 13)))) := hp
          subst h9
          have hKr116 := hp25
          unfold KrP at hp25
          rw [hy3] at hKr116
          refine iv_if_eq (tgt := 130) hx hb (by omega) dX10_back_119 (by decide) (fun q26 => ?_) (fun q26 => ?_)
          · refine lv_iload_n hx hb dX10_back_130 rfl (lv_at hl 1 rfl) ?_
            exact W.iret (v := Int32.ofInt (x1_5)) hx hb hr (fun t ht hW => ⟨⟨Int32.ofInt (x1_5), (x1_5, c24, c25, g44_11, 0, c17, c18, c19), rfl, ⟨rfl, (show (inR x1_5) ∧ (∀ t, inR (c24 t)) ∧ (∀ t, inR (c25 t)) ∧ (∀ t, inR (g44_11 t)) ∧ (inR 0) ∧ (inR c17) ∧ (inR c18) ∧ (inR c19) ∧ (BkG (BmP (fa 34) (fa 35) (fa 37) (fa 32) (fi 29) (fa 3 0) (fi 12) (fi 13) (fa 3 2) (fa 3 3) (fa 3 4) (fa 3 5) (fa 3 6) (fa 4) (fa 5) (fa 8) (fa 9) (fa 10)) (fa 34) (fi 29).toNat x1_5) from ⟨(by omega), rc24, rc25, r_g44_11, (by omega), (by omega), (by omega), (by omega), (by first | exact bk_x hBK (by omega) rfl | exact bk_e (r := 4) hBK rfl (by omega) hw9 (by omega) ⟨_, hMR, fun z => rt_4 (by omega) (by omega) (by omega) rfl⟩ (by decide) rfl | exact bk_e (r := 5) hBK rfl (by omega) hw9 (by omega) ⟨_, hMR, fun z => rt_5 (by omega) (by omega) (by omega) (kr_n hKr116 (by omega)) rfl⟩ (by decide) rfl | exact bk_e hBK rfl (by omega) hw9 (by omega) ⟨_, hMR, fun z => rt_sw (by omega) (by omega) (by omega) (kr_y hKr116 (by omega)) hLm91 (by omega) hSw124⟩ (by omega) rfl)⟩)⟩, by rw [ht]; exact hP, hD⟩, hS.F ht⟩) hS.2.2 dX10_back_131
          · refine lv_aload_n hx hb dX10_back_122 rfl (lv_at hl 2 rfl) ?_
            refine lv_iconst (v := Int32.ofInt 1) hx hb dX10_back_123 (by decide +kernel) ?_
            refine cr_i (va_runV (As := [.int (Int32.ofInt (1))]) (rest := []) ⟨hx, hb, hml, hown, hts⟩ (mX10_swing l G k ar (uF (uF (uF (uF fi 2 (0)) 41 (c17)) 42 (c18)) 43 (c19)) (uF (uF (uF fa 39 (c24)) 40 (c25)) 44 (g44_11)) fl 1 H.size (iF (iF (iF (iF hR (by omega)) (by omega)) (by omega)) (by omega)) (iG (iG (iG hRa rc24) rc25) r_g44_11) (by omega)) (cwV 1 hts (gz [.methodLink RX10 409 yX10_swing, .instanceMethod yX10_swing, .selects RX10 yX10_swing yX10_swing, .initialized RX10] (.code yX10_swing cX10_swing 2 (some .int)) [(31, 6), (31, 7), (31, 8), (0, 5), (31, 9)] rfl) rfl rfl rfl (by decide +kernel) ⟨Nat.le_of_ble_eq_true rfl, Nat.le_of_ble_eq_true rfl⟩) (cr_preV (EZ_ok k) hZ hS hX hP hD hA (ci := 7) (q0 := 0) rfl rfl) rfl rfl hl.1 rfl (lv_room (Nat.le_of_ble_eq_true rfl)) dX10_back_124 ⟨Nat.le_of_ble_eq_true rfl, Nat.le_of_ble_eq_true rfl⟩) hD hS hA (fun r u H locs hp hP hD hS => ?_)
            obtain ⟨c27, rfl⟩ : ∃ z, z = u := ⟨_, rfl⟩
            obtain ⟨h9, rc27, hp27⟩ : r = Int32.ofInt c27 ∧ (inR c27) ∧ (c27 = swM 1 (c17) (c18) ((fa 3) 4) ((fa 3) 5) ((fa 3) 6)) := hp
            subst h9
            have hSw124 := hp27
            refine iv_if_eq (tgt := 132) hx hb (by omega) dX10_back_127 (by decide) (fun q28 => ?_) (fun q28 => ?_)
            · refine lv_iinc (v := Int32.ofInt (x1_5 + 1)) (lv' := [(1, .int (Int32.ofInt ((x1_5 + 1)))), (2, .int (Int32.ofInt (x2_4))), (0, .ref (ar 71))]) hx hb dX10_back_132 hl (k := 1) rfl (Int32.ofInt_add _ _).symm (by decide) rfl (fun ls hl => ?_)
              refine lv_iinc (v := Int32.ofInt (x2_4 + (-1))) (lv' := [(2, .int (Int32.ofInt ((x2_4 + (-1))))), (1, .int (Int32.ofInt ((x1_5 + 1)))), (0, .ref (ar 71))]) hx hb dX10_back_135 hl (k := 1) rfl (Int32.ofInt_add _ _).symm (by decide) rfl (fun ls hl => ?_)
              refine lv_goto (tgt := 40) hx hb dX10_back_138 (by decide) ?_
              have hl : lv_has ls 3 [(2, .int (Int32.ofInt ((x2_4 + (-1))))), (1, .int (Int32.ofInt ((x1_5 + 1)))), (0, .ref (ar 71))] := lv_sub hl [0, 1, 2] rfl
              exact ih ((x2_4 + (-1)), (x1_5 + 1), c17, c18, c19, c24, c25, g44_11) (show ((x2_4 + (-1)) + 1).toNat < (x2_4 + 1).toNat from by omega) (show inR (x2_4 + (-1)) ∧ inR (x1_5 + 1) ∧ inR c17 ∧ inR c18 ∧ inR c19 ∧ (∀ t, inR (c24 t)) ∧ (∀ t, inR (c25 t)) ∧ (∀ t, inR (g44_11 t)) ∧ ((-1 ≤ (x2_4 + (-1)) ∧ (x2_4 + (-1)) < fi 29 ∧ 0 ≤ (x1_5 + 1) ∧ (x1_5 + 1) ≤ fi 29 - 1 - (x2_4 + (-1))) ∧ mrI (fa 34) (fa 35) (fa 37) (fa 32) (fi 29) (x2_4 + (-1)) g44_11 ∧ BkI (BmP (fa 34) (fa 35) (fa 37) (fa 32) (fi 29) (fa 3 0) (fi 12) (fi 13) (fa 3 2) (fa 3 3) (fa 3 4) (fa 3 5) (fa 3 6) (fa 4) (fa 5) (fa 8) (fa 9) (fa 10)) (fa 34) (fi 29) ((x2_4 + (-1)) + 1) (x1_5 + 1)) from ⟨(by omega), (by omega), (by omega), (by omega), (by omega), rc24, rc25, r_g44_11, (by first | exact ⟨by omega, mr_u hMR (by omega) (by omega) hw9 (by omega) hx8 hz9 eg44_11, bk_i (bk_m hBK rfl (by omega) hw9 (by omega)) (by omega)⟩ | exact ⟨by omega, mr_k hMR (by omega) (by omega) hw9 (by omega), bk_i (bk_r hBK rfl (by omega) hw9 (by omega) ⟨_, hMR, fun z => rt_sw (by omega) (by omega) (by omega) (kr_y hKr116 (by omega)) hLm91 (by omega) hSw124⟩ (by omega) rfl) (by omega)⟩)⟩) _ _ _ hP hD hS hl
            · refine lv_iload_n hx hb dX10_back_130 rfl (lv_at hl 1 rfl) ?_
              exact W.iret (v := Int32.ofInt (x1_5)) hx hb hr (fun t ht hW => ⟨⟨Int32.ofInt (x1_5), (x1_5, c24, c25, g44_11, 0, c17, c18, c19), rfl, ⟨rfl, (show (inR x1_5) ∧ (∀ t, inR (c24 t)) ∧ (∀ t, inR (c25 t)) ∧ (∀ t, inR (g44_11 t)) ∧ (inR 0) ∧ (inR c17) ∧ (inR c18) ∧ (inR c19) ∧ (BkG (BmP (fa 34) (fa 35) (fa 37) (fa 32) (fi 29) (fa 3 0) (fi 12) (fi 13) (fa 3 2) (fa 3 3) (fa 3 4) (fa 3 5) (fa 3 6) (fa 4) (fa 5) (fa 8) (fa 9) (fa 10)) (fa 34) (fi 29).toNat x1_5) from ⟨(by omega), rc24, rc25, r_g44_11, (by omega), (by omega), (by omega), (by omega), (by first | exact bk_x hBK (by omega) rfl | exact bk_e (r := 4) hBK rfl (by omega) hw9 (by omega) ⟨_, hMR, fun z => rt_4 (by omega) (by omega) (by omega) rfl⟩ (by decide) rfl | exact bk_e (r := 5) hBK rfl (by omega) hw9 (by omega) ⟨_, hMR, fun z => rt_5 (by omega) (by omega) (by omega) (kr_n hKr116 (by omega)) rfl⟩ (by decide) rfl | exact bk_e hBK rfl (by omega) hw9 (by omega) ⟨_, hMR, fun z => rt_sw (by omega) (by omega) (by omega) (kr_y hKr116 (by omega)) hLm91 (by omega) hSw124⟩ (by omega) rfl)⟩)⟩, by rw [ht]; exact hP, hD⟩, hS.F ht⟩) hS.2.2 dX10_back_131
      · refine lv_aload_n hx hb dX10_back_54 rfl (lv_at hl 2 rfl) ?_
        refine va_get (D := G) (ci := 7) (v := .ref (ar 44)) (C := RX10) (T := TX10) (N := 71) (ref := RX10) hx hb hts h1w hown hX.1 hP 0 rfl rfl 44 (by decide) h4w (fun _ h9 => h9) rfl dX10_back_55 ?_
        refine lv_aload_n hx hb dX10_back_58 rfl (lv_at hl 2 rfl) ?_
        refine va_get (D := G) (ci := 7) (v := .ref (ar 35)) (C := RX10) (T := TX10) (N := 71) (ref := RX10) hx hb hts h1w hown hX.1 hP 0 rfl rfl 35 (by decide) h5w (fun _ h9 => h9) rfl dX10_back_59 ?_
        refine lv_iload_n hx hb dX10_back_62 rfl (lv_at hl 0 rfl) ?_
        refine iv_iald hx hb hX.1 hP 14 0 rfl rfl (by omega) (by omega) (by decide) dX10_back_63 ?_
        refine iv_top (fun z29 ez29 => ?_)
        have rz29 : inR z29 := ez29 ▸ (hRa 35) _
        have ez29 : z29 = (fa 35) x2_4 := ez29
        refine lv_aload_n hx hb dX10_back_64 rfl (lv_at hl 2 rfl) ?_
        refine va_get (D := G) (ci := 7) (v := .ref (ar 37)) (C := RX10) (T := TX10) (N := 71) (ref := RX10) hx hb hts h1w hown hX.1 hP 0 rfl rfl 37 (by decide) h6w (fun _ h9 => h9) rfl dX10_back_65 ?_
        refine lv_iload_n hx hb dX10_back_68 rfl (lv_at hl 0 rfl) ?_
        refine iv_iald hx hb hX.1 hP 16 0 rfl rfl (by omega) (by omega) (by decide) dX10_back_69 ?_
        refine iv_top (fun z30 ez30 => ?_)
        have rz30 : inR z30 := ez30 ▸ (hRa 37) _
        have ez30 : z30 = (fa 37) x2_4 := ez30
        have hx9 := hPM x2_4 (by omega) (by omega) (by omega)
        have hz9 := ez30
        have hx8 := ez29
        refine iv_iast hx hb hX.1 hP hD hS 20 0 rfl rfl (wM_A44 _ _ _ _ _) (by omega) (by omega) (by decide) dX10_back_70 (fun H locs hP hD hS => ?_)
        obtain ⟨hP, hD⟩ : va_P G vwCl (wM k ar (uF (uF (uF (uF fi 2 (0)) 41 (n41_6)) 42 (n42_7)) 43 (n43_8)) (uF (uF (uF fa 39 (g39_9)) 40 (g40_10)) 44 (uA (g44_11) (z29) (z30))) fl) H ∧ va_D A (wM k ar (uF (uF (uF (uF fi 2 (0)) 41 (n41_6)) 42 (n42_7)) 43 (n43_8)) (uF (uF (uF fa 39 (g39_9)) 40 (g40_10)) 44 (uA (g44_11) (z29) (z30))) fl) := ⟨hP, hD⟩
        obtain ⟨g31, eg31, rg31⟩ : ∃ z, z = uA (g44_11) (z29) (z30) ∧ ∀ t, inR (z t) := ⟨_, rfl, iU r_g44_11 (by omega)⟩
        rw [← eg31] at hP hD
        refine lv_goto (tgt := 135) hx hb dX10_back_71 (by decide) ?_
        refine lv_iinc (v := Int32.ofInt (x2_4 + (-1))) (lv' := [(2, .int (Int32.ofInt ((x2_4 + (-1))))), (1, .int (Int32.ofInt (x1_5))), (0, .ref (ar 71))]) hx hb dX10_back_135 hl (k := 0) rfl (Int32.ofInt_add _ _).symm (by decide) rfl (fun ls hl => ?_)
        refine lv_goto (tgt := 40) hx hb dX10_back_138 (by decide) ?_
        have hl : lv_has ls 3 [(2, .int (Int32.ofInt ((x2_4 + (-1))))), (1, .int (Int32.ofInt (x1_5))), (0, .ref (ar 71))] := lv_sub hl [0, 1, 2] rfl
        exact ih ((x2_4 + (-1)), x1_5, n41_6, n42_7, n43_8, g39_9, g40_10, g31) (show ((x2_4 + (-1)) + 1).toNat < (x2_4 + 1).toNat from by omega) (show inR (x2_4 + (-1)) ∧ inR x1_5 ∧ inR n41_6 ∧ inR n42_7 ∧ inR n43_8 ∧ (∀ t, inR (g39_9 t)) ∧ (∀ t, inR (g40_10 t)) ∧ (∀ t, inR (g31 t)) ∧ ((-1 ≤ (x2_4 + (-1)) ∧ (x2_4 + (-1)) < fi 29 ∧ 0 ≤ x1_5 ∧ x1_5 ≤ fi 29 - 1 - (x2_4 + (-1))) ∧ mrI (fa 34) (fa 35) (fa 37) (fa 32) (fi 29) (x2_4 + (-1)) g31 ∧ BkI (BmP (fa 34) (fa 35) (fa 37) (fa 32) (fi 29) (fa 3 0) (fi 12) (fi 13) (fa 3 2) (fa 3 3) (fa 3 4) (fa 3 5) (fa 3 6) (fa 4) (fa 5) (fa 8) (fa 9) (fa 10)) (fa 34) (fi 29) ((x2_4 + (-1)) + 1) x1_5) from ⟨(by omega), (by omega), (by omega), (by omega), (by omega), r_g39_9, r_g40_10, rg31, (by first | exact ⟨by omega, mr_u hMR (by omega) (by omega) hw9 (by omega) hx8 hz9 eg31, bk_i (bk_m hBK rfl (by omega) hw9 (by omega)) (by omega)⟩ | exact ⟨by omega, mr_k hMR (by omega) (by omega) hw9 (by omega), bk_i (bk_r hBK rfl (by omega) hw9 (by omega) ⟨_, hMR, fun z => rt_sw (by omega) (by omega) (by omega) (kr_y hKr116 (by omega)) hLm91 (by omega) hSw124⟩ (by omega) rfl) (by omega)⟩)⟩) _ _ _ hP hD hS hl
  · refine lv_aload_n hx hb dX10_back_13 rfl (lv_at hl 1 rfl) ?_
    refine va_get (D := G) (ci := 7) (v := .ref (ar 44)) (C := RX10) (T := TX10) (N := 71) (ref := RX10) hx hb hts h1w hown hX.1 hP 0 rfl rfl 44 (by decide) h4w (fun _ h9 => h9) rfl dX10_back_14 ?_
    refine lv_iload_n hx hb dX10_back_17 rfl (lv_at hl 0 rfl) ?_
    refine lv_aload_n hx hb dX10_back_18 rfl (lv_at hl 1 rfl) ?_
    refine va_get (D := G) (ci := 7) (v := .ref (ar 32)) (C := RX10) (T := TX10) (N := 71) (ref := RX10) hx hb hts h1w hown hX.1 hP 0 rfl rfl 32 (by decide) h7w (fun _ h9 => h9) rfl dX10_back_19 ?_
    refine lv_iload_n hx hb dX10_back_22 rfl (lv_at hl 0 rfl) ?_
    refine iv_iald hx hb hX.1 hP 11 0 rfl rfl (by omega) (by omega) (by decide) dX10_back_23 ?_
    refine iv_top (fun z32 ez32 => ?_)
    have rz32 : inR z32 := ez32 ▸ (hRa 32) _
    have ez32 : z32 = (fa 32) x1_1 := ez32
    have hz7 := ez32
    refine iv_iast hx hb hX.1 hP hD hS 20 0 rfl rfl (wM_A44 _ _ _ _ _) (by omega) (by omega) (by decide) dX10_back_24 (fun H locs hP hD hS => ?_)
    obtain ⟨hP, hD⟩ : va_P G vwCl (wM k ar (uF fi 2 (0)) (uF fa 44 (uA (g44_2) (x1_1) (z32))) fl) H ∧ va_D A (wM k ar (uF fi 2 (0)) (uF fa 44 (uA (g44_2) (x1_1) (z32))) fl) := ⟨hP, hD⟩
    obtain ⟨g33, eg33, rg33⟩ : ∃ z, z = uA (g44_2) (x1_1) (z32) ∧ ∀ t, inR (z t) := ⟨_, rfl, iU r_g44_2 (by omega)⟩
    rw [← eg33] at hP hD
    refine lv_iinc (v := Int32.ofInt (x1_1 + 1)) (lv' := [(1, .int (Int32.ofInt ((x1_1 + 1)))), (0, .ref (ar 71))]) hx hb dX10_back_25 hl (k := 0) rfl (Int32.ofInt_add _ _).symm (by decide) rfl (fun ls hl => ?_)
    refine lv_goto (tgt := 7) hx hb dX10_back_28 (by decide) ?_
    have hl : lv_has ls 3 [(1, .int (Int32.ofInt ((x1_1 + 1)))), (0, .ref (ar 71))] := lv_sub hl [0, 1] rfl
    exact ih ((x1_1 + 1), g33) (show (7 - (x1_1 + 1)).toNat < (7 - x1_1).toNat from by omega) (show inR (x1_1 + 1) ∧ (∀ t, inR (g33 t)) ∧ ((0 ≤ (x1_1 + 1) ∧ (x1_1 + 1) ≤ 7) ∧ ∀ t, 0 ≤ t → t < (x1_1 + 1) → g33 t = fa 32 t) from ⟨(by omega), rg33, (by exact ⟨by omega, be_step hB7 hz7 eg33⟩)⟩) _ _ _ hP hD hS hl

set_option maxHeartbeats 4000000 in
set_option maxRecDepth 100000 in
theorem mX10_pack (l : Launch) (G : va_G) (k : Nat → ClassId) (ar : Nat → Nat) (fi : Nat → Int) (fa : Nat → Int → Int) (fl : Nat → Int64) (a0 : Int) (sz : Nat) (hR : ∀ j, inR (fi j)) (hRa : ∀ j t, inR (fa j t)) (hr_a0 : inR a0) : CNl l G k (EZ k) yX10_pack wzX10_pack ({ frames := 0, cells := 0, slots := 0, locals := 0 }) [.ref (ar 54), .int (Int32.ofInt (a0))] sz (wM k ar fi fa fl) (fun (r0 : Int64) (u : Int64) => r0 = u ∧ (True)) (fun (u : Int64) => (wM k ar fi fa fl)) := by
  refine Met.ofW (cc := cX10_pack) (maxL := 5) (ret := (some .long)) (by decide) rfl ?_
  intro p e s m args below meth c s₁ B hml hv
  obtain ⟨rfl, hsz, hP, hX, hD0, hZ0⟩ := hv
  have hx := B.exec
  have hb := B.bytes
  have hr := B.returns
  have hts := atoms_spec (ws := wzX10_pack) B.pre
  have hown : s.vm.findClass RX10 = some m.cls := findClass_of_methodNamed B.named
  subst hsz
  have hD := hD0.self (sz := s.heap.size)
  have hZ := hZ0
  generalize hAe : va_A (wM k ar fi fa fl) s.heap.size = A at hD hZ ⊢
  have hA : ∀ q : Nat, s.heap.size ≤ q → A q := fun q h => by rw [← hAe]; exact Or.inr h
  have hS : va_S A s.heap s.heap [] := va_S.rf
  have hl := lv_entry ([.ref (ar 54), .int (Int32.ofInt (a0))]) (n := 5) (Nat.le_of_ble_eq_true rfl)
  rw [lg_entry_eq]
  generalize (lg_sl ([.ref (ar 54), .int (Int32.ofInt (a0))]) ++ List.replicate (5 - (lg_sl ([.ref (ar 54), .int (Int32.ofInt (a0))])).length) Slot.unset).toArray = ls at hl ⊢
  have hl : lv_has ls 5 [(0, .ref (ar 54)), (1, .int (Int32.ofInt (a0)))] := hl
  obtain ⟨H, eH⟩ : ∃ H, H = s.heap := ⟨_, rfl⟩
  rw [← eH] at hP
  have hS : va_S A s.heap H [] := by rw [eH]; exact hS
  have gW : s.heap = H := eH.symm
  refine iv_heap gW ?_
  have h0w := hts (.constantLong RX10 425 (16)) (wz_at 36 4 rfl)
  refine lv_iload_n hx hb dX10_pack_0 rfl (lv_at hl 1 rfl) ?_
  refine iv_i2l hx hb dX10_pack_1 ?_
  refine lv_topl (fun z1 ez1 => ?_)
  refine lv_lstore_n (lv' := [(2, .long (z1)), (0, .ref (ar 54)), (1, .int (Int32.ofInt (a0)))]) hx hb dX10_pack_2 rfl hl (by decide) rfl (fun ls hl => ?_)
  refine lv_iconst (v := Int32.ofInt 0) hx hb dX10_pack_3 (by decide +kernel) ?_
  refine lv_istore (lv' := [(4, .int (Int32.ofInt (0))), (2, .long (z1)), (0, .ref (ar 54)), (1, .int (Int32.ofInt (a0)))]) hx hb dX10_pack_4 hl (by decide) rfl (fun ls hl => ?_)
  refine iv_loop (α := Int × Int64) (nL := 5) (fun b9 => (wM k ar fi fa fl)) (fun b9 => [(4, .int (Int32.ofInt (b9.1))), (2, .long (b9.2)), (0, .ref (ar 54)), (1, .int (Int32.ofInt (a0)))]) (fun b9 => (7 - b9.1).toNat) (fun b9 => inR b9.1 ∧ (0 ≤ b9.1 ∧ b9.1 ≤ 7)) ?_ (0, z1) (show inR 0 ∧ (0 ≤ 0 ∧ 0 ≤ 7) from ⟨(by omega), (by omega)⟩) hP hD hS hl
  rintro ⟨x4_2, x2_3⟩ ih hi9 H locs ls hP hD hS hl
  obtain ⟨r_x4_2, hinv⟩ : inR x4_2 ∧ (0 ≤ x4_2 ∧ x4_2 ≤ 7) := hi9
  obtain ⟨hP, hD⟩ : va_P G vwCl (wM k ar fi fa fl) H ∧ va_D A (wM k ar fi fa fl) := ⟨hP, hD⟩
  have hl : lv_has ls 5 [(4, .int (Int32.ofInt (x4_2))), (2, .long (x2_3)), (0, .ref (ar 54)), (1, .int (Int32.ofInt (a0)))] := hl
  refine lv_iload hx hb dX10_pack_6 (lv_at hl 0 rfl) ?_
  refine lv_bipush (v := Int32.ofInt 7) hx hb dX10_pack_8 (by decide +kernel) ?_
  refine iv_icmp_ge (tgt := 31) hx hb (by omega) (by omega) dX10_pack_10 (by decide) (fun q4 => ?_) (fun q4 => ?_)
  · refine lv_lload_n hx hb dX10_pack_31 rfl (lv_at hl 1 rfl) ?_
    exact W.lret (v := x2_3) hx hb hr (fun t ht hW => ⟨⟨x2_3, (x2_3), rfl, ⟨rfl, (show (True) from trivial)⟩, by rw [ht]; exact hP, hD⟩, hS.F ht⟩) hS.2.2 dX10_pack_32
  · refine lv_ldc2 (v := 16) hx hb hown h0w dX10_pack_13 ?_
    refine lv_lload_n hx hb dX10_pack_16 rfl (lv_at hl 1 rfl) ?_
    refine lv_lmul hx hb dX10_pack_17 ?_
    refine lv_topl (fun z5 ez5 => ?_)
    refine lv_aload_n hx hb dX10_pack_18 rfl (lv_at hl 2 rfl) ?_
    refine lv_iload hx hb dX10_pack_19 (lv_at hl 0 rfl) ?_
    refine iv_iald hx hb hX.1 hP 27 0 rfl rfl (by omega) (by omega) (by decide) dX10_pack_21 ?_
    refine iv_top (fun z6 ez6 => ?_)
    have rz6 : inR z6 := ez6 ▸ (hRa 54) _
    have ez6 : z6 = (fa 54) x4_2 := ez6
    refine iv_i2l hx hb dX10_pack_22 ?_
    refine lv_topl (fun z7 ez7 => ?_)
    refine lv_ladd hx hb dX10_pack_23 ?_
    refine lv_topl (fun z8 ez8 => ?_)
    refine lv_lstore_n (lv' := [(2, .long (z8)), (4, .int (Int32.ofInt (x4_2))), (0, .ref (ar 54)), (1, .int (Int32.ofInt (a0)))]) hx hb dX10_pack_24 rfl hl (by decide) rfl (fun ls hl => ?_)
    refine lv_iinc (v := Int32.ofInt (x4_2 + 1)) (lv' := [(4, .int (Int32.ofInt ((x4_2 + 1)))), (2, .long (z8)), (0, .ref (ar 54)), (1, .int (Int32.ofInt (a0)))]) hx hb dX10_pack_25 hl (k := 1) rfl (Int32.ofInt_add _ _).symm (by decide) rfl (fun ls hl => ?_)
    refine lv_goto (tgt := 6) hx hb dX10_pack_28 (by decide) ?_
    have hl : lv_has ls 5 [(4, .int (Int32.ofInt ((x4_2 + 1)))), (2, .long (z8)), (0, .ref (ar 54)), (1, .int (Int32.ofInt (a0)))] := lv_sub hl [0, 1, 2, 3] rfl
    exact ih ((x4_2 + 1), z8) (show (7 - (x4_2 + 1)).toNat < (7 - x4_2).toNat from by omega) (show inR (x4_2 + 1) ∧ (0 ≤ (x4_2 + 1) ∧ (x4_2 + 1) ≤ 7) from ⟨(by omega), (by omega)⟩) _ _ _ hP hD hS hl

set_option maxHeartbeats 4000000 in
set_option maxRecDepth 100000 in
theorem mX10_unpack (l : Launch) (G : va_G) (k : Nat → ClassId) (ar : Nat → Nat) (fi : Nat → Int) (fa : Nat → Int → Int) (fl : Nat → Int64) (v0 : Int64) (sz : Nat) (hR : ∀ j, inR (fi j)) (hRa : ∀ j t, inR (fa j t)) : CNv l G k (EZ k) yX10_unpack wzX10_unpack ({ frames := 0, cells := 0, slots := 0, locals := 0 }) [.ref (ar 71), .long (v0)] sz (wM k ar fi fa fl) (fun (u : (Int → Int) × Int) => (∀ t, inR (u.1 t)) ∧ (inR u.2) ∧ (True)) (fun (u : (Int → Int) × Int) => (wM k ar (uF fi 55 (u.2)) (uF fa 53 (u.1)) fl)) := by
  refine Met.ofW (cc := cX10_unpack) (maxL := 6) (ret := none) (by decide) rfl ?_
  intro p e s m args below meth c s₁ B hml hv
  obtain ⟨rfl, hsz, hP, hX, hD0, hZ0⟩ := hv
  have hx := B.exec
  have hb := B.bytes
  have hr := B.returns
  have hts := atoms_spec (ws := wzX10_unpack) B.pre
  have hown : s.vm.findClass RX10 = some m.cls := findClass_of_methodNamed B.named
  subst hsz
  have hD := hD0.self (sz := s.heap.size)
  have hZ := hZ0
  generalize hAe : va_A (wM k ar fi fa fl) s.heap.size = A at hD hZ ⊢
  have hA : ∀ q : Nat, s.heap.size ≤ q → A q := fun q h => by rw [← hAe]; exact Or.inr h
  have hS : va_S A s.heap s.heap [] := va_S.rf
  have hl := lv_entry ([.ref (ar 71), .long (v0)]) (n := 6) (Nat.le_of_ble_eq_true rfl)
  rw [lg_entry_eq]
  generalize (lg_sl ([.ref (ar 71), .long (v0)]) ++ List.replicate (6 - (lg_sl ([.ref (ar 71), .long (v0)])).length) Slot.unset).toArray = ls at hl ⊢
  have hl : lv_has ls 6 [(0, .ref (ar 71)), (1, .long (v0))] := hl
  obtain ⟨H, eH⟩ : ∃ H, H = s.heap := ⟨_, rfl⟩
  rw [← eH] at hP
  have hS : va_S A s.heap H [] := by rw [eH]; exact hS
  have gW : s.heap = H := eH.symm
  refine iv_heap gW ?_
  have h0w := hts (.fieldLink RX10 427 "RopeTownModel" "rowBucket" "I") (wz_at 36 21 rfl)
  have h1w : ∀ w ∈ wsX100, w ∈ wzX10_unpack := fun w h => List.mem_cons_of_mem _ (inlX10 w h)
  have h2w := hts (.fieldLink RX10 134 "RopeTownModel" "row" "[I") (wz_at 7 9 rfl)
  have h3w := hts (.constantLong RX10 425 (16)) (wz_at 36 4 rfl)
  refine lv_lload_n hx hb dX10_unpack_0 rfl (lv_at hl 1 rfl) ?_
  refine lv_lstore_n (lv' := [(3, .long (v0)), (0, .ref (ar 71)), (1, .long (v0))]) hx hb dX10_unpack_1 rfl hl (by decide) rfl (fun ls hl => ?_)
  refine lv_bipush (v := Int32.ofInt 6) hx hb dX10_unpack_2 (by decide +kernel) ?_
  refine lv_istore (lv' := [(5, .int (Int32.ofInt (6))), (3, .long (v0)), (0, .ref (ar 71)), (1, .long (v0))]) hx hb dX10_unpack_4 hl (by decide) rfl (fun ls hl => ?_)
  refine iv_loop (α := Int × Int64 × (Int → Int)) (nL := 6) (fun b9 => (wM k ar fi (uF fa 53 (b9.2.2)) fl)) (fun b9 => [(5, .int (Int32.ofInt (b9.1))), (3, .long (b9.2.1)), (0, .ref (ar 71)), (1, .long (v0))]) (fun b9 => (b9.1 + 1).toNat) (fun b9 => inR b9.1 ∧ (∀ t, inR (b9.2.2 t)) ∧ (-1 ≤ b9.1 ∧ b9.1 ≤ 6)) ?_ (6, v0, fa 53) (show inR 6 ∧ (∀ t, inR ((fa 53) t)) ∧ (-1 ≤ 6 ∧ 6 ≤ 6) from ⟨(by omega), (hRa 53), (by omega)⟩) hP hD hS hl
  rintro ⟨x5_1, x3_2, g53_3⟩ ih hi9 H locs ls hP hD hS hl
  obtain ⟨r_x5_1, r_g53_3, hinv⟩ : inR x5_1 ∧ (∀ t, inR (g53_3 t)) ∧ (-1 ≤ x5_1 ∧ x5_1 ≤ 6) := hi9
  obtain ⟨hP, hD⟩ : va_P G vwCl (wM k ar fi (uF fa 53 (g53_3)) fl) H ∧ va_D A (wM k ar fi (uF fa 53 (g53_3)) fl) := ⟨hP, hD⟩
  have hl : lv_has ls 6 [(5, .int (Int32.ofInt (x5_1))), (3, .long (x3_2)), (0, .ref (ar 71)), (1, .long (v0))] := hl
  refine lv_iload hx hb dX10_unpack_6 (lv_at hl 0 rfl) ?_
  refine iv_if_lt (tgt := 36) hx hb (by omega) dX10_unpack_8 (by decide) (fun q4 => ?_) (fun q4 => ?_)
  · refine lv_aload_n hx hb dX10_unpack_36 rfl (lv_at hl 2 rfl) ?_
    refine lv_lload_n hx hb dX10_unpack_37 rfl (lv_at hl 1 rfl) ?_
    refine iv_l2i hx hb dX10_unpack_38 ?_
    refine iv_top (fun z5 ez5 => ?_)
    have rz5 : inR z5 := ez5 ▸ bL2i_r _
    refine iv_put (ci := 7) (v := .int (Int32.ofInt (z5))) (ty := .int) (C := RX10) (T := TX10) (N := 71) (ref := RX10) hx hb hts h1w tyX10 tyX10_ok nmX10 hown hX.1 hP hD hS 0 rfl rfl 55 (by decide) h0w (fun _ h9 => h9) rfl (by decide +kernel) rfl rfl (Nat.le_of_ble_eq_true rfl) (wM_F55 _ _ _ _ _) dX10_unpack_39 (fun H locs hP hD hS => ?_)
    exact W.vret hx hb hr (fun t ht hW => ⟨⟨(g53_3, z5), rfl, (show (∀ t, inR (g53_3 t)) ∧ (inR z5) ∧ (True) from ⟨r_g53_3, (by omega), trivial⟩), by rw [ht]; exact hP, hD⟩, hS.F ht⟩) hS.2.2 dX10_unpack_42
  · refine lv_aload_n hx hb dX10_unpack_11 rfl (lv_at hl 2 rfl) ?_
    refine va_get (D := G) (ci := 7) (v := .ref (ar 53)) (C := RX10) (T := TX10) (N := 71) (ref := RX10) hx hb hts h1w hown hX.1 hP 0 rfl rfl 53 (by decide) h2w (fun _ h9 => h9) rfl dX10_unpack_12 ?_
    refine lv_iload hx hb dX10_unpack_15 (lv_at hl 0 rfl) ?_
    refine lv_lload_n hx hb dX10_unpack_17 rfl (lv_at hl 1 rfl) ?_
    refine lv_ldc2 (v := 16) hx hb hown h3w dX10_unpack_18 ?_
    refine lv_lrem hx hb dX10_unpack_21 (by decide) ?_
    refine lv_topl (fun z6 ez6 => ?_)
    refine iv_l2i hx hb dX10_unpack_22 ?_
    refine iv_top (fun z7 ez7 => ?_)
    have rz7 : inR z7 := ez7 ▸ bL2i_r _
    refine iv_iast hx hb hX.1 hP hD hS 26 0 rfl rfl (wM_A53 _ _ _ _ _) (by omega) (by omega) (by decide) dX10_unpack_23 (fun H locs hP hD hS => ?_)
    obtain ⟨hP, hD⟩ : va_P G vwCl (wM k ar fi (uF fa 53 (uA (g53_3) (x5_1) (z7))) fl) H ∧ va_D A (wM k ar fi (uF fa 53 (uA (g53_3) (x5_1) (z7))) fl) := ⟨hP, hD⟩
    obtain ⟨g8, eg8, rg8⟩ : ∃ z, z = uA (g53_3) (x5_1) (z7) ∧ ∀ t, inR (z t) := ⟨_, rfl, iU r_g53_3 (by omega)⟩
    rw [← eg8] at hP hD
    refine lv_lload_n hx hb dX10_unpack_24 rfl (lv_at hl 1 rfl) ?_
    refine lv_ldc2 (v := 16) hx hb hown h3w dX10_unpack_25 ?_
    refine lv_ldiv hx hb dX10_unpack_28 (by decide) ?_
    refine lv_topl (fun z9 ez9 => ?_)
    refine lv_lstore_n (lv' := [(3, .long (z9)), (5, .int (Int32.ofInt (x5_1))), (0, .ref (ar 71)), (1, .long (v0))]) hx hb dX10_unpack_29 rfl hl (by decide) rfl (fun ls hl => ?_)
    refine lv_iinc (v := Int32.ofInt (x5_1 + (-1))) (lv' := [(5, .int (Int32.ofInt ((x5_1 + (-1))))), (3, .long (z9)), (0, .ref (ar 71)), (1, .long (v0))]) hx hb dX10_unpack_30 hl (k := 1) rfl (Int32.ofInt_add _ _).symm (by decide) rfl (fun ls hl => ?_)
    refine lv_goto (tgt := 6) hx hb dX10_unpack_33 (by decide) ?_
    have hl : lv_has ls 6 [(5, .int (Int32.ofInt ((x5_1 + (-1))))), (3, .long (z9)), (0, .ref (ar 71)), (1, .long (v0))] := lv_sub hl [0, 1, 2, 3] rfl
    exact ih ((x5_1 + (-1)), z9, g8) (show ((x5_1 + (-1)) + 1).toNat < (x5_1 + 1).toNat from by omega) (show inR (x5_1 + (-1)) ∧ (∀ t, inR (g8 t)) ∧ (-1 ≤ (x5_1 + (-1)) ∧ (x5_1 + (-1)) ≤ 6) from ⟨(by omega), rg8, (by omega)⟩) _ _ _ hP hD hS hl

set_option maxHeartbeats 4000000 in
set_option maxRecDepth 100000 in
theorem mX10_foldOf (l : Launch) (G : va_G) (k : Nat → ClassId) (v0 : Int64) (sz : Nat) : CNi l G k (EZ k) yX10_foldOf wzX10_foldOf ({ frames := 0, cells := 0, slots := 0, locals := 0 }) [.long (v0)] sz [] (fun (r0 : Int32) (u : Int) => r0 = Int32.ofInt (u) ∧ (inR u) ∧ (0 ≤ u ∧ u < 8192)) (fun (u : Int) => []) := by
  refine Met.ofW (cc := cX10_foldOf) (maxL := 4) (ret := (some .int)) (by decide) rfl ?_
  intro p e s m args below meth c s₁ B hml hv
  obtain ⟨rfl, hsz, hP, hX, hD0, hZ0⟩ := hv
  have hx := B.exec
  have hb := B.bytes
  have hr := B.returns
  have hts := atoms_spec (ws := wzX10_foldOf) B.pre
  have hown : s.vm.findClass RX10 = some m.cls := findClass_of_methodNamed B.named
  subst hsz
  have hD := hD0.self (sz := s.heap.size)
  have hZ := hZ0
  generalize hAe : va_A [] s.heap.size = A at hD hZ ⊢
  have hA : ∀ q : Nat, s.heap.size ≤ q → A q := fun q h => by rw [← hAe]; exact Or.inr h
  have hS : va_S A s.heap s.heap [] := va_S.rf
  have hl := lv_entry ([.long (v0)]) (n := 4) (Nat.le_of_ble_eq_true rfl)
  rw [lg_entry_eq]
  generalize (lg_sl ([.long (v0)]) ++ List.replicate (4 - (lg_sl ([.long (v0)])).length) Slot.unset).toArray = ls at hl ⊢
  have hl : lv_has ls 4 [(0, .long (v0))] := hl
  obtain ⟨H, eH⟩ : ∃ H, H = s.heap := ⟨_, rfl⟩
  rw [← eH] at hP
  have hS : va_S A s.heap H [] := by rw [eH]; exact hS
  have gW : s.heap = H := eH.symm
  refine iv_heap gW ?_
  have h0w := hts (.constantLong RX10 430 (-7046029254386353131)) (wz_at 36 12 rfl)
  refine lv_lload_n hx hb dX10_foldOf_0 rfl (lv_at hl 0 rfl) ?_
  refine lv_ldc2 (v := (-7046029254386353131)) hx hb hown h0w dX10_foldOf_1 ?_
  refine lv_lmul hx hb dX10_foldOf_4 ?_
  refine lv_topl (fun z1 ez1 => ?_)
  refine lv_lstore_n (lv' := [(2, .long (z1)), (0, .long (v0))]) hx hb dX10_foldOf_5 rfl hl (by decide) rfl (fun ls hl => ?_)
  refine lv_lload_n hx hb dX10_foldOf_6 rfl (lv_at hl 0 rfl) ?_
  refine lv_bipush (v := Int32.ofInt 51) hx hb dX10_foldOf_7 (by decide +kernel) ?_
  refine lv_lushr hx hb dX10_foldOf_9 rfl ?_
  refine lv_topl (fun z2 ez2 => ?_)
  refine iv_l2i hx hb dX10_foldOf_10 ?_
  refine iv_top (fun z3 ez3 => ?_)
  have rz3 : inR z3 := ez3 ▸ bL2i_r _
  exact W.iret (v := Int32.ofInt (z3)) hx hb hr (fun t ht hW => ⟨⟨Int32.ofInt (z3), (z3), rfl, ⟨rfl, (show (inR z3) ∧ (0 ≤ z3 ∧ z3 < 8192) from ⟨(by omega), (by subst_vars; exact fold_r _)⟩)⟩, by rw [ht]; exact hP, hD⟩, hS.F ht⟩) hS.2.2 dX10_foldOf_11

