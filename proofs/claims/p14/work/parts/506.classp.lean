set_option maxHeartbeats 4000000 in
set_option maxRecDepth 100000 in
theorem mX4_takeWord (l : Launch) (G : va_G) (k : Nat → ClassId) (arR : Nat → Nat) (plR : Nat) (fiR : Nat → Int) (faR : Nat → Int → Int) (arY : Nat → Nat) (fiY : Nat → Int) (faY : Nat → Int → Int) (sz : Nat) (hRR : ∀ j, inR (fiR j)) (hRaR : ∀ j t, inR (faR j t)) (hRY : ∀ j, inR (fiY j)) (hRaY : ∀ j t, inR (faY j t)) (hB0Y : bnd (faY 0) 600 (-128) 128) (hst : 0 ≤ fiR 22 ∧ fiR 22 ≤ fiR 23 ∧ fiR 23 ≤ fiR 21 ∧ fiR 21 ≤ 600) (hwd : fiR 25 = 23) (hkw : kd (uT (faY 0)) (fiR 21) (fiR 22) = 1 ∧ fiR 23 = en (uT (faY 0)) (fiR 21) (fiR 22)) : CNv l G k (EZ k) yX4_takeWord wzX4_takeWord ({ frames := 4, cells := 0, slots := 0, locals := 85 }) [.ref (arR 98)] sz ((wR k arR (plR) (arY 0) fiR faR) ++ (wY k arY fiY faY)) (fun (u : Int × Int) => (inR u.1) ∧ (inR u.2) ∧ ((0 ≤ u.2 ∧ u.2 ≤ 23 ∧ u.1 = 1) ∧ u.2 = cw (uT (faY 0)) (fiR 21) (fiR 22))) (fun (u : Int × Int) => ((wR k arR (plR) (arY 0) (uF (uF fiR 24 (u.1)) 25 (u.2)) faR) ++ (wY k arY fiY faY))) := by
  refine Met.ofW (cc := cX4_takeWord) (maxL := 5) (ret := none) (by decide) rfl ?_
  intro p e s m args below meth c s₁ B hml hv
  obtain ⟨rfl, hsz, hP, hX, hD0, hZ0⟩ := hv
  have hx := B.exec
  have hb := B.bytes
  have hr := B.returns
  have hts := atoms_spec (ws := wzX4_takeWord) B.pre
  have hown : s.vm.findClass RX4 = some m.cls := findClass_of_methodNamed B.named
  subst hsz
  have hD := hD0.self (sz := s.heap.size)
  have hZ := hZ0
  generalize hAe : va_A ((wR k arR (plR) (arY 0) fiR faR) ++ (wY k arY fiY faY)) s.heap.size = A at hD hZ ⊢
  have hA : ∀ q : Nat, s.heap.size ≤ q → A q := fun q h => by rw [← hAe]; exact Or.inr h
  have hS : va_S A s.heap s.heap [] := va_S.rf
  have hl := lv_entry ([.ref (arR 98)]) (n := 5) (Nat.le_of_ble_eq_true rfl)
  rw [lg_entry_eq]
  generalize (lg_sl ([.ref (arR 98)]) ++ List.replicate (5 - (lg_sl ([.ref (arR 98)])).length) Slot.unset).toArray = ls at hl ⊢
  have hl : lv_has ls 5 [(0, .ref (arR 98))] := hl
  obtain ⟨H, eH⟩ : ∃ H, H = s.heap := ⟨_, rfl⟩
  rw [← eH] at hP
  have hS : va_S A s.heap H [] := by rw [eH]; exact hS
  have gW : s.heap = H := eH.symm
  refine iv_heap gW ?_
  have h0w := hts (.fieldLink RX4 25 "RopeTown$Reader" "kind" "I") (wz_at 3 20 rfl)
  have h1w : ∀ w ∈ wsX40, w ∈ wzX4_takeWord := fun w h => List.mem_cons_of_mem _ (inlX4 w h)
  have h2w := hts (.fieldLink RX4 62 "RopeTown$Reader" "WORDS" "[LRopeTown$Word;") (wz_at 9 23 rfl)
  have h3w := hts (.fieldLink RX4 34 "RopeTown$Reader" "word" "LRopeTown$Word;") (wz_at 3 22 rfl)
  have h4w := hts (.fieldLink RX4 9 "RopeTown$Reader" "text" "[B") (wz_at 3 16 rfl)
  have h5w := hts (.fieldLink RX4 19 "RopeTown$Reader" "start" "I") (wz_at 3 18 rfl)
  have h6w := hts (.fieldLink RX4 22 "RopeTown$Reader" "next" "I") (wz_at 3 19 rfl)
  refine lv_aload_n hx hb dX4_takeWord_0 rfl (lv_at hl 0 rfl) ?_
  refine lv_iconst (v := Int32.ofInt 1) hx hb dX4_takeWord_1 (by decide +kernel) ?_
  refine iv_put (ci := 3) (v := .int (Int32.ofInt (1))) (ty := .int) (C := RX4) (T := TX4) (N := 8) (ref := RX4) hx hb hts h1w tyX4 tyX4_ok nmX4 hown hX.1 hP hD hS 1 rfl rfl 4 (by decide) h0w (fun _ h9 => h9) rfl (by decide +kernel) rfl rfl (Nat.le_of_ble_eq_true rfl) (show _ = ((wR k arR (plR) (arY 0) (uF fiR 24 (1)) faR) ++ (wY k arY fiY faY)) from rfl) dX4_takeWord_2 (fun H locs hP hD hS => ?_)
  refine lv_iconst (v := Int32.ofInt 0) hx hb dX4_takeWord_5 (by decide +kernel) ?_
  refine lv_istore_n (lv' := [(1, .int (Int32.ofInt (0))), (0, .ref (arR 98))]) hx hb dX4_takeWord_6 rfl hl (by decide) rfl (fun ls hl => ?_)
  refine iv_loop (α := Int × Int) (nL := 5) (fun b9 => ((wR k arR (plR) (arY 0) (uF (uF fiR 24 (1)) 25 (b9.2)) faR) ++ (wY k arY fiY faY))) (fun b9 => [(1, .int (Int32.ofInt (b9.1))), (0, .ref (arR 98))]) (fun b9 => (24 - b9.1).toNat) (fun b9 => inR b9.1 ∧ inR b9.2 ∧ ((0 ≤ b9.1 ∧ b9.1 ≤ 24 ∧ 0 ≤ b9.2 ∧ b9.2 ≤ 23) ∧ b9.2 = cwB (uT (faY 0)) (fiR 21) (fiR 22) (b9.1 : Int).toNat)) ?_ (0, fiR 25) (show inR 0 ∧ inR (fiR 25) ∧ ((0 ≤ 0 ∧ 0 ≤ 24 ∧ 0 ≤ (fiR 25) ∧ (fiR 25) ≤ 23) ∧ (fiR 25) = cwB (uT (faY 0)) (fiR 21) (fiR 22) (0 : Int).toNat) from ⟨(by omega), (hRR 25), (by exact ⟨by omega, cw_i (by omega) rfl⟩)⟩) hP hD hS hl
  rintro ⟨x1_1, n25R_2⟩ ih hi9 H locs ls hP hD hS hl
  obtain ⟨r_x1_1, r_n25R_2, hinv⟩ : inR x1_1 ∧ inR n25R_2 ∧ ((0 ≤ x1_1 ∧ x1_1 ≤ 24 ∧ 0 ≤ n25R_2 ∧ n25R_2 ≤ 23) ∧ n25R_2 = cwB (uT (faY 0)) (fiR 21) (fiR 22) (x1_1 : Int).toNat) := hi9
  obtain ⟨hJ1, hWB⟩ := hinv
  obtain ⟨hP, hD⟩ : va_P G vwCl ((wR k arR (plR) (arY 0) (uF (uF fiR 24 (1)) 25 (n25R_2)) faR) ++ (wY k arY fiY faY)) H ∧ va_D A ((wR k arR (plR) (arY 0) (uF (uF fiR 24 (1)) 25 (n25R_2)) faR) ++ (wY k arY fiY faY)) := ⟨hP, hD⟩
  have hl : lv_has ls 5 [(1, .int (Int32.ofInt (x1_1))), (0, .ref (arR 98))] := hl
  refine lv_iload_n hx hb dX4_takeWord_7 rfl (lv_at hl 0 rfl) ?_
  refine va_gets (C := "RopeTown$Reader") (n := "WORDS") (d := "[LRopeTown$Word;") (ref := "RopeTown$Reader") (v := .ref (k 301)) hx hb (ez_words hZ) hS hown h2w (fun _ h9 => h9) dX4_takeWord_8 ?_
  refine va_tlen (v := Int32.ofInt 24) hx hb (ez_wordsT hZ) hS (by decide) dX4_takeWord_11 ?_
  refine iv_icmp_ge (tgt := 121) hx hb (by omega) (by omega) dX4_takeWord_12 (by decide) (fun q3 => ?_) (fun q3 => ?_)
  · exact W.vret hx hb hr (fun t ht hW => ⟨⟨(1, n25R_2), rfl, (show (inR 1) ∧ (inR n25R_2) ∧ ((0 ≤ n25R_2 ∧ n25R_2 ≤ 23 ∧ 1 = 1) ∧ n25R_2 = cw (uT (faY 0)) (fiR 21) (fiR 22)) from ⟨(by omega), (by omega), (by exact ⟨by omega, cw_x hWB (by omega) hkw.1⟩)⟩), by rw [ht]; exact hP, hD⟩, hS.F ht⟩) hS.2.2 dX4_takeWord_121
  · refine va_gets (C := "RopeTown$Reader") (n := "WORDS") (d := "[LRopeTown$Word;") (ref := "RopeTown$Reader") (v := .ref (k 301)) hx hb (ez_words hZ) hS hown h2w (fun _ h9 => h9) dX4_takeWord_15 ?_
    refine lv_iload_n hx hb dX4_takeWord_18 rfl (lv_at hl 0 rfl) ?_
    refine vb_tq (C := "RopeTown$Word") (v := .ref (k (400 + (x1_1).toNat))) hx hb (ez_wordsT hZ) hS (iz_in (by omega) (by omega) (by decide)) (by rw [iz_cl (by omega) (by omega)]) dX4_takeWord_19 ?_
    have w9 : (x1_1).toNat < 24 := by omega
    refine va_getXN (o := "RopeTown$Word") (n := "text") (d := "Ljava/lang/String;") (ref := "RopeTown$Word") (i := (x1_1).toNat) hx hb (ez_text hZ) w9 hS hown (nf_48 hX.2.2.1) (fun _ h9 => h9) dX4_takeWord_20 ?_
    refine lv_astore_n (lv' := [(2, .ref (k (111 + (23 + (x1_1).toNat)))), (1, .int (Int32.ofInt (x1_1))), (0, .ref (arR 98))]) hx hb dX4_takeWord_23 rfl hl (by decide) rfl (fun ls hl => ?_)
    refine iv_join (G := G) (A := A) (H0 := s.heap) (α := Int) (nL := 5) 45 (fun b9 => [.int (Int32.ofInt (b9))]) (fun b9 => ((wR k arR (plR) (arY 0) (uF (uF fiR 24 (1)) 25 (n25R_2)) faR) ++ (wY k arY fiY faY))) (fun b9 => [(2, .ref (k (111 + (23 + (x1_1).toNat)))), (1, .int (Int32.ofInt (x1_1))), (0, .ref (arR 98))]) (fun b9 => inR b9 ∧ (b9 = 1 ∧ ((lenS.getD (23 + (x1_1).toNat) 0 : Nat) : Int) = fiR 23 - fiR 22 ∨ b9 = 0 ∧ ¬ ((lenS.getD (23 + (x1_1).toNat) 0 : Nat) : Int) = fiR 23 - fiR 22)) ?_ (fun J45 => ?_)
    · intro s0_4 hi9 H locs ls hP hD hS hl
      obtain ⟨r_s0_4, hinv⟩ : inR s0_4 ∧ (s0_4 = 1 ∧ ((lenS.getD (23 + (x1_1).toNat) 0 : Nat) : Int) = fiR 23 - fiR 22 ∨ s0_4 = 0 ∧ ¬ ((lenS.getD (23 + (x1_1).toNat) 0 : Nat) : Int) = fiR 23 - fiR 22) := hi9
      obtain ⟨hP, hD⟩ : va_P G vwCl ((wR k arR (plR) (arY 0) (uF (uF fiR 24 (1)) 25 (n25R_2)) faR) ++ (wY k arY fiY faY)) H ∧ va_D A ((wR k arR (plR) (arY 0) (uF (uF fiR 24 (1)) 25 (n25R_2)) faR) ++ (wY k arY fiY faY)) := ⟨hP, hD⟩
      have hl : lv_has ls 5 [(2, .ref (k (111 + (23 + (x1_1).toNat)))), (1, .int (Int32.ofInt (x1_1))), (0, .ref (arR 98))] := hl
      refine lv_istore_n (lv' := [(3, .int (Int32.ofInt (s0_4))), (2, .ref (k (111 + (23 + (x1_1).toNat)))), (1, .int (Int32.ofInt (x1_1))), (0, .ref (arR 98))]) hx hb dX4_takeWord_45 rfl hl (by decide) rfl (fun ls hl => ?_)
      refine lv_iconst (v := Int32.ofInt 0) hx hb dX4_takeWord_46 (by decide +kernel) ?_
      refine lv_istore (lv' := [(4, .int (Int32.ofInt (0))), (3, .int (Int32.ofInt (s0_4))), (2, .ref (k (111 + (23 + (x1_1).toNat)))), (1, .int (Int32.ofInt (x1_1))), (0, .ref (arR 98))]) hx hb dX4_takeWord_47 hl (by decide) rfl (fun ls hl => ?_)
      refine iv_loop (α := Int × Int) (nL := 5) (fun b9 => ((wR k arR (plR) (arY 0) (uF (uF fiR 24 (1)) 25 (n25R_2)) faR) ++ (wY k arY fiY faY))) (fun b9 => [(4, .int (Int32.ofInt (b9.1))), (3, .int (Int32.ofInt (b9.2))), (2, .ref (k (111 + (23 + (x1_1).toNat)))), (1, .int (Int32.ofInt (x1_1))), (0, .ref (arR 98))]) (fun b9 => (((lenS.getD (23 + (x1_1).toNat) 0 : Nat) : Int) + 1 - b9.1).toNat) (fun b9 => inR b9.1 ∧ inR b9.2 ∧ ((0 ≤ b9.1 ∧ (b9.2 = 0 ∨ b9.2 = 1 ∧ ((lenS.getD (23 + (x1_1).toNat) 0 : Nat) : Int) = fiR 23 - fiR 22)) ∧ WI (uT (faY 0)) (fiR 21) 0 (fiR 22) (23 + (x1_1).toNat) b9.2 b9.1)) ?_ (0, s0_4) (show inR 0 ∧ inR s0_4 ∧ ((0 ≤ 0 ∧ (s0_4 = 0 ∨ s0_4 = 1 ∧ ((lenS.getD (23 + (x1_1).toNat) 0 : Nat) : Int) = fiR 23 - fiR 22)) ∧ WI (uT (faY 0)) (fiR 21) 0 (fiR 22) (23 + (x1_1).toNat) s0_4 0) from ⟨(by omega), (by omega), (by exact ⟨by omega, wc_i hkw.1 hkw.2 (by omega) rfl⟩)⟩) hP hD hS hl
      rintro ⟨x4_5, x3_6⟩ ih49 hi9 H locs ls hP hD hS hl
      obtain ⟨r_x4_5, r_x3_6, hinv⟩ : inR x4_5 ∧ inR x3_6 ∧ ((0 ≤ x4_5 ∧ (x3_6 = 0 ∨ x3_6 = 1 ∧ ((lenS.getD (23 + (x1_1).toNat) 0 : Nat) : Int) = fiR 23 - fiR 22)) ∧ WI (uT (faY 0)) (fiR 21) 0 (fiR 22) (23 + (x1_1).toNat) x3_6 x4_5) := hi9
      obtain ⟨hJ2, hWI⟩ := hinv
      obtain ⟨hP, hD⟩ : va_P G vwCl ((wR k arR (plR) (arY 0) (uF (uF fiR 24 (1)) 25 (n25R_2)) faR) ++ (wY k arY fiY faY)) H ∧ va_D A ((wR k arR (plR) (arY 0) (uF (uF fiR 24 (1)) 25 (n25R_2)) faR) ++ (wY k arY fiY faY)) := ⟨hP, hD⟩
      have hl : lv_has ls 5 [(4, .int (Int32.ofInt (x4_5))), (3, .int (Int32.ofInt (x3_6))), (2, .ref (k (111 + (23 + (x1_1).toNat)))), (1, .int (Int32.ofInt (x1_1))), (0, .ref (arR 98))] := hl
      refine lv_iload_n hx hb dX4_takeWord_49 rfl (lv_at hl 1 rfl) ?_
      refine iv_if_eq (tgt := 95) hx hb (by omega) dX4_takeWord_50 (by decide) (fun q7 => ?_) (fun q7 => ?_)
      · have hWE := wi_end hWI (by omega)
        refine lv_aload_n hx hb dX4_takeWord_95 rfl (lv_at hl 4 rfl) ?_
        refine lv_iload_n hx hb dX4_takeWord_96 rfl (lv_at hl 1 rfl) ?_
        refine iv_if_eq (tgt := 108) hx hb (by omega) dX4_takeWord_97 (by decide) (fun q8 => ?_) (fun q8 => ?_)
        · refine lv_aload_n hx hb dX4_takeWord_108 rfl (lv_at hl 4 rfl) ?_
          refine va_get (D := G) (ci := 3) (v := .ref (k (400 + (n25R_2).toNat))) (C := RX4) (T := TX4) (N := 8) (ref := RX4) hx hb hts h1w hown hX.1 hP 1 rfl rfl 5 (by decide) h3w (fun _ h9 => h9) rfl dX4_takeWord_109 ?_
          refine iv_put (ci := 3) (v := .ref (k (400 + (n25R_2).toNat))) (ty := .object "RopeTown$Word") (C := RX4) (T := TX4) (N := 8) (ref := RX4) hx hb hts h1w tyX4 tyX4_ok nmX4 hown hX.1 hP hD hS 1 rfl rfl 5 (by decide) h3w (fun _ h9 => h9) rfl (by decide +kernel) rfl rfl (Nat.le_of_ble_eq_true rfl) (show _ = ((wR k arR (plR) (arY 0) (uF (uF fiR 24 (1)) 25 (n25R_2)) faR) ++ (wY k arY fiY faY)) from rfl) dX4_takeWord_112 (fun H locs hP hD hS => ?_)
          refine lv_iinc (v := Int32.ofInt (x1_1 + 1)) (lv' := [(1, .int (Int32.ofInt ((x1_1 + 1)))), (4, .int (Int32.ofInt (x4_5))), (3, .int (Int32.ofInt (x3_6))), (2, .ref (k (111 + (23 + (x1_1).toNat)))), (0, .ref (arR 98))]) hx hb dX4_takeWord_115 hl (k := 3) rfl (Int32.ofInt_add _ _).symm (by decide) rfl (fun ls hl => ?_)
          refine lv_goto (tgt := 7) hx hb dX4_takeWord_118 (by decide) ?_
          have hl : lv_has ls 5 [(1, .int (Int32.ofInt ((x1_1 + 1)))), (0, .ref (arR 98))] := lv_sub hl [0, 4] rfl
          exact ih ((x1_1 + 1), n25R_2) (show (24 - (x1_1 + 1)).toNat < (24 - x1_1).toNat from by omega) (show inR (x1_1 + 1) ∧ inR n25R_2 ∧ ((0 ≤ (x1_1 + 1) ∧ (x1_1 + 1) ≤ 24 ∧ 0 ≤ n25R_2 ∧ n25R_2 ≤ 23) ∧ n25R_2 = cwB (uT (faY 0)) (fiR 21) (fiR 22) ((x1_1 + 1) : Int).toNat) from ⟨(by omega), (by omega), (by first | exact ⟨by omega, cw_y hWE (by omega) (by omega)⟩ | exact ⟨by omega, cw_n hWE (by omega) hWB (by omega)⟩)⟩) _ _ _ hP hD hS hl
        · refine va_gets (C := "RopeTown$Reader") (n := "WORDS") (d := "[LRopeTown$Word;") (ref := "RopeTown$Reader") (v := .ref (k 301)) hx hb (ez_words hZ) hS hown h2w (fun _ h9 => h9) dX4_takeWord_100 ?_
          refine lv_iload_n hx hb dX4_takeWord_103 rfl (lv_at hl 3 rfl) ?_
          refine vb_tq (C := "RopeTown$Word") (v := .ref (k (400 + (x1_1).toNat))) hx hb (ez_wordsT hZ) hS (iz_in (by omega) (by omega) (by decide)) (by rw [iz_cl (by omega) (by omega)]) dX4_takeWord_104 ?_
          refine lv_goto (tgt := 112) hx hb dX4_takeWord_105 (by decide) ?_
          refine iv_put (ci := 3) (v := .ref (k (400 + (x1_1).toNat))) (ty := .object "RopeTown$Word") (C := RX4) (T := TX4) (N := 8) (ref := RX4) hx hb hts h1w tyX4 tyX4_ok nmX4 hown hX.1 hP hD hS 1 rfl rfl 5 (by decide) h3w (fun _ h9 => h9) rfl (by decide +kernel) rfl rfl (Nat.le_of_ble_eq_true rfl) (show _ = ((wR k arR (plR) (arY 0) (uF (uF fiR 24 (1)) 25 (x1_1)) faR) ++ (wY k arY fiY faY)) from rfl) dX4_takeWord_112 (fun H locs hP hD hS => ?_)
          refine lv_iinc (v := Int32.ofInt (x1_1 + 1)) (lv' := [(1, .int (Int32.ofInt ((x1_1 + 1)))), (4, .int (Int32.ofInt (x4_5))), (3, .int (Int32.ofInt (x3_6))), (2, .ref (k (111 + (23 + (x1_1).toNat)))), (0, .ref (arR 98))]) hx hb dX4_takeWord_115 hl (k := 3) rfl (Int32.ofInt_add _ _).symm (by decide) rfl (fun ls hl => ?_)
          refine lv_goto (tgt := 7) hx hb dX4_takeWord_118 (by decide) ?_
          have hl : lv_has ls 5 [(1, .int (Int32.ofInt ((x1_1 + 1)))), (0, .ref (arR 98))] := lv_sub hl [0, 4] rfl
          exact ih ((x1_1 + 1), x1_1) (show (24 - (x1_1 + 1)).toNat < (24 - x1_1).toNat from by omega) (show inR (x1_1 + 1) ∧ inR x1_1 ∧ ((0 ≤ (x1_1 + 1) ∧ (x1_1 + 1) ≤ 24 ∧ 0 ≤ x1_1 ∧ x1_1 ≤ 23) ∧ x1_1 = cwB (uT (faY 0)) (fiR 21) (fiR 22) ((x1_1 + 1) : Int).toNat) from ⟨(by omega), (by omega), (by first | exact ⟨by omega, cw_y hWE (by omega) (by omega)⟩ | exact ⟨by omega, cw_n hWE (by omega) hWB (by omega)⟩)⟩) _ _ _ hP hD hS hl
      · refine lv_iload hx hb dX4_takeWord_53 (lv_at hl 0 rfl) ?_
        refine lv_aload_n hx hb dX4_takeWord_55 rfl (lv_at hl 2 rfl) ?_
        refine c0_i (va_runV (As := []) (rest := [.int (Int32.ofInt (x4_5))]) ⟨hx, hb, hml, hown, hts⟩ (mJ0_length_8abf5 l G k (23 + (x1_1).toNat) H.size (show 23 + (x1_1).toNat < 47 from by omega)) (cwV 0 hts (gz [.methodLink RX4 69 yJ0_length_8abf5, .instanceMethod yJ0_length_8abf5, .selects RJ0 yJ0_length_8abf5 yJ0_length_8abf5, .initialized RJ0] (.code yJ0_length_8abf5 cJ0_length_8abf5 1 (some .int)) [(10, 0), (10, 1), (10, 2), (10, 3), (10, 4)] rfl) rfl rfl rfl (by decide +kernel) ⟨Nat.le_of_ble_eq_true rfl, Nat.le_of_ble_eq_true rfl⟩) (cs_preV hZ hS hX hP hD hA (ez_str hZ (i := (23 + (x1_1).toNat)) (by omega)).1) rfl rfl hl.1 rfl (lv_room (Nat.le_of_ble_eq_true rfl)) dX4_takeWord_56 ⟨Nat.le_of_ble_eq_true rfl, Nat.le_of_ble_eq_true rfl⟩) hP hD hS hA (fun r u H locs hp hP hD hS => ?_)
        obtain ⟨c9, rfl⟩ : ∃ z, z = u := ⟨_, rfl⟩
        obtain ⟨h9, rc9, hp9⟩ : r = Int32.ofInt c9 ∧ (inR c9) ∧ (c9 = ((lenS.getD (23 + (x1_1).toNat) 0 : Nat) : Int)) := hp
        subst h9
        refine iv_icmp_ge (tgt := 95) hx hb (by omega) (by omega) dX4_takeWord_59 (by decide) (fun q10 => ?_) (fun q10 => ?_)
        · have hWE := wi_end hWI (by omega)
          refine lv_aload_n hx hb dX4_takeWord_95 rfl (lv_at hl 4 rfl) ?_
          refine lv_iload_n hx hb dX4_takeWord_96 rfl (lv_at hl 1 rfl) ?_
          refine iv_if_eq (tgt := 108) hx hb (by omega) dX4_takeWord_97 (by decide) (fun q11 => ?_) (fun q11 => ?_)
          · refine lv_aload_n hx hb dX4_takeWord_108 rfl (lv_at hl 4 rfl) ?_
            refine va_get (D := G) (ci := 3) (v := .ref (k (400 + (n25R_2).toNat))) (C := RX4) (T := TX4) (N := 8) (ref := RX4) hx hb hts h1w hown hX.1 hP 1 rfl rfl 5 (by decide) h3w (fun _ h9 => h9) rfl dX4_takeWord_109 ?_
            refine iv_put (ci := 3) (v := .ref (k (400 + (n25R_2).toNat))) (ty := .object "RopeTown$Word") (C := RX4) (T := TX4) (N := 8) (ref := RX4) hx hb hts h1w tyX4 tyX4_ok nmX4 hown hX.1 hP hD hS 1 rfl rfl 5 (by decide) h3w (fun _ h9 => h9) rfl (by decide +kernel) rfl rfl (Nat.le_of_ble_eq_true rfl) (show _ = ((wR k arR (plR) (arY 0) (uF (uF fiR 24 (1)) 25 (n25R_2)) faR) ++ (wY k arY fiY faY)) from rfl) dX4_takeWord_112 (fun H locs hP hD hS => ?_)
            refine lv_iinc (v := Int32.ofInt (x1_1 + 1)) (lv' := [(1, .int (Int32.ofInt ((x1_1 + 1)))), (4, .int (Int32.ofInt (x4_5))), (3, .int (Int32.ofInt (x3_6))), (2, .ref (k (111 + (23 + (x1_1).toNat)))), (0, .ref (arR 98))]) hx hb dX4_takeWord_115 hl (k := 3) rfl (Int32.ofInt_add _ _).symm (by decide) rfl (fun ls hl => ?_)
            refine lv_goto (tgt := 7) hx hb dX4_takeWord_118 (by decide) ?_
            have hl : lv_has ls 5 [(1, .int (Int32.ofInt ((x1_1 + 1)))), (0, .ref (arR 98))] := lv_sub hl [0, 4] rfl
            exact ih ((x1_1 + 1), n25R_2) (show (24 - (x1_1 + 1)).toNat < (24 - x1_1).toNat from by omega) (show inR (x1_1 + 1) ∧ inR n25R_2 ∧ ((0 ≤ (x1_1 + 1) ∧ (x1_1 + 1) ≤ 24 ∧ 0 ≤ n25R_2 ∧ n25R_2 ≤ 23) ∧ n25R_2 = cwB (uT (faY 0)) (fiR 21) (fiR 22) ((x1_1 + 1) : Int).toNat) from ⟨(by omega), (by omega), (by first | exact ⟨by omega, cw_y hWE (by omega) (by omega)⟩ | exact ⟨by omega, cw_n hWE (by omega) hWB (by omega)⟩)⟩) _ _ _ hP hD hS hl
          · refine va_gets (C := "RopeTown$Reader") (n := "WORDS") (d := "[LRopeTown$Word;") (ref := "RopeTown$Reader") (v := .ref (k 301)) hx hb (ez_words hZ) hS hown h2w (fun _ h9 => h9) dX4_takeWord_100 ?_
            refine lv_iload_n hx hb dX4_takeWord_103 rfl (lv_at hl 3 rfl) ?_
            refine vb_tq (C := "RopeTown$Word") (v := .ref (k (400 + (x1_1).toNat))) hx hb (ez_wordsT hZ) hS (iz_in (by omega) (by omega) (by decide)) (by rw [iz_cl (by omega) (by omega)]) dX4_takeWord_104 ?_
            refine lv_goto (tgt := 112) hx hb dX4_takeWord_105 (by decide) ?_
            refine iv_put (ci := 3) (v := .ref (k (400 + (x1_1).toNat))) (ty := .object "RopeTown$Word") (C := RX4) (T := TX4) (N := 8) (ref := RX4) hx hb hts h1w tyX4 tyX4_ok nmX4 hown hX.1 hP hD hS 1 rfl rfl 5 (by decide) h3w (fun _ h9 => h9) rfl (by decide +kernel) rfl rfl (Nat.le_of_ble_eq_true rfl) (show _ = ((wR k arR (plR) (arY 0) (uF (uF fiR 24 (1)) 25 (x1_1)) faR) ++ (wY k arY fiY faY)) from rfl) dX4_takeWord_112 (fun H locs hP hD hS => ?_)
            refine lv_iinc (v := Int32.ofInt (x1_1 + 1)) (lv' := [(1, .int (Int32.ofInt ((x1_1 + 1)))), (4, .int (Int32.ofInt (x4_5))), (3, .int (Int32.ofInt (x3_6))), (2, .ref (k (111 + (23 + (x1_1).toNat)))), (0, .ref (arR 98))]) hx hb dX4_takeWord_115 hl (k := 3) rfl (Int32.ofInt_add _ _).symm (by decide) rfl (fun ls hl => ?_)
            refine lv_goto (tgt := 7) hx hb dX4_takeWord_118 (by decide) ?_
            have hl : lv_has ls 5 [(1, .int (Int32.ofInt ((x1_1 + 1)))), (0, .ref (arR 98))] := lv_sub hl [0, 4] rfl
            exact ih ((x1_1 + 1), x1_1) (show (24 - (x1_1 + 1)).toNat < (24 - x1_1).toNat from by omega) (show inR (x1_1 + 1) ∧ inR x1_1 ∧ ((0 ≤ (x1_1 + 1) ∧ (x1_1 + 1) ≤ 24 ∧ 0 ≤ x1_1 ∧ x1_1 ≤ 23) ∧ x1_1 = cwB (uT (faY 0)) (fiR 21) (fiR 22) ((x1_1 + 1) : Int).toNat) from ⟨(by omega), (by omega), (by first | exact ⟨by omega, cw_y hWE (by omega) (by omega)⟩ | exact ⟨by omega, cw_n hWE (by omega) hWB (by omega)⟩)⟩) _ _ _ hP hD hS hl
        · refine lv_aload_n hx hb dX4_takeWord_62 rfl (lv_at hl 4 rfl) ?_
          refine va_get (D := G) (ci := 3) (v := .ref (arY 0)) (C := RX4) (T := TX4) (N := 8) (ref := RX4) hx hb hts h1w hown hX.1 hP 1 rfl rfl 0 (by decide) h4w (fun _ h9 => h9) rfl dX4_takeWord_63 ?_
          refine lv_aload_n hx hb dX4_takeWord_66 rfl (lv_at hl 4 rfl) ?_
          refine va_get (D := G) (ci := 3) (v := .int (Int32.ofInt (fiR 22))) (C := RX4) (T := TX4) (N := 8) (ref := RX4) hx hb hts h1w hown hX.1 hP 1 rfl rfl 2 (by decide) h5w (fun _ h9 => h9) rfl dX4_takeWord_67 ?_
          have rf22R := hRR 22
          refine lv_iload hx hb dX4_takeWord_70 (lv_at hl 0 rfl) ?_
          refine iv_add (x := fiR 22) (y := x4_5) hx hb dX4_takeWord_72 ?_
          refine iv_bald hx hb hX.1 hP 2 1 rfl rfl (by omega) (by omega) (by decide) dX4_takeWord_73 ?_
          refine iv_top (fun z12 ez12 => ?_)
          have rz12 : inR z12 := ez12 ▸ (hRaY 0) _
          have ez12 : z12 = (faY 0) (fiR 22 + x4_5) := ez12
          have bz12 : (-128) ≤ z12 ∧ z12 < 128 := by rw [ez12]; exact bnd_at hB0Y (by omega) (by omega)
          have hz7 := ez12
          have hb7 := bz12
          refine lv_aload_n hx hb dX4_takeWord_74 rfl (lv_at hl 2 rfl) ?_
          refine lv_iload hx hb dX4_takeWord_75 (lv_at hl 0 rfl) ?_
          refine c0_i (va_runV (As := [.int (Int32.ofInt (x4_5))]) (rest := [.int (Int32.ofInt (z12))]) ⟨hx, hb, hml, hown, hts⟩ (mJ0_charAt_5068e l G k (23 + (x1_1).toNat) x4_5 H.size (show 23 + (x1_1).toNat < 47 from by omega) (by omega) (show 0 ≤ x4_5 ∧ x4_5 < ((lenS.getD (23 + (x1_1).toNat) 0 : Nat) : Int) from by omega)) (cwV 1 hts (gz [.methodLink RX4 74 yJ0_charAt_5068e, .instanceMethod yJ0_charAt_5068e, .selects RJ0 yJ0_charAt_5068e yJ0_charAt_5068e, .initialized RJ0] (.code yJ0_charAt_5068e cJ0_charAt_5068e 2 (some .char)) [(10, 12), (10, 13), (10, 14), (10, 3), (10, 15)] rfl) rfl rfl rfl (by decide +kernel) ⟨Nat.le_of_ble_eq_true rfl, Nat.le_of_ble_eq_true rfl⟩) (cs_preV hZ hS hX hP hD hA (ez_str hZ (i := (23 + (x1_1).toNat)) (by omega)).1) rfl rfl hl.1 rfl (lv_room (Nat.le_of_ble_eq_true rfl)) dX4_takeWord_77 ⟨Nat.le_of_ble_eq_true rfl, Nat.le_of_ble_eq_true rfl⟩) hP hD hS hA (fun r u H locs hp hP hD hS => ?_)
          obtain ⟨c13, rfl⟩ : ∃ z, z = u := ⟨_, rfl⟩
          obtain ⟨h9, rc13, hp13⟩ : r = Int32.ofInt c13 ∧ (inR c13) ∧ (c13 = bChar (bAnd (chZ (23 + (x1_1).toNat) (x4_5).toNat) 255) ∧ 0 ≤ c13 ∧ c13 < 65536) := hp
          subst h9
          have hC := hp13.1
          refine iv_icmp_ne (tgt := 87) hx hb (by omega) (by omega) dX4_takeWord_80 (by decide) (fun q14 => ?_) (fun q14 => ?_)
          · refine lv_iconst (v := Int32.ofInt 0) hx hb dX4_takeWord_87 (by decide +kernel) ?_
            refine lv_istore_n (lv' := [(3, .int (Int32.ofInt (0))), (4, .int (Int32.ofInt (x4_5))), (2, .ref (k (111 + (23 + (x1_1).toNat)))), (1, .int (Int32.ofInt (x1_1))), (0, .ref (arR 98))]) hx hb dX4_takeWord_88 rfl hl (by decide) rfl (fun ls hl => ?_)
            refine lv_iinc (v := Int32.ofInt (x4_5 + 1)) (lv' := [(4, .int (Int32.ofInt ((x4_5 + 1)))), (3, .int (Int32.ofInt (0))), (2, .ref (k (111 + (23 + (x1_1).toNat)))), (1, .int (Int32.ofInt (x1_1))), (0, .ref (arR 98))]) hx hb dX4_takeWord_89 hl (k := 1) rfl (Int32.ofInt_add _ _).symm (by decide) rfl (fun ls hl => ?_)
            refine lv_goto (tgt := 49) hx hb dX4_takeWord_92 (by decide) ?_
            have hl : lv_has ls 5 [(4, .int (Int32.ofInt ((x4_5 + 1)))), (3, .int (Int32.ofInt (0))), (2, .ref (k (111 + (23 + (x1_1).toNat)))), (1, .int (Int32.ofInt (x1_1))), (0, .ref (arR 98))] := lv_sub hl [0, 1, 2, 3, 4] rfl
            exact ih49 ((x4_5 + 1), 0) (show (((lenS.getD (23 + (x1_1).toNat) 0 : Nat) : Int) + 1 - (x4_5 + 1)).toNat < (((lenS.getD (23 + (x1_1).toNat) 0 : Nat) : Int) + 1 - x4_5).toNat from by omega) (show inR (x4_5 + 1) ∧ inR 0 ∧ ((0 ≤ (x4_5 + 1) ∧ (0 = 0 ∨ 0 = 1 ∧ ((lenS.getD (23 + (x1_1).toNat) 0 : Nat) : Int) = fiR 23 - fiR 22)) ∧ WI (uT (faY 0)) (fiR 21) 0 (fiR 22) (23 + (x1_1).toNat) 0 (x4_5 + 1)) from ⟨(by omega), (by omega), (by first | exact ⟨by omega, wc_s (by omega) hWI (by omega) (by omega) (by omega) hC hz7 hb7 (by omega) rfl⟩)⟩) _ _ _ hP hD hS hl
          · refine lv_iconst (v := Int32.ofInt 1) hx hb dX4_takeWord_83 (by decide +kernel) ?_
            refine lv_goto (tgt := 88) hx hb dX4_takeWord_84 (by decide) ?_
            refine lv_istore_n (lv' := [(3, .int (Int32.ofInt (1))), (4, .int (Int32.ofInt (x4_5))), (2, .ref (k (111 + (23 + (x1_1).toNat)))), (1, .int (Int32.ofInt (x1_1))), (0, .ref (arR 98))]) hx hb dX4_takeWord_88 rfl hl (by decide) rfl (fun ls hl => ?_)
            refine lv_iinc (v := Int32.ofInt (x4_5 + 1)) (lv' := [(4, .int (Int32.ofInt ((x4_5 + 1)))), (3, .int (Int32.ofInt (1))), (2, .ref (k (111 + (23 + (x1_1).toNat)))), (1, .int (Int32.ofInt (x1_1))), (0, .ref (arR 98))]) hx hb dX4_takeWord_89 hl (k := 1) rfl (Int32.ofInt_add _ _).symm (by decide) rfl (fun ls hl => ?_)
            refine lv_goto (tgt := 49) hx hb dX4_takeWord_92 (by decide) ?_
            have hl : lv_has ls 5 [(4, .int (Int32.ofInt ((x4_5 + 1)))), (3, .int (Int32.ofInt (1))), (2, .ref (k (111 + (23 + (x1_1).toNat)))), (1, .int (Int32.ofInt (x1_1))), (0, .ref (arR 98))] := lv_sub hl [0, 1, 2, 3, 4] rfl
            exact ih49 ((x4_5 + 1), 1) (show (((lenS.getD (23 + (x1_1).toNat) 0 : Nat) : Int) + 1 - (x4_5 + 1)).toNat < (((lenS.getD (23 + (x1_1).toNat) 0 : Nat) : Int) + 1 - x4_5).toNat from by omega) (show inR (x4_5 + 1) ∧ inR 1 ∧ ((0 ≤ (x4_5 + 1) ∧ (1 = 0 ∨ 1 = 1 ∧ ((lenS.getD (23 + (x1_1).toNat) 0 : Nat) : Int) = fiR 23 - fiR 22)) ∧ WI (uT (faY 0)) (fiR 21) 0 (fiR 22) (23 + (x1_1).toNat) 1 (x4_5 + 1)) from ⟨(by omega), (by omega), (by first | exact ⟨by omega, wc_s (by omega) hWI (by omega) (by omega) (by omega) hC hz7 hb7 (by omega) rfl⟩)⟩) _ _ _ hP hD hS hl
    · refine lv_aload_n hx hb dX4_takeWord_24 rfl (lv_at hl 0 rfl) ?_
      refine c0_i (va_runV (As := []) (rest := []) ⟨hx, hb, hml, hown, hts⟩ (mJ0_length_8abf5 l G k (23 + (x1_1).toNat) H.size (show 23 + (x1_1).toNat < 47 from by omega)) (cwV 0 hts (gz [.methodLink RX4 69 yJ0_length_8abf5, .instanceMethod yJ0_length_8abf5, .selects RJ0 yJ0_length_8abf5 yJ0_length_8abf5, .initialized RJ0] (.code yJ0_length_8abf5 cJ0_length_8abf5 1 (some .int)) [(10, 0), (10, 1), (10, 2), (10, 3), (10, 4)] rfl) rfl rfl rfl (by decide +kernel) ⟨Nat.le_of_ble_eq_true rfl, Nat.le_of_ble_eq_true rfl⟩) (cs_preV hZ hS hX hP hD hA (ez_str hZ (i := (23 + (x1_1).toNat)) (by omega)).1) rfl rfl hl.1 rfl (lv_room (Nat.le_of_ble_eq_true rfl)) dX4_takeWord_25 ⟨Nat.le_of_ble_eq_true rfl, Nat.le_of_ble_eq_true rfl⟩) hP hD hS hA (fun r u H locs hp hP hD hS => ?_)
      obtain ⟨c15, rfl⟩ : ∃ z, z = u := ⟨_, rfl⟩
      obtain ⟨h9, rc15, hp15⟩ : r = Int32.ofInt c15 ∧ (inR c15) ∧ (c15 = ((lenS.getD (23 + (x1_1).toNat) 0 : Nat) : Int)) := hp
      subst h9
      refine lv_aload_n hx hb dX4_takeWord_28 rfl (lv_at hl 2 rfl) ?_
      refine va_get (D := G) (ci := 3) (v := .int (Int32.ofInt (fiR 23))) (C := RX4) (T := TX4) (N := 8) (ref := RX4) hx hb hts h1w hown hX.1 hP 1 rfl rfl 3 (by decide) h6w (fun _ h9 => h9) rfl dX4_takeWord_29 ?_
      have rf23R := hRR 23
      refine lv_aload_n hx hb dX4_takeWord_32 rfl (lv_at hl 2 rfl) ?_
      refine va_get (D := G) (ci := 3) (v := .int (Int32.ofInt (fiR 22))) (C := RX4) (T := TX4) (N := 8) (ref := RX4) hx hb hts h1w hown hX.1 hP 1 rfl rfl 2 (by decide) h5w (fun _ h9 => h9) rfl dX4_takeWord_33 ?_
      have rf22R := hRR 22
      refine iv_sub (x := fiR 23) (y := fiR 22) hx hb dX4_takeWord_36 ?_
      refine iv_icmp_ne (tgt := 44) hx hb (by omega) (by omega) dX4_takeWord_37 (by decide) (fun q16 => ?_) (fun q16 => ?_)
      · refine lv_iconst (v := Int32.ofInt 0) hx hb dX4_takeWord_44 (by decide +kernel) ?_
        have hl : lv_has ls 5 [(2, .ref (k (111 + (23 + (x1_1).toNat)))), (1, .int (Int32.ofInt (x1_1))), (0, .ref (arR 98))] := lv_sub hl [0, 1, 2] rfl
        exact J45 (0) (show inR 0 ∧ (0 = 1 ∧ ((lenS.getD (23 + (x1_1).toNat) 0 : Nat) : Int) = fiR 23 - fiR 22 ∨ 0 = 0 ∧ ¬ ((lenS.getD (23 + (x1_1).toNat) 0 : Nat) : Int) = fiR 23 - fiR 22) from ⟨(by omega), (by omega)⟩) _ _ _ hP hD hS hl
      · refine lv_iconst (v := Int32.ofInt 1) hx hb dX4_takeWord_40 (by decide +kernel) ?_
        refine lv_goto (tgt := 45) hx hb dX4_takeWord_41 (by decide) ?_
        have hl : lv_has ls 5 [(2, .ref (k (111 + (23 + (x1_1).toNat)))), (1, .int (Int32.ofInt (x1_1))), (0, .ref (arR 98))] := lv_sub hl [0, 1, 2] rfl
        exact J45 (1) (show inR 1 ∧ (1 = 1 ∧ ((lenS.getD (23 + (x1_1).toNat) 0 : Nat) : Int) = fiR 23 - fiR 22 ∨ 1 = 0 ∧ ¬ ((lenS.getD (23 + (x1_1).toNat) 0 : Nat) : Int) = fiR 23 - fiR 22) from ⟨(by omega), (by omega)⟩) _ _ _ hP hD hS hl

