set_option maxHeartbeats 4000000 in
set_option maxRecDepth 100000 in
theorem mX2_expression_6 (l : Launch) (G : va_G) (k : Nat → ClassId) (arR : Nat → Nat) (fiR : Nat → Int) (faR : Nat → Int → Int) (arY : Nat → Nat) (fiY : Nat → Int) (faY : Nat → Int → Int) (arP : Nat → Nat) (fiP : Nat → Int) (faP : Nat → Int → Int) (mm : Nat) (sz : Nat) (hRR : ∀ j, inR (fiR j)) (hRaR : ∀ j t, inR (faR j t)) (hRY : ∀ j, inR (fiY j)) (hRaY : ∀ j t, inR (faY j t)) (hB0Y : bnd (faY 0) 600 (-128) 128) (hRP : ∀ j, inR (fiP j)) (hRaP : ∀ j t, inR (faP j t)) (hB8P : bnd (faP 8) 7 0 4) (hB20P : bnd (faP 20) 600 (-1000) 10000) (hB21P : bnd (faP 21) 4 0 601) (hrq : 0 ≤ fiR 23 ∧ fiR 23 ≤ fiR 21 ∧ 0 ≤ fiR 22 ∧ fiR 22 ≤ fiR 21 ∧ 0 ≤ fiR 25 ∧ fiR 25 ≤ 23 ∧ fiR 21 ≤ 600) (hpi : 0 ≤ fiP 7 ∧ fiP 7 ≤ 7 ∧ 0 ≤ fiP 0 ∧ fiP 0 ≤ 11 ∧ 0 ≤ fiP 24 ∧ fiP 24 ≤ 4 ∧ 0 ≤ fiP 23 ∧ fiP 23 ≤ 600) (hty : CT (uT (faY 0)) (fiR 21) (fiR 3) (fiR 22) (fiR 23) (fiR 24) (fiR 25) (fiR 26) (fiR 27)) (hmm : ((mm : Nat) : Int) + 6 = 6) : CNv l G k (EZ k) yX2_expression wzX2_expression ({ frames := 2, cells := 0, slots := 0, locals := 41 }) [.ref (arR 99), .int (Int32.ofInt (6))] sz ((wR k arR (arP 99) (arY 0) fiR faR) ++ ((wY k arY fiY faY) ++ (wP k arP fiP faP))) (fun (u : Int × Int × Int × Int × Int × Int × Int) => (inR u.1) ∧ (inR u.2.1) ∧ (inR u.2.2.1) ∧ (inR u.2.2.2.1) ∧ (inR u.2.2.2.2.1) ∧ (inR u.2.2.2.2.2.1) ∧ (inR u.2.2.2.2.2.2) ∧ ((0 ≤ u.2.2.2.1 ∧ u.2.2.2.1 ≤ fiR 21 ∧ 0 ≤ u.2.2.1 ∧ u.2.2.1 ≤ fiR 21 ∧ 0 ≤ u.2.2.2.2.2.1 ∧ u.2.2.2.2.2.1 ≤ 23 ∧ 0 ≤ (fiP 7) ∧ (fiP 7) ≤ 7 ∧ 0 ≤ (fiP 0) ∧ (fiP 0) ≤ 11 ∧ 0 ≤ (fiP 24) ∧ (fiP 24) ≤ 4 ∧ 0 ≤ (fiP 23) ∧ (fiP 23) ≤ 600 ∧ (u.1 = 0 → fiR 3 = 0 ∧ u.2.1 = fiR 4) ∧ (fiP 0) = fiP 0 ∧ (fiP 7) = fiP 7 ∧ (fiP 24) = fiP 24 ∧ (fiR 2) = fiR 2) ∧ CT (uT (faY 0)) (fiR 21) u.1 u.2.2.1 u.2.2.2.1 u.2.2.2.2.1 u.2.2.2.2.2.1 (fiR 26) u.2.2.2.2.2.2 ∧ val u.1 u.2.1 u.2.2.1 = bd (val (fiR 3) (fiR 4) (fiR 22)) (exF (uT (faY 0)) (fiR 21) mm) ∧ EmP RC u.1 (faP 20) (fiP 23) (faP 20) (fiP 23) (exE (uT (faY 0)) (fiR 21) mm (fiR 22)) ([]))) (fun (u : Int × Int × Int × Int × Int × Int × Int) => ((wR k arR (arP 99) (arY 0) (uF (uF (uF (uF (uF (uF (uF fiR 3 (u.1)) 4 (u.2.1)) 22 (u.2.2.1)) 23 (u.2.2.2.1)) 24 (u.2.2.2.2.1)) 25 (u.2.2.2.2.2.1)) 27 (u.2.2.2.2.2.2)) faR) ++ ((wY k arY fiY faY) ++ (wP k arP fiP faP)))) := by
  refine Met.ofW (cc := cX2_expression) (maxL := 3) (ret := none) (by decide) rfl ?_
  intro p e s m args below meth c s₁ B hml hv
  obtain ⟨rfl, hsz, hP, hX, hD0, hZ0⟩ := hv
  have hx := B.exec
  have hb := B.bytes
  have hr := B.returns
  have hts := atoms_spec (ws := wzX2_expression) B.pre
  have hown : s.vm.findClass RX2 = some m.cls := findClass_of_methodNamed B.named
  subst hsz
  have hD := hD0.self (sz := s.heap.size)
  have hZ := hZ0
  generalize hAe : va_A ((wR k arR (arP 99) (arY 0) fiR faR) ++ ((wY k arY fiY faY) ++ (wP k arP fiP faP))) s.heap.size = A at hD hZ ⊢
  have hA : ∀ q : Nat, s.heap.size ≤ q → A q := fun q h => by rw [← hAe]; exact Or.inr h
  have hS : va_S A s.heap s.heap [] := va_S.rf
  have hl := lv_entry ([.ref (arR 99), .int (Int32.ofInt (6))]) (n := 3) (Nat.le_of_ble_eq_true rfl)
  rw [lg_entry_eq]
  generalize (lg_sl ([.ref (arR 99), .int (Int32.ofInt (6))]) ++ List.replicate (3 - (lg_sl ([.ref (arR 99), .int (Int32.ofInt (6))])).length) Slot.unset).toArray = ls at hl ⊢
  have hl : lv_has ls 3 [(0, .ref (arR 99)), (1, .int (Int32.ofInt (6)))] := hl
  obtain ⟨H, eH⟩ : ∃ H, H = s.heap := ⟨_, rfl⟩
  rw [← eH] at hP
  have hS : va_S A s.heap H [] := by rw [eH]; exact hS
  have gW : s.heap = H := eH.symm
  refine iv_heap gW ?_
  have h0w := hts (.fieldLink RX2 12 "RopeTown$Parser" "reader" "LRopeTown$Reader;") (wz_at 3 8 rfl)
  have h1w : ∀ w ∈ wsX20, w ∈ wzX2_expression := fun w h => List.mem_cons_of_mem _ (inlX2 w h)
  have h2w : ∀ w ∈ wsX40, w ∈ wzX2_expression := fun w h => List.mem_cons_of_mem _ (inlX4 w h)
  have hm0 : mm = 0 := by omega
  refine lv_iload_n hx hb dX2_expression_0 rfl (lv_at hl 1 rfl) ?_
  refine lv_bipush (v := Int32.ofInt 6) hx hb dX2_expression_1 (by decide +kernel) ?_
  refine iv_icmp_ge (tgt := 13) hx hb (by omega) (by omega) dX2_expression_3 (by decide) (fun _ => ?_) (fun q => absurd q (by omega))
  refine iv_join (G := G) (A := A) (H0 := s.heap) (α := Int) (nL := 3) 52 (fun b9 => [.int (Int32.ofInt (b9))]) (fun b9 => ((wR k arR (arP 99) (arY 0) fiR faR) ++ ((wY k arY fiY faY) ++ (wP k arP fiP faP)))) (fun b9 => [(0, .ref (arR 99)), (1, .int (Int32.ofInt (6)))]) (fun b9 => inR b9 ∧ (b9 = 1 ∧ (fiR 24 = 2 ∨ fiR 24 = 1 ∨ fiR 27 = 40) ∨ b9 = 0 ∧ ¬ (fiR 24 = 2 ∨ fiR 24 = 1 ∨ fiR 27 = 40))) ?_ (fun J52 => ?_)
  · intro s0_1 hi9 H locs ls hP hD hS hl
    obtain ⟨r_s0_1, hinv⟩ : inR s0_1 ∧ (s0_1 = 1 ∧ (fiR 24 = 2 ∨ fiR 24 = 1 ∨ fiR 27 = 40) ∨ s0_1 = 0 ∧ ¬ (fiR 24 = 2 ∨ fiR 24 = 1 ∨ fiR 27 = 40)) := hi9
    obtain ⟨hP, hD⟩ : va_P G vwCl ((wR k arR (arP 99) (arY 0) fiR faR) ++ ((wY k arY fiY faY) ++ (wP k arP fiP faP))) H ∧ va_D A ((wR k arR (arP 99) (arY 0) fiR faR) ++ ((wY k arY fiY faY) ++ (wP k arP fiP faP))) := ⟨hP, hD⟩
    have hl : lv_has ls 3 [(0, .ref (arR 99)), (1, .int (Int32.ofInt (6)))] := hl
    refine lv_istore_n (lv' := [(2, .int (Int32.ofInt (s0_1))), (0, .ref (arR 99)), (1, .int (Int32.ofInt (6)))]) hx hb dX2_expression_52 rfl hl (by decide) rfl (fun ls hl => ?_)
    refine lv_aload_n hx hb dX2_expression_53 rfl (lv_at hl 1 rfl) ?_
    refine iv_join (G := G) (A := A) (H0 := s.heap) (α := Int) (nL := 3) 63 (fun b9 => [.int (Int32.ofInt (b9)), .ref (arR 99)]) (fun b9 => ((wR k arR (arP 99) (arY 0) fiR faR) ++ ((wY k arY fiY faY) ++ (wP k arP fiP faP)))) (fun b9 => [(2, .int (Int32.ofInt (s0_1))), (0, .ref (arR 99)), (1, .int (Int32.ofInt (6)))]) (fun b9 => inR b9 ∧ (b9 = 2 ∧ (fiR 24 = 2 ∨ fiR 24 = 1 ∨ fiR 27 = 40) ∨ b9 = 1 ∧ ¬ (fiR 24 = 2 ∨ fiR 24 = 1 ∨ fiR 27 = 40))) ?_ (fun J63 => ?_)
    · intro s0_2 hi9 H locs ls hP hD hS hl
      obtain ⟨r_s0_2, hinv⟩ : inR s0_2 ∧ (s0_2 = 2 ∧ (fiR 24 = 2 ∨ fiR 24 = 1 ∨ fiR 27 = 40) ∨ s0_2 = 1 ∧ ¬ (fiR 24 = 2 ∨ fiR 24 = 1 ∨ fiR 27 = 40)) := hi9
      obtain ⟨hP, hD⟩ : va_P G vwCl ((wR k arR (arP 99) (arY 0) fiR faR) ++ ((wY k arY fiY faY) ++ (wP k arP fiP faP))) H ∧ va_D A ((wR k arR (arP 99) (arY 0) fiR faR) ++ ((wY k arY fiY faY) ++ (wP k arP fiP faP))) := ⟨hP, hD⟩
      have hl : lv_has ls 3 [(2, .int (Int32.ofInt (s0_1))), (0, .ref (arR 99)), (1, .int (Int32.ofInt (6)))] := hl
      refine cz_v (wr := (wP k arP fiP faP)) (va_runV (As := [.int (Int32.ofInt (s0_2))]) (rest := []) ⟨hx, hb, hml, hown, hts⟩ (mX2_fail l G k arR (arP 99) fiR faR arY fiY faY s0_2 H.size hRR hRaR hRY hRaY hB0Y (by omega) (show 0 ≤ (fiR 23) ∧ (fiR 23) ≤ (fiR 21) ∧ 0 ≤ (fiR 22) ∧ (fiR 22) ≤ (fiR 21) ∧ 0 ≤ (fiR 25) ∧ (fiR 25) ≤ 23 ∧ (fiR 21) ≤ 600 from by omega) (show CT (uT ((faY 0))) ((fiR 21)) ((fiR 3)) ((fiR 22)) ((fiR 23)) ((fiR 24)) ((fiR 25)) ((fiR 26)) ((fiR 27)) from by assumption) (show ¬ s0_2 = 0 from by omega)) (cwV 1 hts (gz [.methodLink RX2 103 yX2_fail, .instanceMethod yX2_fail, .selects RX2 yX2_fail yX2_fail, .initialized RX2] (.code yX2_fail cX2_fail 2 none) [(13, 1), (13, 2), (13, 3), (1, 0), (13, 4)] rfl) rfl rfl rfl (by decide +kernel) ⟨Nat.le_of_ble_eq_true rfl, Nat.le_of_ble_eq_true rfl⟩) (cy_preV (EZ_ok k) hZ hS hX hP hD hA [0, 1, 2] rfl rfl (ci := 1) (q0 := 0) rfl rfl) rfl rfl hl.1 rfl (lv_room (Nat.le_of_ble_eq_true rfl)) dX2_expression_63 ⟨Nat.le_of_ble_eq_true rfl, Nat.le_of_ble_eq_true rfl⟩) hP hD hS hA [0, 1, 2] [3, 4, 5, 6, 7, 8, 9, 10, 11, 12] rfl rfl (by decide) (by decide) (fun u H locs hp hP hD hS => ?_)
      obtain ⟨c3, c4, c5, c6, c7, c8, c9⟩ := u
      obtain ⟨hP, hD⟩ : va_P G vwCl ((wP k arP fiP faP) ++ ((wR k arR (arP 99) (arY 0) (uF (uF (uF (uF (uF (uF (uF fiR 3 (c3)) 4 (c4)) 22 (c5)) 23 (c6)) 24 (c7)) 25 (c8)) 27 (c9)) faR) ++ (wY k arY fiY faY))) H ∧ va_D A ((wP k arP fiP faP) ++ ((wR k arR (arP 99) (arY 0) (uF (uF (uF (uF (uF (uF (uF fiR 3 (c3)) 4 (c4)) 22 (c5)) 23 (c6)) 24 (c7)) 25 (c8)) 27 (c9)) faR) ++ (wY k arY fiY faY))) := ⟨hP, hD⟩
      obtain ⟨hP, hD⟩ : va_P G vwCl ((wR k arR (arP 99) (arY 0) (uF (uF (uF (uF (uF (uF (uF fiR 3 (c3)) 4 (c4)) 22 (c5)) 23 (c6)) 24 (c7)) 25 (c8)) 27 (c9)) faR) ++ ((wY k arY fiY faY) ++ (wP k arP fiP faP))) H ∧ va_D A ((wR k arR (arP 99) (arY 0) (uF (uF (uF (uF (uF (uF (uF fiR 3 (c3)) 4 (c4)) 22 (c5)) 23 (c6)) 24 (c7)) 25 (c8)) 27 (c9)) faR) ++ ((wY k arY fiY faY) ++ (wP k arP fiP faP))) := re_ord hP hD [10, 11, 12, 0, 1, 2, 3, 4, 5, 6, 7, 8, 9] (by decide) rfl
      obtain ⟨rc3, rc4, rc5, rc6, rc7, rc8, rc9, hp9⟩ : (inR c3) ∧ (inR c4) ∧ (inR c5) ∧ (inR c6) ∧ (inR c7) ∧ (inR c8) ∧ (inR c9) ∧ ((0 ≤ c6 ∧ c6 ≤ (fiR 21) ∧ 0 ≤ c5 ∧ c5 ≤ (fiR 21) ∧ 0 ≤ c8 ∧ c8 ≤ 23 ∧ (c3 = 0 → (fiR 3) = 0 ∧ c4 = (fiR 4)) ∧ ¬ c3 = 0) ∧ CT (uT ((faY 0))) ((fiR 21)) c3 c5 c6 c7 c8 ((fiR 26)) c9 ∧ val c3 c4 c5 = bd (val ((fiR 3)) ((fiR 4)) ((fiR 22))) (fun s => (s0_2, s))) := hp
      obtain ⟨hp9, hT63, hV63⟩ := hp9
      exact W.vret hx hb hr (fun t ht hW => ⟨⟨(c3, c4, c5, c6, c7, c8, c9), rfl, (show (inR c3) ∧ (inR c4) ∧ (inR c5) ∧ (inR c6) ∧ (inR c7) ∧ (inR c8) ∧ (inR c9) ∧ ((0 ≤ c6 ∧ c6 ≤ fiR 21 ∧ 0 ≤ c5 ∧ c5 ≤ fiR 21 ∧ 0 ≤ c8 ∧ c8 ≤ 23 ∧ 0 ≤ (fiP 7) ∧ (fiP 7) ≤ 7 ∧ 0 ≤ (fiP 0) ∧ (fiP 0) ≤ 11 ∧ 0 ≤ (fiP 24) ∧ (fiP 24) ≤ 4 ∧ 0 ≤ (fiP 23) ∧ (fiP 23) ≤ 600 ∧ (c3 = 0 → fiR 3 = 0 ∧ c4 = fiR 4) ∧ (fiP 0) = fiP 0 ∧ (fiP 7) = fiP 7 ∧ (fiP 24) = fiP 24 ∧ (fiR 2) = fiR 2) ∧ CT (uT (faY 0)) (fiR 21) c3 c5 c6 c7 c8 (fiR 26) c9 ∧ val c3 c4 c5 = bd (val (fiR 3) (fiR 4) (fiR 22)) (exF (uT (faY 0)) (fiR 21) mm) ∧ EmP RC c3 (faP 20) (fiP 23) (faP 20) (fiP 23) (exE (uT (faY 0)) (fiR 21) mm (fiR 22)) ([])) from ⟨(by omega), (by omega), (by omega), (by omega), (by omega), (by omega), (by omega), (by exact ⟨by omega, hT63, by rw [hm0]; exact ec_6 hty (by omega) hV63, em_no (by omega)⟩)⟩), by rw [ht]; exact hP, hD⟩, hS.F ht⟩) hS.2.2 dX2_expression_66
    · refine lv_iload_n hx hb dX2_expression_54 rfl (lv_at hl 0 rfl) ?_
      refine iv_if_eq (tgt := 62) hx hb (by omega) dX2_expression_55 (by decide) (fun q10 => ?_) (fun q10 => ?_)
      · refine lv_iconst (v := Int32.ofInt 1) hx hb dX2_expression_62 (by decide +kernel) ?_
        have hl : lv_has ls 3 [(2, .int (Int32.ofInt (s0_1))), (0, .ref (arR 99)), (1, .int (Int32.ofInt (6)))] := lv_sub hl [0, 1, 2] rfl
        exact J63 (1) (show inR 1 ∧ (1 = 2 ∧ (fiR 24 = 2 ∨ fiR 24 = 1 ∨ fiR 27 = 40) ∨ 1 = 1 ∧ ¬ (fiR 24 = 2 ∨ fiR 24 = 1 ∨ fiR 27 = 40)) from ⟨(by omega), (by omega)⟩) _ _ _ hP hD hS hl
      · refine lv_iconst (v := Int32.ofInt 2) hx hb dX2_expression_58 (by decide +kernel) ?_
        refine lv_goto (tgt := 63) hx hb dX2_expression_59 (by decide) ?_
        have hl : lv_has ls 3 [(2, .int (Int32.ofInt (s0_1))), (0, .ref (arR 99)), (1, .int (Int32.ofInt (6)))] := lv_sub hl [0, 1, 2] rfl
        exact J63 (2) (show inR 2 ∧ (2 = 2 ∧ (fiR 24 = 2 ∨ fiR 24 = 1 ∨ fiR 27 = 40) ∨ 2 = 1 ∧ ¬ (fiR 24 = 2 ∨ fiR 24 = 1 ∨ fiR 27 = 40)) from ⟨(by omega), (by omega)⟩) _ _ _ hP hD hS hl
  · refine lv_aload_n hx hb dX2_expression_13 rfl (lv_at hl 0 rfl) ?_
    refine va_get (D := G) (ci := 1) (v := .ref (arR 98)) (C := RX2) (T := TX2) (N := 5) (ref := RX2) hx hb hts h1w hown hX.1 hP 0 rfl rfl 0 (by decide) h0w (fun _ h9 => h9) rfl dX2_expression_14 ?_
    refine va_getN (D := G) (ci := 3) (v := .int (Int32.ofInt (fiR 24))) (C := RX4) (T := TX4) (N := 8) (ref := RX4) (host := RX9) hx hb hts h2w hown hX.1 hP 1 rfl rfl 4 (by decide) (nf_32 hX.2.2.1) (fun _ h9 => h9) rfl dX2_expression_17 ?_
    have rf24R := hRR 24
    refine lv_iconst (v := Int32.ofInt 2) hx hb dX2_expression_20 (by decide +kernel) ?_
    refine iv_icmp_eq (tgt := 47) hx hb (by omega) (by omega) dX2_expression_21 (by decide) (fun q11 => ?_) (fun q11 => ?_)
    · refine lv_iconst (v := Int32.ofInt 1) hx hb dX2_expression_47 (by decide +kernel) ?_
      refine lv_goto (tgt := 52) hx hb dX2_expression_48 (by decide) ?_
      have hl : lv_has ls 3 [(0, .ref (arR 99)), (1, .int (Int32.ofInt (6)))] := lv_sub hl [0, 1] rfl
      exact J52 (1) (show inR 1 ∧ (1 = 1 ∧ (fiR 24 = 2 ∨ fiR 24 = 1 ∨ fiR 27 = 40) ∨ 1 = 0 ∧ ¬ (fiR 24 = 2 ∨ fiR 24 = 1 ∨ fiR 27 = 40)) from ⟨(by omega), (by omega)⟩) _ _ _ hP hD hS hl
    · refine lv_aload_n hx hb dX2_expression_24 rfl (lv_at hl 0 rfl) ?_
      refine va_get (D := G) (ci := 1) (v := .ref (arR 98)) (C := RX2) (T := TX2) (N := 5) (ref := RX2) hx hb hts h1w hown hX.1 hP 0 rfl rfl 0 (by decide) h0w (fun _ h9 => h9) rfl dX2_expression_25 ?_
      refine va_getN (D := G) (ci := 3) (v := .int (Int32.ofInt (fiR 24))) (C := RX4) (T := TX4) (N := 8) (ref := RX4) (host := RX9) hx hb hts h2w hown hX.1 hP 1 rfl rfl 4 (by decide) (nf_32 hX.2.2.1) (fun _ h9 => h9) rfl dX2_expression_28 ?_
      have rf24R := hRR 24
      refine lv_iconst (v := Int32.ofInt 1) hx hb dX2_expression_31 (by decide +kernel) ?_
      refine iv_icmp_eq (tgt := 47) hx hb (by omega) (by omega) dX2_expression_32 (by decide) (fun q12 => ?_) (fun q12 => ?_)
      · refine lv_iconst (v := Int32.ofInt 1) hx hb dX2_expression_47 (by decide +kernel) ?_
        refine lv_goto (tgt := 52) hx hb dX2_expression_48 (by decide) ?_
        have hl : lv_has ls 3 [(0, .ref (arR 99)), (1, .int (Int32.ofInt (6)))] := lv_sub hl [0, 1] rfl
        exact J52 (1) (show inR 1 ∧ (1 = 1 ∧ (fiR 24 = 2 ∨ fiR 24 = 1 ∨ fiR 27 = 40) ∨ 1 = 0 ∧ ¬ (fiR 24 = 2 ∨ fiR 24 = 1 ∨ fiR 27 = 40)) from ⟨(by omega), (by omega)⟩) _ _ _ hP hD hS hl
      · refine lv_aload_n hx hb dX2_expression_35 rfl (lv_at hl 0 rfl) ?_
        refine va_get (D := G) (ci := 1) (v := .ref (arR 98)) (C := RX2) (T := TX2) (N := 5) (ref := RX2) hx hb hts h1w hown hX.1 hP 0 rfl rfl 0 (by decide) h0w (fun _ h9 => h9) rfl dX2_expression_36 ?_
        refine va_getN (D := G) (ci := 3) (v := .int (Int32.ofInt (fiR 27))) (C := RX4) (T := TX4) (N := 8) (ref := RX4) (host := RX9) hx hb hts h2w hown hX.1 hP 1 rfl rfl 7 (by decide) (nf_35 hX.2.2.1) (fun _ h9 => h9) rfl dX2_expression_39 ?_
        have rf27R := hRR 27
        refine lv_bipush (v := Int32.ofInt 40) hx hb dX2_expression_42 (by decide +kernel) ?_
        refine iv_icmp_ne (tgt := 51) hx hb (by omega) (by omega) dX2_expression_44 (by decide) (fun q13 => ?_) (fun q13 => ?_)
        · refine lv_iconst (v := Int32.ofInt 0) hx hb dX2_expression_51 (by decide +kernel) ?_
          have hl : lv_has ls 3 [(0, .ref (arR 99)), (1, .int (Int32.ofInt (6)))] := lv_sub hl [0, 1] rfl
          exact J52 (0) (show inR 0 ∧ (0 = 1 ∧ (fiR 24 = 2 ∨ fiR 24 = 1 ∨ fiR 27 = 40) ∨ 0 = 0 ∧ ¬ (fiR 24 = 2 ∨ fiR 24 = 1 ∨ fiR 27 = 40)) from ⟨(by omega), (by omega)⟩) _ _ _ hP hD hS hl
        · refine lv_iconst (v := Int32.ofInt 1) hx hb dX2_expression_47 (by decide +kernel) ?_
          refine lv_goto (tgt := 52) hx hb dX2_expression_48 (by decide) ?_
          have hl : lv_has ls 3 [(0, .ref (arR 99)), (1, .int (Int32.ofInt (6)))] := lv_sub hl [0, 1] rfl
          exact J52 (1) (show inR 1 ∧ (1 = 1 ∧ (fiR 24 = 2 ∨ fiR 24 = 1 ∨ fiR 27 = 40) ∨ 1 = 0 ∧ ¬ (fiR 24 = 2 ∨ fiR 24 = 1 ∨ fiR 27 = 40)) from ⟨(by omega), (by omega)⟩) _ _ _ hP hD hS hl

