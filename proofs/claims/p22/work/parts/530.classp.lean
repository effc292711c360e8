set_option maxHeartbeats 4000000 in
set_option maxRecDepth 100000 in
theorem mX2_expression_5 (l : Launch) (G : va_G) (k : Nat → ClassId) (arR : Nat → Nat) (fiR : Nat → Int) (faR : Nat → Int → Int) (arY : Nat → Nat) (fiY : Nat → Int) (faY : Nat → Int → Int) (arP : Nat → Nat) (fiP : Nat → Int) (faP : Nat → Int → Int) (mm : Nat) (sz : Nat) (hRR : ∀ j, inR (fiR j)) (hRaR : ∀ j t, inR (faR j t)) (hRY : ∀ j, inR (fiY j)) (hRaY : ∀ j t, inR (faY j t)) (hB0Y : bnd (faY 0) 600 (-128) 128) (hRP : ∀ j, inR (fiP j)) (hRaP : ∀ j t, inR (faP j t)) (hB8P : bnd (faP 8) 7 0 4) (hB21P : bnd (faP 21) 4 0 601) (hrq : 0 ≤ fiR 23 ∧ fiR 23 ≤ fiR 21 ∧ 0 ≤ fiR 22 ∧ fiR 22 ≤ fiR 21 ∧ 0 ≤ fiR 25 ∧ fiR 25 ≤ 23 ∧ fiR 21 ≤ 600) (hpi : 0 ≤ fiP 7 ∧ fiP 7 ≤ 7 ∧ 0 ≤ fiP 0 ∧ fiP 0 ≤ 11 ∧ 0 ≤ fiP 24 ∧ fiP 24 ≤ 4 ∧ 0 ≤ fiP 23 ∧ fiP 23 ≤ 600) (hty : CT (uT (faY 0)) (fiR 21) (fiR 3) (fiR 22) (fiR 23) (fiR 24) (fiR 25) (fiR 26) (fiR 27)) (hmm : ((mm : Nat) : Int) + 5 = 6) : CNv l G k (EZ k) yX2_expression wzX2_expression ({ frames := 14, cells := 0, slots := 0, locals := 331 }) [.ref (arR 99), .int (Int32.ofInt (5))] sz ((wR k arR (arP 99) (arY 0) fiR faR) ++ ((wY k arY fiY faY) ++ (wP k arP fiP faP))) (fun (u : Int × Int × Int × Int × Int × Int × Int × Int × (Int → Int) × Int) => (inR u.1) ∧ (inR u.2.1) ∧ (inR u.2.2.1) ∧ (inR u.2.2.2.1) ∧ (inR u.2.2.2.2.1) ∧ (inR u.2.2.2.2.2.1) ∧ (inR u.2.2.2.2.2.2.1) ∧ (inR u.2.2.2.2.2.2.2.1) ∧ (∀ t, inR (u.2.2.2.2.2.2.2.2.1 t)) ∧ (inR u.2.2.2.2.2.2.2.2.2) ∧ ((0 ≤ u.2.2.2.1 ∧ u.2.2.2.1 ≤ fiR 21 ∧ 0 ≤ u.2.2.1 ∧ u.2.2.1 ≤ fiR 21 ∧ 0 ≤ u.2.2.2.2.2.1 ∧ u.2.2.2.2.2.1 ≤ 23 ∧ 0 ≤ (fiP 7) ∧ (fiP 7) ≤ 7 ∧ 0 ≤ (fiP 0) ∧ (fiP 0) ≤ 11 ∧ 0 ≤ (fiP 24) ∧ (fiP 24) ≤ 4 ∧ 0 ≤ u.2.2.2.2.2.2.2.2.2 ∧ u.2.2.2.2.2.2.2.2.2 ≤ 600 ∧ (u.1 = 0 → fiR 3 = 0 ∧ u.2.1 = fiR 4) ∧ (fiP 0) = fiP 0 ∧ (fiP 7) = fiP 7 ∧ (fiP 24) = fiP 24 ∧ (fiR 2) = fiR 2) ∧ CT (uT (faY 0)) (fiR 21) u.1 u.2.2.1 u.2.2.2.1 u.2.2.2.2.1 u.2.2.2.2.2.1 u.2.2.2.2.2.2.1 u.2.2.2.2.2.2.2.1 ∧ val u.1 u.2.1 u.2.2.1 = bd (val (fiR 3) (fiR 4) (fiR 22)) (exF (uT (faY 0)) (fiR 21) mm))) (fun (u : Int × Int × Int × Int × Int × Int × Int × Int × (Int → Int) × Int) => ((wR k arR (arP 99) (arY 0) (uF (uF (uF (uF (uF (uF (uF (uF fiR 3 (u.1)) 4 (u.2.1)) 22 (u.2.2.1)) 23 (u.2.2.2.1)) 24 (u.2.2.2.2.1)) 25 (u.2.2.2.2.2.1)) 26 (u.2.2.2.2.2.2.1)) 27 (u.2.2.2.2.2.2.2.1)) faR) ++ ((wY k arY fiY faY) ++ (wP k arP (uF fiP 23 (u.2.2.2.2.2.2.2.2.2)) (uF faP 20 (u.2.2.2.2.2.2.2.2.1)))))) := by
  refine Met.ofW (cc := cX2_expression) (maxL := 3) (ret := none) (by decide) rfl ?_
  intro p e s m args below meth c s₁ B hml hv
  obtain ⟨rfl, hsz, hP, hX, hD0, hZ0⟩ := hv
  have hx := B.exec
  have hb := B.bytes
  have hr := B.returns
  have hts := atoms_spec (ws := wzX2_expression) B.pre
  have hown : s.vm.findClass RX2 = some m.cls := findClass_of_methodNamed B.named
  subst hsz
  have hD := hD0.self (sz := s.heap.size)
  have hZ := hZ0
  generalize hAe : va_A ((wR k arR (arP 99) (arY 0) fiR faR) ++ ((wY k arY fiY faY) ++ (wP k arP fiP faP))) s.heap.size = A at hD hZ ⊢
  have hA : ∀ q : Nat, s.heap.size ≤ q → A q := fun q h => by rw [← hAe]; exact Or.inr h
  have hS : va_S A s.heap s.heap [] := va_S.rf
  have hl := lv_entry ([.ref (arR 99), .int (Int32.ofInt (5))]) (n := 3) (Nat.le_of_ble_eq_true rfl)
  rw [lg_entry_eq]
  generalize (lg_sl ([.ref (arR 99), .int (Int32.ofInt (5))]) ++ List.replicate (3 - (lg_sl ([.ref (arR 99), .int (Int32.ofInt (5))])).length) Slot.unset).toArray = ls at hl ⊢
  have hl : lv_has ls 3 [(0, .ref (arR 99)), (1, .int (Int32.ofInt (5)))] := hl
  obtain ⟨H, eH⟩ : ∃ H, H = s.heap := ⟨_, rfl⟩
  rw [← eH] at hP
  have hS : va_S A s.heap H [] := by rw [eH]; exact hS
  have gW : s.heap = H := eH.symm
  refine iv_heap gW ?_
  refine lv_iload_n hx hb dX2_expression_0 rfl (lv_at hl 1 rfl) ?_
  refine lv_bipush (v := Int32.ofInt 6) hx hb dX2_expression_1 (by decide +kernel) ?_
  refine iv_icmp_ge (tgt := 13) hx hb (by omega) (by omega) dX2_expression_3 (by decide) (fun q => absurd q (by omega)) (fun _ => ?_)
  refine lv_aload_n hx hb dX2_expression_6 rfl (lv_at hl 0 rfl) ?_
  refine lv_iconst (v := Int32.ofInt 0) hx hb dX2_expression_7 (by decide +kernel) ?_
  refine lv_iload_n hx hb dX2_expression_8 rfl (lv_at hl 1 rfl) ?_
  refine cr_v (va_runV (As := [.int (Int32.ofInt (0)), .int (Int32.ofInt (5))]) (rest := []) ⟨hx, hb, hml, hown, hts⟩ (mX2_ranked_0_5 l G k arR fiR faR arY fiY faY arP fiP faP (mm - 1) H.size hRR hRaR hRY hRaY hB0Y hRP hRaP hB8P hB21P (show 0 ≤ (fiR 23) ∧ (fiR 23) ≤ (fiR 21) ∧ 0 ≤ (fiR 22) ∧ (fiR 22) ≤ (fiR 21) ∧ 0 ≤ (fiR 25) ∧ (fiR 25) ≤ 23 ∧ (fiR 21) ≤ 600 from by omega) (show 0 ≤ (fiP 7) ∧ (fiP 7) ≤ 7 ∧ 0 ≤ (fiP 0) ∧ (fiP 0) ≤ 11 ∧ 0 ≤ (fiP 24) ∧ (fiP 24) ≤ 4 ∧ 0 ≤ (fiP 23) ∧ (fiP 23) ≤ 600 from by omega) (show CT (uT ((faY 0))) ((fiR 21)) ((fiR 3)) ((fiR 22)) ((fiR 23)) ((fiR 24)) ((fiR 25)) ((fiR 26)) ((fiR 27)) from by assumption) (show (((mm - 1) : Nat) : Int) + 5 = 5 from by omega)) (cwV 2 hts (gz [.methodLink RX2 155 yX2_ranked, .instanceMethod yX2_ranked, .selects RX2 yX2_ranked yX2_ranked, .initialized RX2] (.code yX2_ranked cX2_ranked 7 none) [(14, 7), (14, 8), (14, 9), (1, 0), (15, 1)] rfl) rfl rfl rfl (by decide +kernel) ⟨Nat.le_of_ble_eq_true rfl, Nat.le_of_ble_eq_true rfl⟩) (cr_preV (EZ_ok k) hZ hS hX hP hD hA (ci := 1) (q0 := 0) rfl rfl) rfl rfl hl.1 rfl (lv_room (Nat.le_of_ble_eq_true rfl)) dX2_expression_9 ⟨Nat.le_of_ble_eq_true rfl, Nat.le_of_ble_eq_true rfl⟩) hD hS hA (fun u H locs hp hP hD hS => ?_)
  obtain ⟨c1, c2, c3, c4, c5, c6, c7, c8, c9, c10⟩ := u
  obtain ⟨hP, hD⟩ : va_P G vwCl ((wR k arR (arP 99) (arY 0) (uF (uF (uF (uF (uF (uF (uF (uF fiR 3 (c1)) 4 (c2)) 22 (c3)) 23 (c4)) 24 (c5)) 25 (c6)) 26 (c7)) 27 (c8)) faR) ++ ((wY k arY fiY faY) ++ (wP k arP (uF fiP 23 (c10)) (uF faP 20 (c9))))) H ∧ va_D A ((wR k arR (arP 99) (arY 0) (uF (uF (uF (uF (uF (uF (uF (uF fiR 3 (c1)) 4 (c2)) 22 (c3)) 23 (c4)) 24 (c5)) 25 (c6)) 26 (c7)) 27 (c8)) faR) ++ ((wY k arY fiY faY) ++ (wP k arP (uF fiP 23 (c10)) (uF faP 20 (c9))))) := ⟨hP, hD⟩
  obtain ⟨rc1, rc2, rc3, rc4, rc5, rc6, rc7, rc8, rc9, rc10, hp10⟩ : (inR c1) ∧ (inR c2) ∧ (inR c3) ∧ (inR c4) ∧ (inR c5) ∧ (inR c6) ∧ (inR c7) ∧ (inR c8) ∧ (∀ t, inR (c9 t)) ∧ (inR c10) ∧ ((0 ≤ c4 ∧ c4 ≤ (fiR 21) ∧ 0 ≤ c3 ∧ c3 ≤ (fiR 21) ∧ 0 ≤ c6 ∧ c6 ≤ 23 ∧ 0 ≤ ((fiP 7)) ∧ ((fiP 7)) ≤ 7 ∧ 0 ≤ ((fiP 0)) ∧ ((fiP 0)) ≤ 11 ∧ 0 ≤ ((fiP 24)) ∧ ((fiP 24)) ≤ 4 ∧ 0 ≤ c10 ∧ c10 ≤ 600 ∧ (c1 = 0 → (fiR 3) = 0 ∧ c2 = (fiR 4)) ∧ ((fiP 0)) = (fiP 0) ∧ ((fiP 7)) = (fiP 7) ∧ ((fiP 24)) = (fiP 24) ∧ ((fiR 2)) = (fiR 2)) ∧ CT (uT ((faY 0))) ((fiR 21)) c1 c3 c4 c5 c6 c7 c8 ∧ val c1 c2 c3 = bd (val ((fiR 3)) ((fiR 4)) ((fiR 22))) (orF (uT ((faY 0))) ((fiR 21)) (exF (uT ((faY 0))) ((fiR 21)) (mm - 1)))) := hp
  obtain ⟨hp10, hT9, hV9⟩ := hp10
  exact W.vret hx hb hr (fun t ht hW => ⟨⟨(c1, c2, c3, c4, c5, c6, c7, c8, c9, c10), rfl, (show (inR c1) ∧ (inR c2) ∧ (inR c3) ∧ (inR c4) ∧ (inR c5) ∧ (inR c6) ∧ (inR c7) ∧ (inR c8) ∧ (∀ t, inR (c9 t)) ∧ (inR c10) ∧ ((0 ≤ c4 ∧ c4 ≤ fiR 21 ∧ 0 ≤ c3 ∧ c3 ≤ fiR 21 ∧ 0 ≤ c6 ∧ c6 ≤ 23 ∧ 0 ≤ (fiP 7) ∧ (fiP 7) ≤ 7 ∧ 0 ≤ (fiP 0) ∧ (fiP 0) ≤ 11 ∧ 0 ≤ (fiP 24) ∧ (fiP 24) ≤ 4 ∧ 0 ≤ c10 ∧ c10 ≤ 600 ∧ (c1 = 0 → fiR 3 = 0 ∧ c2 = fiR 4) ∧ (fiP 0) = fiP 0 ∧ (fiP 7) = fiP 7 ∧ (fiP 24) = fiP 24 ∧ (fiR 2) = fiR 2) ∧ CT (uT (faY 0)) (fiR 21) c1 c3 c4 c5 c6 c7 c8 ∧ val c1 c2 c3 = bd (val (fiR 3) (fiR 4) (fiR 22)) (exF (uT (faY 0)) (fiR 21) mm)) from ⟨(by omega), (by omega), (by omega), (by omega), (by omega), (by omega), (by omega), (by omega), rc9, (by omega), (by exact ⟨by omega, hT9, ec_m (by omega) hV9⟩)⟩), by rw [ht]; exact hP, hD⟩, hS.F ht⟩) hS.2.2 dX2_expression_12

