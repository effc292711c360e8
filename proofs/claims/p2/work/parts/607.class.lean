set_option maxHeartbeats 4000000 in
set_option maxRecDepth 100000 in
theorem mX3_brokenRule (l : Launch) (G : va_G) (k : Nat → ClassId) (ar : Nat → Nat) (fi : Nat → Int) (fa : Nat → Int → Int) (s0 : Int) (b0 : Int) (sz : Nat) (hR : ∀ j, inR (fi j)) (hRa : ∀ j t, inR (fa j t)) (hB8 : bnd (fa 8) 7 0 4) (hB21 : bnd (fa 21) 4 0 601) (hr_s0 : inR s0) (hr_b0 : inR b0) (hth : 0 ≤ fi 7 ∧ fi 7 ≤ 7) (hbt : 0 ≤ fi 0 ∧ fi 0 ≤ 11) (hsz : 0 ≤ fi 24 ∧ fi 24 ≤ 4) : CNi l G k (EZ k) yX3_brokenRule wzX3_brokenRule ({ frames := 2, cells := 0, slots := 0, locals := 48 }) [.ref (ar 99), .int (Int32.ofInt (s0)), .int (Int32.ofInt (b0))] sz (wP k ar fi fa) (fun (r0 : Int32) (u : Int × (Int → Int) × (Int → Int)) => r0 = Int32.ofInt (u.1) ∧ (inR u.1) ∧ (∀ t, inR (u.2.1 t)) ∧ (∀ t, inR (u.2.2 t)) ∧ (-1 ≤ u.1 ∧ u.1 < 4)) (fun (u : Int × (Int → Int) × (Int → Int)) => (wP k ar fi (uF (uF fa 13 (u.2.1)) 22 (u.2.2)))) := by
  refine Met.ofW (cc := cX3_brokenRule) (maxL := 5) (ret := (some .int)) (by decide) rfl ?_
  intro p e s m args below meth c s₁ B hml hv
  obtain ⟨rfl, hsz, hP, hX, hD0, hZ0⟩ := hv
  have hx := B.exec
  have hb := B.bytes
  have hr := B.returns
  have hts := atoms_spec (ws := wzX3_brokenRule) B.pre
  have hown : s.vm.findClass RX3 = some m.cls := findClass_of_methodNamed B.named
  subst hsz
  have hD := hD0.self (sz := s.heap.size)
  have hZ := hZ0
  generalize hAe : va_A (wP k ar fi fa) s.heap.size = A at hD hZ ⊢
  have hA : ∀ q : Nat, s.heap.size ≤ q → A q := fun q h => by rw [← hAe]; exact Or.inr h
  have hS : va_S A s.heap s.heap [] := va_S.rf
  have hl := lv_entry ([.ref (ar 99), .int (Int32.ofInt (s0)), .int (Int32.ofInt (b0))]) (n := 5) (Nat.le_of_ble_eq_true rfl)
  rw [lg_entry_eq]
  generalize (lg_sl ([.ref (ar 99), .int (Int32.ofInt (s0)), .int (Int32.ofInt (b0))]) ++ List.replicate (5 - (lg_sl ([.ref (ar 99), .int (Int32.ofInt (s0)), .int (Int32.ofInt (b0))])).length) Slot.unset).toArray = ls at hl ⊢
  have hl : lv_has ls 5 [(0, .ref (ar 99)), (1, .int (Int32.ofInt (s0))), (2, .int (Int32.ofInt (b0)))] := hl
  obtain ⟨H, eH⟩ : ∃ H, H = s.heap := ⟨_, rfl⟩
  rw [← eH] at hP
  have hS : va_S A s.heap H [] := by rw [eH]; exact hS
  have gW : s.heap = H := eH.symm
  refine iv_heap gW ?_
  have h0w := hts (.fieldLink RX3 27 "RopeTown$Plan" "rules" "LRopeTown$Rules;") (wz_at 2 0 rfl)
  have h1w : ∀ w ∈ wsX30, w ∈ wzX3_brokenRule := fun w h => List.mem_cons_of_mem _ (inlX3 w h)
  have h2w : ∀ w ∈ wsX50, w ∈ wzX3_brokenRule := fun w h => List.mem_cons_of_mem _ (inlX5 w h)
  have h3w := hts (.fieldLink RX3 31 "RopeTown$Plan" "values" "[I") (wz_at 2 1 rfl)
  have h4w := hts (.fieldLink RX3 59 "RopeTown$Plan" "things" "I") (wz_at 3 1 rfl)
  have h5w := hts (.initialized RX5) (wz_at 1 23 rfl)
  have h6w := hts (.instanceMethod yX5_worth) (wz_at 25 11 rfl)
  have h7w := hts (.selects RX5 yX5_worth yX5_worth) (wz_at 25 12 rfl)
  have h8w := hts (.initialized RX7) (wz_at 5 10 rfl)
  have h9w := hts (.static yX7_place) (wz_at 23 11 rfl)
  have h10w := hts (.fieldLink RX3 15 "RopeTown$Plan" "weight" "[I") (wz_at 1 18 rfl)
  have h11w := hts (.fieldLink RX3 9 "RopeTown$Plan" "kind" "[I") (wz_at 1 17 rfl)
  refine lv_aload_n hx hb dX3_brokenRule_0 rfl (lv_at hl 0 rfl) ?_
  refine va_get (D := G) (ci := 2) (v := .ref (ar 98)) (C := RX3) (T := TX3) (N := 14) (ref := RX3) hx hb hts h1w hown hX.1 hP 0 rfl rfl 12 (by decide) h0w (fun _ h9 => h9) rfl dX3_brokenRule_1 ?_
  refine va_getN (D := G) (ci := 4) (v := .int (Int32.ofInt (fi 24))) (C := RX5) (T := TX5) (N := 5) (ref := RX5) (host := RX9) hx hb hts h2w hown hX.1 hP 1 rfl rfl 4 (by decide) (nf_2 hX.2.2.1) (fun _ h9 => h9) rfl dX3_brokenRule_4 ?_
  have rf24 := hR 24
  refine iv_if_ne (tgt := 12) hx hb (by omega) dX3_brokenRule_7 (by decide) (fun q1 => ?_) (fun q1 => ?_)
  · refine lv_aload_n hx hb dX3_brokenRule_12 rfl (lv_at hl 0 rfl) ?_
    refine va_get (D := G) (ci := 2) (v := .ref (ar 13)) (C := RX3) (T := TX3) (N := 14) (ref := RX3) hx hb hts h1w hown hX.1 hP 0 rfl rfl 13 (by decide) h3w (fun _ h9 => h9) rfl dX3_brokenRule_13 ?_
    refine lv_iconst (v := Int32.ofInt 0) hx hb dX3_brokenRule_16 (by decide +kernel) ?_
    refine cr_v (va_runS (As := [.ref (ar 13), .int (Int32.ofInt (0))]) (rest := []) ⟨hx, hb, hml, hown, hts⟩ (mJ7_fill_P13 l G k ar fi fa 0 H.size hR hRa hB8 hB21 (by omega)) (va_cwS 2 hts (gz [.methodLink RX3 119 yJ7_fill_53178, .static yJ7_fill_53178, .initialized RJ7] (.code yJ7_fill_53178 cJ7_fill_53178 4 none) [(25, 10), (16, 2), (16, 3), (16, 4)] rfl) rfl rfl rfl (by decide +kernel) ⟨Nat.le_of_ble_eq_true rfl, Nat.le_of_ble_eq_true rfl⟩) (cr_preS (EZ_ok k) hZ hS hX hP hD hA) rfl rfl hl.1 rfl (lv_room (Nat.le_of_ble_eq_true rfl)) dX3_brokenRule_17 ⟨Nat.le_of_ble_eq_true rfl, Nat.le_of_ble_eq_true rfl⟩) hD hS hA (fun u H locs hp hP hD hS => ?_)
    obtain ⟨c2, rfl⟩ : ∃ z, z = u := ⟨_, rfl⟩
    obtain ⟨hP, hD⟩ : va_P G vwCl (wP k ar fi (uF fa 13 (c2))) H ∧ va_D A (wP k ar fi (uF fa 13 (c2))) := ⟨hP, hD⟩
    obtain ⟨rc2, hp2⟩ : (∀ t, inR (c2 t)) ∧ (True) := hp
    refine lv_iconst (v := Int32.ofInt 0) hx hb dX3_brokenRule_20 (by decide +kernel) ?_
    refine lv_istore_n (lv' := [(3, .int (Int32.ofInt (0))), (0, .ref (ar 99)), (1, .int (Int32.ofInt (s0))), (2, .int (Int32.ofInt (b0)))]) hx hb dX3_brokenRule_21 rfl hl (by decide) rfl (fun ls hl => ?_)
    refine iv_loop (α := Int × (Int → Int)) (nL := 5) (fun b9 => (wP k ar fi (uF fa 13 (b9.2)))) (fun b9 => [(3, .int (Int32.ofInt (b9.1))), (0, .ref (ar 99)), (1, .int (Int32.ofInt (s0))), (2, .int (Int32.ofInt (b0)))]) (fun b9 => (fi 7 - b9.1).toNat) (fun b9 => inR b9.1 ∧ (∀ t, inR (b9.2 t)) ∧ (0 ≤ b9.1)) ?_ (0, c2) (show inR 0 ∧ (∀ t, inR (c2 t)) ∧ (0 ≤ 0) from ⟨(by omega), rc2, (by omega)⟩) hP hD hS hl
    rintro ⟨x3_3, g13_4⟩ ih hi9 H locs ls hP hD hS hl
    obtain ⟨r_x3_3, r_g13_4, hinv⟩ : inR x3_3 ∧ (∀ t, inR (g13_4 t)) ∧ (0 ≤ x3_3) := hi9
    obtain ⟨hP, hD⟩ : va_P G vwCl (wP k ar fi (uF fa 13 (g13_4))) H ∧ va_D A (wP k ar fi (uF fa 13 (g13_4))) := ⟨hP, hD⟩
    have hl : lv_has ls 5 [(3, .int (Int32.ofInt (x3_3))), (0, .ref (ar 99)), (1, .int (Int32.ofInt (s0))), (2, .int (Int32.ofInt (b0)))] := hl
    refine lv_iload_n hx hb dX3_brokenRule_22 rfl (lv_at hl 0 rfl) ?_
    refine lv_aload_n hx hb dX3_brokenRule_23 rfl (lv_at hl 1 rfl) ?_
    refine va_get (D := G) (ci := 2) (v := .int (Int32.ofInt (fi 7))) (C := RX3) (T := TX3) (N := 14) (ref := RX3) hx hb hts h1w hown hX.1 hP 0 rfl rfl 7 (by decide) h4w (fun _ h9 => h9) rfl dX3_brokenRule_24 ?_
    have rf7 := hR 7
    refine iv_icmp_ge (tgt := 110) hx hb (by omega) (by omega) dX3_brokenRule_27 (by decide) (fun q5 => ?_) (fun q5 => ?_)
    · refine lv_aload_n hx hb dX3_brokenRule_110 rfl (lv_at hl 1 rfl) ?_
      refine va_get (D := G) (ci := 2) (v := .ref (ar 13)) (C := RX3) (T := TX3) (N := 14) (ref := RX3) hx hb hts h1w hown hX.1 hP 0 rfl rfl 13 (by decide) h3w (fun _ h9 => h9) rfl dX3_brokenRule_111 ?_
      refine lv_iconst (v := Int32.ofInt 5) hx hb dX3_brokenRule_114 (by decide +kernel) ?_
      refine lv_aload_n hx hb dX3_brokenRule_115 rfl (lv_at hl 1 rfl) ?_
      refine lv_iload_n hx hb dX3_brokenRule_116 rfl (lv_at hl 2 rfl) ?_
      refine lv_iload_n hx hb dX3_brokenRule_117 rfl (lv_at hl 3 rfl) ?_
      refine cr_i (va_runV (As := [.int (Int32.ofInt (s0)), .int (Int32.ofInt (b0))]) (rest := [.int (Int32.ofInt (5)), .ref (ar 13)]) ⟨hx, hb, hml, hown, hts⟩ (mX3_bucketDepth l G k ar fi (uF fa 13 (g13_4)) s0 b0 H.size hR (iG hRa r_g13_4) hB8 hB21 (by omega) (by omega) (show 0 ≤ (fi 0) ∧ (fi 0) ≤ 11 from by omega)) (cwV 2 hts (gz [.methodLink RX3 81 yX3_bucketDepth, .instanceMethod yX3_bucketDepth, .selects RX3 yX3_bucketDepth yX3_bucketDepth, .initialized RX3] (.code yX3_bucketDepth cX3_bucketDepth 3 (some .int)) [(23, 13), (23, 14), (23, 15), (0, 19), (23, 16)] rfl) rfl rfl rfl (by decide +kernel) ⟨Nat.le_of_ble_eq_true rfl, Nat.le_of_ble_eq_true rfl⟩) (cr_preV (EZ_ok k) hZ hS hX hP hD hA (ci := 2) (q0 := 0) rfl rfl) rfl rfl hl.1 rfl (lv_room (Nat.le_of_ble_eq_true rfl)) dX3_brokenRule_118 ⟨Nat.le_of_ble_eq_true rfl, Nat.le_of_ble_eq_true rfl⟩) hD hS hA (fun r u H locs hp hP hD hS => ?_)
      obtain ⟨c6, rfl⟩ : ∃ z, z = u := ⟨_, rfl⟩
      obtain ⟨h9, rc6, hp6⟩ : r = Int32.ofInt c6 ∧ (inR c6) ∧ (-15 ≤ c6 ∧ c6 ≤ 15) := hp
      subst h9
      refine iv_iast hx hb hX.1 hP hD hS 6 0 rfl rfl (fun g' => show _ = (wP k ar fi (uF fa 13 (g'))) from rfl) (by omega) (by omega) (by decide) dX3_brokenRule_121 (fun H locs hP hD hS => ?_)
      obtain ⟨hP, hD⟩ : va_P G vwCl (wP k ar fi (uF fa 13 (uA (g13_4) (5) (c6)))) H ∧ va_D A (wP k ar fi (uF fa 13 (uA (g13_4) (5) (c6)))) := ⟨hP, hD⟩
      obtain ⟨g7, eg7, rg7⟩ : ∃ z, z = uA (g13_4) (5) (c6) ∧ ∀ t, inR (z t) := ⟨_, rfl, iU r_g13_4 (by omega)⟩
      rw [← eg7] at hP hD
      refine lv_iconst (v := Int32.ofInt 0) hx hb dX3_brokenRule_122 (by decide +kernel) ?_
      refine lv_istore_n (lv' := [(3, .int (Int32.ofInt (0))), (0, .ref (ar 99)), (1, .int (Int32.ofInt (s0))), (2, .int (Int32.ofInt (b0)))]) hx hb dX3_brokenRule_123 rfl hl (by decide) rfl (fun ls hl => ?_)
      refine iv_loop (α := Int × (Int → Int)) (nL := 5) (fun b9 => (wP k ar fi (uF (uF fa 13 (g7)) 22 (b9.2)))) (fun b9 => [(3, .int (Int32.ofInt (b9.1))), (0, .ref (ar 99)), (1, .int (Int32.ofInt (s0))), (2, .int (Int32.ofInt (b0)))]) (fun b9 => (fi 24 - b9.1).toNat) (fun b9 => inR b9.1 ∧ (∀ t, inR (b9.2 t)) ∧ (0 ≤ b9.1)) ?_ (0, fa 22) (show inR 0 ∧ (∀ t, inR ((fa 22) t)) ∧ (0 ≤ 0) from ⟨(by omega), (hRa 22), (by omega)⟩) hP hD hS hl
      rintro ⟨x3_8, g22_9⟩ ih hi9 H locs ls hP hD hS hl
      obtain ⟨r_x3_8, r_g22_9, hinv⟩ : inR x3_8 ∧ (∀ t, inR (g22_9 t)) ∧ (0 ≤ x3_8) := hi9
      obtain ⟨hP, hD⟩ : va_P G vwCl (wP k ar fi (uF (uF fa 13 (g7)) 22 (g22_9))) H ∧ va_D A (wP k ar fi (uF (uF fa 13 (g7)) 22 (g22_9))) := ⟨hP, hD⟩
      have hl : lv_has ls 5 [(3, .int (Int32.ofInt (x3_8))), (0, .ref (ar 99)), (1, .int (Int32.ofInt (s0))), (2, .int (Int32.ofInt (b0)))] := hl
      refine lv_iload_n hx hb dX3_brokenRule_124 rfl (lv_at hl 0 rfl) ?_
      refine lv_aload_n hx hb dX3_brokenRule_125 rfl (lv_at hl 1 rfl) ?_
      refine va_get (D := G) (ci := 2) (v := .ref (ar 98)) (C := RX3) (T := TX3) (N := 14) (ref := RX3) hx hb hts h1w hown hX.1 hP 0 rfl rfl 12 (by decide) h0w (fun _ h9 => h9) rfl dX3_brokenRule_126 ?_
      refine va_getN (D := G) (ci := 4) (v := .int (Int32.ofInt (fi 24))) (C := RX5) (T := TX5) (N := 5) (ref := RX5) (host := RX9) hx hb hts h2w hown hX.1 hP 1 rfl rfl 4 (by decide) (nf_2 hX.2.2.1) (fun _ h9 => h9) rfl dX3_brokenRule_129 ?_
      have rf24 := hR 24
      refine iv_icmp_ge (tgt := 158) hx hb (by omega) (by omega) dX3_brokenRule_132 (by decide) (fun q10 => ?_) (fun q10 => ?_)
      · refine lv_iconst (v := Int32.ofInt (-1)) hx hb dX3_brokenRule_158 (by decide +kernel) ?_
        exact W.iret (v := Int32.ofInt ((-1))) hx hb hr (fun t ht hW => ⟨⟨Int32.ofInt ((-1)), ((-1), g7, g22_9), rfl, ⟨rfl, (show (inR (-1)) ∧ (∀ t, inR (g7 t)) ∧ (∀ t, inR (g22_9 t)) ∧ (-1 ≤ (-1) ∧ (-1) < 4) from ⟨(by omega), rg7, r_g22_9, (by omega)⟩)⟩, by rw [ht]; exact hP, hD⟩, hS.F ht⟩) hS.2.2 dX3_brokenRule_159
      · refine lv_aload_n hx hb dX3_brokenRule_135 rfl (lv_at hl 1 rfl) ?_
        refine va_get (D := G) (ci := 2) (v := .ref (ar 98)) (C := RX3) (T := TX3) (N := 14) (ref := RX3) hx hb hts h1w hown hX.1 hP 0 rfl rfl 12 (by decide) h0w (fun _ h9 => h9) rfl dX3_brokenRule_136 ?_
        refine lv_iload_n hx hb dX3_brokenRule_139 rfl (lv_at hl 0 rfl) ?_
        refine lv_aload_n hx hb dX3_brokenRule_140 rfl (lv_at hl 1 rfl) ?_
        refine va_get (D := G) (ci := 2) (v := .ref (ar 13)) (C := RX3) (T := TX3) (N := 14) (ref := RX3) hx hb hts h1w hown hX.1 hP 0 rfl rfl 13 (by decide) h3w (fun _ h9 => h9) rfl dX3_brokenRule_141 ?_
        refine cr_i (va_runVN (As := [.int (Int32.ofInt (x3_8)), .ref (ar 13)]) (rest := []) ⟨hx, hb, hml, hown, hts⟩ (mX5_worth l G k ar fi (uF (uF fa 13 (g7)) 22 (g22_9)) x3_8 H.size hR (iG (iG hRa rg7) r_g22_9) hB8 hB21 (by omega) (show 0 ≤ (fi 24) ∧ (fi 24) ≤ 4 from by omega) (show 0 ≤ x3_8 ∧ x3_8 < (fi 24) from by omega)) ⟨va_cnB 2 hts (gz [] (.code yX5_worth cX5_worth 7 (some .int)) [(25, 13)] rfl) rfl rfl rfl (nm_20 hX.2.2.1) h5w (by decide +kernel) ⟨Nat.le_of_ble_eq_true rfl, Nat.le_of_ble_eq_true rfl⟩, h6w, h7w⟩ (cr_preV (EZ_ok k) hZ hS hX hP hD hA (ci := 4) (q0 := 1) rfl rfl) rfl rfl hl.1 rfl (lv_room (Nat.le_of_ble_eq_true rfl)) dX3_brokenRule_144 ⟨Nat.le_of_ble_eq_true rfl, Nat.le_of_ble_eq_true rfl⟩) hD hS hA (fun r u H locs hp hP hD hS => ?_)
        obtain ⟨c11, c12⟩ := u
        obtain ⟨hP, hD⟩ : va_P G vwCl (wP k ar fi (uF (uF fa 13 (g7)) 22 (c12))) H ∧ va_D A (wP k ar fi (uF (uF fa 13 (g7)) 22 (c12))) := ⟨hP, hD⟩
        obtain ⟨h9, rc11, rc12, hp12⟩ : r = Int32.ofInt c11 ∧ (inR c11) ∧ (∀ t, inR (c12 t)) ∧ (True) := hp
        subst h9
        refine iv_if_ne (tgt := 152) hx hb (by omega) dX3_brokenRule_147 (by decide) (fun q13 => ?_) (fun q13 => ?_)
        · refine lv_iinc (v := Int32.ofInt (x3_8 + 1)) (lv' := [(3, .int (Int32.ofInt ((x3_8 + 1)))), (0, .ref (ar 99)), (1, .int (Int32.ofInt (s0))), (2, .int (Int32.ofInt (b0)))]) hx hb dX3_brokenRule_152 hl (k := 0) rfl (Int32.ofInt_add _ _).symm (by decide) rfl (fun ls hl => ?_)
          refine lv_goto (tgt := 124) hx hb dX3_brokenRule_155 (by decide) ?_
          have hl : lv_has ls 5 [(3, .int (Int32.ofInt ((x3_8 + 1)))), (0, .ref (ar 99)), (1, .int (Int32.ofInt (s0))), (2, .int (Int32.ofInt (b0)))] := lv_sub hl [0, 1, 2, 3] rfl
          exact ih ((x3_8 + 1), c12) (show (fi 24 - (x3_8 + 1)).toNat < (fi 24 - x3_8).toNat from by omega) (show inR (x3_8 + 1) ∧ (∀ t, inR (c12 t)) ∧ (0 ≤ (x3_8 + 1)) from ⟨(by omega), rc12, (by omega)⟩) _ _ _ hP hD hS hl
        · refine lv_iload_n hx hb dX3_brokenRule_150 rfl (lv_at hl 0 rfl) ?_
          exact W.iret (v := Int32.ofInt (x3_8)) hx hb hr (fun t ht hW => ⟨⟨Int32.ofInt (x3_8), (x3_8, g7, c12), rfl, ⟨rfl, (show (inR x3_8) ∧ (∀ t, inR (g7 t)) ∧ (∀ t, inR (c12 t)) ∧ (-1 ≤ x3_8 ∧ x3_8 < 4) from ⟨(by omega), rg7, rc12, (by omega)⟩)⟩, by rw [ht]; exact hP, hD⟩, hS.F ht⟩) hS.2.2 dX3_brokenRule_151
    · refine lv_iload_n hx hb dX3_brokenRule_30 rfl (lv_at hl 2 rfl) ?_
      refine lv_iload_n hx hb dX3_brokenRule_31 rfl (lv_at hl 0 rfl) ?_
      refine c0_i (va_runSN (As := [.int (Int32.ofInt (s0)), .int (Int32.ofInt (x3_3))]) (rest := []) ⟨hx, hb, hml, hown, hts⟩ (mX7_place l G k s0 x3_3 H.size (by omega) (by omega)) ⟨va_cnB 2 hts (gz [] (.code yX7_place cX7_place 2 (some .int)) [(23, 12)] rfl) rfl rfl rfl (nm_12 hX.2.2.1) h8w (by decide +kernel) ⟨Nat.le_of_ble_eq_true rfl, Nat.le_of_ble_eq_true rfl⟩, h9w, trivial⟩ (cr_pre0 (EZ_ok k) hZ hS hX hP hD hA) rfl rfl hl.1 rfl (lv_room (Nat.le_of_ble_eq_true rfl)) dX3_brokenRule_32 ⟨Nat.le_of_ble_eq_true rfl, Nat.le_of_ble_eq_true rfl⟩) hP hD hS hA (fun r u H locs hp hP hD hS => ?_)
      obtain ⟨c14, rfl⟩ : ∃ z, z = u := ⟨_, rfl⟩
      obtain ⟨h9, rc14, hp14⟩ : r = Int32.ofInt c14 ∧ (inR c14) ∧ (c14 = bAnd (bUshr s0 (4 * x3_3)) 15 ∧ 0 ≤ c14 ∧ c14 ≤ 15) := hp
      subst h9
      refine lv_istore (lv' := [(4, .int (Int32.ofInt (c14))), (3, .int (Int32.ofInt (x3_3))), (0, .ref (ar 99)), (1, .int (Int32.ofInt (s0))), (2, .int (Int32.ofInt (b0)))]) hx hb dX3_brokenRule_35 hl (by decide) rfl (fun ls hl => ?_)
      refine lv_iload hx hb dX3_brokenRule_37 (lv_at hl 0 rfl) ?_
      refine lv_bipush (v := Int32.ofInt 12) hx hb dX3_brokenRule_39 (by decide +kernel) ?_
      refine lv_iload_n hx hb dX3_brokenRule_41 rfl (lv_at hl 4 rfl) ?_
      refine iv_add (x := 12) (y := b0) hx hb dX3_brokenRule_42 ?_
      refine iv_wr ?_
      refine iv_top (fun z15 ez15 => ?_)
      have rz15 : inR z15 := ez15 ▸ bWr_r _
      refine iv_icmp_ne (tgt := 79) hx hb (by omega) (by omega) dX3_brokenRule_43 (by decide) (fun q16 => ?_) (fun q16 => ?_)
      · refine lv_iload hx hb dX3_brokenRule_79 (lv_at hl 0 rfl) ?_
        refine lv_bipush (v := Int32.ofInt 13) hx hb dX3_brokenRule_81 (by decide +kernel) ?_
        refine lv_iload_n hx hb dX3_brokenRule_83 rfl (lv_at hl 4 rfl) ?_
        refine iv_sub (x := 13) (y := b0) hx hb dX3_brokenRule_84 ?_
        refine iv_wr ?_
        refine iv_top (fun z17 ez17 => ?_)
        have rz17 : inR z17 := ez17 ▸ bWr_r _
        refine iv_icmp_ne (tgt := 104) hx hb (by omega) (by omega) dX3_brokenRule_85 (by decide) (fun q18 => ?_) (fun q18 => ?_)
        · refine lv_iinc (v := Int32.ofInt (x3_3 + 1)) (lv' := [(3, .int (Int32.ofInt ((x3_3 + 1)))), (4, .int (Int32.ofInt (c14))), (0, .ref (ar 99)), (1, .int (Int32.ofInt (s0))), (2, .int (Int32.ofInt (b0)))]) hx hb dX3_brokenRule_104 hl (k := 1) rfl (Int32.ofInt_add _ _).symm (by decide) rfl (fun ls hl => ?_)
          refine lv_goto (tgt := 22) hx hb dX3_brokenRule_107 (by decide) ?_
          have hl : lv_has ls 5 [(3, .int (Int32.ofInt ((x3_3 + 1)))), (0, .ref (ar 99)), (1, .int (Int32.ofInt (s0))), (2, .int (Int32.ofInt (b0)))] := lv_sub hl [0, 2, 3, 4] rfl
          exact ih ((x3_3 + 1), g13_4) (show (fi 7 - (x3_3 + 1)).toNat < (fi 7 - x3_3).toNat from by omega) (show inR (x3_3 + 1) ∧ (∀ t, inR (g13_4 t)) ∧ (0 ≤ (x3_3 + 1)) from ⟨(by omega), r_g13_4, (by omega)⟩) _ _ _ hP hD hS hl
        · refine lv_aload_n hx hb dX3_brokenRule_88 rfl (lv_at hl 2 rfl) ?_
          refine va_get (D := G) (ci := 2) (v := .ref (ar 13)) (C := RX3) (T := TX3) (N := 14) (ref := RX3) hx hb hts h1w hown hX.1 hP 0 rfl rfl 13 (by decide) h3w (fun _ h9 => h9) rfl dX3_brokenRule_89 ?_
          refine lv_bipush (v := Int32.ofInt 6) hx hb dX3_brokenRule_92 (by decide +kernel) ?_
          refine lv_dup2_11 hx hb dX3_brokenRule_94 rfl rfl ?_
          refine iv_iald hx hb hX.1 hP 6 0 rfl rfl (by omega) (by omega) (by decide) dX3_brokenRule_95 ?_
          refine iv_top (fun z19 ez19 => ?_)
          have rz19 : inR z19 := ez19 ▸ r_g13_4 _
          have ez19 : z19 = g13_4 6 := ez19
          refine lv_aload_n hx hb dX3_brokenRule_96 rfl (lv_at hl 2 rfl) ?_
          refine va_get (D := G) (ci := 2) (v := .ref (ar 9)) (C := RX3) (T := TX3) (N := 14) (ref := RX3) hx hb hts h1w hown hX.1 hP 0 rfl rfl 9 (by decide) h10w (fun _ h9 => h9) rfl dX3_brokenRule_97 ?_
          refine lv_iload_n hx hb dX3_brokenRule_100 rfl (lv_at hl 1 rfl) ?_
          refine iv_iald hx hb hX.1 hP 3 0 rfl rfl (by omega) (by omega) (by decide) dX3_brokenRule_101 ?_
          refine iv_top (fun z20 ez20 => ?_)
          have rz20 : inR z20 := ez20 ▸ (hRa 9) _
          have ez20 : z20 = (fa 9) x3_3 := ez20
          refine iv_add (x := z19) (y := z20) hx hb dX3_brokenRule_102 ?_
          refine iv_wr ?_
          refine iv_top (fun z21 ez21 => ?_)
          have rz21 : inR z21 := ez21 ▸ bWr_r _
          refine iv_iast hx hb hX.1 hP hD hS 6 0 rfl rfl (fun g' => show _ = (wP k ar fi (uF fa 13 (g'))) from rfl) (by omega) (by omega) (by decide) dX3_brokenRule_103 (fun H locs hP hD hS => ?_)
          obtain ⟨hP, hD⟩ : va_P G vwCl (wP k ar fi (uF fa 13 (uA (g13_4) (6) (z21)))) H ∧ va_D A (wP k ar fi (uF fa 13 (uA (g13_4) (6) (z21)))) := ⟨hP, hD⟩
          obtain ⟨g22, eg22, rg22⟩ : ∃ z, z = uA (g13_4) (6) (z21) ∧ ∀ t, inR (z t) := ⟨_, rfl, iU r_g13_4 (by omega)⟩
          rw [← eg22] at hP hD
          refine lv_iinc (v := Int32.ofInt (x3_3 + 1)) (lv' := [(3, .int (Int32.ofInt ((x3_3 + 1)))), (4, .int (Int32.ofInt (c14))), (0, .ref (ar 99)), (1, .int (Int32.ofInt (s0))), (2, .int (Int32.ofInt (b0)))]) hx hb dX3_brokenRule_104 hl (k := 1) rfl (Int32.ofInt_add _ _).symm (by decide) rfl (fun ls hl => ?_)
          refine lv_goto (tgt := 22) hx hb dX3_brokenRule_107 (by decide) ?_
          have hl : lv_has ls 5 [(3, .int (Int32.ofInt ((x3_3 + 1)))), (0, .ref (ar 99)), (1, .int (Int32.ofInt (s0))), (2, .int (Int32.ofInt (b0)))] := lv_sub hl [0, 2, 3, 4] rfl
          exact ih ((x3_3 + 1), g22) (show (fi 7 - (x3_3 + 1)).toNat < (fi 7 - x3_3).toNat from by omega) (show inR (x3_3 + 1) ∧ (∀ t, inR (g22 t)) ∧ (0 ≤ (x3_3 + 1)) from ⟨(by omega), rg22, (by omega)⟩) _ _ _ hP hD hS hl
      · refine lv_aload_n hx hb dX3_brokenRule_46 rfl (lv_at hl 2 rfl) ?_
        refine va_get (D := G) (ci := 2) (v := .ref (ar 13)) (C := RX3) (T := TX3) (N := 14) (ref := RX3) hx hb hts h1w hown hX.1 hP 0 rfl rfl 13 (by decide) h3w (fun _ h9 => h9) rfl dX3_brokenRule_47 ?_
        refine lv_aload_n hx hb dX3_brokenRule_50 rfl (lv_at hl 2 rfl) ?_
        refine va_get (D := G) (ci := 2) (v := .ref (ar 8)) (C := RX3) (T := TX3) (N := 14) (ref := RX3) hx hb hts h1w hown hX.1 hP 0 rfl rfl 8 (by decide) h11w (fun _ h9 => h9) rfl dX3_brokenRule_51 ?_
        refine lv_iload_n hx hb dX3_brokenRule_54 rfl (lv_at hl 1 rfl) ?_
        refine iv_iald hx hb hX.1 hP 2 0 rfl rfl (by omega) (by omega) (by decide) dX3_brokenRule_55 ?_
        refine iv_top (fun z23 ez23 => ?_)
        have rz23 : inR z23 := ez23 ▸ (hRa 8) _
        have ez23 : z23 = (fa 8) x3_3 := ez23
        have bz23 : 0 ≤ z23 ∧ z23 < 4 := by rw [ez23]; exact bnd_at hB8 (by omega) (by omega)
        refine lv_dup2_11 hx hb dX3_brokenRule_56 rfl rfl ?_
        refine iv_iald hx hb hX.1 hP 6 0 rfl rfl (by omega) (by omega) (by decide) dX3_brokenRule_57 ?_
        refine iv_top (fun z24 ez24 => ?_)
        have rz24 : inR z24 := ez24 ▸ r_g13_4 _
        have ez24 : z24 = g13_4 z23 := ez24
        refine lv_iconst (v := Int32.ofInt 1) hx hb dX3_brokenRule_58 (by decide +kernel) ?_
        refine iv_add (x := z24) (y := 1) hx hb dX3_brokenRule_59 ?_
        refine iv_wr ?_
        refine iv_top (fun z25 ez25 => ?_)
        have rz25 : inR z25 := ez25 ▸ bWr_r _
        refine iv_iast hx hb hX.1 hP hD hS 6 0 rfl rfl (fun g' => show _ = (wP k ar fi (uF fa 13 (g'))) from rfl) (by omega) (by omega) (by decide) dX3_brokenRule_60 (fun H locs hP hD hS => ?_)
        obtain ⟨hP, hD⟩ : va_P G vwCl (wP k ar fi (uF fa 13 (uA (g13_4) (z23) (z25)))) H ∧ va_D A (wP k ar fi (uF fa 13 (uA (g13_4) (z23) (z25)))) := ⟨hP, hD⟩
        obtain ⟨g26, eg26, rg26⟩ : ∃ z, z = uA (g13_4) (z23) (z25) ∧ ∀ t, inR (z t) := ⟨_, rfl, iU r_g13_4 (by omega)⟩
        rw [← eg26] at hP hD
        refine lv_aload_n hx hb dX3_brokenRule_61 rfl (lv_at hl 2 rfl) ?_
        refine va_get (D := G) (ci := 2) (v := .ref (ar 13)) (C := RX3) (T := TX3) (N := 14) (ref := RX3) hx hb hts h1w hown hX.1 hP 0 rfl rfl 13 (by decide) h3w (fun _ h9 => h9) rfl dX3_brokenRule_62 ?_
        refine lv_iconst (v := Int32.ofInt 4) hx hb dX3_brokenRule_65 (by decide +kernel) ?_
        refine lv_dup2_11 hx hb dX3_brokenRule_66 rfl rfl ?_
        refine iv_iald hx hb hX.1 hP 6 0 rfl rfl (by omega) (by omega) (by decide) dX3_brokenRule_67 ?_
        refine iv_top (fun z27 ez27 => ?_)
        have rz27 : inR z27 := ez27 ▸ rg26 _
        have ez27 : z27 = g26 4 := ez27
        refine lv_aload_n hx hb dX3_brokenRule_68 rfl (lv_at hl 2 rfl) ?_
        refine va_get (D := G) (ci := 2) (v := .ref (ar 9)) (C := RX3) (T := TX3) (N := 14) (ref := RX3) hx hb hts h1w hown hX.1 hP 0 rfl rfl 9 (by decide) h10w (fun _ h9 => h9) rfl dX3_brokenRule_69 ?_
        refine lv_iload_n hx hb dX3_brokenRule_72 rfl (lv_at hl 1 rfl) ?_
        refine iv_iald hx hb hX.1 hP 3 0 rfl rfl (by omega) (by omega) (by decide) dX3_brokenRule_73 ?_
        refine iv_top (fun z28 ez28 => ?_)
        have rz28 : inR z28 := ez28 ▸ (hRa 9) _
        have ez28 : z28 = (fa 9) x3_3 := ez28
        refine iv_add (x := z27) (y := z28) hx hb dX3_brokenRule_74 ?_
        refine iv_wr ?_
        refine iv_top (fun z29 ez29 => ?_)
        have rz29 : inR z29 := ez29 ▸ bWr_r _
        refine iv_iast hx hb hX.1 hP hD hS 6 0 rfl rfl (fun g' => show _ = (wP k ar fi (uF fa 13 (g'))) from rfl) (by omega) (by omega) (by decide) dX3_brokenRule_75 (fun H locs hP hD hS => ?_)
        obtain ⟨hP, hD⟩ : va_P G vwCl (wP k ar fi (uF fa 13 (uA (g26) (4) (z29)))) H ∧ va_D A (wP k ar fi (uF fa 13 (uA (g26) (4) (z29)))) := ⟨hP, hD⟩
        obtain ⟨g30, eg30, rg30⟩ : ∃ z, z = uA (g26) (4) (z29) ∧ ∀ t, inR (z t) := ⟨_, rfl, iU rg26 (by omega)⟩
        rw [← eg30] at hP hD
        refine lv_goto (tgt := 104) hx hb dX3_brokenRule_76 (by decide) ?_
        refine lv_iinc (v := Int32.ofInt (x3_3 + 1)) (lv' := [(3, .int (Int32.ofInt ((x3_3 + 1)))), (4, .int (Int32.ofInt (c14))), (0, .ref (ar 99)), (1, .int (Int32.ofInt (s0))), (2, .int (Int32.ofInt (b0)))]) hx hb dX3_brokenRule_104 hl (k := 1) rfl (Int32.ofInt_add _ _).symm (by decide) rfl (fun ls hl => ?_)
        refine lv_goto (tgt := 22) hx hb dX3_brokenRule_107 (by decide) ?_
        have hl : lv_has ls 5 [(3, .int (Int32.ofInt ((x3_3 + 1)))), (0, .ref (ar 99)), (1, .int (Int32.ofInt (s0))), (2, .int (Int32.ofInt (b0)))] := lv_sub hl [0, 2, 3, 4] rfl
        exact ih ((x3_3 + 1), g30) (show (fi 7 - (x3_3 + 1)).toNat < (fi 7 - x3_3).toNat from by omega) (show inR (x3_3 + 1) ∧ (∀ t, inR (g30 t)) ∧ (0 ≤ (x3_3 + 1)) from ⟨(by omega), rg30, (by omega)⟩) _ _ _ hP hD hS hl
  · refine lv_iconst (v := Int32.ofInt (-1)) hx hb dX3_brokenRule_10 (by decide +kernel) ?_
    exact W.iret (v := Int32.ofInt ((-1))) hx hb hr (fun t ht hW => ⟨⟨Int32.ofInt ((-1)), ((-1), fa 13, fa 22), rfl, ⟨rfl, (show (inR (-1)) ∧ (∀ t, inR ((fa 13) t)) ∧ (∀ t, inR ((fa 22) t)) ∧ (-1 ≤ (-1) ∧ (-1) < 4) from ⟨(by omega), (hRa 13), (hRa 22), (by omega)⟩)⟩, by rw [ht]; exact hP, hD⟩, hS.F ht⟩) hS.2.2 dX3_brokenRule_11

set_option maxHeartbeats 4000000 in
set_option maxRecDepth 100000 in
theorem mX3_rideTrouble (l : Launch) (G : va_G) (k : Nat → ClassId) (ar : Nat → Nat) (fi : Nat → Int) (fa : Nat → Int → Int) (s0 : Int) (d0 : Int) (h0 : Int) (sz : Nat) (hR : ∀ j, inR (fi j)) (hRa : ∀ j t, inR (fa j t)) (hB8 : bnd (fa 8) 7 0 4) (hB21 : bnd (fa 21) 4 0 601) (hr_s0 : inR s0) (hr_d0 : inR d0) (hr_h0 : inR h0) (hth : 0 ≤ fi 7 ∧ fi 7 ≤ 7) (hbt : 0 ≤ fi 0 ∧ fi 0 ≤ 11) (hsz : 0 ≤ fi 24 ∧ fi 24 ≤ 4) : CNi l G k (EZ k) yX3_rideTrouble wzX3_rideTrouble ({ frames := 3, cells := 0, slots := 0, locals := 73 }) [.ref (ar 99), .int (Int32.ofInt (s0)), .int (Int32.ofInt (d0)), .int (Int32.ofInt (h0))] sz (wP k ar fi fa) (fun (r0 : Int32) (u : Int × (Int → Int) × (Int → Int)) => r0 = Int32.ofInt (u.1) ∧ (inR u.1) ∧ (∀ t, inR (u.2.1 t)) ∧ (∀ t, inR (u.2.2 t)) ∧ (0 ≤ u.1 ∧ u.1 ≤ 7 ∧ (u.1 = 0 → 0 ≤ d0 ∧ d0 ≤ fi 0))) (fun (u : Int × (Int → Int) × (Int → Int)) => (wP k ar fi (uF (uF fa 13 (u.2.1)) 22 (u.2.2)))) := by
  refine Met.ofW (cc := cX3_rideTrouble) (maxL := 4) (ret := (some .int)) (by decide) rfl ?_
  intro p e s m args below meth c s₁ B hml hv
  obtain ⟨rfl, hsz, hP, hX, hD0, hZ0⟩ := hv
  have hx := B.exec
  have hb := B.bytes
  have hr := B.returns
  have hts := atoms_spec (ws := wzX3_rideTrouble) B.pre
  have hown : s.vm.findClass RX3 = some m.cls := findClass_of_methodNamed B.named
  subst hsz
  have hD := hD0.self (sz := s.heap.size)
  have hZ := hZ0
  generalize hAe : va_A (wP k ar fi fa) s.heap.size = A at hD hZ ⊢
  have hA : ∀ q : Nat, s.heap.size ≤ q → A q := fun q h => by rw [← hAe]; exact Or.inr h
  have hS : va_S A s.heap s.heap [] := va_S.rf
  have hl := lv_entry ([.ref (ar 99), .int (Int32.ofInt (s0)), .int (Int32.ofInt (d0)), .int (Int32.ofInt (h0))]) (n := 4) (Nat.le_of_ble_eq_true rfl)
  rw [lg_entry_eq]
  generalize (lg_sl ([.ref (ar 99), .int (Int32.ofInt (s0)), .int (Int32.ofInt (d0)), .int (Int32.ofInt (h0))]) ++ List.replicate (4 - (lg_sl ([.ref (ar 99), .int (Int32.ofInt (s0)), .int (Int32.ofInt (d0)), .int (Int32.ofInt (h0))])).length) Slot.unset).toArray = ls at hl ⊢
  have hl : lv_has ls 4 [(0, .ref (ar 99)), (1, .int (Int32.ofInt (s0))), (2, .int (Int32.ofInt (d0))), (3, .int (Int32.ofInt (h0)))] := hl
  obtain ⟨H, eH⟩ : ∃ H, H = s.heap := ⟨_, rfl⟩
  rw [← eH] at hP
  have hS : va_S A s.heap H [] := by rw [eH]; exact hS
  have gW : s.heap = H := eH.symm
  refine iv_heap gW ?_
  have h0w := hts (.initialized RX7) (wz_at 5 10 rfl)
  have h1w := hts (.static yX7_depth) (wz_at 22 12 rfl)
  have h2w := hts (.fieldLink RX3 44 "RopeTown$Plan" "cap" "I") (wz_at 2 20 rfl)
  have h3w : ∀ w ∈ wsX30, w ∈ wzX3_rideTrouble := fun w h => List.mem_cons_of_mem _ (inlX3 w h)
  have h4w := hts (.fieldLink RX3 53 "RopeTown$Plan" "most" "I") (wz_at 2 23 rfl)
  have h5w := hts (.fieldLink RX3 56 "RopeTown$Plan" "brake" "I") (wz_at 3 0 rfl)
  refine lv_aload_n hx hb dX3_rideTrouble_0 rfl (lv_at hl 0 rfl) ?_
  refine lv_iload_n hx hb dX3_rideTrouble_1 rfl (lv_at hl 2 rfl) ?_
  refine cr_i (va_runV (As := [.int (Int32.ofInt (d0))]) (rest := []) ⟨hx, hb, hml, hown, hts⟩ (mX3_hasDepth l G k ar fi fa d0 H.size hR hRa hB8 hB21 (by omega)) (cwV 1 hts (gz [.methodLink RX3 98 yX3_hasDepth, .instanceMethod yX3_hasDepth, .selects RX3 yX3_hasDepth yX3_hasDepth, .initialized RX3] (.code yX3_hasDepth cX3_hasDepth 2 (some .boolean)) [(29, 5), (29, 6), (29, 7), (0, 19), (29, 8)] rfl) rfl rfl rfl (by decide +kernel) ⟨Nat.le_of_ble_eq_true rfl, Nat.le_of_ble_eq_true rfl⟩) (cr_preV (EZ_ok k) hZ hS hX hP hD hA (ci := 2) (q0 := 0) rfl rfl) rfl rfl hl.1 rfl (lv_room (Nat.le_of_ble_eq_true rfl)) dX3_rideTrouble_2 ⟨Nat.le_of_ble_eq_true rfl, Nat.le_of_ble_eq_true rfl⟩) hD hS hA (fun r u H locs hp hP hD hS => ?_)
  obtain ⟨c1, rfl⟩ : ∃ z, z = u := ⟨_, rfl⟩
  obtain ⟨h9, rc1, hp1⟩ : r = Int32.ofInt c1 ∧ (inR c1) ∧ ((c1 = 1 ∧ 0 ≤ d0 ∧ d0 ≤ (fi 0)) ∨ (c1 = 0 ∧ (d0 < 0 ∨ (fi 0) < d0))) := hp
  subst h9
  refine iv_if_eq (tgt := 17) hx hb (by omega) dX3_rideTrouble_5 (by decide) (fun q2 => ?_) (fun q2 => ?_)
  · refine lv_iconst (v := Int32.ofInt 1) hx hb dX3_rideTrouble_17 (by decide +kernel) ?_
    exact W.iret (v := Int32.ofInt (1)) hx hb hr (fun t ht hW => ⟨⟨Int32.ofInt (1), (1, fa 13, fa 22), rfl, ⟨rfl, (show (inR 1) ∧ (∀ t, inR ((fa 13) t)) ∧ (∀ t, inR ((fa 22) t)) ∧ (0 ≤ 1 ∧ 1 ≤ 7 ∧ (1 = 0 → 0 ≤ d0 ∧ d0 ≤ fi 0)) from ⟨(by omega), (hRa 13), (hRa 22), (by omega)⟩)⟩, by rw [ht]; exact hP, hD⟩, hS.F ht⟩) hS.2.2 dX3_rideTrouble_18
  · refine lv_iload_n hx hb dX3_rideTrouble_8 rfl (lv_at hl 3 rfl) ?_
    refine iv_if_lt (tgt := 17) hx hb (by omega) dX3_rideTrouble_9 (by decide) (fun q3 => ?_) (fun q3 => ?_)
    · refine lv_iconst (v := Int32.ofInt 1) hx hb dX3_rideTrouble_17 (by decide +kernel) ?_
      exact W.iret (v := Int32.ofInt (1)) hx hb hr (fun t ht hW => ⟨⟨Int32.ofInt (1), (1, fa 13, fa 22), rfl, ⟨rfl, (show (inR 1) ∧ (∀ t, inR ((fa 13) t)) ∧ (∀ t, inR ((fa 22) t)) ∧ (0 ≤ 1 ∧ 1 ≤ 7 ∧ (1 = 0 → 0 ≤ d0 ∧ d0 ≤ fi 0)) from ⟨(by omega), (hRa 13), (hRa 22), (by omega)⟩)⟩, by rw [ht]; exact hP, hD⟩, hS.F ht⟩) hS.2.2 dX3_rideTrouble_18
    · refine lv_iload_n hx hb dX3_rideTrouble_12 rfl (lv_at hl 3 rfl) ?_
      refine lv_iconst (v := Int32.ofInt 2) hx hb dX3_rideTrouble_13 (by decide +kernel) ?_
      refine iv_icmp_le (tgt := 19) hx hb (by omega) (by omega) dX3_rideTrouble_14 (by decide) (fun q4 => ?_) (fun q4 => ?_)
      · refine lv_iload_n hx hb dX3_rideTrouble_19 rfl (lv_at hl 2 rfl) ?_
        refine lv_iload_n hx hb dX3_rideTrouble_20 rfl (lv_at hl 1 rfl) ?_
        refine c0_i (va_runSN (As := [.int (Int32.ofInt (s0))]) (rest := [.int (Int32.ofInt (d0))]) ⟨hx, hb, hml, hown, hts⟩ (mX7_depth l G k s0 H.size (by omega)) ⟨va_cnB 1 hts (gz [] (.code yX7_depth cX7_depth 1 (some .int)) [(22, 13)] rfl) rfl rfl rfl (nm_13 hX.2.2.1) h0w (by decide +kernel) ⟨Nat.le_of_ble_eq_true rfl, Nat.le_of_ble_eq_true rfl⟩, h1w, trivial⟩ (cr_pre0 (EZ_ok k) hZ hS hX hP hD hA) rfl rfl hl.1 rfl (lv_room (Nat.le_of_ble_eq_true rfl)) dX3_rideTrouble_21 ⟨Nat.le_of_ble_eq_true rfl, Nat.le_of_ble_eq_true rfl⟩) hP hD hS hA (fun r u H locs hp hP hD hS => ?_)
        obtain ⟨c5, rfl⟩ : ∃ z, z = u := ⟨_, rfl⟩
        obtain ⟨h9, rc5, hp5⟩ : r = Int32.ofInt c5 ∧ (inR c5) ∧ (c5 = bUshr s0 28 ∧ 0 ≤ c5 ∧ c5 ≤ 15) := hp
        subst h9
        refine iv_icmp_ne (tgt := 29) hx hb (by omega) (by omega) dX3_rideTrouble_24 (by decide) (fun q6 => ?_) (fun q6 => ?_)
        · refine lv_aload_n hx hb dX3_rideTrouble_29 rfl (lv_at hl 0 rfl) ?_
          refine lv_iload_n hx hb dX3_rideTrouble_30 rfl (lv_at hl 1 rfl) ?_
          refine lv_iconst (v := Int32.ofInt 0) hx hb dX3_rideTrouble_31 (by decide +kernel) ?_
          refine cr_i (va_runV (As := [.int (Int32.ofInt (s0)), .int (Int32.ofInt (0))]) (rest := []) ⟨hx, hb, hml, hown, hts⟩ (mX3_weightIn l G k ar fi fa s0 0 H.size hR hRa hB8 hB21 (by omega) (by omega) (show 0 ≤ (fi 7) ∧ (fi 7) ≤ 7 from by omega)) (cwV 2 hts (gz [.methodLink RX3 101 yX3_weightIn, .instanceMethod yX3_weightIn, .selects RX3 yX3_weightIn yX3_weightIn, .initialized RX3] (.code yX3_weightIn cX3_weightIn 5 (some .int)) [(29, 9), (25, 2), (25, 3), (0, 19), (25, 4)] rfl) rfl rfl rfl (by decide +kernel) ⟨Nat.le_of_ble_eq_true rfl, Nat.le_of_ble_eq_true rfl⟩) (cr_preV (EZ_ok k) hZ hS hX hP hD hA (ci := 2) (q0 := 0) rfl rfl) rfl rfl hl.1 rfl (lv_room (Nat.le_of_ble_eq_true rfl)) dX3_rideTrouble_32 ⟨Nat.le_of_ble_eq_true rfl, Nat.le_of_ble_eq_true rfl⟩) hD hS hA (fun r u H locs hp hP hD hS => ?_)
          obtain ⟨c7, rfl⟩ : ∃ z, z = u := ⟨_, rfl⟩
          obtain ⟨h9, rc7, hp7⟩ : r = Int32.ofInt c7 ∧ (inR c7) ∧ (True) := hp
          subst h9
          refine lv_aload_n hx hb dX3_rideTrouble_35 rfl (lv_at hl 0 rfl) ?_
          refine va_get (D := G) (ci := 2) (v := .int (Int32.ofInt (fi 2))) (C := RX3) (T := TX3) (N := 14) (ref := RX3) hx hb hts h3w hown hX.1 hP 0 rfl rfl 2 (by decide) h2w (fun _ h9 => h9) rfl dX3_rideTrouble_36 ?_
          have rf2 := hR 2
          refine iv_icmp_gt (tgt := 55) hx hb (by omega) (by omega) dX3_rideTrouble_39 (by decide) (fun q8 => ?_) (fun q8 => ?_)
          · refine lv_iconst (v := Int32.ofInt 4) hx hb dX3_rideTrouble_55 (by decide +kernel) ?_
            exact W.iret (v := Int32.ofInt (4)) hx hb hr (fun t ht hW => ⟨⟨Int32.ofInt (4), (4, fa 13, fa 22), rfl, ⟨rfl, (show (inR 4) ∧ (∀ t, inR ((fa 13) t)) ∧ (∀ t, inR ((fa 22) t)) ∧ (0 ≤ 4 ∧ 4 ≤ 7 ∧ (4 = 0 → 0 ≤ d0 ∧ d0 ≤ fi 0)) from ⟨(by omega), (hRa 13), (hRa 22), (by omega)⟩)⟩, by rw [ht]; exact hP, hD⟩, hS.F ht⟩) hS.2.2 dX3_rideTrouble_56
          · refine lv_aload_n hx hb dX3_rideTrouble_42 rfl (lv_at hl 0 rfl) ?_
            refine lv_iload_n hx hb dX3_rideTrouble_43 rfl (lv_at hl 1 rfl) ?_
            refine lv_iconst (v := Int32.ofInt 1) hx hb dX3_rideTrouble_44 (by decide +kernel) ?_
            refine cr_i (va_runV (As := [.int (Int32.ofInt (s0)), .int (Int32.ofInt (1))]) (rest := []) ⟨hx, hb, hml, hown, hts⟩ (mX3_weightIn l G k ar fi fa s0 1 H.size hR hRa hB8 hB21 (by omega) (by omega) (show 0 ≤ (fi 7) ∧ (fi 7) ≤ 7 from by omega)) (cwV 2 hts (gz [.methodLink RX3 101 yX3_weightIn, .instanceMethod yX3_weightIn, .selects RX3 yX3_weightIn yX3_weightIn, .initialized RX3] (.code yX3_weightIn cX3_weightIn 5 (some .int)) [(29, 9), (25, 2), (25, 3), (0, 19), (25, 4)] rfl) rfl rfl rfl (by decide +kernel) ⟨Nat.le_of_ble_eq_true rfl, Nat.le_of_ble_eq_true rfl⟩) (cr_preV (EZ_ok k) hZ hS hX hP hD hA (ci := 2) (q0 := 0) rfl rfl) rfl rfl hl.1 rfl (lv_room (Nat.le_of_ble_eq_true rfl)) dX3_rideTrouble_45 ⟨Nat.le_of_ble_eq_true rfl, Nat.le_of_ble_eq_true rfl⟩) hD hS hA (fun r u H locs hp hP hD hS => ?_)
            obtain ⟨c9, rfl⟩ : ∃ z, z = u := ⟨_, rfl⟩
            obtain ⟨h9, rc9, hp9⟩ : r = Int32.ofInt c9 ∧ (inR c9) ∧ (True) := hp
            subst h9
            refine lv_aload_n hx hb dX3_rideTrouble_48 rfl (lv_at hl 0 rfl) ?_
            refine va_get (D := G) (ci := 2) (v := .int (Int32.ofInt (fi 2))) (C := RX3) (T := TX3) (N := 14) (ref := RX3) hx hb hts h3w hown hX.1 hP 0 rfl rfl 2 (by decide) h2w (fun _ h9 => h9) rfl dX3_rideTrouble_49 ?_
            have rf2 := hR 2
            refine iv_icmp_le (tgt := 57) hx hb (by omega) (by omega) dX3_rideTrouble_52 (by decide) (fun q10 => ?_) (fun q10 => ?_)
            · refine lv_aload_n hx hb dX3_rideTrouble_57 rfl (lv_at hl 0 rfl) ?_
              refine lv_iload_n hx hb dX3_rideTrouble_58 rfl (lv_at hl 1 rfl) ?_
              refine lv_iconst (v := Int32.ofInt 0) hx hb dX3_rideTrouble_59 (by decide +kernel) ?_
              refine cr_i (va_runV (As := [.int (Int32.ofInt (s0)), .int (Int32.ofInt (0))]) (rest := []) ⟨hx, hb, hml, hown, hts⟩ (mX3_brokenRule l G k ar fi fa s0 0 H.size hR hRa hB8 hB21 (by omega) (by omega) (show 0 ≤ (fi 7) ∧ (fi 7) ≤ 7 from by omega) (show 0 ≤ (fi 0) ∧ (fi 0) ≤ 11 from by omega) (show 0 ≤ (fi 24) ∧ (fi 24) ≤ 4 from by omega)) (cwV 2 hts (gz [.methodLink RX3 104 yX3_brokenRule, .instanceMethod yX3_brokenRule, .selects RX3 yX3_brokenRule yX3_brokenRule, .initialized RX3] (.code yX3_brokenRule cX3_brokenRule 5 (some .int)) [(29, 10), (25, 7), (25, 8), (0, 19), (25, 9)] rfl) rfl rfl rfl (by decide +kernel) ⟨Nat.le_of_ble_eq_true rfl, Nat.le_of_ble_eq_true rfl⟩) (cr_preV (EZ_ok k) hZ hS hX hP hD hA (ci := 2) (q0 := 0) rfl rfl) rfl rfl hl.1 rfl (lv_room (Nat.le_of_ble_eq_true rfl)) dX3_rideTrouble_60 ⟨Nat.le_of_ble_eq_true rfl, Nat.le_of_ble_eq_true rfl⟩) hD hS hA (fun r u H locs hp hP hD hS => ?_)
              obtain ⟨c11, c12, c13⟩ := u
              obtain ⟨hP, hD⟩ : va_P G vwCl (wP k ar fi (uF (uF fa 13 (c12)) 22 (c13))) H ∧ va_D A (wP k ar fi (uF (uF fa 13 (c12)) 22 (c13))) := ⟨hP, hD⟩
              obtain ⟨h9, rc11, rc12, rc13, hp13⟩ : r = Int32.ofInt c11 ∧ (inR c11) ∧ (∀ t, inR (c12 t)) ∧ (∀ t, inR (c13 t)) ∧ (-1 ≤ c11 ∧ c11 < 4) := hp
              subst h9
              refine lv_iconst (v := Int32.ofInt (-1)) hx hb dX3_rideTrouble_63 (by decide +kernel) ?_
              refine iv_icmp_ne (tgt := 77) hx hb (by omega) (by omega) dX3_rideTrouble_64 (by decide) (fun q14 => ?_) (fun q14 => ?_)
              · refine lv_iconst (v := Int32.ofInt 5) hx hb dX3_rideTrouble_77 (by decide +kernel) ?_
                exact W.iret (v := Int32.ofInt (5)) hx hb hr (fun t ht hW => ⟨⟨Int32.ofInt (5), (5, c12, c13), rfl, ⟨rfl, (show (inR 5) ∧ (∀ t, inR (c12 t)) ∧ (∀ t, inR (c13 t)) ∧ (0 ≤ 5 ∧ 5 ≤ 7 ∧ (5 = 0 → 0 ≤ d0 ∧ d0 ≤ fi 0)) from ⟨(by omega), rc12, rc13, (by omega)⟩)⟩, by rw [ht]; exact hP, hD⟩, hS.F ht⟩) hS.2.2 dX3_rideTrouble_78
              · refine lv_aload_n hx hb dX3_rideTrouble_67 rfl (lv_at hl 0 rfl) ?_
                refine lv_iload_n hx hb dX3_rideTrouble_68 rfl (lv_at hl 1 rfl) ?_
                refine lv_iconst (v := Int32.ofInt 1) hx hb dX3_rideTrouble_69 (by decide +kernel) ?_
                refine cr_i (va_runV (As := [.int (Int32.ofInt (s0)), .int (Int32.ofInt (1))]) (rest := []) ⟨hx, hb, hml, hown, hts⟩ (mX3_brokenRule l G k ar fi (uF (uF fa 13 (c12)) 22 (c13)) s0 1 H.size hR (iG (iG hRa rc12) rc13) hB8 hB21 (by omega) (by omega) (show 0 ≤ (fi 7) ∧ (fi 7) ≤ 7 from by omega) (show 0 ≤ (fi 0) ∧ (fi 0) ≤ 11 from by omega) (show 0 ≤ (fi 24) ∧ (fi 24) ≤ 4 from by omega)) (cwV 2 hts (gz [.methodLink RX3 104 yX3_brokenRule, .instanceMethod yX3_brokenRule, .selects RX3 yX3_brokenRule yX3_brokenRule, .initialized RX3] (.code yX3_brokenRule cX3_brokenRule 5 (some .int)) [(29, 10), (25, 7), (25, 8), (0, 19), (25, 9)] rfl) rfl rfl rfl (by decide +kernel) ⟨Nat.le_of_ble_eq_true rfl, Nat.le_of_ble_eq_true rfl⟩) (cr_preV (EZ_ok k) hZ hS hX hP hD hA (ci := 2) (q0 := 0) rfl rfl) rfl rfl hl.1 rfl (lv_room (Nat.le_of_ble_eq_true rfl)) dX3_rideTrouble_70 ⟨Nat.le_of_ble_eq_true rfl, Nat.le_of_ble_eq_true rfl⟩) hD hS hA (fun r u H locs hp hP hD hS => ?_)
                obtain ⟨c15, c16, c17⟩ := u
                obtain ⟨hP, hD⟩ : va_P G vwCl (wP k ar fi (uF (uF fa 13 (c16)) 22 (c17))) H ∧ va_D A (wP k ar fi (uF (uF fa 13 (c16)) 22 (c17))) := ⟨hP, hD⟩
                obtain ⟨h9, rc15, rc16, rc17, hp17⟩ : r = Int32.ofInt c15 ∧ (inR c15) ∧ (∀ t, inR (c16 t)) ∧ (∀ t, inR (c17 t)) ∧ (-1 ≤ c15 ∧ c15 < 4) := hp
                subst h9
                refine lv_iconst (v := Int32.ofInt (-1)) hx hb dX3_rideTrouble_73 (by decide +kernel) ?_
                refine iv_icmp_eq (tgt := 79) hx hb (by omega) (by omega) dX3_rideTrouble_74 (by decide) (fun q18 => ?_) (fun q18 => ?_)
                · refine lv_iload_n hx hb dX3_rideTrouble_79 rfl (lv_at hl 3 rfl) ?_
                  refine lv_iconst (v := Int32.ofInt 2) hx hb dX3_rideTrouble_80 (by decide +kernel) ?_
                  refine iv_icmp_ne (tgt := 88) hx hb (by omega) (by omega) dX3_rideTrouble_81 (by decide) (fun q19 => ?_) (fun q19 => ?_)
                  · refine lv_aload_n hx hb dX3_rideTrouble_88 rfl (lv_at hl 0 rfl) ?_
                    refine lv_iload_n hx hb dX3_rideTrouble_89 rfl (lv_at hl 1 rfl) ?_
                    refine lv_iload_n hx hb dX3_rideTrouble_90 rfl (lv_at hl 2 rfl) ?_
                    refine lv_iload_n hx hb dX3_rideTrouble_91 rfl (lv_at hl 3 rfl) ?_
                    refine iv_if_ne (tgt := 102) hx hb (by omega) dX3_rideTrouble_92 (by decide) (fun q20 => ?_) (fun q20 => ?_)
                    · refine lv_aload_n hx hb dX3_rideTrouble_102 rfl (lv_at hl 0 rfl) ?_
                      refine va_get (D := G) (ci := 2) (v := .int (Int32.ofInt (fi 5))) (C := RX3) (T := TX3) (N := 14) (ref := RX3) hx hb hts h3w hown hX.1 hP 0 rfl rfl 5 (by decide) h4w (fun _ h9 => h9) rfl dX3_rideTrouble_103 ?_
                      have rf5 := hR 5
                      refine lv_aload_n hx hb dX3_rideTrouble_106 rfl (lv_at hl 0 rfl) ?_
                      refine va_get (D := G) (ci := 2) (v := .int (Int32.ofInt (fi 6))) (C := RX3) (T := TX3) (N := 14) (ref := RX3) hx hb hts h3w hown hX.1 hP 0 rfl rfl 6 (by decide) h5w (fun _ h9 => h9) rfl dX3_rideTrouble_107 ?_
                      have rf6 := hR 6
                      refine iv_add (x := fi 5) (y := fi 6) hx hb dX3_rideTrouble_110 ?_
                      refine iv_wr ?_
                      refine iv_top (fun z21 ez21 => ?_)
                      have rz21 : inR z21 := ez21 ▸ bWr_r _
                      refine cr_i (va_runV (As := [.int (Int32.ofInt (s0)), .int (Int32.ofInt (d0)), .int (Int32.ofInt (z21))]) (rest := []) ⟨hx, hb, hml, hown, hts⟩ (mX3_excessTrouble l G k ar fi (uF (uF fa 13 (c16)) 22 (c17)) s0 d0 z21 H.size hR (iG (iG hRa rc16) rc17) hB8 hB21 (by omega) (by omega) (by omega) (show 0 ≤ (fi 7) ∧ (fi 7) ≤ 7 from by omega) (show 0 ≤ (fi 0) ∧ (fi 0) ≤ 11 from by omega)) (cwV 3 hts (gz [.methodLink RX3 107 yX3_excessTrouble, .instanceMethod yX3_excessTrouble, .selects RX3 yX3_excessTrouble yX3_excessTrouble, .initialized RX3] (.code yX3_excessTrouble cX3_excessTrouble 9 (some .int)) [(29, 11), (29, 12), (29, 13), (0, 19), (29, 14)] rfl) rfl rfl rfl (by decide +kernel) ⟨Nat.le_of_ble_eq_true rfl, Nat.le_of_ble_eq_true rfl⟩) (cr_preV (EZ_ok k) hZ hS hX hP hD hA (ci := 2) (q0 := 0) rfl rfl) rfl rfl hl.1 rfl (lv_room (Nat.le_of_ble_eq_true rfl)) dX3_rideTrouble_111 ⟨Nat.le_of_ble_eq_true rfl, Nat.le_of_ble_eq_true rfl⟩) hD hS hA (fun r u H locs hp hP hD hS => ?_)
                      obtain ⟨c22, rfl⟩ : ∃ z, z = u := ⟨_, rfl⟩
                      obtain ⟨h9, rc22, hp22⟩ : r = Int32.ofInt c22 ∧ (inR c22) ∧ (0 ≤ c22 ∧ c22 ≤ 7) := hp
                      subst h9
                      exact W.iret (v := Int32.ofInt (c22)) hx hb hr (fun t ht hW => ⟨⟨Int32.ofInt (c22), (c22, c16, c17), rfl, ⟨rfl, (show (inR c22) ∧ (∀ t, inR (c16 t)) ∧ (∀ t, inR (c17 t)) ∧ (0 ≤ c22 ∧ c22 ≤ 7 ∧ (c22 = 0 → 0 ≤ d0 ∧ d0 ≤ fi 0)) from ⟨(by omega), rc16, rc17, (by omega)⟩)⟩, by rw [ht]; exact hP, hD⟩, hS.F ht⟩) hS.2.2 dX3_rideTrouble_114
                    · refine lv_aload_n hx hb dX3_rideTrouble_95 rfl (lv_at hl 0 rfl) ?_
                      refine va_get (D := G) (ci := 2) (v := .int (Int32.ofInt (fi 5))) (C := RX3) (T := TX3) (N := 14) (ref := RX3) hx hb hts h3w hown hX.1 hP 0 rfl rfl 5 (by decide) h4w (fun _ h9 => h9) rfl dX3_rideTrouble_96 ?_
                      have rf5 := hR 5
                      refine lv_goto (tgt := 111) hx hb dX3_rideTrouble_99 (by decide) ?_
                      refine cr_i (va_runV (As := [.int (Int32.ofInt (s0)), .int (Int32.ofInt (d0)), .int (Int32.ofInt (fi 5))]) (rest := []) ⟨hx, hb, hml, hown, hts⟩ (mX3_excessTrouble l G k ar fi (uF (uF fa 13 (c16)) 22 (c17)) s0 d0 (fi 5) H.size hR (iG (iG hRa rc16) rc17) hB8 hB21 (by omega) (by omega) (hR 5) (show 0 ≤ (fi 7) ∧ (fi 7) ≤ 7 from by omega) (show 0 ≤ (fi 0) ∧ (fi 0) ≤ 11 from by omega)) (cwV 3 hts (gz [.methodLink RX3 107 yX3_excessTrouble, .instanceMethod yX3_excessTrouble, .selects RX3 yX3_excessTrouble yX3_excessTrouble, .initialized RX3] (.code yX3_excessTrouble cX3_excessTrouble 9 (some .int)) [(29, 11), (29, 12), (29, 13), (0, 19), (29, 14)] rfl) rfl rfl rfl (by decide +kernel) ⟨Nat.le_of_ble_eq_true rfl, Nat.le_of_ble_eq_true rfl⟩) (cr_preV (EZ_ok k) hZ hS hX hP hD hA (ci := 2) (q0 := 0) rfl rfl) rfl rfl hl.1 rfl (lv_room (Nat.le_of_ble_eq_true rfl)) dX3_rideTrouble_111 ⟨Nat.le_of_ble_eq_true rfl, Nat.le_of_ble_eq_true rfl⟩) hD hS hA (fun r u H locs hp hP hD hS => ?_)
                      obtain ⟨c23, rfl⟩ : ∃ z, z = u := ⟨_, rfl⟩
                      obtain ⟨h9, rc23, hp23⟩ : r = Int32.ofInt c23 ∧ (inR c23) ∧ (0 ≤ c23 ∧ c23 ≤ 7) := hp
                      subst h9
                      exact W.iret (v := Int32.ofInt (c23)) hx hb hr (fun t ht hW => ⟨⟨Int32.ofInt (c23), (c23, c16, c17), rfl, ⟨rfl, (show (inR c23) ∧ (∀ t, inR (c16 t)) ∧ (∀ t, inR (c17 t)) ∧ (0 ≤ c23 ∧ c23 ≤ 7 ∧ (c23 = 0 → 0 ≤ d0 ∧ d0 ≤ fi 0)) from ⟨(by omega), rc16, rc17, (by omega)⟩)⟩, by rw [ht]; exact hP, hD⟩, hS.F ht⟩) hS.2.2 dX3_rideTrouble_114
                  · refine lv_iconst (v := Int32.ofInt 0) hx hb dX3_rideTrouble_84 (by decide +kernel) ?_
                    refine lv_goto (tgt := 114) hx hb dX3_rideTrouble_85 (by decide) ?_
                    exact W.iret (v := Int32.ofInt (0)) hx hb hr (fun t ht hW => ⟨⟨Int32.ofInt (0), (0, c16, c17), rfl, ⟨rfl, (show (inR 0) ∧ (∀ t, inR (c16 t)) ∧ (∀ t, inR (c17 t)) ∧ (0 ≤ 0 ∧ 0 ≤ 7 ∧ (0 = 0 → 0 ≤ d0 ∧ d0 ≤ fi 0)) from ⟨(by omega), rc16, rc17, (by omega)⟩)⟩, by rw [ht]; exact hP, hD⟩, hS.F ht⟩) hS.2.2 dX3_rideTrouble_114
                · refine lv_iconst (v := Int32.ofInt 5) hx hb dX3_rideTrouble_77 (by decide +kernel) ?_
                  exact W.iret (v := Int32.ofInt (5)) hx hb hr (fun t ht hW => ⟨⟨Int32.ofInt (5), (5, c16, c17), rfl, ⟨rfl, (show (inR 5) ∧ (∀ t, inR (c16 t)) ∧ (∀ t, inR (c17 t)) ∧ (0 ≤ 5 ∧ 5 ≤ 7 ∧ (5 = 0 → 0 ≤ d0 ∧ d0 ≤ fi 0)) from ⟨(by omega), rc16, rc17, (by omega)⟩)⟩, by rw [ht]; exact hP, hD⟩, hS.F ht⟩) hS.2.2 dX3_rideTrouble_78
            · refine lv_iconst (v := Int32.ofInt 4) hx hb dX3_rideTrouble_55 (by decide +kernel) ?_
              exact W.iret (v := Int32.ofInt (4)) hx hb hr (fun t ht hW => ⟨⟨Int32.ofInt (4), (4, fa 13, fa 22), rfl, ⟨rfl, (show (inR 4) ∧ (∀ t, inR ((fa 13) t)) ∧ (∀ t, inR ((fa 22) t)) ∧ (0 ≤ 4 ∧ 4 ≤ 7 ∧ (4 = 0 → 0 ≤ d0 ∧ d0 ≤ fi 0)) from ⟨(by omega), (hRa 13), (hRa 22), (by omega)⟩)⟩, by rw [ht]; exact hP, hD⟩, hS.F ht⟩) hS.2.2 dX3_rideTrouble_56
        · refine lv_iconst (v := Int32.ofInt 3) hx hb dX3_rideTrouble_27 (by decide +kernel) ?_
          exact W.iret (v := Int32.ofInt (3)) hx hb hr (fun t ht hW => ⟨⟨Int32.ofInt (3), (3, fa 13, fa 22), rfl, ⟨rfl, (show (inR 3) ∧ (∀ t, inR ((fa 13) t)) ∧ (∀ t, inR ((fa 22) t)) ∧ (0 ≤ 3 ∧ 3 ≤ 7 ∧ (3 = 0 → 0 ≤ d0 ∧ d0 ≤ fi 0)) from ⟨(by omega), (hRa 13), (hRa 22), (by omega)⟩)⟩, by rw [ht]; exact hP, hD⟩, hS.F ht⟩) hS.2.2 dX3_rideTrouble_28
      · refine lv_iconst (v := Int32.ofInt 1) hx hb dX3_rideTrouble_17 (by decide +kernel) ?_
        exact W.iret (v := Int32.ofInt (1)) hx hb hr (fun t ht hW => ⟨⟨Int32.ofInt (1), (1, fa 13, fa 22), rfl, ⟨rfl, (show (inR 1) ∧ (∀ t, inR ((fa 13) t)) ∧ (∀ t, inR ((fa 22) t)) ∧ (0 ≤ 1 ∧ 1 ≤ 7 ∧ (1 = 0 → 0 ≤ d0 ∧ d0 ≤ fi 0)) from ⟨(by omega), (hRa 13), (hRa 22), (by omega)⟩)⟩, by rw [ht]; exact hP, hD⟩, hS.F ht⟩) hS.2.2 dX3_rideTrouble_18

set_option maxHeartbeats 4000000 in
set_option maxRecDepth 100000 in
theorem mX1_begin (l : Launch) (G : va_G) (k : Nat → ClassId) (ar : Nat → Nat) (fi : Nat → Int) (fa : Nat → Int → Int) (s0 : Int) (sz : Nat) (hR : ∀ j, inR (fi j)) (hRa : ∀ j t, inR (fa j t)) (hr_s0 : inR s0) : CNv l G k (EZ k) yX1_begin wzX1_begin ({ frames := 0, cells := 0, slots := 0, locals := 0 }) [.ref (ar 99), .int (Int32.ofInt (s0))] sz (wB k ar fi fa) (fun (u : Int × Int × Int × Int × Int) => (inR u.1) ∧ (inR u.2.1) ∧ (inR u.2.2.1) ∧ (inR u.2.2.2.1) ∧ (inR u.2.2.2.2) ∧ (u.2.1 = 0 ∧ u.2.2.2.2 = 0)) (fun (u : Int × Int × Int × Int × Int) => (wB k ar (uF (uF (uF (uF (uF fi 0 (u.1)) 1 (u.2.1)) 2 (u.2.2.1)) 3 (u.2.2.2.1)) 4 (u.2.2.2.2)) fa)) := by
  refine Met.ofW (cc := cX1_begin) (maxL := 2) (ret := none) (by decide) rfl ?_
  intro p e s m args below meth c s₁ B hml hv
  obtain ⟨rfl, hsz, hP, hX, hD0, hZ0⟩ := hv
  have hx := B.exec
  have hb := B.bytes
  have hr := B.returns
  have hts := atoms_spec (ws := wzX1_begin) B.pre
  have hown : s.vm.findClass RX1 = some m.cls := findClass_of_methodNamed B.named
  subst hsz
  have hD := hD0.self (sz := s.heap.size)
  have hZ := hZ0
  generalize hAe : va_A (wB k ar fi fa) s.heap.size = A at hD hZ ⊢
  have hA : ∀ q : Nat, s.heap.size ≤ q → A q := fun q h => by rw [← hAe]; exact Or.inr h
  have hS : va_S A s.heap s.heap [] := va_S.rf
  have hl := lv_entry ([.ref (ar 99), .int (Int32.ofInt (s0))]) (n := 2) (Nat.le_of_ble_eq_true rfl)
  rw [lg_entry_eq]
  generalize (lg_sl ([.ref (ar 99), .int (Int32.ofInt (s0))]) ++ List.replicate (2 - (lg_sl ([.ref (ar 99), .int (Int32.ofInt (s0))])).length) Slot.unset).toArray = ls at hl ⊢
  have hl : lv_has ls 2 [(0, .ref (ar 99)), (1, .int (Int32.ofInt (s0)))] := hl
  obtain ⟨H, eH⟩ : ∃ H, H = s.heap := ⟨_, rfl⟩
  rw [← eH] at hP
  have hS : va_S A s.heap H [] := by rw [eH]; exact hS
  have gW : s.heap = H := eH.symm
  refine iv_heap gW ?_
  have h0w := hts (.fieldLink RX1 33 "RopeTown$Book" "state" "I") (wz_at 5 18 rfl)
  have h1w : ∀ w ∈ wsX10, w ∈ wzX1_begin := fun w h => List.mem_cons_of_mem _ (inlX1 w h)
  have h2w := hts (.fieldLink RX1 37 "RopeTown$Book" "moves" "I") (wz_at 5 19 rfl)
  have h3w := hts (.fieldLink RX1 40 "RopeTown$Book" "rides" "I") (wz_at 5 20 rfl)
  have h4w := hts (.fieldLink RX1 43 "RopeTown$Book" "cost" "I") (wz_at 5 21 rfl)
  have h5w := hts (.fieldLink RX1 46 "RopeTown$Book" "days" "I") (wz_at 5 22 rfl)
  refine lv_aload_n hx hb dX1_begin_0 rfl (lv_at hl 0 rfl) ?_
  refine lv_iload_n hx hb dX1_begin_1 rfl (lv_at hl 1 rfl) ?_
  refine iv_put (ci := 0) (v := .int (Int32.ofInt (s0))) (ty := .int) (C := RX1) (T := TX1) (N := 12) (ref := RX1) hx hb hts h1w tyX1 tyX1_ok nmX1 hown hX.1 hP hD hS 0 rfl rfl 0 (by decide) h0w (fun _ h9 => h9) rfl (by decide +kernel) rfl rfl (Nat.le_of_ble_eq_true rfl) (show _ = (wB k ar (uF fi 0 (s0)) fa) from rfl) dX1_begin_2 (fun H locs hP hD hS => ?_)
  refine lv_aload_n hx hb dX1_begin_5 rfl (lv_at hl 0 rfl) ?_
  refine lv_iconst (v := Int32.ofInt 0) hx hb dX1_begin_6 (by decide +kernel) ?_
  refine iv_put (ci := 0) (v := .int (Int32.ofInt (0))) (ty := .int) (C := RX1) (T := TX1) (N := 12) (ref := RX1) hx hb hts h1w tyX1 tyX1_ok nmX1 hown hX.1 hP hD hS 0 rfl rfl 1 (by decide) h2w (fun _ h9 => h9) rfl (by decide +kernel) rfl rfl (Nat.le_of_ble_eq_true rfl) (show _ = (wB k ar (uF (uF fi 0 (s0)) 1 (0)) fa) from rfl) dX1_begin_7 (fun H locs hP hD hS => ?_)
  refine lv_aload_n hx hb dX1_begin_10 rfl (lv_at hl 0 rfl) ?_
  refine lv_iconst (v := Int32.ofInt 0) hx hb dX1_begin_11 (by decide +kernel) ?_
  refine iv_put (ci := 0) (v := .int (Int32.ofInt (0))) (ty := .int) (C := RX1) (T := TX1) (N := 12) (ref := RX1) hx hb hts h1w tyX1 tyX1_ok nmX1 hown hX.1 hP hD hS 0 rfl rfl 2 (by decide) h3w (fun _ h9 => h9) rfl (by decide +kernel) rfl rfl (Nat.le_of_ble_eq_true rfl) (show _ = (wB k ar (uF (uF (uF fi 0 (s0)) 1 (0)) 2 (0)) fa) from rfl) dX1_begin_12 (fun H locs hP hD hS => ?_)
  refine lv_aload_n hx hb dX1_begin_15 rfl (lv_at hl 0 rfl) ?_
  refine lv_iconst (v := Int32.ofInt 0) hx hb dX1_begin_16 (by decide +kernel) ?_
  refine iv_put (ci := 0) (v := .int (Int32.ofInt (0))) (ty := .int) (C := RX1) (T := TX1) (N := 12) (ref := RX1) hx hb hts h1w tyX1 tyX1_ok nmX1 hown hX.1 hP hD hS 0 rfl rfl 3 (by decide) h4w (fun _ h9 => h9) rfl (by decide +kernel) rfl rfl (Nat.le_of_ble_eq_true rfl) (show _ = (wB k ar (uF (uF (uF (uF fi 0 (s0)) 1 (0)) 2 (0)) 3 (0)) fa) from rfl) dX1_begin_17 (fun H locs hP hD hS => ?_)
  refine lv_aload_n hx hb dX1_begin_20 rfl (lv_at hl 0 rfl) ?_
  refine lv_iconst (v := Int32.ofInt 0) hx hb dX1_begin_21 (by decide +kernel) ?_
  refine iv_put (ci := 0) (v := .int (Int32.ofInt (0))) (ty := .int) (C := RX1) (T := TX1) (N := 12) (ref := RX1) hx hb hts h1w tyX1 tyX1_ok nmX1 hown hX.1 hP hD hS 0 rfl rfl 4 (by decide) h5w (fun _ h9 => h9) rfl (by decide +kernel) rfl rfl (Nat.le_of_ble_eq_true rfl) (show _ = (wB k ar (uF (uF (uF (uF (uF fi 0 (s0)) 1 (0)) 2 (0)) 3 (0)) 4 (0)) fa) from rfl) dX1_begin_22 (fun H locs hP hD hS => ?_)
  exact W.vret hx hb hr (fun t ht hW => ⟨⟨(s0, 0, 0, 0, 0), rfl, (show (inR s0) ∧ (inR 0) ∧ (inR 0) ∧ (inR 0) ∧ (inR 0) ∧ (0 = 0 ∧ 0 = 0) from ⟨(by omega), (by omega), (by omega), (by omega), (by omega), (by omega)⟩), by rw [ht]; exact hP, hD⟩, hS.F ht⟩) hS.2.2 dX1_begin_25

