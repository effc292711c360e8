set_option maxHeartbeats 4000000 in
set_option maxRecDepth 100000 in
theorem mX6_arrive (l : Launch) (G : va_G) (k : Nat → ClassId) (ar : Nat → Nat) (pl : Nat) (fi : Nat → Int) (fa : Nat → Int → Int) (s0 : Int) (m0 : Int) (sz : Nat) (hR : ∀ j, inR (fi j)) (hRa : ∀ j t, inR (fa j t)) (hB5 : bnd (fa 5) 1500 (-1) 1500) (hB7 : bnd (fa 7) 1024 (-1) 1500) (hB8 : bnd (fa 8) 1500 (-1) 1500) (hB9 : bnd (fa 9) 1500 0 1500) (hB10 : bnd (fa 10) 1500 0 1500) (hr_s0 : inR s0) (hr_m0 : inR m0) (hsq : 0 ≤ fi 11 ∧ fi 11 ≤ fi 6 ∧ fi 6 ≤ 1500 ∧ -1 ≤ fi 12 ∧ fi 12 < 1500) (hsp : fi 2 = 0 ∨ fi 2 = 1) : CNv l G k (EZ k) yX6_arrive wzX6_arrive ({ frames := 1, cells := 0, slots := 0, locals := 24 }) [.ref (ar 99), .int (Int32.ofInt (s0)), .int (Int32.ofInt (m0))] sz (wS k ar (pl) fi fa) (fun (u : (Int → Int) × (Int → Int) × (Int → Int) × (Int → Int) × (Int → Int) × (Int → Int) × (Int → Int) × Int × Int × Int) => (∀ t, inR (u.1 t)) ∧ (∀ t, inR (u.2.1 t)) ∧ (∀ t, inR (u.2.2.1 t)) ∧ (bnd u.2.2.1 1500 (-1) 1500) ∧ (∀ t, inR (u.2.2.2.1 t)) ∧ (bnd u.2.2.2.1 1024 (-1) 1500) ∧ (∀ t, inR (u.2.2.2.2.1 t)) ∧ (bnd u.2.2.2.2.1 1500 (-1) 1500) ∧ (∀ t, inR (u.2.2.2.2.2.1 t)) ∧ (bnd u.2.2.2.2.2.1 1500 0 1500) ∧ (∀ t, inR (u.2.2.2.2.2.2.1 t)) ∧ (bnd u.2.2.2.2.2.2.1 1500 0 1500) ∧ (inR u.2.2.2.2.2.2.2.1) ∧ (inR u.2.2.2.2.2.2.2.2.1) ∧ (inR u.2.2.2.2.2.2.2.2.2) ∧ (0 ≤ u.2.2.2.2.2.2.2.2.2 ∧ u.2.2.2.2.2.2.2.2.2 ≤ u.2.2.2.2.2.2.2.2.1 ∧ u.2.2.2.2.2.2.2.2.1 ≤ 1500 ∧ (u.2.2.2.2.2.2.2.1 = 0 ∨ u.2.2.2.2.2.2.2.1 = 1) ∧ fi 6 ≤ u.2.2.2.2.2.2.2.2.1)) (fun (u : (Int → Int) × (Int → Int) × (Int → Int) × (Int → Int) × (Int → Int) × (Int → Int) × (Int → Int) × Int × Int × Int) => (wS k ar (pl) (uF (uF (uF fi 2 (u.2.2.2.2.2.2.2.1)) 6 (u.2.2.2.2.2.2.2.2.1)) 11 (u.2.2.2.2.2.2.2.2.2)) (uF (uF (uF (uF (uF (uF (uF fa 3 (u.1)) 4 (u.2.1)) 5 (u.2.2.1)) 7 (u.2.2.2.1)) 8 (u.2.2.2.2.1)) 9 (u.2.2.2.2.2.1)) 10 (u.2.2.2.2.2.2.1)))) := by
  refine Met.ofW (cc := cX6_arrive) (maxL := 7) (ret := none) (by decide) rfl ?_
  intro p e s m args below meth c s₁ B hml hv
  obtain ⟨rfl, hsz, hP, hX, hD0, hZ0⟩ := hv
  have hx := B.exec
  have hb := B.bytes
  have hr := B.returns
  have hts := atoms_spec (ws := wzX6_arrive) B.pre
  have hown : s.vm.findClass RX6 = some m.cls := findClass_of_methodNamed B.named
  subst hsz
  have hD := hD0.self (sz := s.heap.size)
  have hZ := hZ0
  generalize hAe : va_A (wS k ar (pl) fi fa) s.heap.size = A at hD hZ ⊢
  have hA : ∀ q : Nat, s.heap.size ≤ q → A q := fun q h => by rw [← hAe]; exact Or.inr h
  have hS : va_S A s.heap s.heap [] := va_S.rf
  have hl := lv_entry ([.ref (ar 99), .int (Int32.ofInt (s0)), .int (Int32.ofInt (m0))]) (n := 7) (Nat.le_of_ble_eq_true rfl)
  rw [lg_entry_eq]
  generalize (lg_sl ([.ref (ar 99), .int (Int32.ofInt (s0)), .int (Int32.ofInt (m0))]) ++ List.replicate (7 - (lg_sl ([.ref (ar 99), .int (Int32.ofInt (s0)), .int (Int32.ofInt (m0))])).length) Slot.unset).toArray = ls at hl ⊢
  have hl : lv_has ls 7 [(0, .ref (ar 99)), (1, .int (Int32.ofInt (s0))), (2, .int (Int32.ofInt (m0)))] := hl
  obtain ⟨H, eH⟩ : ∃ H, H = s.heap := ⟨_, rfl⟩
  rw [← eH] at hP
  have hS : va_S A s.heap H [] := by rw [eH]; exact hS
  have gW : s.heap = H := eH.symm
  refine iv_heap gW ?_
  have h0w := hts (.constant RX6 147 (-1640531535)) (wz_at 34 2 rfl)
  have h1w := hts (.fieldLink RX6 42 "RopeTown$Search" "heads" "[I") (wz_at 4 23 rfl)
  have h2w : ∀ w ∈ wsX60, w ∈ wzX6_arrive := fun w h => List.mem_cons_of_mem _ (inlX6 w h)
  have h3w := hts (.fieldLink RX6 36 "RopeTown$Search" "costs" "[I") (wz_at 4 21 rfl)
  have h4w := hts (.fieldLink RX6 39 "RopeTown$Search" "parents" "[I") (wz_at 4 22 rfl)
  have h5w := hts (.fieldLink RX6 29 "RopeTown$Search" "current" "I") (wz_at 4 19 rfl)
  have h6w := hts (.fieldLink RX6 22 "RopeTown$Search" "size" "I") (wz_at 4 17 rfl)
  have h7w := hts (.fieldLink RX6 32 "RopeTown$Search" "states" "[I") (wz_at 4 20 rfl)
  have h8w := hts (.fieldLink RX6 45 "RopeTown$Search" "links" "[I") (wz_at 5 0 rfl)
  have h9w := hts (.fieldLink RX6 51 "RopeTown$Search" "spots" "[I") (wz_at 5 2 rfl)
  have h10w := hts (.fieldLink RX6 26 "RopeTown$Search" "waiting" "I") (wz_at 4 18 rfl)
  have h11w := hts (.fieldLink RX6 19 "RopeTown$Search" "isSpent" "Z") (wz_at 4 16 rfl)
  refine iv_join (G := G) (A := A) (H0 := s.heap) (α := Int) (nL := 7) 23 (fun b9 => [.int (Int32.ofInt (b9))]) (fun b9 => (wS k ar (pl) fi fa)) (fun b9 => [(0, .ref (ar 99)), (1, .int (Int32.ofInt (s0))), (2, .int (Int32.ofInt (m0)))]) (fun b9 => inR b9 ∧ (True)) ?_ (fun J23 => ?_)
  · intro s0_1 hi9 H locs ls hP hD hS hl
    obtain ⟨r_s0_1, hinv⟩ : inR s0_1 ∧ (True) := hi9
    obtain ⟨hP, hD⟩ : va_P G vwCl (wS k ar (pl) fi fa) H ∧ va_D A (wS k ar (pl) fi fa) := ⟨hP, hD⟩
    have hl : lv_has ls 7 [(0, .ref (ar 99)), (1, .int (Int32.ofInt (s0))), (2, .int (Int32.ofInt (m0)))] := hl
    refine lv_istore_n (lv' := [(3, .int (Int32.ofInt (s0_1))), (0, .ref (ar 99)), (1, .int (Int32.ofInt (s0))), (2, .int (Int32.ofInt (m0)))]) hx hb dX6_arrive_23 rfl hl (by decide) rfl (fun ls hl => ?_)
    refine lv_iload_n hx hb dX6_arrive_24 rfl (lv_at hl 2 rfl) ?_
    refine lv_ldc (v := Int32.ofInt (-1640531535)) hx hb hown h0w dX6_arrive_25 ?_
    refine iv_mul (x := s0) (y := (-1640531535)) hx hb dX6_arrive_27 ?_
    refine iv_wr ?_
    refine iv_top (fun z2 ez2 => ?_)
    have rz2 : inR z2 := ez2 ▸ bWr_r _
    refine lv_bipush (v := Int32.ofInt 22) hx hb dX6_arrive_28 (by decide +kernel) ?_
    refine iv_ushr hx hb dX6_arrive_30 ?_
    refine iv_top (fun z3 ez3 => ?_)
    have rz3 : inR z3 := ez3 ▸ bUshr_r _ _
    have qh : 0 ≤ z3 ∧ z3 < 1024 := ez3 ▸ ush22 _
    refine lv_istore (lv' := [(4, .int (Int32.ofInt (z3))), (3, .int (Int32.ofInt (s0_1))), (0, .ref (ar 99)), (1, .int (Int32.ofInt (s0))), (2, .int (Int32.ofInt (m0)))]) hx hb dX6_arrive_31 hl (by decide) rfl (fun ls hl => ?_)
    refine lv_aload_n hx hb dX6_arrive_33 rfl (lv_at hl 2 rfl) ?_
    refine va_get (D := G) (ci := 5) (v := .ref (ar 7)) (C := RX6) (T := TX6) (N := 15) (ref := RX6) hx hb hts h2w hown hX.1 hP 0 rfl rfl 7 (by decide) h1w (fun _ h9 => h9) rfl dX6_arrive_34 ?_
    refine lv_iload hx hb dX6_arrive_37 (lv_at hl 0 rfl) ?_
    refine iv_iald hx hb hX.1 hP 4 0 rfl rfl (by omega) (by omega) (by decide) dX6_arrive_39 ?_
    refine iv_top (fun z4 ez4 => ?_)
    have rz4 : inR z4 := ez4 ▸ (hRa 7) _
    have ez4 : z4 = (fa 7) z3 := ez4
    have bz4 : (-1) ≤ z4 ∧ z4 < 1500 := by rw [ez4]; exact bnd_at hB7 (by omega) (by omega)
    refine lv_istore (lv' := [(5, .int (Int32.ofInt (z4))), (4, .int (Int32.ofInt (z3))), (3, .int (Int32.ofInt (s0_1))), (0, .ref (ar 99)), (1, .int (Int32.ofInt (s0))), (2, .int (Int32.ofInt (m0)))]) hx hb dX6_arrive_40 hl (by decide) rfl (fun ls hl => ?_)
    refine lv_iconst (v := Int32.ofInt 0) hx hb dX6_arrive_42 (by decide +kernel) ?_
    refine lv_istore (lv' := [(6, .int (Int32.ofInt (0))), (5, .int (Int32.ofInt (z4))), (4, .int (Int32.ofInt (z3))), (3, .int (Int32.ofInt (s0_1))), (0, .ref (ar 99)), (1, .int (Int32.ofInt (s0))), (2, .int (Int32.ofInt (m0)))]) hx hb dX6_arrive_43 hl (by decide) rfl (fun ls hl => ?_)
    refine iv_loop (α := Int × Int) (nL := 7) (fun b9 => (wS k ar (pl) fi fa)) (fun b9 => [(6, .int (Int32.ofInt (b9.1))), (5, .int (Int32.ofInt (b9.2))), (4, .int (Int32.ofInt (z3))), (3, .int (Int32.ofInt (s0_1))), (0, .ref (ar 99)), (1, .int (Int32.ofInt (s0))), (2, .int (Int32.ofInt (m0)))]) (fun b9 => (1500 - b9.1).toNat) (fun b9 => inR b9.1 ∧ inR b9.2 ∧ (0 ≤ b9.1 ∧ b9.1 ≤ 1500 ∧ -1 ≤ b9.2 ∧ b9.2 < 1500)) ?_ (0, z4) (show inR 0 ∧ inR z4 ∧ (0 ≤ 0 ∧ 0 ≤ 1500 ∧ -1 ≤ z4 ∧ z4 < 1500) from ⟨(by omega), (by omega), (by omega)⟩) hP hD hS hl
    rintro ⟨x6_5, x5_6⟩ ih hi9 H locs ls hP hD hS hl
    obtain ⟨r_x6_5, r_x5_6, hinv⟩ : inR x6_5 ∧ inR x5_6 ∧ (0 ≤ x6_5 ∧ x6_5 ≤ 1500 ∧ -1 ≤ x5_6 ∧ x5_6 < 1500) := hi9
    obtain ⟨hP, hD⟩ : va_P G vwCl (wS k ar (pl) fi fa) H ∧ va_D A (wS k ar (pl) fi fa) := ⟨hP, hD⟩
    have hl : lv_has ls 7 [(6, .int (Int32.ofInt (x6_5))), (5, .int (Int32.ofInt (x5_6))), (4, .int (Int32.ofInt (z3))), (3, .int (Int32.ofInt (s0_1))), (0, .ref (ar 99)), (1, .int (Int32.ofInt (s0))), (2, .int (Int32.ofInt (m0)))] := hl
    refine lv_iload hx hb dX6_arrive_45 (lv_at hl 0 rfl) ?_
    refine lv_sipush (v := Int32.ofInt 1500) hx hb dX6_arrive_47 (by decide +kernel) ?_
    refine iv_icmp_ge (tgt := 85) hx hb (by omega) (by omega) dX6_arrive_50 (by decide) (fun q7 => ?_) (fun q7 => ?_)
    · refine lv_iload hx hb dX6_arrive_85 (lv_at hl 1 rfl) ?_
      refine lv_iconst (v := Int32.ofInt (-1)) hx hb dX6_arrive_87 (by decide +kernel) ?_
      refine iv_icmp_ne (tgt := 178) hx hb (by omega) (by omega) dX6_arrive_88 (by decide) (fun q8 => ?_) (fun q8 => ?_)
      · refine lv_iload_n hx hb dX6_arrive_178 rfl (lv_at hl 3 rfl) ?_
        refine lv_aload_n hx hb dX6_arrive_179 rfl (lv_at hl 4 rfl) ?_
        refine va_get (D := G) (ci := 5) (v := .ref (ar 4)) (C := RX6) (T := TX6) (N := 15) (ref := RX6) hx hb hts h2w hown hX.1 hP 0 rfl rfl 4 (by decide) h3w (fun _ h9 => h9) rfl dX6_arrive_180 ?_
        refine lv_iload hx hb dX6_arrive_183 (lv_at hl 1 rfl) ?_
        refine iv_iald hx hb hX.1 hP 2 0 rfl rfl (by omega) (by omega) (by decide) dX6_arrive_185 ?_
        refine iv_top (fun z9 ez9 => ?_)
        have rz9 : inR z9 := ez9 ▸ (hRa 4) _
        have ez9 : z9 = (fa 4) x5_6 := ez9
        refine iv_icmp_lt (tgt := 190) hx hb (by omega) (by omega) dX6_arrive_186 (by decide) (fun q10 => ?_) (fun q10 => ?_)
        · refine lv_aload_n hx hb dX6_arrive_190 rfl (lv_at hl 4 rfl) ?_
          refine va_get (D := G) (ci := 5) (v := .ref (ar 4)) (C := RX6) (T := TX6) (N := 15) (ref := RX6) hx hb hts h2w hown hX.1 hP 0 rfl rfl 4 (by decide) h3w (fun _ h9 => h9) rfl dX6_arrive_191 ?_
          refine lv_iload hx hb dX6_arrive_194 (lv_at hl 1 rfl) ?_
          refine lv_iload_n hx hb dX6_arrive_196 rfl (lv_at hl 3 rfl) ?_
          refine iv_iast hx hb hX.1 hP hD hS 2 0 rfl rfl (fun g' => show _ = (wS k ar (pl) fi (uF fa 4 (g'))) from rfl) (by omega) (by omega) (by decide) dX6_arrive_197 (fun H locs hP hD hS => ?_)
          obtain ⟨g11, eg11, rg11⟩ : ∃ z, z = uA (fa 4) (x5_6) (s0_1) ∧ ∀ t, inR (z t) := ⟨_, rfl, iU (hRa 4) (by omega)⟩
          rw [← eg11] at hP hD
          refine lv_aload_n hx hb dX6_arrive_198 rfl (lv_at hl 4 rfl) ?_
          refine va_get (D := G) (ci := 5) (v := .ref (ar 5)) (C := RX6) (T := TX6) (N := 15) (ref := RX6) hx hb hts h2w hown hX.1 hP 0 rfl rfl 5 (by decide) h4w (fun _ h9 => h9) rfl dX6_arrive_199 ?_
          refine lv_iload hx hb dX6_arrive_202 (lv_at hl 1 rfl) ?_
          refine lv_aload_n hx hb dX6_arrive_204 rfl (lv_at hl 4 rfl) ?_
          refine va_get (D := G) (ci := 5) (v := .int (Int32.ofInt (fi 12))) (C := RX6) (T := TX6) (N := 15) (ref := RX6) hx hb hts h2w hown hX.1 hP 0 rfl rfl 12 (by decide) h5w (fun _ h9 => h9) rfl dX6_arrive_205 ?_
          have rf12 := hR 12
          refine iv_iast hx hb hX.1 hP hD hS 3 0 rfl rfl (fun g' => show _ = (wS k ar (pl) fi (uF (uF fa 4 (g11)) 5 (g'))) from rfl) (by omega) (by omega) (by decide) dX6_arrive_208 (fun H locs hP hD hS => ?_)
          obtain ⟨hP, hD⟩ : va_P G vwCl (wS k ar (pl) fi (uF (uF fa 4 (g11)) 5 (uA (fa 5) (x5_6) (fi 12)))) H ∧ va_D A (wS k ar (pl) fi (uF (uF fa 4 (g11)) 5 (uA (fa 5) (x5_6) (fi 12)))) := ⟨hP, hD⟩
          obtain ⟨g12, eg12, rg12⟩ : ∃ z, z = uA (fa 5) (x5_6) (fi 12) ∧ ∀ t, inR (z t) := ⟨_, rfl, iU (hRa 5) (by omega)⟩
          rw [← eg12] at hP hD
          have bg12 : bnd g12 1500 (-1) 1500 := bnd_up hB5 (by omega) (by omega) eg12
          refine lv_aload_n hx hb dX6_arrive_209 rfl (lv_at hl 4 rfl) ?_
          refine lv_iload hx hb dX6_arrive_210 (lv_at hl 1 rfl) ?_
          refine cr_v (va_runV (As := [.int (Int32.ofInt (x5_6))]) (rest := []) ⟨hx, hb, hml, hown, hts⟩ (mX6_raise l G k ar pl fi (uF (uF fa 4 (g11)) 5 (g12)) x5_6 H.size hR (iG (iG hRa rg11) rg12) bg12 hB7 hB8 hB9 hB10 (by omega) (show 0 ≤ x5_6 ∧ x5_6 < 1500 from by omega)) (cwV 1 hts (gz [.methodLink RX6 148 yX6_raise, .instanceMethod yX6_raise, .selects RX6 yX6_raise yX6_raise, .initialized RX6] (.code yX6_raise cX6_raise 5 none) [(34, 3), (34, 4), (34, 5), (1, 10), (34, 6)] rfl) rfl rfl rfl (by decide +kernel) ⟨Nat.le_of_ble_eq_true rfl, Nat.le_of_ble_eq_true rfl⟩) (cr_preV (EZ_ok k) hZ hS hX hP hD hA (ci := 5) (q0 := 0) rfl rfl) rfl rfl hl.1 rfl (lv_room (Nat.le_of_ble_eq_true rfl)) dX6_arrive_212 ⟨Nat.le_of_ble_eq_true rfl, Nat.le_of_ble_eq_true rfl⟩) hD hS hA (fun u H locs hp hP hD hS => ?_)
          obtain ⟨c13, c14⟩ := u
          obtain ⟨hP, hD⟩ : va_P G vwCl (wS k ar (pl) fi (uF (uF (uF (uF fa 4 (g11)) 5 (g12)) 9 (c13)) 10 (c14))) H ∧ va_D A (wS k ar (pl) fi (uF (uF (uF (uF fa 4 (g11)) 5 (g12)) 9 (c13)) 10 (c14))) := ⟨hP, hD⟩
          obtain ⟨rc13, bc13, rc14, bc14, hp14⟩ : (∀ t, inR (c13 t)) ∧ (bnd c13 1500 0 1500) ∧ (∀ t, inR (c14 t)) ∧ (bnd c14 1500 0 1500) ∧ (True) := hp
          exact W.vret hx hb hr (fun t ht hW => ⟨⟨(fa 3, g11, g12, fa 7, fa 8, c13, c14, fi 2, fi 6, fi 11), rfl, (show (∀ t, inR ((fa 3) t)) ∧ (∀ t, inR (g11 t)) ∧ (∀ t, inR (g12 t)) ∧ (bnd g12 1500 (-1) 1500) ∧ (∀ t, inR ((fa 7) t)) ∧ (bnd (fa 7) 1024 (-1) 1500) ∧ (∀ t, inR ((fa 8) t)) ∧ (bnd (fa 8) 1500 (-1) 1500) ∧ (∀ t, inR (c13 t)) ∧ (bnd c13 1500 0 1500) ∧ (∀ t, inR (c14 t)) ∧ (bnd c14 1500 0 1500) ∧ (inR (fi 2)) ∧ (inR (fi 6)) ∧ (inR (fi 11)) ∧ (0 ≤ (fi 11) ∧ (fi 11) ≤ (fi 6) ∧ (fi 6) ≤ 1500 ∧ ((fi 2) = 0 ∨ (fi 2) = 1) ∧ fi 6 ≤ (fi 6)) from ⟨(hRa 3), rg11, rg12, bg12, (hRa 7), hB7, (hRa 8), hB8, rc13, bc13, rc14, bc14, (hR 2), (hR 6), (hR 11), (by omega)⟩), by rw [ht]; exact hP, hD⟩, hS.F ht⟩) hS.2.2 dX6_arrive_215
        · exact W.vret hx hb hr (fun t ht hW => ⟨⟨(fa 3, fa 4, fa 5, fa 7, fa 8, fa 9, fa 10, fi 2, fi 6, fi 11), rfl, (show (∀ t, inR ((fa 3) t)) ∧ (∀ t, inR ((fa 4) t)) ∧ (∀ t, inR ((fa 5) t)) ∧ (bnd (fa 5) 1500 (-1) 1500) ∧ (∀ t, inR ((fa 7) t)) ∧ (bnd (fa 7) 1024 (-1) 1500) ∧ (∀ t, inR ((fa 8) t)) ∧ (bnd (fa 8) 1500 (-1) 1500) ∧ (∀ t, inR ((fa 9) t)) ∧ (bnd (fa 9) 1500 0 1500) ∧ (∀ t, inR ((fa 10) t)) ∧ (bnd (fa 10) 1500 0 1500) ∧ (inR (fi 2)) ∧ (inR (fi 6)) ∧ (inR (fi 11)) ∧ (0 ≤ (fi 11) ∧ (fi 11) ≤ (fi 6) ∧ (fi 6) ≤ 1500 ∧ ((fi 2) = 0 ∨ (fi 2) = 1) ∧ fi 6 ≤ (fi 6)) from ⟨(hRa 3), (hRa 4), (hRa 5), hB5, (hRa 7), hB7, (hRa 8), hB8, (hRa 9), hB9, (hRa 10), hB10, (hR 2), (hR 6), (hR 11), (by omega)⟩), by rw [ht]; exact hP, hD⟩, hS.F ht⟩) hS.2.2 dX6_arrive_189
      · refine lv_aload_n hx hb dX6_arrive_91 rfl (lv_at hl 4 rfl) ?_
        refine va_get (D := G) (ci := 5) (v := .int (Int32.ofInt (fi 6))) (C := RX6) (T := TX6) (N := 15) (ref := RX6) hx hb hts h2w hown hX.1 hP 0 rfl rfl 6 (by decide) h6w (fun _ h9 => h9) rfl dX6_arrive_92 ?_
        have rf6 := hR 6
        refine lv_sipush (v := Int32.ofInt 1500) hx hb dX6_arrive_95 (by decide +kernel) ?_
        refine iv_icmp_lt (tgt := 107) hx hb (by omega) (by omega) dX6_arrive_98 (by decide) (fun q15 => ?_) (fun q15 => ?_)
        · refine lv_aload_n hx hb dX6_arrive_107 rfl (lv_at hl 4 rfl) ?_
          refine va_get (D := G) (ci := 5) (v := .int (Int32.ofInt (fi 6))) (C := RX6) (T := TX6) (N := 15) (ref := RX6) hx hb hts h2w hown hX.1 hP 0 rfl rfl 6 (by decide) h6w (fun _ h9 => h9) rfl dX6_arrive_108 ?_
          have rf6 := hR 6
          refine lv_istore (lv' := [(5, .int (Int32.ofInt (fi 6))), (6, .int (Int32.ofInt (x6_5))), (4, .int (Int32.ofInt (z3))), (3, .int (Int32.ofInt (s0_1))), (0, .ref (ar 99)), (1, .int (Int32.ofInt (s0))), (2, .int (Int32.ofInt (m0)))]) hx hb dX6_arrive_111 hl (by decide) rfl (fun ls hl => ?_)
          refine lv_aload_n hx hb dX6_arrive_113 rfl (lv_at hl 4 rfl) ?_
          refine lv_dup hx hb dX6_arrive_114 rfl ?_
          refine va_get (D := G) (ci := 5) (v := .int (Int32.ofInt (fi 6))) (C := RX6) (T := TX6) (N := 15) (ref := RX6) hx hb hts h2w hown hX.1 hP 0 rfl rfl 6 (by decide) h6w (fun _ h9 => h9) rfl dX6_arrive_115 ?_
          have rf6 := hR 6
          refine lv_iconst (v := Int32.ofInt 1) hx hb dX6_arrive_118 (by decide +kernel) ?_
          refine iv_add (x := fi 6) (y := 1) hx hb dX6_arrive_119 ?_
          refine iv_put (ci := 5) (v := .int (Int32.ofInt ((fi 6 + 1)))) (ty := .int) (C := RX6) (T := TX6) (N := 15) (ref := RX6) hx hb hts h2w tyX6 tyX6_ok nmX6 hown hX.1 hP hD hS 0 rfl rfl 6 (by decide) h6w (fun _ h9 => h9) rfl (by decide +kernel) rfl rfl (Nat.le_of_ble_eq_true rfl) (show _ = (wS k ar (pl) (uF fi 6 ((fi 6 + 1))) fa) from rfl) dX6_arrive_120 (fun H locs hP hD hS => ?_)
          refine lv_aload_n hx hb dX6_arrive_123 rfl (lv_at hl 4 rfl) ?_
          refine va_get (D := G) (ci := 5) (v := .ref (ar 3)) (C := RX6) (T := TX6) (N := 15) (ref := RX6) hx hb hts h2w hown hX.1 hP 0 rfl rfl 3 (by decide) h7w (fun _ h9 => h9) rfl dX6_arrive_124 ?_
          refine lv_iload hx hb dX6_arrive_127 (lv_at hl 0 rfl) ?_
          refine lv_iload_n hx hb dX6_arrive_129 rfl (lv_at hl 5 rfl) ?_
          refine iv_iast hx hb hX.1 hP hD hS 1 0 rfl rfl (fun g' => show _ = (wS k ar (pl) (uF fi 6 ((fi 6 + 1))) (uF fa 3 (g'))) from rfl) (by omega) (by omega) (by decide) dX6_arrive_130 (fun H locs hP hD hS => ?_)
          obtain ⟨g16, eg16, rg16⟩ : ∃ z, z = uA (fa 3) (fi 6) (s0) ∧ ∀ t, inR (z t) := ⟨_, rfl, iU (hRa 3) (by omega)⟩
          rw [← eg16] at hP hD
          refine lv_aload_n hx hb dX6_arrive_131 rfl (lv_at hl 4 rfl) ?_
          refine va_get (D := G) (ci := 5) (v := .ref (ar 8)) (C := RX6) (T := TX6) (N := 15) (ref := RX6) hx hb hts h2w hown hX.1 hP 0 rfl rfl 8 (by decide) h8w (fun _ h9 => h9) rfl dX6_arrive_132 ?_
          refine lv_iload hx hb dX6_arrive_135 (lv_at hl 0 rfl) ?_
          refine lv_aload_n hx hb dX6_arrive_137 rfl (lv_at hl 4 rfl) ?_
          refine va_get (D := G) (ci := 5) (v := .ref (ar 7)) (C := RX6) (T := TX6) (N := 15) (ref := RX6) hx hb hts h2w hown hX.1 hP 0 rfl rfl 7 (by decide) h1w (fun _ h9 => h9) rfl dX6_arrive_138 ?_
          refine lv_iload hx hb dX6_arrive_141 (lv_at hl 2 rfl) ?_
          refine iv_iald hx hb hX.1 hP 4 0 rfl rfl (by omega) (by omega) (by decide) dX6_arrive_143 ?_
          refine iv_top (fun z17 ez17 => ?_)
          have rz17 : inR z17 := ez17 ▸ (hRa 7) _
          have ez17 : z17 = (fa 7) z3 := ez17
          have bz17 : (-1) ≤ z17 ∧ z17 < 1500 := by rw [ez17]; exact bnd_at hB7 (by omega) (by omega)
          refine iv_iast hx hb hX.1 hP hD hS 5 0 rfl rfl (fun g' => show _ = (wS k ar (pl) (uF fi 6 ((fi 6 + 1))) (uF (uF fa 3 (g16)) 8 (g'))) from rfl) (by omega) (by omega) (by decide) dX6_arrive_144 (fun H locs hP hD hS => ?_)
          obtain ⟨hP, hD⟩ : va_P G vwCl (wS k ar (pl) (uF fi 6 ((fi 6 + 1))) (uF (uF fa 3 (g16)) 8 (uA (fa 8) (fi 6) (z17)))) H ∧ va_D A (wS k ar (pl) (uF fi 6 ((fi 6 + 1))) (uF (uF fa 3 (g16)) 8 (uA (fa 8) (fi 6) (z17)))) := ⟨hP, hD⟩
          obtain ⟨g18, eg18, rg18⟩ : ∃ z, z = uA (fa 8) (fi 6) (z17) ∧ ∀ t, inR (z t) := ⟨_, rfl, iU (hRa 8) (by omega)⟩
          rw [← eg18] at hP hD
          have bg18 : bnd g18 1500 (-1) 1500 := bnd_up hB8 (by omega) (by omega) eg18
          refine lv_aload_n hx hb dX6_arrive_145 rfl (lv_at hl 4 rfl) ?_
          refine va_get (D := G) (ci := 5) (v := .ref (ar 7)) (C := RX6) (T := TX6) (N := 15) (ref := RX6) hx hb hts h2w hown hX.1 hP 0 rfl rfl 7 (by decide) h1w (fun _ h9 => h9) rfl dX6_arrive_146 ?_
          refine lv_iload hx hb dX6_arrive_149 (lv_at hl 2 rfl) ?_
          refine lv_iload hx hb dX6_arrive_151 (lv_at hl 0 rfl) ?_
          refine iv_iast hx hb hX.1 hP hD hS 4 0 rfl rfl (fun g' => show _ = (wS k ar (pl) (uF fi 6 ((fi 6 + 1))) (uF (uF (uF fa 3 (g16)) 7 (g')) 8 (g18))) from rfl) (by omega) (by omega) (by decide) dX6_arrive_153 (fun H locs hP hD hS => ?_)
          obtain ⟨hP, hD⟩ : va_P G vwCl (wS k ar (pl) (uF fi 6 ((fi 6 + 1))) (uF (uF (uF fa 3 (g16)) 7 (uA (fa 7) (z3) (fi 6))) 8 (g18))) H ∧ va_D A (wS k ar (pl) (uF fi 6 ((fi 6 + 1))) (uF (uF (uF fa 3 (g16)) 7 (uA (fa 7) (z3) (fi 6))) 8 (g18))) := ⟨hP, hD⟩
          obtain ⟨g19, eg19, rg19⟩ : ∃ z, z = uA (fa 7) (z3) (fi 6) ∧ ∀ t, inR (z t) := ⟨_, rfl, iU (hRa 7) (by omega)⟩
          rw [← eg19] at hP hD
          have bg19 : bnd g19 1024 (-1) 1500 := bnd_up hB7 (by omega) (by omega) eg19
          refine lv_aload_n hx hb dX6_arrive_154 rfl (lv_at hl 4 rfl) ?_
          refine va_get (D := G) (ci := 5) (v := .ref (ar 10)) (C := RX6) (T := TX6) (N := 15) (ref := RX6) hx hb hts h2w hown hX.1 hP 0 rfl rfl 10 (by decide) h9w (fun _ h9 => h9) rfl dX6_arrive_155 ?_
          refine lv_iload hx hb dX6_arrive_158 (lv_at hl 0 rfl) ?_
          refine lv_aload_n hx hb dX6_arrive_160 rfl (lv_at hl 4 rfl) ?_
          refine va_get (D := G) (ci := 5) (v := .int (Int32.ofInt (fi 11))) (C := RX6) (T := TX6) (N := 15) (ref := RX6) hx hb hts h2w hown hX.1 hP 0 rfl rfl 11 (by decide) h10w (fun _ h9 => h9) rfl dX6_arrive_161 ?_
          have rf11 := hR 11
          refine iv_iast hx hb hX.1 hP hD hS 7 0 rfl rfl (fun g' => show _ = (wS k ar (pl) (uF fi 6 ((fi 6 + 1))) (uF (uF (uF (uF fa 3 (g16)) 7 (g19)) 8 (g18)) 10 (g'))) from rfl) (by omega) (by omega) (by decide) dX6_arrive_164 (fun H locs hP hD hS => ?_)
          obtain ⟨hP, hD⟩ : va_P G vwCl (wS k ar (pl) (uF fi 6 ((fi 6 + 1))) (uF (uF (uF (uF fa 3 (g16)) 7 (g19)) 8 (g18)) 10 (uA (fa 10) (fi 6) (fi 11)))) H ∧ va_D A (wS k ar (pl) (uF fi 6 ((fi 6 + 1))) (uF (uF (uF (uF fa 3 (g16)) 7 (g19)) 8 (g18)) 10 (uA (fa 10) (fi 6) (fi 11)))) := ⟨hP, hD⟩
          obtain ⟨g20, eg20, rg20⟩ : ∃ z, z = uA (fa 10) (fi 6) (fi 11) ∧ ∀ t, inR (z t) := ⟨_, rfl, iU (hRa 10) (by omega)⟩
          rw [← eg20] at hP hD
          have bg20 : bnd g20 1500 0 1500 := bnd_up hB10 (by omega) (by omega) eg20
          refine lv_aload_n hx hb dX6_arrive_165 rfl (lv_at hl 4 rfl) ?_
          refine lv_dup hx hb dX6_arrive_166 rfl ?_
          refine va_get (D := G) (ci := 5) (v := .int (Int32.ofInt (fi 11))) (C := RX6) (T := TX6) (N := 15) (ref := RX6) hx hb hts h2w hown hX.1 hP 0 rfl rfl 11 (by decide) h10w (fun _ h9 => h9) rfl dX6_arrive_167 ?_
          have rf11 := hR 11
          refine lv_iconst (v := Int32.ofInt 1) hx hb dX6_arrive_170 (by decide +kernel) ?_
          refine iv_add (x := fi 11) (y := 1) hx hb dX6_arrive_171 ?_
          refine iv_put (ci := 5) (v := .int (Int32.ofInt ((fi 11 + 1)))) (ty := .int) (C := RX6) (T := TX6) (N := 15) (ref := RX6) hx hb hts h2w tyX6 tyX6_ok nmX6 hown hX.1 hP hD hS 0 rfl rfl 11 (by decide) h10w (fun _ h9 => h9) rfl (by decide +kernel) rfl rfl (Nat.le_of_ble_eq_true rfl) (show _ = (wS k ar (pl) (uF (uF fi 6 ((fi 6 + 1))) 11 ((fi 11 + 1))) (uF (uF (uF (uF fa 3 (g16)) 7 (g19)) 8 (g18)) 10 (g20))) from rfl) dX6_arrive_172 (fun H locs hP hD hS => ?_)
          refine lv_goto (tgt := 190) hx hb dX6_arrive_175 (by decide) ?_
          refine lv_aload_n hx hb dX6_arrive_190 rfl (lv_at hl 4 rfl) ?_
          refine va_get (D := G) (ci := 5) (v := .ref (ar 4)) (C := RX6) (T := TX6) (N := 15) (ref := RX6) hx hb hts h2w hown hX.1 hP 0 rfl rfl 4 (by decide) h3w (fun _ h9 => h9) rfl dX6_arrive_191 ?_
          refine lv_iload hx hb dX6_arrive_194 (lv_at hl 0 rfl) ?_
          refine lv_iload_n hx hb dX6_arrive_196 rfl (lv_at hl 3 rfl) ?_
          refine iv_iast hx hb hX.1 hP hD hS 2 0 rfl rfl (fun g' => show _ = (wS k ar (pl) (uF (uF fi 6 ((fi 6 + 1))) 11 ((fi 11 + 1))) (uF (uF (uF (uF (uF fa 3 (g16)) 4 (g')) 7 (g19)) 8 (g18)) 10 (g20))) from rfl) (by omega) (by omega) (by decide) dX6_arrive_197 (fun H locs hP hD hS => ?_)
          obtain ⟨hP, hD⟩ : va_P G vwCl (wS k ar (pl) (uF (uF fi 6 ((fi 6 + 1))) 11 ((fi 11 + 1))) (uF (uF (uF (uF (uF fa 3 (g16)) 4 (uA (fa 4) (fi 6) (s0_1))) 7 (g19)) 8 (g18)) 10 (g20))) H ∧ va_D A (wS k ar (pl) (uF (uF fi 6 ((fi 6 + 1))) 11 ((fi 11 + 1))) (uF (uF (uF (uF (uF fa 3 (g16)) 4 (uA (fa 4) (fi 6) (s0_1))) 7 (g19)) 8 (g18)) 10 (g20))) := ⟨hP, hD⟩
          obtain ⟨g21, eg21, rg21⟩ : ∃ z, z = uA (fa 4) (fi 6) (s0_1) ∧ ∀ t, inR (z t) := ⟨_, rfl, iU (hRa 4) (by omega)⟩
          rw [← eg21] at hP hD
          refine lv_aload_n hx hb dX6_arrive_198 rfl (lv_at hl 4 rfl) ?_
          refine va_get (D := G) (ci := 5) (v := .ref (ar 5)) (C := RX6) (T := TX6) (N := 15) (ref := RX6) hx hb hts h2w hown hX.1 hP 0 rfl rfl 5 (by decide) h4w (fun _ h9 => h9) rfl dX6_arrive_199 ?_
          refine lv_iload hx hb dX6_arrive_202 (lv_at hl 0 rfl) ?_
          refine lv_aload_n hx hb dX6_arrive_204 rfl (lv_at hl 4 rfl) ?_
          refine va_get (D := G) (ci := 5) (v := .int (Int32.ofInt (fi 12))) (C := RX6) (T := TX6) (N := 15) (ref := RX6) hx hb hts h2w hown hX.1 hP 0 rfl rfl 12 (by decide) h5w (fun _ h9 => h9) rfl dX6_arrive_205 ?_
          have rf12 := hR 12
          refine iv_iast hx hb hX.1 hP hD hS 3 0 rfl rfl (fun g' => show _ = (wS k ar (pl) (uF (uF fi 6 ((fi 6 + 1))) 11 ((fi 11 + 1))) (uF (uF (uF (uF (uF (uF fa 3 (g16)) 4 (g21)) 5 (g')) 7 (g19)) 8 (g18)) 10 (g20))) from rfl) (by omega) (by omega) (by decide) dX6_arrive_208 (fun H locs hP hD hS => ?_)
          obtain ⟨hP, hD⟩ : va_P G vwCl (wS k ar (pl) (uF (uF fi 6 ((fi 6 + 1))) 11 ((fi 11 + 1))) (uF (uF (uF (uF (uF (uF fa 3 (g16)) 4 (g21)) 5 (uA (fa 5) (fi 6) (fi 12))) 7 (g19)) 8 (g18)) 10 (g20))) H ∧ va_D A (wS k ar (pl) (uF (uF fi 6 ((fi 6 + 1))) 11 ((fi 11 + 1))) (uF (uF (uF (uF (uF (uF fa 3 (g16)) 4 (g21)) 5 (uA (fa 5) (fi 6) (fi 12))) 7 (g19)) 8 (g18)) 10 (g20))) := ⟨hP, hD⟩
          obtain ⟨g22, eg22, rg22⟩ : ∃ z, z = uA (fa 5) (fi 6) (fi 12) ∧ ∀ t, inR (z t) := ⟨_, rfl, iU (hRa 5) (by omega)⟩
          rw [← eg22] at hP hD
          have bg22 : bnd g22 1500 (-1) 1500 := bnd_up hB5 (by omega) (by omega) eg22
          refine lv_aload_n hx hb dX6_arrive_209 rfl (lv_at hl 4 rfl) ?_
          refine lv_iload hx hb dX6_arrive_210 (lv_at hl 0 rfl) ?_
          refine cr_v (va_runV (As := [.int (Int32.ofInt (fi 6))]) (rest := []) ⟨hx, hb, hml, hown, hts⟩ (mX6_raise l G k ar pl (uF (uF fi 6 ((fi 6 + 1))) 11 ((fi 11 + 1))) (uF (uF (uF (uF (uF (uF fa 3 (g16)) 4 (g21)) 5 (g22)) 7 (g19)) 8 (g18)) 10 (g20)) (fi 6) H.size (iF (iF hR (by omega)) (by omega)) (iG (iG (iG (iG (iG (iG hRa rg16) rg21) rg22) rg19) rg18) rg20) bg22 bg19 bg18 hB9 bg20 (hR 6) (show 0 ≤ (fi 6) ∧ (fi 6) < 1500 from by omega)) (cwV 1 hts (gz [.methodLink RX6 148 yX6_raise, .instanceMethod yX6_raise, .selects RX6 yX6_raise yX6_raise, .initialized RX6] (.code yX6_raise cX6_raise 5 none) [(34, 3), (34, 4), (34, 5), (1, 10), (34, 6)] rfl) rfl rfl rfl (by decide +kernel) ⟨Nat.le_of_ble_eq_true rfl, Nat.le_of_ble_eq_true rfl⟩) (cr_preV (EZ_ok k) hZ hS hX hP hD hA (ci := 5) (q0 := 0) rfl rfl) rfl rfl hl.1 rfl (lv_room (Nat.le_of_ble_eq_true rfl)) dX6_arrive_212 ⟨Nat.le_of_ble_eq_true rfl, Nat.le_of_ble_eq_true rfl⟩) hD hS hA (fun u H locs hp hP hD hS => ?_)
          obtain ⟨c23, c24⟩ := u
          obtain ⟨hP, hD⟩ : va_P G vwCl (wS k ar (pl) (uF (uF fi 6 ((fi 6 + 1))) 11 ((fi 11 + 1))) (uF (uF (uF (uF (uF (uF (uF fa 3 (g16)) 4 (g21)) 5 (g22)) 7 (g19)) 8 (g18)) 9 (c23)) 10 (c24))) H ∧ va_D A (wS k ar (pl) (uF (uF fi 6 ((fi 6 + 1))) 11 ((fi 11 + 1))) (uF (uF (uF (uF (uF (uF (uF fa 3 (g16)) 4 (g21)) 5 (g22)) 7 (g19)) 8 (g18)) 9 (c23)) 10 (c24))) := ⟨hP, hD⟩
          obtain ⟨rc23, bc23, rc24, bc24, hp24⟩ : (∀ t, inR (c23 t)) ∧ (bnd c23 1500 0 1500) ∧ (∀ t, inR (c24 t)) ∧ (bnd c24 1500 0 1500) ∧ (True) := hp
          exact W.vret hx hb hr (fun t ht hW => ⟨⟨(g16, g21, g22, g19, g18, c23, c24, fi 2, (fi 6 + 1), (fi 11 + 1)), rfl, (show (∀ t, inR (g16 t)) ∧ (∀ t, inR (g21 t)) ∧ (∀ t, inR (g22 t)) ∧ (bnd g22 1500 (-1) 1500) ∧ (∀ t, inR (g19 t)) ∧ (bnd g19 1024 (-1) 1500) ∧ (∀ t, inR (g18 t)) ∧ (bnd g18 1500 (-1) 1500) ∧ (∀ t, inR (c23 t)) ∧ (bnd c23 1500 0 1500) ∧ (∀ t, inR (c24 t)) ∧ (bnd c24 1500 0 1500) ∧ (inR (fi 2)) ∧ (inR (fi 6 + 1)) ∧ (inR (fi 11 + 1)) ∧ (0 ≤ (fi 11 + 1) ∧ (fi 11 + 1) ≤ (fi 6 + 1) ∧ (fi 6 + 1) ≤ 1500 ∧ ((fi 2) = 0 ∨ (fi 2) = 1) ∧ fi 6 ≤ (fi 6 + 1)) from ⟨rg16, rg21, rg22, bg22, rg19, bg19, rg18, bg18, rc23, bc23, rc24, bc24, (hR 2), (by omega), (by omega), (by omega)⟩), by rw [ht]; exact hP, hD⟩, hS.F ht⟩) hS.2.2 dX6_arrive_215
        · refine lv_aload_n hx hb dX6_arrive_101 rfl (lv_at hl 4 rfl) ?_
          refine lv_iconst (v := Int32.ofInt 1) hx hb dX6_arrive_102 (by decide +kernel) ?_
          refine iv_put (ci := 5) (v := .int (Int32.ofInt (1))) (ty := .boolean) (C := RX6) (T := TX6) (N := 15) (ref := RX6) hx hb hts h2w tyX6 tyX6_ok nmX6 hown hX.1 hP hD hS 0 rfl rfl 2 (by decide) h11w (fun _ h9 => h9) rfl (by decide +kernel) (nz_bool (by omega)) (fz_bool (by omega)) (Nat.le_of_ble_eq_true rfl) (show _ = (wS k ar (pl) (uF fi 2 (1)) fa) from rfl) dX6_arrive_103 (fun H locs hP hD hS => ?_)
          exact W.vret hx hb hr (fun t ht hW => ⟨⟨(fa 3, fa 4, fa 5, fa 7, fa 8, fa 9, fa 10, 1, fi 6, fi 11), rfl, (show (∀ t, inR ((fa 3) t)) ∧ (∀ t, inR ((fa 4) t)) ∧ (∀ t, inR ((fa 5) t)) ∧ (bnd (fa 5) 1500 (-1) 1500) ∧ (∀ t, inR ((fa 7) t)) ∧ (bnd (fa 7) 1024 (-1) 1500) ∧ (∀ t, inR ((fa 8) t)) ∧ (bnd (fa 8) 1500 (-1) 1500) ∧ (∀ t, inR ((fa 9) t)) ∧ (bnd (fa 9) 1500 0 1500) ∧ (∀ t, inR ((fa 10) t)) ∧ (bnd (fa 10) 1500 0 1500) ∧ (inR 1) ∧ (inR (fi 6)) ∧ (inR (fi 11)) ∧ (0 ≤ (fi 11) ∧ (fi 11) ≤ (fi 6) ∧ (fi 6) ≤ 1500 ∧ (1 = 0 ∨ 1 = 1) ∧ fi 6 ≤ (fi 6)) from ⟨(hRa 3), (hRa 4), (hRa 5), hB5, (hRa 7), hB7, (hRa 8), hB8, (hRa 9), hB9, (hRa 10), hB10, (by omega), (hR 6), (hR 11), (by omega)⟩), by rw [ht]; exact hP, hD⟩, hS.F ht⟩) hS.2.2 dX6_arrive_106
    · refine lv_iload hx hb dX6_arrive_53 (lv_at hl 1 rfl) ?_
      refine lv_iconst (v := Int32.ofInt (-1)) hx hb dX6_arrive_55 (by decide +kernel) ?_
      refine iv_icmp_eq (tgt := 85) hx hb (by omega) (by omega) dX6_arrive_56 (by decide) (fun q25 => ?_) (fun q25 => ?_)
      · refine lv_iload hx hb dX6_arrive_85 (lv_at hl 1 rfl) ?_
        refine lv_iconst (v := Int32.ofInt (-1)) hx hb dX6_arrive_87 (by decide +kernel) ?_
        refine iv_icmp_ne (tgt := 178) hx hb (by omega) (by omega) dX6_arrive_88 (by decide) (fun q26 => ?_) (fun q26 => ?_)
        · refine lv_iload_n hx hb dX6_arrive_178 rfl (lv_at hl 3 rfl) ?_
          refine lv_aload_n hx hb dX6_arrive_179 rfl (lv_at hl 4 rfl) ?_
          refine va_get (D := G) (ci := 5) (v := .ref (ar 4)) (C := RX6) (T := TX6) (N := 15) (ref := RX6) hx hb hts h2w hown hX.1 hP 0 rfl rfl 4 (by decide) h3w (fun _ h9 => h9) rfl dX6_arrive_180 ?_
          refine lv_iload hx hb dX6_arrive_183 (lv_at hl 1 rfl) ?_
          refine iv_iald hx hb hX.1 hP 2 0 rfl rfl (by omega) (by omega) (by decide) dX6_arrive_185 ?_
          refine iv_top (fun z27 ez27 => ?_)
          have rz27 : inR z27 := ez27 ▸ (hRa 4) _
          have ez27 : z27 = (fa 4) x5_6 := ez27
          refine iv_icmp_lt (tgt := 190) hx hb (by omega) (by omega) dX6_arrive_186 (by decide) (fun q28 => ?_) (fun q28 => ?_)
          · refine lv_aload_n hx hb dX6_arrive_190 rfl (lv_at hl 4 rfl) ?_
            refine va_get (D := G) (ci := 5) (v := .ref (ar 4)) (C := RX6) (T := TX6) (N := 15) (ref := RX6) hx hb hts h2w hown hX.1 hP 0 rfl rfl 4 (by decide) h3w (fun _ h9 => h9) rfl dX6_arrive_191 ?_
            refine lv_iload hx hb dX6_arrive_194 (lv_at hl 1 rfl) ?_
            refine lv_iload_n hx hb dX6_arrive_196 rfl (lv_at hl 3 rfl) ?_
            refine iv_iast hx hb hX.1 hP hD hS 2 0 rfl rfl (fun g' => show _ = (wS k ar (pl) fi (uF fa 4 (g'))) from rfl) (by omega) (by omega) (by decide) dX6_arrive_197 (fun H locs hP hD hS => ?_)
            obtain ⟨g29, eg29, rg29⟩ : ∃ z, z = uA (fa 4) (x5_6) (s0_1) ∧ ∀ t, inR (z t) := ⟨_, rfl, iU (hRa 4) (by omega)⟩
            rw [← eg29] at hP hD
            refine lv_aload_n hx hb dX6_arrive_198 rfl (lv_at hl 4 rfl) ?_
            refine va_get (D := G) (ci := 5) (v := .ref (ar 5)) (C := RX6) (T := TX6) (N := 15) (ref := RX6) hx hb hts h2w hown hX.1 hP 0 rfl rfl 5 (by decide) h4w (fun _ h9 => h9) rfl dX6_arrive_199 ?_
            refine lv_iload hx hb dX6_arrive_202 (lv_at hl 1 rfl) ?_
            refine lv_aload_n hx hb dX6_arrive_204 rfl (lv_at hl 4 rfl) ?_
            refine va_get (D := G) (ci := 5) (v := .int (Int32.ofInt (fi 12))) (C := RX6) (T := TX6) (N := 15) (ref := RX6) hx hb hts h2w hown hX.1 hP 0 rfl rfl 12 (by decide) h5w (fun _ h9 => h9) rfl dX6_arrive_205 ?_
            have rf12 := hR 12
            refine iv_iast hx hb hX.1 hP hD hS 3 0 rfl rfl (fun g' => show _ = (wS k ar (pl) fi (uF (uF fa 4 (g29)) 5 (g'))) from rfl) (by omega) (by omega) (by decide) dX6_arrive_208 (fun H locs hP hD hS => ?_)
            obtain ⟨hP, hD⟩ : va_P G vwCl (wS k ar (pl) fi (uF (uF fa 4 (g29)) 5 (uA (fa 5) (x5_6) (fi 12)))) H ∧ va_D A (wS k ar (pl) fi (uF (uF fa 4 (g29)) 5 (uA (fa 5) (x5_6) (fi 12)))) := ⟨hP, hD⟩
            obtain ⟨g30, eg30, rg30⟩ : ∃ z, z = uA (fa 5) (x5_6) (fi 12) ∧ ∀ t, inR (z t) := ⟨_, rfl, iU (hRa 5) (by omega)⟩
            rw [← eg30] at hP hD
            have bg30 : bnd g30 1500 (-1) 1500 := bnd_up hB5 (by omega) (by omega) eg30
            refine lv_aload_n hx hb dX6_arrive_209 rfl (lv_at hl 4 rfl) ?_
            refine lv_iload hx hb dX6_arrive_210 (lv_at hl 1 rfl) ?_
            refine cr_v (va_runV (As := [.int (Int32.ofInt (x5_6))]) (rest := []) ⟨hx, hb, hml, hown, hts⟩ (mX6_raise l G k ar pl fi (uF (uF fa 4 (g29)) 5 (g30)) x5_6 H.size hR (iG (iG hRa rg29) rg30) bg30 hB7 hB8 hB9 hB10 (by omega) (show 0 ≤ x5_6 ∧ x5_6 < 1500 from by omega)) (cwV 1 hts (gz [.methodLink RX6 148 yX6_raise, .instanceMethod yX6_raise, .selects RX6 yX6_raise yX6_raise, .initialized RX6] (.code yX6_raise cX6_raise 5 none) [(34, 3), (34, 4), (34, 5), (1, 10), (34, 6)] rfl) rfl rfl rfl (by decide +kernel) ⟨Nat.le_of_ble_eq_true rfl, Nat.le_of_ble_eq_true rfl⟩) (cr_preV (EZ_ok k) hZ hS hX hP hD hA (ci := 5) (q0 := 0) rfl rfl) rfl rfl hl.1 rfl (lv_room (Nat.le_of_ble_eq_true rfl)) dX6_arrive_212 ⟨Nat.le_of_ble_eq_true rfl, Nat.le_of_ble_eq_true rfl⟩) hD hS hA (fun u H locs hp hP hD hS => ?_)
            obtain ⟨c31, c32⟩ := u
            obtain ⟨hP, hD⟩ : va_P G vwCl (wS k ar (pl) fi (uF (uF (uF (uF fa 4 (g29)) 5 (g30)) 9 (c31)) 10 (c32))) H ∧ va_D A (wS k ar (pl) fi (uF (uF (uF (uF fa 4 (g29)) 5 (g30)) 9 (c31)) 10 (c32))) := ⟨hP, hD⟩
            obtain ⟨rc31, bc31, rc32, bc32, hp32⟩ : (∀ t, inR (c31 t)) ∧ (bnd c31 1500 0 1500) ∧ (∀ t, inR (c32 t)) ∧ (bnd c32 1500 0 1500) ∧ (True) := hp
            exact W.vret hx hb hr (fun t ht hW => ⟨⟨(fa 3, g29, g30, fa 7, fa 8, c31, c32, fi 2, fi 6, fi 11), rfl, (show (∀ t, inR ((fa 3) t)) ∧ (∀ t, inR (g29 t)) ∧ (∀ t, inR (g30 t)) ∧ (bnd g30 1500 (-1) 1500) ∧ (∀ t, inR ((fa 7) t)) ∧ (bnd (fa 7) 1024 (-1) 1500) ∧ (∀ t, inR ((fa 8) t)) ∧ (bnd (fa 8) 1500 (-1) 1500) ∧ (∀ t, inR (c31 t)) ∧ (bnd c31 1500 0 1500) ∧ (∀ t, inR (c32 t)) ∧ (bnd c32 1500 0 1500) ∧ (inR (fi 2)) ∧ (inR (fi 6)) ∧ (inR (fi 11)) ∧ (0 ≤ (fi 11) ∧ (fi 11) ≤ (fi 6) ∧ (fi 6) ≤ 1500 ∧ ((fi 2) = 0 ∨ (fi 2) = 1) ∧ fi 6 ≤ (fi 6)) from ⟨(hRa 3), rg29, rg30, bg30, (hRa 7), hB7, (hRa 8), hB8, rc31, bc31, rc32, bc32, (hR 2), (hR 6), (hR 11), (by omega)⟩), by rw [ht]; exact hP, hD⟩, hS.F ht⟩) hS.2.2 dX6_arrive_215
          · exact W.vret hx hb hr (fun t ht hW => ⟨⟨(fa 3, fa 4, fa 5, fa 7, fa 8, fa 9, fa 10, fi 2, fi 6, fi 11), rfl, (show (∀ t, inR ((fa 3) t)) ∧ (∀ t, inR ((fa 4) t)) ∧ (∀ t, inR ((fa 5) t)) ∧ (bnd (fa 5) 1500 (-1) 1500) ∧ (∀ t, inR ((fa 7) t)) ∧ (bnd (fa 7) 1024 (-1) 1500) ∧ (∀ t, inR ((fa 8) t)) ∧ (bnd (fa 8) 1500 (-1) 1500) ∧ (∀ t, inR ((fa 9) t)) ∧ (bnd (fa 9) 1500 0 1500) ∧ (∀ t, inR ((fa 10) t)) ∧ (bnd (fa 10) 1500 0 1500) ∧ (inR (fi 2)) ∧ (inR (fi 6)) ∧ (inR (fi 11)) ∧ (0 ≤ (fi 11) ∧ (fi 11) ≤ (fi 6) ∧ (fi 6) ≤ 1500 ∧ ((fi 2) = 0 ∨ (fi 2) = 1) ∧ fi 6 ≤ (fi 6)) from ⟨(hRa 3), (hRa 4), (hRa 5), hB5, (hRa 7), hB7, (hRa 8), hB8, (hRa 9), hB9, (hRa 10), hB10, (hR 2), (hR 6), (hR 11), (by omega)⟩), by rw [ht]; exact hP, hD⟩, hS.F ht⟩) hS.2.2 dX6_arrive_189
        · refine lv_aload_n hx hb dX6_arrive_91 rfl (lv_at hl 4 rfl) ?_
          refine va_get (D := G) (ci := 5) (v := .int (Int32.ofInt (fi 6))) (C := RX6) (T := TX6) (N := 15) (ref := RX6) hx hb hts h2w hown hX.1 hP 0 rfl rfl 6 (by decide) h6w (fun _ h9 => h9) rfl dX6_arrive_92 ?_
          have rf6 := hR 6
          refine lv_sipush (v := Int32.ofInt 1500) hx hb dX6_arrive_95 (by decide +kernel) ?_
          refine iv_icmp_lt (tgt := 107) hx hb (by omega) (by omega) dX6_arrive_98 (by decide) (fun q33 => ?_) (fun q33 => ?_)
          · refine lv_aload_n hx hb dX6_arrive_107 rfl (lv_at hl 4 rfl) ?_
            refine va_get (D := G) (ci := 5) (v := .int (Int32.ofInt (fi 6))) (C := RX6) (T := TX6) (N := 15) (ref := RX6) hx hb hts h2w hown hX.1 hP 0 rfl rfl 6 (by decide) h6w (fun _ h9 => h9) rfl dX6_arrive_108 ?_
            have rf6 := hR 6
            refine lv_istore (lv' := [(5, .int (Int32.ofInt (fi 6))), (6, .int (Int32.ofInt (x6_5))), (4, .int (Int32.ofInt (z3))), (3, .int (Int32.ofInt (s0_1))), (0, .ref (ar 99)), (1, .int (Int32.ofInt (s0))), (2, .int (Int32.ofInt (m0)))]) hx hb dX6_arrive_111 hl (by decide) rfl (fun ls hl => ?_)
            refine lv_aload_n hx hb dX6_arrive_113 rfl (lv_at hl 4 rfl) ?_
            refine lv_dup hx hb dX6_arrive_114 rfl ?_
            refine va_get (D := G) (ci := 5) (v := .int (Int32.ofInt (fi 6))) (C := RX6) (T := TX6) (N := 15) (ref := RX6) hx hb hts h2w hown hX.1 hP 0 rfl rfl 6 (by decide) h6w (fun _ h9 => h9) rfl dX6_arrive_115 ?_
            have rf6 := hR 6
            refine lv_iconst (v := Int32.ofInt 1) hx hb dX6_arrive_118 (by decide +kernel) ?_
            refine iv_add (x := fi 6) (y := 1) hx hb dX6_arrive_119 ?_
            refine iv_put (ci := 5) (v := .int (Int32.ofInt ((fi 6 + 1)))) (ty := .int) (C := RX6) (T := TX6) (N := 15) (ref := RX6) hx hb hts h2w tyX6 tyX6_ok nmX6 hown hX.1 hP hD hS 0 rfl rfl 6 (by decide) h6w (fun _ h9 => h9) rfl (by decide +kernel) rfl rfl (Nat.le_of_ble_eq_true rfl) (show _ = (wS k ar (pl) (uF fi 6 ((fi 6 + 1))) fa) from rfl) dX6_arrive_120 (fun H locs hP hD hS => ?_)
            refine lv_aload_n hx hb dX6_arrive_123 rfl (lv_at hl 4 rfl) ?_
            refine va_get (D := G) (ci := 5) (v := .ref (ar 3)) (C := RX6) (T := TX6) (N := 15) (ref := RX6) hx hb hts h2w hown hX.1 hP 0 rfl rfl 3 (by decide) h7w (fun _ h9 => h9) rfl dX6_arrive_124 ?_
            refine lv_iload hx hb dX6_arrive_127 (lv_at hl 0 rfl) ?_
            refine lv_iload_n hx hb dX6_arrive_129 rfl (lv_at hl 5 rfl) ?_
            refine iv_iast hx hb hX.1 hP hD hS 1 0 rfl rfl (fun g' => show _ = (wS k ar (pl) (uF fi 6 ((fi 6 + 1))) (uF fa 3 (g'))) from rfl) (by omega) (by omega) (by decide) dX6_arrive_130 (fun H locs hP hD hS => ?_)
            obtain ⟨g34, eg34, rg34⟩ : ∃ z, z = uA (fa 3) (fi 6) (s0) ∧ ∀ t, inR (z t) := ⟨_, rfl, iU (hRa 3) (by omega)⟩
            rw [← eg34] at hP hD
            refine lv_aload_n hx hb dX6_arrive_131 rfl (lv_at hl 4 rfl) ?_
            refine va_get (D := G) (ci := 5) (v := .ref (ar 8)) (C := RX6) (T := TX6) (N := 15) (ref := RX6) hx hb hts h2w hown hX.1 hP 0 rfl rfl 8 (by decide) h8w (fun _ h9 => h9) rfl dX6_arrive_132 ?_
            refine lv_iload hx hb dX6_arrive_135 (lv_at hl 0 rfl) ?_
            refine lv_aload_n hx hb dX6_arrive_137 rfl (lv_at hl 4 rfl) ?_
            refine va_get (D := G) (ci := 5) (v := .ref (ar 7)) (C := RX6) (T := TX6) (N := 15) (ref := RX6) hx hb hts h2w hown hX.1 hP 0 rfl rfl 7 (by decide) h1w (fun _ h9 => h9) rfl dX6_arrive_138 ?_
            refine lv_iload hx hb dX6_arrive_141 (lv_at hl 2 rfl) ?_
            refine iv_iald hx hb hX.1 hP 4 0 rfl rfl (by omega) (by omega) (by decide) dX6_arrive_143 ?_
            refine iv_top (fun z35 ez35 => ?_)
            have rz35 : inR z35 := ez35 ▸ (hRa 7) _
            have ez35 : z35 = (fa 7) z3 := ez35
            have bz35 : (-1) ≤ z35 ∧ z35 < 1500 := by rw [ez35]; exact bnd_at hB7 (by omega) (by omega)
            refine iv_iast hx hb hX.1 hP hD hS 5 0 rfl rfl (fun g' => show _ = (wS k ar (pl) (uF fi 6 ((fi 6 + 1))) (uF (uF fa 3 (g34)) 8 (g'))) from rfl) (by omega) (by omega) (by decide) dX6_arrive_144 (fun H locs hP hD hS => ?_)
            obtain ⟨hP, hD⟩ : va_P G vwCl (wS k ar (pl) (uF fi 6 ((fi 6 + 1))) (uF (uF fa 3 (g34)) 8 (uA (fa 8) (fi 6) (z35)))) H ∧ va_D A (wS k ar (pl) (uF fi 6 ((fi 6 + 1))) (uF (uF fa 3 (g34)) 8 (uA (fa 8) (fi 6) (z35)))) := ⟨hP, hD⟩
            obtain ⟨g36, eg36, rg36⟩ : ∃ z, z = uA (fa 8) (fi 6) (z35) ∧ ∀ t, inR (z t) := ⟨_, rfl, iU (hRa 8) (by omega)⟩
            rw [← eg36] at hP hD
            have bg36 : bnd g36 1500 (-1) 1500 := bnd_up hB8 (by omega) (by omega) eg36
            refine lv_aload_n hx hb dX6_arrive_145 rfl (lv_at hl 4 rfl) ?_
            refine va_get (D := G) (ci := 5) (v := .ref (ar 7)) (C := RX6) (T := TX6) (N := 15) (ref := RX6) hx hb hts h2w hown hX.1 hP 0 rfl rfl 7 (by decide) h1w (fun _ h9 => h9) rfl dX6_arrive_146 ?_
            refine lv_iload hx hb dX6_arrive_149 (lv_at hl 2 rfl) ?_
            refine lv_iload hx hb dX6_arrive_151 (lv_at hl 0 rfl) ?_
            refine iv_iast hx hb hX.1 hP hD hS 4 0 rfl rfl (fun g' => show _ = (wS k ar (pl) (uF fi 6 ((fi 6 + 1))) (uF (uF (uF fa 3 (g34)) 7 (g')) 8 (g36))) from rfl) (by omega) (by omega) (by decide) dX6_arrive_153 (fun H locs hP hD hS => ?_)
            obtain ⟨hP, hD⟩ : va_P G vwCl (wS k ar (pl) (uF fi 6 ((fi 6 + 1))) (uF (uF (uF fa 3 (g34)) 7 (uA (fa 7) (z3) (fi 6))) 8 (g36))) H ∧ va_D A (wS k ar (pl) (uF fi 6 ((fi 6 + 1))) (uF (uF (uF fa 3 (g34)) 7 (uA (fa 7) (z3) (fi 6))) 8 (g36))) := ⟨hP, hD⟩
            obtain ⟨g37, eg37, rg37⟩ : ∃ z, z = uA (fa 7) (z3) (fi 6) ∧ ∀ t, inR (z t) := ⟨_, rfl, iU (hRa 7) (by omega)⟩
            rw [← eg37] at hP hD
            have bg37 : bnd g37 1024 (-1) 1500 := bnd_up hB7 (by omega) (by omega) eg37
            refine lv_aload_n hx hb dX6_arrive_154 rfl (lv_at hl 4 rfl) ?_
            refine va_get (D := G) (ci := 5) (v := .ref (ar 10)) (C := RX6) (T := TX6) (N := 15) (ref := RX6) hx hb hts h2w hown hX.1 hP 0 rfl rfl 10 (by decide) h9w (fun _ h9 => h9) rfl dX6_arrive_155 ?_
            refine lv_iload hx hb dX6_arrive_158 (lv_at hl 0 rfl) ?_
            refine lv_aload_n hx hb dX6_arrive_160 rfl (lv_at hl 4 rfl) ?_
            refine va_get (D := G) (ci := 5) (v := .int (Int32.ofInt (fi 11))) (C := RX6) (T := TX6) (N := 15) (ref := RX6) hx hb hts h2w hown hX.1 hP 0 rfl rfl 11 (by decide) h10w (fun _ h9 => h9) rfl dX6_arrive_161 ?_
            have rf11 := hR 11
            refine iv_iast hx hb hX.1 hP hD hS 7 0 rfl rfl (fun g' => show _ = (wS k ar (pl) (uF fi 6 ((fi 6 + 1))) (uF (uF (uF (uF fa 3 (g34)) 7 (g37)) 8 (g36)) 10 (g'))) from rfl) (by omega) (by omega) (by decide) dX6_arrive_164 (fun H locs hP hD hS => ?_)
            obtain ⟨hP, hD⟩ : va_P G vwCl (wS k ar (pl) (uF fi 6 ((fi 6 + 1))) (uF (uF (uF (uF fa 3 (g34)) 7 (g37)) 8 (g36)) 10 (uA (fa 10) (fi 6) (fi 11)))) H ∧ va_D A (wS k ar (pl) (uF fi 6 ((fi 6 + 1))) (uF (uF (uF (uF fa 3 (g34)) 7 (g37)) 8 (g36)) 10 (uA (fa 10) (fi 6) (fi 11)))) := ⟨hP, hD⟩
            obtain ⟨g38, eg38, rg38⟩ : ∃ z, z = uA (fa 10) (fi 6) (fi 11) ∧ ∀ t, inR (z t) := ⟨_, rfl, iU (hRa 10) (by omega)⟩
            rw [← eg38] at hP hD
            have bg38 : bnd g38 1500 0 1500 := bnd_up hB10 (by omega) (by omega) eg38
            refine lv_aload_n hx hb dX6_arrive_165 rfl (lv_at hl 4 rfl) ?_
            refine lv_dup hx hb dX6_arrive_166 rfl ?_
            refine va_get (D := G) (ci := 5) (v := .int (Int32.ofInt (fi 11))) (C := RX6) (T := TX6) (N := 15) (ref := RX6) hx hb hts h2w hown hX.1 hP 0 rfl rfl 11 (by decide) h10w (fun _ h9 => h9) rfl dX6_arrive_167 ?_
            have rf11 := hR 11
            refine lv_iconst (v := Int32.ofInt 1) hx hb dX6_arrive_170 (by decide +kernel) ?_
            refine iv_add (x := fi 11) (y := 1) hx hb dX6_arrive_171 ?_
            refine iv_put (ci := 5) (v := .int (Int32.ofInt ((fi 11 + 1)))) (ty := .int) (C := RX6) (T := TX6) (N := 15) (ref := RX6) hx hb hts h2w tyX6 tyX6_ok nmX6 hown hX.1 hP hD hS 0 rfl rfl 11 (by decide) h10w (fun _ h9 => h9) rfl (by decide +kernel) rfl rfl (Nat.le_of_ble_eq_true rfl) (show _ = (wS k ar (pl) (uF (uF fi 6 ((fi 6 + 1))) 11 ((fi 11 + 1))) (uF (uF (uF (uF fa 3 (g34)) 7 (g37)) 8 (g36)) 10 (g38))) from rfl) dX6_arrive_172 (fun H locs hP hD hS => ?_)
            refine lv_goto (tgt := 190) hx hb dX6_arrive_175 (by decide) ?_
            refine lv_aload_n hx hb dX6_arrive_190 rfl (lv_at hl 4 rfl) ?_
            refine va_get (D := G) (ci := 5) (v := .ref (ar 4)) (C := RX6) (T := TX6) (N := 15) (ref := RX6) hx hb hts h2w hown hX.1 hP 0 rfl rfl 4 (by decide) h3w (fun _ h9 => h9) rfl dX6_arrive_191 ?_
            refine lv_iload hx hb dX6_arrive_194 (lv_at hl 0 rfl) ?_
            refine lv_iload_n hx hb dX6_arrive_196 rfl (lv_at hl 3 rfl) ?_
            refine iv_iast hx hb hX.1 hP hD hS 2 0 rfl rfl (fun g' => show _ = (wS k ar (pl) (uF (uF fi 6 ((fi 6 + 1))) 11 ((fi 11 + 1))) (uF (uF (uF (uF (uF fa 3 (g34)) 4 (g')) 7 (g37)) 8 (g36)) 10 (g38))) from rfl) (by omega) (by omega) (by decide) dX6_arrive_197 (fun H locs hP hD hS => ?_)
            obtain ⟨hP, hD⟩ : va_P G vwCl (wS k ar (pl) (uF (uF fi 6 ((fi 6 + 1))) 11 ((fi 11 + 1))) (uF (uF (uF (uF (uF fa 3 (g34)) 4 (uA (fa 4) (fi 6) (s0_1))) 7 (g37)) 8 (g36)) 10 (g38))) H ∧ va_D A (wS k ar (pl) (uF (uF fi 6 ((fi 6 + 1))) 11 ((fi 11 + 1))) (uF (uF (uF (uF (uF fa 3 (g34)) 4 (uA (fa 4) (fi 6) (s0_1))) 7 (g37)) 8 (g36)) 10 (g38))) := ⟨hP, hD⟩
            obtain ⟨g39, eg39, rg39⟩ : ∃ z, z = uA (fa 4) (fi 6) (s0_1) ∧ ∀ t, inR (z t) := ⟨_, rfl, iU (hRa 4) (by omega)⟩
            rw [← eg39] at hP hD
            refine lv_aload_n hx hb dX6_arrive_198 rfl (lv_at hl 4 rfl) ?_
            refine va_get (D := G) (ci := 5) (v := .ref (ar 5)) (C := RX6) (T := TX6) (N := 15) (ref := RX6) hx hb hts h2w hown hX.1 hP 0 rfl rfl 5 (by decide) h4w (fun _ h9 => h9) rfl dX6_arrive_199 ?_
            refine lv_iload hx hb dX6_arrive_202 (lv_at hl 0 rfl) ?_
            refine lv_aload_n hx hb dX6_arrive_204 rfl (lv_at hl 4 rfl) ?_
            refine va_get (D := G) (ci := 5) (v := .int (Int32.ofInt (fi 12))) (C := RX6) (T := TX6) (N := 15) (ref := RX6) hx hb hts h2w hown hX.1 hP 0 rfl rfl 12 (by decide) h5w (fun _ h9 => h9) rfl dX6_arrive_205 ?_
            have rf12 := hR 12
            refine iv_iast hx hb hX.1 hP hD hS 3 0 rfl rfl (fun g' => show _ = (wS k ar (pl) (uF (uF fi 6 ((fi 6 + 1))) 11 ((fi 11 + 1))) (uF (uF (uF (uF (uF (uF fa 3 (g34)) 4 (g39)) 5 (g')) 7 (g37)) 8 (g36)) 10 (g38))) from rfl) (by omega) (by omega) (by decide) dX6_arrive_208 (fun H locs hP hD hS => ?_)
            obtain ⟨hP, hD⟩ : va_P G vwCl (wS k ar (pl) (uF (uF fi 6 ((fi 6 + 1))) 11 ((fi 11 + 1))) (uF (uF (uF (uF (uF (uF fa 3 (g34)) 4 (g39)) 5 (uA (fa 5) (fi 6) (fi 12))) 7 (g37)) 8 (g36)) 10 (g38))) H ∧ va_D A (wS k ar (pl) (uF (uF fi 6 ((fi 6 + 1))) 11 ((fi 11 + 1))) (uF (uF (uF (uF (uF (uF fa 3 (g34)) 4 (g39)) 5 (uA (fa 5) (fi 6) (fi 12))) 7 (g37)) 8 (g36)) 10 (g38))) := ⟨hP, hD⟩
            obtain ⟨g40, eg40, rg40⟩ : ∃ z, z = uA (fa 5) (fi 6) (fi 12) ∧ ∀ t, inR (z t) := ⟨_, rfl, iU (hRa 5) (by omega)⟩
            rw [← eg40] at hP hD
            have bg40 : bnd g40 1500 (-1) 1500 := bnd_up hB5 (by omega) (by omega) eg40
            refine lv_aload_n hx hb dX6_arrive_209 rfl (lv_at hl 4 rfl) ?_
            refine lv_iload hx hb dX6_arrive_210 (lv_at hl 0 rfl) ?_
            refine cr_v (va_runV (As := [.int (Int32.ofInt (fi 6))]) (rest := []) ⟨hx, hb, hml, hown, hts⟩ (mX6_raise l G k ar pl (uF (uF fi 6 ((fi 6 + 1))) 11 ((fi 11 + 1))) (uF (uF (uF (uF (uF (uF fa 3 (g34)) 4 (g39)) 5 (g40)) 7 (g37)) 8 (g36)) 10 (g38)) (fi 6) H.size (iF (iF hR (by omega)) (by omega)) (iG (iG (iG (iG (iG (iG hRa rg34) rg39) rg40) rg37) rg36) rg38) bg40 bg37 bg36 hB9 bg38 (hR 6) (show 0 ≤ (fi 6) ∧ (fi 6) < 1500 from by omega)) (cwV 1 hts (gz [.methodLink RX6 148 yX6_raise, .instanceMethod yX6_raise, .selects RX6 yX6_raise yX6_raise, .initialized RX6] (.code yX6_raise cX6_raise 5 none) [(34, 3), (34, 4), (34, 5), (1, 10), (34, 6)] rfl) rfl rfl rfl (by decide +kernel) ⟨Nat.le_of_ble_eq_true rfl, Nat.le_of_ble_eq_true rfl⟩) (cr_preV (EZ_ok k) hZ hS hX hP hD hA (ci := 5) (q0 := 0) rfl rfl) rfl rfl hl.1 rfl (lv_room (Nat.le_of_ble_eq_true rfl)) dX6_arrive_212 ⟨Nat.le_of_ble_eq_true rfl, Nat.le_of_ble_eq_true rfl⟩) hD hS hA (fun u H locs hp hP hD hS => ?_)
            obtain ⟨c41, c42⟩ := u
            obtain ⟨hP, hD⟩ : va_P G vwCl (wS k ar (pl) (uF (uF fi 6 ((fi 6 + 1))) 11 ((fi 11 + 1))) (uF (uF (uF (uF (uF (uF (uF fa 3 (g34)) 4 (g39)) 5 (g40)) 7 (g37)) 8 (g36)) 9 (c41)) 10 (c42))) H ∧ va_D A (wS k ar (pl) (uF (uF fi 6 ((fi 6 + 1))) 11 ((fi 11 + 1))) (uF (uF (uF (uF (uF (uF (uF fa 3 (g34)) 4 (g39)) 5 (g40)) 7 (g37)) 8 (g36)) 9 (c41)) 10 (c42))) := ⟨hP, hD⟩
            obtain ⟨rc41, bc41, rc42, bc42, hp42⟩ : (∀ t, inR (c41 t)) ∧ (bnd c41 1500 0 1500) ∧ (∀ t, inR (c42 t)) ∧ (bnd c42 1500 0 1500) ∧ (True) := hp
            exact W.vret hx hb hr (fun t ht hW => ⟨⟨(g34, g39, g40, g37, g36, c41, c42, fi 2, (fi 6 + 1), (fi 11 + 1)), rfl, (show (∀ t, inR (g34 t)) ∧ (∀ t, inR (g39 t)) ∧ (∀ t, inR (g40 t)) ∧ (bnd g40 1500 (-1) 1500) ∧ (∀ t, inR (g37 t)) ∧ (bnd g37 1024 (-1) 1500) ∧ (∀ t, inR (g36 t)) ∧ (bnd g36 1500 (-1) 1500) ∧ (∀ t, inR (c41 t)) ∧ (bnd c41 1500 0 1500) ∧ (∀ t, inR (c42 t)) ∧ (bnd c42 1500 0 1500) ∧ (inR (fi 2)) ∧ (inR (fi 6 + 1)) ∧ (inR (fi 11 + 1)) ∧ (0 ≤ (fi 11 + 1) ∧ (fi 11 + 1) ≤ (fi 6 + 1) ∧ (fi 6 + 1) ≤ 1500 ∧ ((fi 2) = 0 ∨ (fi 2) = 1) ∧ fi 6 ≤ (fi 6 + 1)) from ⟨rg34, rg39, rg40, bg40, rg37, bg37, rg36, bg36, rc41, bc41, rc42, bc42, (hR 2), (by omega), (by omega), (by omega)⟩), by rw [ht]; exact hP, hD⟩, hS.F ht⟩) hS.2.2 dX6_arrive_215
          · refine lv_aload_n hx hb dX6_arrive_101 rfl (lv_at hl 4 rfl) ?_
            refine lv_iconst (v := Int32.ofInt 1) hx hb dX6_arrive_102 (by decide +kernel) ?_
            refine iv_put (ci := 5) (v := .int (Int32.ofInt (1))) (ty := .boolean) (C := RX6) (T := TX6) (N := 15) (ref := RX6) hx hb hts h2w tyX6 tyX6_ok nmX6 hown hX.1 hP hD hS 0 rfl rfl 2 (by decide) h11w (fun _ h9 => h9) rfl (by decide +kernel) (nz_bool (by omega)) (fz_bool (by omega)) (Nat.le_of_ble_eq_true rfl) (show _ = (wS k ar (pl) (uF fi 2 (1)) fa) from rfl) dX6_arrive_103 (fun H locs hP hD hS => ?_)
            exact W.vret hx hb hr (fun t ht hW => ⟨⟨(fa 3, fa 4, fa 5, fa 7, fa 8, fa 9, fa 10, 1, fi 6, fi 11), rfl, (show (∀ t, inR ((fa 3) t)) ∧ (∀ t, inR ((fa 4) t)) ∧ (∀ t, inR ((fa 5) t)) ∧ (bnd (fa 5) 1500 (-1) 1500) ∧ (∀ t, inR ((fa 7) t)) ∧ (bnd (fa 7) 1024 (-1) 1500) ∧ (∀ t, inR ((fa 8) t)) ∧ (bnd (fa 8) 1500 (-1) 1500) ∧ (∀ t, inR ((fa 9) t)) ∧ (bnd (fa 9) 1500 0 1500) ∧ (∀ t, inR ((fa 10) t)) ∧ (bnd (fa 10) 1500 0 1500) ∧ (inR 1) ∧ (inR (fi 6)) ∧ (inR (fi 11)) ∧ (0 ≤ (fi 11) ∧ (fi 11) ≤ (fi 6) ∧ (fi 6) ≤ 1500 ∧ (1 = 0 ∨ 1 = 1) ∧ fi 6 ≤ (fi 6)) from ⟨(hRa 3), (hRa 4), (hRa 5), hB5, (hRa 7), hB7, (hRa 8), hB8, (hRa 9), hB9, (hRa 10), hB10, (by omega), (hR 6), (hR 11), (by omega)⟩), by rw [ht]; exact hP, hD⟩, hS.F ht⟩) hS.2.2 dX6_arrive_106
      · refine lv_aload_n hx hb dX6_arrive_59 rfl (lv_at hl 4 rfl) ?_
        refine va_get (D := G) (ci := 5) (v := .ref (ar 3)) (C := RX6) (T := TX6) (N := 15) (ref := RX6) hx hb hts h2w hown hX.1 hP 0 rfl rfl 3 (by decide) h7w (fun _ h9 => h9) rfl dX6_arrive_60 ?_
        refine lv_iload hx hb dX6_arrive_63 (lv_at hl 1 rfl) ?_
        refine iv_iald hx hb hX.1 hP 1 0 rfl rfl (by omega) (by omega) (by decide) dX6_arrive_65 ?_
        refine iv_top (fun z43 ez43 => ?_)
        have rz43 : inR z43 := ez43 ▸ (hRa 3) _
        have ez43 : z43 = (fa 3) x5_6 := ez43
        refine lv_iload_n hx hb dX6_arrive_66 rfl (lv_at hl 5 rfl) ?_
        refine iv_icmp_eq (tgt := 85) hx hb (by omega) (by omega) dX6_arrive_67 (by decide) (fun q44 => ?_) (fun q44 => ?_)
        · refine lv_iload hx hb dX6_arrive_85 (lv_at hl 1 rfl) ?_
          refine lv_iconst (v := Int32.ofInt (-1)) hx hb dX6_arrive_87 (by decide +kernel) ?_
          refine iv_icmp_ne (tgt := 178) hx hb (by omega) (by omega) dX6_arrive_88 (by decide) (fun q45 => ?_) (fun q45 => ?_)
          · refine lv_iload_n hx hb dX6_arrive_178 rfl (lv_at hl 3 rfl) ?_
            refine lv_aload_n hx hb dX6_arrive_179 rfl (lv_at hl 4 rfl) ?_
            refine va_get (D := G) (ci := 5) (v := .ref (ar 4)) (C := RX6) (T := TX6) (N := 15) (ref := RX6) hx hb hts h2w hown hX.1 hP 0 rfl rfl 4 (by decide) h3w (fun _ h9 => h9) rfl dX6_arrive_180 ?_
            refine lv_iload hx hb dX6_arrive_183 (lv_at hl 1 rfl) ?_
            refine iv_iald hx hb hX.1 hP 2 0 rfl rfl (by omega) (by omega) (by decide) dX6_arrive_185 ?_
            refine iv_top (fun z46 ez46 => ?_)
            have rz46 : inR z46 := ez46 ▸ (hRa 4) _
            have ez46 : z46 = (fa 4) x5_6 := ez46
            refine iv_icmp_lt (tgt := 190) hx hb (by omega) (by omega) dX6_arrive_186 (by decide) (fun q47 => ?_) (fun q47 => ?_)
            · refine lv_aload_n hx hb dX6_arrive_190 rfl (lv_at hl 4 rfl) ?_
              refine va_get (D := G) (ci := 5) (v := .ref (ar 4)) (C := RX6) (T := TX6) (N := 15) (ref := RX6) hx hb hts h2w hown hX.1 hP 0 rfl rfl 4 (by decide) h3w (fun _ h9 => h9) rfl dX6_arrive_191 ?_
              refine lv_iload hx hb dX6_arrive_194 (lv_at hl 1 rfl) ?_
              refine lv_iload_n hx hb dX6_arrive_196 rfl (lv_at hl 3 rfl) ?_
              refine iv_iast hx hb hX.1 hP hD hS 2 0 rfl rfl (fun g' => show _ = (wS k ar (pl) fi (uF fa 4 (g'))) from rfl) (by omega) (by omega) (by decide) dX6_arrive_197 (fun H locs hP hD hS => ?_)
              obtain ⟨g48, eg48, rg48⟩ : ∃ z, z = uA (fa 4) (x5_6) (s0_1) ∧ ∀ t, inR (z t) := ⟨_, rfl, iU (hRa 4) (by omega)⟩
              rw [← eg48] at hP hD
              refine lv_aload_n hx hb dX6_arrive_198 rfl (lv_at hl 4 rfl) ?_
              refine va_get (D := G) (ci := 5) (v := .ref (ar 5)) (C := RX6) (T := TX6) (N := 15) (ref := RX6) hx hb hts h2w hown hX.1 hP 0 rfl rfl 5 (by decide) h4w (fun _ h9 => h9) rfl dX6_arrive_199 ?_
              refine lv_iload hx hb dX6_arrive_202 (lv_at hl 1 rfl) ?_
              refine lv_aload_n hx hb dX6_arrive_204 rfl (lv_at hl 4 rfl) ?_
              refine va_get (D := G) (ci := 5) (v := .int (Int32.ofInt (fi 12))) (C := RX6) (T := TX6) (N := 15) (ref := RX6) hx hb hts h2w hown hX.1 hP 0 rfl rfl 12 (by decide) h5w (fun _ h9 => h9) rfl dX6_arrive_205 ?_
              have rf12 := hR 12
              refine iv_iast hx hb hX.1 hP hD hS 3 0 rfl rfl (fun g' => show _ = (wS k ar (pl) fi (uF (uF fa 4 (g48)) 5 (g'))) from rfl) (by omega) (by omega) (by decide) dX6_arrive_208 (fun H locs hP hD hS => ?_)
              obtain ⟨hP, hD⟩ : va_P G vwCl (wS k ar (pl) fi (uF (uF fa 4 (g48)) 5 (uA (fa 5) (x5_6) (fi 12)))) H ∧ va_D A (wS k ar (pl) fi (uF (uF fa 4 (g48)) 5 (uA (fa 5) (x5_6) (fi 12)))) := ⟨hP, hD⟩
              obtain ⟨g49, eg49, rg49⟩ : ∃ z, z = uA (fa 5) (x5_6) (fi 12) ∧ ∀ t, inR (z t) := ⟨_, rfl, iU (hRa 5) (by omega)⟩
              rw [← eg49] at hP hD
              have bg49 : bnd g49 1500 (-1) 1500 := bnd_up hB5 (by omega) (by omega) eg49
              refine lv_aload_n hx hb dX6_arrive_209 rfl (lv_at hl 4 rfl) ?_
              refine lv_iload hx hb dX6_arrive_210 (lv_at hl 1 rfl) ?_
              refine cr_v (va_runV (As := [.int (Int32.ofInt (x5_6))]) (rest := []) ⟨hx, hb, hml, hown, hts⟩ (mX6_raise l G k ar pl fi (uF (uF fa 4 (g48)) 5 (g49)) x5_6 H.size hR (iG (iG hRa rg48) rg49) bg49 hB7 hB8 hB9 hB10 (by omega) (show 0 ≤ x5_6 ∧ x5_6 < 1500 from by omega)) (cwV 1 hts (gz [.methodLink RX6 148 yX6_raise, .instanceMethod yX6_raise, .selects RX6 yX6_raise yX6_raise, .initialized RX6] (.code yX6_raise cX6_raise 5 none) [(34, 3), (34, 4), (34, 5), (1, 10), (34, 6)] rfl) rfl rfl rfl (by decide +kernel) ⟨Nat.le_of_ble_eq_true rfl, Nat.le_of_ble_eq_true rfl⟩) (cr_preV (EZ_ok k) hZ hS hX hP hD hA (ci := 5) (q0 := 0) rfl rfl) rfl rfl hl.1 rfl (lv_room (Nat.le_of_ble_eq_true rfl)) dX6_arrive_212 ⟨Nat.le_of_ble_eq_true rfl, Nat.le_of_ble_eq_true rfl⟩) hD hS hA (fun u H locs hp hP hD hS => ?_)
              obtain ⟨c50, c51⟩ := u
              obtain ⟨hP, hD⟩ : va_P G vwCl (wS k ar (pl) fi (uF (uF (uF (uF fa 4 (g48)) 5 (g49)) 9 (c50)) 10 (c51))) H ∧ va_D A (wS k ar (pl) fi (uF (uF (uF (uF fa 4 (g48)) 5 (g49)) 9 (c50)) 10 (c51))) := ⟨hP, hD⟩
              obtain ⟨rc50, bc50, rc51, bc51, hp51⟩ : (∀ t, inR (c50 t)) ∧ (bnd c50 1500 0 1500) ∧ (∀ t, inR (c51 t)) ∧ (bnd c51 1500 0 1500) ∧ (True) := hp
              exact W.vret hx hb hr (fun t ht hW => ⟨⟨(fa 3, g48, g49, fa 7, fa 8, c50, c51, fi 2, fi 6, fi 11), rfl, (show (∀ t, inR ((fa 3) t)) ∧ (∀ t, inR (g48 t)) ∧ (∀ t, inR (g49 t)) ∧ (bnd g49 1500 (-1) 1500) ∧ (∀ t, inR ((fa 7) t)) ∧ (bnd (fa 7) 1024 (-1) 1500) ∧ (∀ t, inR ((fa 8) t)) ∧ (bnd (fa 8) 1500 (-1) 1500) ∧ (∀ t, inR (c50 t)) ∧ (bnd c50 1500 0 1500) ∧ (∀ t, inR (c51 t)) ∧ (bnd c51 1500 0 1500) ∧ (inR (fi 2)) ∧ (inR (fi 6)) ∧ (inR (fi 11)) ∧ (0 ≤ (fi 11) ∧ (fi 11) ≤ (fi 6) ∧ (fi 6) ≤ 1500 ∧ ((fi 2) = 0 ∨ (fi 2) = 1) ∧ fi 6 ≤ (fi 6)) from ⟨(hRa 3), rg48, rg49, bg49, (hRa 7), hB7, (hRa 8), hB8, rc50, bc50, rc51, bc51, (hR 2), (hR 6), (hR 11), (by omega)⟩), by rw [ht]; exact hP, hD⟩, hS.F ht⟩) hS.2.2 dX6_arrive_215
            · exact W.vret hx hb hr (fun t ht hW => ⟨⟨(fa 3, fa 4, fa 5, fa 7, fa 8, fa 9, fa 10, fi 2, fi 6, fi 11), rfl, (show (∀ t, inR ((fa 3) t)) ∧ (∀ t, inR ((fa 4) t)) ∧ (∀ t, inR ((fa 5) t)) ∧ (bnd (fa 5) 1500 (-1) 1500) ∧ (∀ t, inR ((fa 7) t)) ∧ (bnd (fa 7) 1024 (-1) 1500) ∧ (∀ t, inR ((fa 8) t)) ∧ (bnd (fa 8) 1500 (-1) 1500) ∧ (∀ t, inR ((fa 9) t)) ∧ (bnd (fa 9) 1500 0 1500) ∧ (∀ t, inR ((fa 10) t)) ∧ (bnd (fa 10) 1500 0 1500) ∧ (inR (fi 2)) ∧ (inR (fi 6)) ∧ (inR (fi 11)) ∧ (0 ≤ (fi 11) ∧ (fi 11) ≤ (fi 6) ∧ (fi 6) ≤ 1500 ∧ ((fi 2) = 0 ∨ (fi 2) = 1) ∧ fi 6 ≤ (fi 6)) from ⟨(hRa 3), (hRa 4), (hRa 5), hB5, (hRa 7), hB7, (hRa 8), hB8, (hRa 9), hB9, (hRa 10), hB10, (hR 2), (hR 6), (hR 11), (by omega)⟩), by rw [ht]; exact hP, hD⟩, hS.F ht⟩) hS.2.2 dX6_arrive_189
          · refine lv_aload_n hx hb dX6_arrive_91 rfl (lv_at hl 4 rfl) ?_
            refine va_get (D := G) (ci := 5) (v := .int (Int32.ofInt (fi 6))) (C := RX6) (T := TX6) (N := 15) (ref := RX6) hx hb hts h2w hown hX.1 hP 0 rfl rfl 6 (by decide) h6w (fun _ h9 => h9) rfl dX6_arrive_92 ?_
            have rf6 := hR 6
            refine lv_sipush (v := Int32.ofInt 1500) hx hb dX6_arrive_95 (by decide +kernel) ?_
            refine iv_icmp_lt (tgt := 107) hx hb (by omega) (by omega) dX6_arrive_98 (by decide) (fun q52 => ?_) (fun q52 => ?_)
            · refine lv_aload_n hx hb dX6_arrive_107 rfl (lv_at hl 4 rfl) ?_
              refine va_get (D := G) (ci := 5) (v := .int (Int32.ofInt (fi 6))) (C := RX6) (T := TX6) (N := 15) (ref := RX6) hx hb hts h2w hown hX.1 hP 0 rfl rfl 6 (by decide) h6w (fun _ h9 => h9) rfl dX6_arrive_108 ?_
              have rf6 := hR 6
              refine lv_istore (lv' := [(5, .int (Int32.ofInt (fi 6))), (6, .int (Int32.ofInt (x6_5))), (4, .int (Int32.ofInt (z3))), (3, .int (Int32.ofInt (s0_1))), (0, .ref (ar 99)), (1, .int (Int32.ofInt (s0))), (2, .int (Int32.ofInt (m0)))]) hx hb dX6_arrive_111 hl (by decide) rfl (fun ls hl => ?_)
              refine lv_aload_n hx hb dX6_arrive_113 rfl (lv_at hl 4 rfl) ?_
              refine lv_dup hx hb dX6_arrive_114 rfl ?_
              refine va_get (D := G) (ci := 5) (v := .int (Int32.ofInt (fi 6))) (C := RX6) (T := TX6) (N := 15) (ref := RX6) hx hb hts h2w hown hX.1 hP 0 rfl rfl 6 (by decide) h6w (fun _ h9 => h9) rfl dX6_arrive_115 ?_
              have rf6 := hR 6
              refine lv_iconst (v := Int32.ofInt 1) hx hb dX6_arrive_118 (by decide +kernel) ?_
              refine iv_add (x := fi 6) (y := 1) hx hb dX6_arrive_119 ?_
              refine iv_put (ci := 5) (v := .int (Int32.ofInt ((fi 6 + 1)))) (ty := .int) (C := RX6) (T := TX6) (N := 15) (ref := RX6) hx hb hts h2w tyX6 tyX6_ok nmX6 hown hX.1 hP hD hS 0 rfl rfl 6 (by decide) h6w (fun _ h9 => h9) rfl (by decide +kernel) rfl rfl (Nat.le_of_ble_eq_true rfl) (show _ = (wS k ar (pl) (uF fi 6 ((fi 6 + 1))) fa) from rfl) dX6_arrive_120 (fun H locs hP hD hS => ?_)
              refine lv_aload_n hx hb dX6_arrive_123 rfl (lv_at hl 4 rfl) ?_
              refine va_get (D := G) (ci := 5) (v := .ref (ar 3)) (C := RX6) (T := TX6) (N := 15) (ref := RX6) hx hb hts h2w hown hX.1 hP 0 rfl rfl 3 (by decide) h7w (fun _ h9 => h9) rfl dX6_arrive_124 ?_
              refine lv_iload hx hb dX6_arrive_127 (lv_at hl 0 rfl) ?_
              refine lv_iload_n hx hb dX6_arrive_129 rfl (lv_at hl 5 rfl) ?_
              refine iv_iast hx hb hX.1 hP hD hS 1 0 rfl rfl (fun g' => show _ = (wS k ar (pl) (uF fi 6 ((fi 6 + 1))) (uF fa 3 (g'))) from rfl) (by omega) (by omega) (by decide) dX6_arrive_130 (fun H locs hP hD hS => ?_)
              obtain ⟨g53, eg53, rg53⟩ : ∃ z, z = uA (fa 3) (fi 6) (s0) ∧ ∀ t, inR (z t) := ⟨_, rfl, iU (hRa 3) (by omega)⟩
              rw [← eg53] at hP hD
              refine lv_aload_n hx hb dX6_arrive_131 rfl (lv_at hl 4 rfl) ?_
              refine va_get (D := G) (ci := 5) (v := .ref (ar 8)) (C := RX6) (T := TX6) (N := 15) (ref := RX6) hx hb hts h2w hown hX.1 hP 0 rfl rfl 8 (by decide) h8w (fun _ h9 => h9) rfl dX6_arrive_132 ?_
              refine lv_iload hx hb dX6_arrive_135 (lv_at hl 0 rfl) ?_
              refine lv_aload_n hx hb dX6_arrive_137 rfl (lv_at hl 4 rfl) ?_
              refine va_get (D := G) (ci := 5) (v := .ref (ar 7)) (C := RX6) (T := TX6) (N := 15) (ref := RX6) hx hb hts h2w hown hX.1 hP 0 rfl rfl 7 (by decide) h1w (fun _ h9 => h9) rfl dX6_arrive_138 ?_
              refine lv_iload hx hb dX6_arrive_141 (lv_at hl 2 rfl) ?_
              refine iv_iald hx hb hX.1 hP 4 0 rfl rfl (by omega) (by omega) (by decide) dX6_arrive_143 ?_
              refine iv_top (fun z54 ez54 => ?_)
              have rz54 : inR z54 := ez54 ▸ (hRa 7) _
              have ez54 : z54 = (fa 7) z3 := ez54
              have bz54 : (-1) ≤ z54 ∧ z54 < 1500 := by rw [ez54]; exact bnd_at hB7 (by omega) (by omega)
              refine iv_iast hx hb hX.1 hP hD hS 5 0 rfl rfl (fun g' => show _ = (wS k ar (pl) (uF fi 6 ((fi 6 + 1))) (uF (uF fa 3 (g53)) 8 (g'))) from rfl) (by omega) (by omega) (by decide) dX6_arrive_144 (fun H locs hP hD hS => ?_)
              obtain ⟨hP, hD⟩ : va_P G vwCl (wS k ar (pl) (uF fi 6 ((fi 6 + 1))) (uF (uF fa 3 (g53)) 8 (uA (fa 8) (fi 6) (z54)))) H ∧ va_D A (wS k ar (pl) (uF fi 6 ((fi 6 + 1))) (uF (uF fa 3 (g53)) 8 (uA (fa 8) (fi 6) (z54)))) := ⟨hP, hD⟩
              obtain ⟨g55, eg55, rg55⟩ : ∃ z, z = uA (fa 8) (fi 6) (z54) ∧ ∀ t, inR (z t) := ⟨_, rfl, iU (hRa 8) (by omega)⟩
              rw [← eg55] at hP hD
              have bg55 : bnd g55 1500 (-1) 1500 := bnd_up hB8 (by omega) (by omega) eg55
              refine lv_aload_n hx hb dX6_arrive_145 rfl (lv_at hl 4 rfl) ?_
              refine va_get (D := G) (ci := 5) (v := .ref (ar 7)) (C := RX6) (T := TX6) (N := 15) (ref := RX6) hx hb hts h2w hown hX.1 hP 0 rfl rfl 7 (by decide) h1w (fun _ h9 => h9) rfl dX6_arrive_146 ?_
              refine lv_iload hx hb dX6_arrive_149 (lv_at hl 2 rfl) ?_
              refine lv_iload hx hb dX6_arrive_151 (lv_at hl 0 rfl) ?_
              refine iv_iast hx hb hX.1 hP hD hS 4 0 rfl rfl (fun g' => show _ = (wS k ar (pl) (uF fi 6 ((fi 6 + 1))) (uF (uF (uF fa 3 (g53)) 7 (g')) 8 (g55))) from rfl) (by omega) (by omega) (by decide) dX6_arrive_153 (fun H locs hP hD hS => ?_)
              obtain ⟨hP, hD⟩ : va_P G vwCl (wS k ar (pl) (uF fi 6 ((fi 6 + 1))) (uF (uF (uF fa 3 (g53)) 7 (uA (fa 7) (z3) (fi 6))) 8 (g55))) H ∧ va_D A (wS k ar (pl) (uF fi 6 ((fi 6 + 1))) (uF (uF (uF fa 3 (g53)) 7 (uA (fa 7) (z3) (fi 6))) 8 (g55))) := ⟨hP, hD⟩
              obtain ⟨g56, eg56, rg56⟩ : ∃ z, z = uA (fa 7) (z3) (fi 6) ∧ ∀ t, inR (z t) := ⟨_, rfl, iU (hRa 7) (by omega)⟩
              rw [← eg56] at hP hD
              have bg56 : bnd g56 1024 (-1) 1500 := bnd_up hB7 (by omega) (by omega) eg56
              refine lv_aload_n hx hb dX6_arrive_154 rfl (lv_at hl 4 rfl) ?_
              refine va_get (D := G) (ci := 5) (v := .ref (ar 10)) (C := RX6) (T := TX6) (N := 15) (ref := RX6) hx hb hts h2w hown hX.1 hP 0 rfl rfl 10 (by decide) h9w (fun _ h9 => h9) rfl dX6_arrive_155 ?_
              refine lv_iload hx hb dX6_arrive_158 (lv_at hl 0 rfl) ?_
              refine lv_aload_n hx hb dX6_arrive_160 rfl (lv_at hl 4 rfl) ?_
              refine va_get (D := G) (ci := 5) (v := .int (Int32.ofInt (fi 11))) (C := RX6) (T := TX6) (N := 15) (ref := RX6) hx hb hts h2w hown hX.1 hP 0 rfl rfl 11 (by decide) h10w (fun _ h9 => h9) rfl dX6_arrive_161 ?_
              have rf11 := hR 11
              refine iv_iast hx hb hX.1 hP hD hS 7 0 rfl rfl (fun g' => show _ = (wS k ar (pl) (uF fi 6 ((fi 6 + 1))) (uF (uF (uF (uF fa 3 (g53)) 7 (g56)) 8 (g55)) 10 (g'))) from rfl) (by omega) (by omega) (by decide) dX6_arrive_164 (fun H locs hP hD hS => ?_)
              obtain ⟨hP, hD⟩ : va_P G vwCl (wS k ar (pl) (uF fi 6 ((fi 6 + 1))) (uF (uF (uF (uF fa 3 (g53)) 7 (g56)) 8 (g55)) 10 (uA (fa 10) (fi 6) (fi 11)))) H ∧ va_D A (wS k ar (pl) (uF fi 6 ((fi 6 + 1))) (uF (uF (uF (uF fa 3 (g53)) 7 (g56)) 8 (g55)) 10 (uA (fa 10) (fi 6) (fi 11)))) := ⟨hP, hD⟩
              obtain ⟨g57, eg57, rg57⟩ : ∃ z, z = uA (fa 10) (fi 6) (fi 11) ∧ ∀ t, inR (z t) := ⟨_, rfl, iU (hRa 10) (by omega)⟩
              rw [← eg57] at hP hD
              have bg57 : bnd g57 1500 0 1500 := bnd_up hB10 (by omega) (by omega) eg57
              refine lv_aload_n hx hb dX6_arrive_165 rfl (lv_at hl 4 rfl) ?_
              refine lv_dup hx hb dX6_arrive_166 rfl ?_
              refine va_get (D := G) (ci := 5) (v := .int (Int32.ofInt (fi 11))) (C := RX6) (T := TX6) (N := 15) (ref := RX6) hx hb hts h2w hown hX.1 hP 0 rfl rfl 11 (by decide) h10w (fun _ h9 => h9) rfl dX6_arrive_167 ?_
              have rf11 := hR 11
              refine lv_iconst (v := Int32.ofInt 1) hx hb dX6_arrive_170 (by decide +kernel) ?_
              refine iv_add (x := fi 11) (y := 1) hx hb dX6_arrive_171 ?_
              refine iv_put (ci := 5) (v := .int (Int32.ofInt ((fi 11 + 1)))) (ty := .int) (C := RX6) (T := TX6) (N := 15) (ref := RX6) hx hb hts h2w tyX6 tyX6_ok nmX6 hown hX.1 hP hD hS 0 rfl rfl 11 (by decide) h10w (fun _ h9 => h9) rfl (by decide +kernel) rfl rfl (Nat.le_of_ble_eq_true rfl) (show _ = (wS k ar (pl) (uF (uF fi 6 ((fi 6 + 1))) 11 ((fi 11 + 1))) (uF (uF (uF (uF fa 3 (g53)) 7 (g56)) 8 (g55)) 10 (g57))) from rfl) dX6_arrive_172 (fun H locs hP hD hS => ?_)
              refine lv_goto (tgt := 190) hx hb dX6_arrive_175 (by decide) ?_
              refine lv_aload_n hx hb dX6_arrive_190 rfl (lv_at hl 4 rfl) ?_
              refine va_get (D := G) (ci := 5) (v := .ref (ar 4)) (C := RX6) (T := TX6) (N := 15) (ref := RX6) hx hb hts h2w hown hX.1 hP 0 rfl rfl 4 (by decide) h3w (fun _ h9 => h9) rfl dX6_arrive_191 ?_
              refine lv_iload hx hb dX6_arrive_194 (lv_at hl 0 rfl) ?_
              refine lv_iload_n hx hb dX6_arrive_196 rfl (lv_at hl 3 rfl) ?_
              refine iv_iast hx hb hX.1 hP hD hS 2 0 rfl rfl (fun g' => show _ = (wS k ar (pl) (uF (uF fi 6 ((fi 6 + 1))) 11 ((fi 11 + 1))) (uF (uF (uF (uF (uF fa 3 (g53)) 4 (g')) 7 (g56)) 8 (g55)) 10 (g57))) from rfl) (by omega) (by omega) (by decide) dX6_arrive_197 (fun H locs hP hD hS => ?_)
              obtain ⟨hP, hD⟩ : va_P G vwCl (wS k ar (pl) (uF (uF fi 6 ((fi 6 + 1))) 11 ((fi 11 + 1))) (uF (uF (uF (uF (uF fa 3 (g53)) 4 (uA (fa 4) (fi 6) (s0_1))) 7 (g56)) 8 (g55)) 10 (g57))) H ∧ va_D A (wS k ar (pl) (uF (uF fi 6 ((fi 6 + 1))) 11 ((fi 11 + 1))) (uF (uF (uF (uF (uF fa 3 (g53)) 4 (uA (fa 4) (fi 6) (s0_1))) 7 (g56)) 8 (g55)) 10 (g57))) := ⟨hP, hD⟩
              obtain ⟨g58, eg58, rg58⟩ : ∃ z, z = uA (fa 4) (fi 6) (s0_1) ∧ ∀ t, inR (z t) := ⟨_, rfl, iU (hRa 4) (by omega)⟩
              rw [← eg58] at hP hD
              refine lv_aload_n hx hb dX6_arrive_198 rfl (lv_at hl 4 rfl) ?_
              refine va_get (D := G) (ci := 5) (v := .ref (ar 5)) (C := RX6) (T := TX6) (N := 15) (ref := RX6) hx hb hts h2w hown hX.1 hP 0 rfl rfl 5 (by decide) h4w (fun _ h9 => h9) rfl dX6_arrive_199 ?_
              refine lv_iload hx hb dX6_arrive_202 (lv_at hl 0 rfl) ?_
              refine lv_aload_n hx hb dX6_arrive_204 rfl (lv_at hl 4 rfl) ?_
              refine va_get (D := G) (ci := 5) (v := .int (Int32.ofInt (fi 12))) (C := RX6) (T := TX6) (N := 15) (ref := RX6) hx hb hts h2w hown hX.1 hP 0 rfl rfl 12 (by decide) h5w (fun _ h9 => h9) rfl dX6_arrive_205 ?_
              have rf12 := hR 12
              refine iv_iast hx hb hX.1 hP hD hS 3 0 rfl rfl (fun g' => show _ = (wS k ar (pl) (uF (uF fi 6 ((fi 6 + 1))) 11 ((fi 11 + 1))) (uF (uF (uF (uF (uF (uF fa 3 (g53)) 4 (g58)) 5 (g')) 7 (g56)) 8 (g55)) 10 (g57))) from rfl) (by omega) (by omega) (by decide) dX6_arrive_208 (fun H locs hP hD hS => ?_)
              obtain ⟨hP, hD⟩ : va_P G vwCl (wS k ar (pl) (uF (uF fi 6 ((fi 6 + 1))) 11 ((fi 11 + 1))) (uF (uF (uF (uF (uF (uF fa 3 (g53)) 4 (g58)) 5 (uA (fa 5) (fi 6) (fi 12))) 7 (g56)) 8 (g55)) 10 (g57))) H ∧ va_D A (wS k ar (pl) (uF (uF fi 6 ((fi 6 + 1))) 11 ((fi 11 + 1))) (uF (uF (uF (uF (uF (uF fa 3 (g53)) 4 (g58)) 5 (uA (fa 5) (fi 6) (fi 12))) 7 (g56)) 8 (g55)) 10 (g57))) := ⟨hP, hD⟩
              obtain ⟨g59, eg59, rg59⟩ : ∃ z, z = uA (fa 5) (fi 6) (fi 12) ∧ ∀ t, inR (z t) := ⟨_, rfl, iU (hRa 5) (by omega)⟩
              rw [← eg59] at hP hD
              have bg59 : bnd g59 1500 (-1) 1500 := bnd_up hB5 (by omega) (by omega) eg59
              refine lv_aload_n hx hb dX6_arrive_209 rfl (lv_at hl 4 rfl) ?_
              refine lv_iload hx hb dX6_arrive_210 (lv_at hl 0 rfl) ?_
              refine cr_v (va_runV (As := [.int (Int32.ofInt (fi 6))]) (rest := []) ⟨hx, hb, hml, hown, hts⟩ (mX6_raise l G k ar pl (uF (uF fi 6 ((fi 6 + 1))) 11 ((fi 11 + 1))) (uF (uF (uF (uF (uF (uF fa 3 (g53)) 4 (g58)) 5 (g59)) 7 (g56)) 8 (g55)) 10 (g57)) (fi 6) H.size (iF (iF hR (by omega)) (by omega)) (iG (iG (iG (iG (iG (iG hRa rg53) rg58) rg59) rg56) rg55) rg57) bg59 bg56 bg55 hB9 bg57 (hR 6) (show 0 ≤ (fi 6) ∧ (fi 6) < 1500 from by omega)) (cwV 1 hts (gz [.methodLink RX6 148 yX6_raise, .instanceMethod yX6_raise, .selects RX6 yX6_raise yX6_raise, .initialized RX6] (.code yX6_raise cX6_raise 5 none) [(34, 3), (34, 4), (34, 5), (1, 10), (34, 6)] rfl) rfl rfl rfl (by decide +kernel) ⟨Nat.le_of_ble_eq_true rfl, Nat.le_of_ble_eq_true rfl⟩) (cr_preV (EZ_ok k) hZ hS hX hP hD hA (ci := 5) (q0 := 0) rfl rfl) rfl rfl hl.1 rfl (lv_room (Nat.le_of_ble_eq_true rfl)) dX6_arrive_212 ⟨Nat.le_of_ble_eq_true rfl, Nat.le_of_ble_eq_true rfl⟩) hD hS hA (fun u H locs hp hP hD hS => ?_)
              obtain ⟨c60, c61⟩ := u
              obtain ⟨hP, hD⟩ : va_P G vwCl (wS k ar (pl) (uF (uF fi 6 ((fi 6 + 1))) 11 ((fi 11 + 1))) (uF (uF (uF (uF (uF (uF (uF fa 3 (g53)) 4 (g58)) 5 (g59)) 7 (g56)) 8 (g55)) 9 (c60)) 10 (c61))) H ∧ va_D A (wS k ar (pl) (uF (uF fi 6 ((fi 6 + 1))) 11 ((fi 11 + 1))) (uF (uF (uF (uF (uF (uF (uF fa 3 (g53)) 4 (g58)) 5 (g59)) 7 (g56)) 8 (g55)) 9 (c60)) 10 (c61))) := ⟨hP, hD⟩
              obtain ⟨rc60, bc60, rc61, bc61, hp61⟩ : (∀ t, inR (c60 t)) ∧ (bnd c60 1500 0 1500) ∧ (∀ t, inR (c61 t)) ∧ (bnd c61 1500 0 1500) ∧ (True) := hp
              exact W.vret hx hb hr (fun t ht hW => ⟨⟨(g53, g58, g59, g56, g55, c60, c61, fi 2, (fi 6 + 1), (fi 11 + 1)), rfl, (show (∀ t, inR (g53 t)) ∧ (∀ t, inR (g58 t)) ∧ (∀ t, inR (g59 t)) ∧ (bnd g59 1500 (-1) 1500) ∧ (∀ t, inR (g56 t)) ∧ (bnd g56 1024 (-1) 1500) ∧ (∀ t, inR (g55 t)) ∧ (bnd g55 1500 (-1) 1500) ∧ (∀ t, inR (c60 t)) ∧ (bnd c60 1500 0 1500) ∧ (∀ t, inR (c61 t)) ∧ (bnd c61 1500 0 1500) ∧ (inR (fi 2)) ∧ (inR (fi 6 + 1)) ∧ (inR (fi 11 + 1)) ∧ (0 ≤ (fi 11 + 1) ∧ (fi 11 + 1) ≤ (fi 6 + 1) ∧ (fi 6 + 1) ≤ 1500 ∧ ((fi 2) = 0 ∨ (fi 2) = 1) ∧ fi 6 ≤ (fi 6 + 1)) from ⟨rg53, rg58, rg59, bg59, rg56, bg56, rg55, bg55, rc60, bc60, rc61, bc61, (hR 2), (by omega), (by omega), (by omega)⟩), by rw [ht]; exact hP, hD⟩, hS.F ht⟩) hS.2.2 dX6_arrive_215
            · refine lv_aload_n hx hb dX6_arrive_101 rfl (lv_at hl 4 rfl) ?_
              refine lv_iconst (v := Int32.ofInt 1) hx hb dX6_arrive_102 (by decide +kernel) ?_
              refine iv_put (ci := 5) (v := .int (Int32.ofInt (1))) (ty := .boolean) (C := RX6) (T := TX6) (N := 15) (ref := RX6) hx hb hts h2w tyX6 tyX6_ok nmX6 hown hX.1 hP hD hS 0 rfl rfl 2 (by decide) h11w (fun _ h9 => h9) rfl (by decide +kernel) (nz_bool (by omega)) (fz_bool (by omega)) (Nat.le_of_ble_eq_true rfl) (show _ = (wS k ar (pl) (uF fi 2 (1)) fa) from rfl) dX6_arrive_103 (fun H locs hP hD hS => ?_)
              exact W.vret hx hb hr (fun t ht hW => ⟨⟨(fa 3, fa 4, fa 5, fa 7, fa 8, fa 9, fa 10, 1, fi 6, fi 11), rfl, (show (∀ t, inR ((fa 3) t)) ∧ (∀ t, inR ((fa 4) t)) ∧ (∀ t, inR ((fa 5) t)) ∧ (bnd (fa 5) 1500 (-1) 1500) ∧ (∀ t, inR ((fa 7) t)) ∧ (bnd (fa 7) 1024 (-1) 1500) ∧ (∀ t, inR ((fa 8) t)) ∧ (bnd (fa 8) 1500 (-1) 1500) ∧ (∀ t, inR ((fa 9) t)) ∧ (bnd (fa 9) 1500 0 1500) ∧ (∀ t, inR ((fa 10) t)) ∧ (bnd (fa 10) 1500 0 1500) ∧ (inR 1) ∧ (inR (fi 6)) ∧ (inR (fi 11)) ∧ (0 ≤ (fi 11) ∧ (fi 11) ≤ (fi 6) ∧ (fi 6) ≤ 1500 ∧ (1 = 0 ∨ 1 = 1) ∧ fi 6 ≤ (fi 6)) from ⟨(hRa 3), (hRa 4), (hRa 5), hB5, (hRa 7), hB7, (hRa 8), hB8, (hRa 9), hB9, (hRa 10), hB10, (by omega), (hR 6), (hR 11), (by omega)⟩), by rw [ht]; exact hP, hD⟩, hS.F ht⟩) hS.2.2 dX6_arrive_106
        · refine lv_aload_n hx hb dX6_arrive_70 rfl (lv_at hl 4 rfl) ?_
          refine va_get (D := G) (ci := 5) (v := .ref (ar 8)) (C := RX6) (T := TX6) (N := 15) (ref := RX6) hx hb hts h2w hown hX.1 hP 0 rfl rfl 8 (by decide) h8w (fun _ h9 => h9) rfl dX6_arrive_71 ?_
          refine lv_iload hx hb dX6_arrive_74 (lv_at hl 1 rfl) ?_
          refine iv_iald hx hb hX.1 hP 5 0 rfl rfl (by omega) (by omega) (by decide) dX6_arrive_76 ?_
          refine iv_top (fun z62 ez62 => ?_)
          have rz62 : inR z62 := ez62 ▸ (hRa 8) _
          have ez62 : z62 = (fa 8) x5_6 := ez62
          have bz62 : (-1) ≤ z62 ∧ z62 < 1500 := by rw [ez62]; exact bnd_at hB8 (by omega) (by omega)
          refine lv_istore (lv' := [(5, .int (Int32.ofInt (z62))), (6, .int (Int32.ofInt (x6_5))), (4, .int (Int32.ofInt (z3))), (3, .int (Int32.ofInt (s0_1))), (0, .ref (ar 99)), (1, .int (Int32.ofInt (s0))), (2, .int (Int32.ofInt (m0)))]) hx hb dX6_arrive_77 hl (by decide) rfl (fun ls hl => ?_)
          refine lv_iinc (v := Int32.ofInt (x6_5 + 1)) (lv' := [(6, .int (Int32.ofInt ((x6_5 + 1)))), (5, .int (Int32.ofInt (z62))), (4, .int (Int32.ofInt (z3))), (3, .int (Int32.ofInt (s0_1))), (0, .ref (ar 99)), (1, .int (Int32.ofInt (s0))), (2, .int (Int32.ofInt (m0)))]) hx hb dX6_arrive_79 hl (k := 1) rfl (Int32.ofInt_add _ _).symm (by decide) rfl (fun ls hl => ?_)
          refine lv_goto (tgt := 45) hx hb dX6_arrive_82 (by decide) ?_
          have hl : lv_has ls 7 [(6, .int (Int32.ofInt ((x6_5 + 1)))), (5, .int (Int32.ofInt (z62))), (4, .int (Int32.ofInt (z3))), (3, .int (Int32.ofInt (s0_1))), (0, .ref (ar 99)), (1, .int (Int32.ofInt (s0))), (2, .int (Int32.ofInt (m0)))] := lv_sub hl [0, 1, 2, 3, 4, 5, 6] rfl
          exact ih ((x6_5 + 1), z62) (show (1500 - (x6_5 + 1)).toNat < (1500 - x6_5).toNat from by omega) (show inR (x6_5 + 1) ∧ inR z62 ∧ (0 ≤ (x6_5 + 1) ∧ (x6_5 + 1) ≤ 1500 ∧ -1 ≤ z62 ∧ z62 < 1500) from ⟨(by omega), (by omega), (by omega)⟩) _ _ _ hP hD hS hl
  · refine lv_aload_n hx hb dX6_arrive_0 rfl (lv_at hl 0 rfl) ?_
    refine va_get (D := G) (ci := 5) (v := .int (Int32.ofInt (fi 12))) (C := RX6) (T := TX6) (N := 15) (ref := RX6) hx hb hts h2w hown hX.1 hP 0 rfl rfl 12 (by decide) h5w (fun _ h9 => h9) rfl dX6_arrive_1 ?_
    have rf12 := hR 12
    refine lv_iconst (v := Int32.ofInt (-1)) hx hb dX6_arrive_4 (by decide +kernel) ?_
    refine iv_icmp_ne (tgt := 12) hx hb (by omega) (by omega) dX6_arrive_5 (by decide) (fun q63 => ?_) (fun q63 => ?_)
    · refine lv_aload_n hx hb dX6_arrive_12 rfl (lv_at hl 0 rfl) ?_
      refine va_get (D := G) (ci := 5) (v := .ref (ar 4)) (C := RX6) (T := TX6) (N := 15) (ref := RX6) hx hb hts h2w hown hX.1 hP 0 rfl rfl 4 (by decide) h3w (fun _ h9 => h9) rfl dX6_arrive_13 ?_
      refine lv_aload_n hx hb dX6_arrive_16 rfl (lv_at hl 0 rfl) ?_
      refine va_get (D := G) (ci := 5) (v := .int (Int32.ofInt (fi 12))) (C := RX6) (T := TX6) (N := 15) (ref := RX6) hx hb hts h2w hown hX.1 hP 0 rfl rfl 12 (by decide) h5w (fun _ h9 => h9) rfl dX6_arrive_17 ?_
      have rf12 := hR 12
      refine iv_iald hx hb hX.1 hP 2 0 rfl rfl (by omega) (by omega) (by decide) dX6_arrive_20 ?_
      refine iv_top (fun z64 ez64 => ?_)
      have rz64 : inR z64 := ez64 ▸ (hRa 4) _
      have ez64 : z64 = (fa 4) (fi 12) := ez64
      refine lv_iload_n hx hb dX6_arrive_21 rfl (lv_at hl 2 rfl) ?_
      refine iv_add (x := z64) (y := m0) hx hb dX6_arrive_22 ?_
      refine iv_wr ?_
      refine iv_top (fun z65 ez65 => ?_)
      have rz65 : inR z65 := ez65 ▸ bWr_r _
      have hl : lv_has ls 7 [(0, .ref (ar 99)), (1, .int (Int32.ofInt (s0))), (2, .int (Int32.ofInt (m0)))] := lv_sub hl [0, 1, 2] rfl
      exact J23 (z65) (show inR z65 ∧ (True) from ⟨(by omega), (by trivial)⟩) _ _ _ hP hD hS hl
    · refine lv_iconst (v := Int32.ofInt 0) hx hb dX6_arrive_8 (by decide +kernel) ?_
      refine lv_goto (tgt := 23) hx hb dX6_arrive_9 (by decide) ?_
      have hl : lv_has ls 7 [(0, .ref (ar 99)), (1, .int (Int32.ofInt (s0))), (2, .int (Int32.ofInt (m0)))] := lv_sub hl [0, 1, 2] rfl
      exact J23 (0) (show inR 0 ∧ (True) from ⟨(by omega), (by trivial)⟩) _ _ _ hP hD hS hl

