set_option maxHeartbeats 4000000 in
set_option maxRecDepth 100000 in
theorem mX10_readClause (l : Launch) (G : va_G) (k : Nat → ClassId) (ar : Nat → Nat) (fi : Nat → Int) (fa : Nat → Int → Int) (fl : Nat → Int64) (t0 : Int) (sz : Nat) (hR : ∀ j, inR (fi j)) (hRa : ∀ j t, inR (fa j t)) (hr_t0 : inR t0) (htk : 0 ≤ fi 22 ∧ fi 22 ≤ fi 23 ∧ fi 23 ≤ fi 19 ∧ fi 19 ≤ 600 ∧ fi 18 = fi 23 ∧ 0 ≤ fi 20 ∧ fi 20 ≤ 4 ∧ (¬ fi 20 = 0 → fi 22 < fi 23)) (hbz : fi 24 = 0) (hla : 0 ≤ fi 27 ∧ fi 27 ≤ 600 ∧ fi 27 ≤ fi 22) (hrt : 0 ≤ fi 14 ∧ fi 14 ≤ 7 ∧ 0 ≤ fi 15 ∧ fi 15 ≤ 4) (hd7 : 0 ≤ fa 3 7 ∧ fa 3 7 ≤ 11) (hRR : ∀ q9, 0 ≤ q9 → q9 < fi 15 → RWu (fa 10) (fa 8 (4 + q9)) (fa 9 (4 + q9)) (fi 27)) : CNi l G k (EZ k) yX10_readClause wzX10_readClause ({ frames := 44, cells := 0, slots := 0, locals := 966 }) [.ref (ar 71), .int (Int32.ofInt (t0))] sz (wM k ar fi fa fl) (fun (r0 : Int32) (u : Int × (Int → Int) × (Int → Int) × (Int → Int) × (Int → Int) × (Int → Int) × (Int → Int) × (Int → Int) × (Int → Int) × Int × Int × Int × Int × Int × Int × Int × Int × Int × Int) => r0 = Int32.ofInt (u.1) ∧ (inR u.1) ∧ (∀ t, inR (u.2.1 t)) ∧ (∀ t, inR (u.2.2.1 t)) ∧ (∀ t, inR (u.2.2.2.1 t)) ∧ (∀ t, inR (u.2.2.2.2.1 t)) ∧ (∀ t, inR (u.2.2.2.2.2.1 t)) ∧ (∀ t, inR (u.2.2.2.2.2.2.1 t)) ∧ (∀ t, inR (u.2.2.2.2.2.2.2.1 t)) ∧ (∀ t, inR (u.2.2.2.2.2.2.2.2.1 t)) ∧ (inR u.2.2.2.2.2.2.2.2.2.1) ∧ (inR u.2.2.2.2.2.2.2.2.2.2.1) ∧ (inR u.2.2.2.2.2.2.2.2.2.2.2.1) ∧ (inR u.2.2.2.2.2.2.2.2.2.2.2.2.1) ∧ (inR u.2.2.2.2.2.2.2.2.2.2.2.2.2.1) ∧ (inR u.2.2.2.2.2.2.2.2.2.2.2.2.2.2.1) ∧ (inR u.2.2.2.2.2.2.2.2.2.2.2.2.2.2.2.1) ∧ (inR u.2.2.2.2.2.2.2.2.2.2.2.2.2.2.2.2.1) ∧ (inR u.2.2.2.2.2.2.2.2.2.2.2.2.2.2.2.2.2.1) ∧ (inR u.2.2.2.2.2.2.2.2.2.2.2.2.2.2.2.2.2.2) ∧ (((0 ≤ u.2.2.2.2.2.2.2.2.2.2.2.2.2.2.1 ∧ u.2.2.2.2.2.2.2.2.2.2.2.2.2.2.1 ≤ u.2.2.2.2.2.2.2.2.2.2.2.2.2.2.2.1 ∧ u.2.2.2.2.2.2.2.2.2.2.2.2.2.2.2.1 ≤ fi 19 ∧ fi 19 ≤ 600 ∧ u.2.2.2.2.2.2.2.2.2.2.2.1 = u.2.2.2.2.2.2.2.2.2.2.2.2.2.2.2.1 ∧ 0 ≤ u.2.2.2.2.2.2.2.2.2.2.2.2.1 ∧ u.2.2.2.2.2.2.2.2.2.2.2.2.1 ≤ 4 ∧ (¬ u.2.2.2.2.2.2.2.2.2.2.2.2.1 = 0 → u.2.2.2.2.2.2.2.2.2.2.2.2.2.2.1 < u.2.2.2.2.2.2.2.2.2.2.2.2.2.2.2.1)) ∧ fi 22 ≤ u.2.2.2.2.2.2.2.2.2.2.2.2.2.2.1 ∧ (u.2.2.2.2.2.2.2.2.2.2.2.2.2.2.2.2.1 = 0 → fi 22 < u.2.2.2.2.2.2.2.2.2.2.2.2.2.2.1) ∧ 0 ≤ u.2.2.2.2.2.2.2.2.2.2.2.2.2.2.2.2.2.2 ∧ u.2.2.2.2.2.2.2.2.2.2.2.2.2.2.2.2.2.2 ≤ 600 ∧ (u.2.2.2.2.2.2.2.2.2.2.2.2.2.2.2.2.1 = 0 → u.2.2.2.2.2.2.2.2.2.2.2.2.2.2.2.2.2.2 ≤ u.2.2.2.2.2.2.2.2.2.2.2.2.2.2.1) ∧ 0 ≤ u.2.2.2.2.2.2.2.2.2.1 ∧ u.2.2.2.2.2.2.2.2.2.1 ≤ 7 ∧ 0 ≤ u.2.2.2.2.2.2.2.2.2.2.1 ∧ u.2.2.2.2.2.2.2.2.2.2.1 ≤ 4 ∧ (u.2.2.2.2.2.2.2.2.2.2.2.2.2.2.2.2.1 = 0 → 0 ≤ u.2.1 7 ∧ u.2.1 7 ≤ 11) ∧ u.2.1 0 = fa 3 0) ∧ (u.2.2.2.2.2.2.2.2.2.2.2.2.2.2.2.2.1 = 0 → ∀ q9, 0 ≤ q9 → q9 < u.2.2.2.2.2.2.2.2.2.2.1 → RWu u.2.2.2.2.2.2.2.2.1 (u.2.2.2.2.2.2.1 (4 + q9)) (u.2.2.2.2.2.2.2.1 (4 + q9)) u.2.2.2.2.2.2.2.2.2.2.2.2.2.2.2.2.2.2) ∧ (∀ t, t < 4 → u.2.2.2.2.2.2.1 t = fa 8 t) ∧ (∀ t, t < 4 → u.2.2.2.2.2.2.2.1 t = fa 9 t) ∧ (∀ t, t < 600 → u.2.2.2.2.2.2.2.2.1 t = fa 10 t))) (fun (u : Int × (Int → Int) × (Int → Int) × (Int → Int) × (Int → Int) × (Int → Int) × (Int → Int) × (Int → Int) × (Int → Int) × Int × Int × Int × Int × Int × Int × Int × Int × Int × Int) => (wM k ar (uF (uF (uF (uF (uF (uF (uF (uF (uF (uF fi 14 (u.2.2.2.2.2.2.2.2.2.1)) 15 (u.2.2.2.2.2.2.2.2.2.2.1)) 18 (u.2.2.2.2.2.2.2.2.2.2.2.1)) 20 (u.2.2.2.2.2.2.2.2.2.2.2.2.1)) 21 (u.2.2.2.2.2.2.2.2.2.2.2.2.2.1)) 22 (u.2.2.2.2.2.2.2.2.2.2.2.2.2.2.1)) 23 (u.2.2.2.2.2.2.2.2.2.2.2.2.2.2.2.1)) 24 (u.2.2.2.2.2.2.2.2.2.2.2.2.2.2.2.2.1)) 25 (u.2.2.2.2.2.2.2.2.2.2.2.2.2.2.2.2.2.1)) 27 (u.2.2.2.2.2.2.2.2.2.2.2.2.2.2.2.2.2.2)) (uF (uF (uF (uF (uF (uF (uF (uF fa 3 (u.2.1)) 4 (u.2.2.1)) 5 (u.2.2.2.1)) 6 (u.2.2.2.2.1)) 7 (u.2.2.2.2.2.1)) 8 (u.2.2.2.2.2.2.1)) 9 (u.2.2.2.2.2.2.2.1)) 10 (u.2.2.2.2.2.2.2.2.1)) fl)) := by
  refine Met.ofW (cc := cX10_readClause) (maxL := 3) (ret := (some .int)) (by decide) rfl ?_
  intro p e s m args below meth c s₁ B hml hv
  obtain ⟨rfl, hsz, hP, hX, hD0, hZ0⟩ := hv
  have hx := B.exec
  have hb := B.bytes
  have hr := B.returns
  have hts := atoms_spec (ws := wzX10_readClause) B.pre
  have hown : s.vm.findClass RX10 = some m.cls := findClass_of_methodNamed B.named
  subst hsz
  have hD := hD0.self (sz := s.heap.size)
  have hZ := hZ0
  generalize hAe : va_A (wM k ar fi fa fl) s.heap.size = A at hD hZ ⊢
  have hA : ∀ q : Nat, s.heap.size ≤ q → A q := fun q h => by rw [← hAe]; exact Or.inr h
  have hS : va_S A s.heap s.heap [] := va_S.rf
  have hl := lv_entry ([.ref (ar 71), .int (Int32.ofInt (t0))]) (n := 3) (Nat.le_of_ble_eq_true rfl)
  rw [lg_entry_eq]
  generalize (lg_sl ([.ref (ar 71), .int (Int32.ofInt (t0))]) ++ List.replicate (3 - (lg_sl ([.ref (ar 71), .int (Int32.ofInt (t0))])).length) Slot.unset).toArray = ls at hl ⊢
  have hl : lv_has ls 3 [(0, .ref (ar 71)), (1, .int (Int32.ofInt (t0)))] := hl
  obtain ⟨H, eH⟩ : ∃ H, H = s.heap := ⟨_, rfl⟩
  rw [← eH] at hP
  have hS : va_S A s.heap H [] := by rw [eH]; exact hS
  have gW : s.heap = H := eH.symm
  refine iv_heap gW ?_
  have h0w := hts (.fieldLink RX10 33 "RopeTownModel" "clauses" "[Ljava/lang/String;") (wz_at 6 4 rfl)
  have h1w : ∀ w ∈ wsX100, w ∈ wzX10_readClause := fun w h => List.mem_cons_of_mem _ (inlX10 w h)
  have h2w := hts (.fieldLink RX10 223 "RopeTownModel" "bad" "I") (wz_at 16 11 rfl)
  have h3w := hts (.fieldLink RX10 68 "RopeTownModel" "begin" "[I") (wz_at 6 11 rfl)
  have h4w := hts (.fieldLink RX10 303 "RopeTownModel" "readRules" "I") (wz_at 16 14 rfl)
  have h5w := hts (.fieldLink RX10 250 "RopeTownModel" "laid" "I") (wz_at 16 12 rfl)
  have h6w := hts (.fieldLink RX10 71 "RopeTownModel" "finish" "[I") (wz_at 6 12 rfl)
  have h7w := hts (.fieldLink RX10 54 "RopeTownModel" "rule" "[I") (wz_at 6 6 rfl)
  have h8w := hts (.fieldLink RX10 290 "RopeTownModel" "readThings" "I") (wz_at 16 13 rfl)
  refine lv_aload_n hx hb dX10_readClause_0 rfl (lv_at hl 0 rfl) ?_
  refine lv_aload_n hx hb dX10_readClause_1 rfl (lv_at hl 0 rfl) ?_
  refine va_get (D := G) (ci := 7) (v := .ref (ar 0)) (C := RX10) (T := TX10) (N := 71) (ref := RX10) hx hb hts h1w hown hX.1 hP 0 rfl rfl 0 (by decide) h0w (fun _ h9 => h9) rfl dX10_readClause_2 ?_
  refine cr_i (va_runV (As := [.ref (ar 0)]) (rest := []) ⟨hx, hb, hml, hown, hts⟩ (mX10_which_0 l G k ar fi fa fl H.size hR hRa (show (fi 20) = 1 → 0 ≤ (fi 22) ∧ (fi 22) ≤ (fi 23) ∧ (fi 23) ≤ 600 from by omega)) (cwV 1 hts (gz [.methodLink RX10 259 yX10_which, .instanceMethod yX10_which, .selects RX10 yX10_which yX10_which, .initialized RX10] (.code yX10_which cX10_which 3 (some .int)) [(18, 2), (18, 3), (18, 4), (0, 5), (18, 5)] rfl) rfl rfl rfl (by decide +kernel) ⟨Nat.le_of_ble_eq_true rfl, Nat.le_of_ble_eq_true rfl⟩) (cr_preV (EZ_ok k) hZ hS hX hP hD hA (ci := 7) (q0 := 0) rfl rfl) rfl rfl hl.1 rfl (lv_room (Nat.le_of_ble_eq_true rfl)) dX10_readClause_5 ⟨Nat.le_of_ble_eq_true rfl, Nat.le_of_ble_eq_true rfl⟩) hD hS hA (fun r u H locs hp hP hD hS => ?_)
  obtain ⟨c1, rfl⟩ : ∃ z, z = u := ⟨_, rfl⟩
  obtain ⟨h9, rc1, hp1⟩ : r = Int32.ofInt c1 ∧ (inR c1) ∧ (c1 = -1 ∨ (0 ≤ c1 ∧ c1 < 12 ∧ (fi 24) = 0 ∧ (fi 20) = 1)) := hp
  subst h9
  have hq9 := hp1
  clear hp1
  refine lv_istore_n (lv' := [(2, .int (Int32.ofInt (c1))), (0, .ref (ar 71)), (1, .int (Int32.ofInt (t0)))]) hx hb dX10_readClause_8 rfl hl (by decide) rfl (fun ls hl => ?_)
  refine iv_join (G := G) (A := A) (H0 := s.heap) (α := Int × Int) (nL := 3) 100 (fun b9 => []) (fun b9 => (wM k ar (uF (uF fi 24 (b9.1)) 25 (b9.2)) fa fl)) (fun b9 => [(2, .int (Int32.ofInt (c1))), (0, .ref (ar 71)), (1, .int (Int32.ofInt (t0)))]) (fun b9 => inR b9.1 ∧ inR b9.2 ∧ ((b9.1 = 0 → 0 ≤ c1 ∧ c1 ≤ 11 ∧ (7 ≤ c1 → c1 ≤ 10 → ¬ fi 14 = 7) ∧ (c1 = 11 → ¬ fi 15 = 4)) ∧ -1 ≤ c1 ∧ c1 ≤ 11)) ?_ (fun J100 => ?_)
  · rintro ⟨n24_2, n25_3⟩ hi9 H locs ls hP hD hS hl
    clear hq9
    obtain ⟨r_n24_2, r_n25_3, hinv⟩ : inR n24_2 ∧ inR n25_3 ∧ ((n24_2 = 0 → 0 ≤ c1 ∧ c1 ≤ 11 ∧ (7 ≤ c1 → c1 ≤ 10 → ¬ fi 14 = 7) ∧ (c1 = 11 → ¬ fi 15 = 4)) ∧ -1 ≤ c1 ∧ c1 ≤ 11) := hi9
    obtain ⟨hP, hD⟩ : va_P G vwCl (wM k ar (uF (uF fi 24 (n24_2)) 25 (n25_3)) fa fl) H ∧ va_D A (wM k ar (uF (uF fi 24 (n24_2)) 25 (n25_3)) fa fl) := ⟨hP, hD⟩
    have hl : lv_has ls 3 [(2, .int (Int32.ofInt (c1))), (0, .ref (ar 71)), (1, .int (Int32.ofInt (t0)))] := hl
    refine lv_aload_n hx hb dX10_readClause_100 rfl (lv_at hl 1 rfl) ?_
    refine va_get (D := G) (ci := 7) (v := .int (Int32.ofInt (n24_2))) (C := RX10) (T := TX10) (N := 71) (ref := RX10) hx hb hts h1w hown hX.1 hP 0 rfl rfl 24 (by decide) h2w (fun _ h9 => h9) rfl dX10_readClause_101 ?_
    refine iv_if_eq (tgt := 109) hx hb (by omega) dX10_readClause_104 (by decide) (fun q4 => ?_) (fun q4 => ?_)
    · have cC : n24_2 = 0 ∧ 0 ≤ c1 ∧ c1 ≤ 11 ∧ (7 ≤ c1 → c1 ≤ 10 → fi 14 ≤ 6) ∧ (c1 = 11 → fi 15 ≤ 3) := by omega
      clear hinv
      refine lv_aload_n hx hb dX10_readClause_109 rfl (lv_at hl 1 rfl) ?_
      refine cr_v (va_runV (As := []) (rest := []) ⟨hx, hb, hml, hown, hts⟩ (mX10_stepOn l G k ar (uF (uF fi 24 (n24_2)) 25 (n25_3)) fa fl H.size (iF (iF hR (by omega)) (by omega)) hRa (show 0 ≤ (fi 18) from by omega) (show (fi 18) ≤ (fi 19) from by omega) (show (fi 19) ≤ 600 from by omega)) (cwV 0 hts (gz [.methodLink RX10 241 yX10_stepOn, .instanceMethod yX10_stepOn, .selects RX10 yX10_stepOn yX10_stepOn, .initialized RX10] (.code yX10_stepOn cX10_stepOn 2 none) [(16, 21), (16, 22), (16, 23), (0, 5), (17, 0)] rfl) rfl rfl rfl (by decide +kernel) ⟨Nat.le_of_ble_eq_true rfl, Nat.le_of_ble_eq_true rfl⟩) (cr_preV (EZ_ok k) hZ hS hX hP hD hA (ci := 7) (q0 := 0) rfl rfl) rfl rfl hl.1 rfl (lv_room (Nat.le_of_ble_eq_true rfl)) dX10_readClause_110 ⟨Nat.le_of_ble_eq_true rfl, Nat.le_of_ble_eq_true rfl⟩) hD hS hA (fun u H locs hp hP hD hS => ?_)
      obtain ⟨c5, c6, c7, c8, c9⟩ := u
      obtain ⟨hP, hD⟩ : va_P G vwCl (wM k ar (uF (uF (uF (uF (uF (uF (uF fi 18 (c5)) 20 (c6)) 21 (c7)) 22 (c8)) 23 (c9)) 24 (n24_2)) 25 (n25_3)) fa fl) H ∧ va_D A (wM k ar (uF (uF (uF (uF (uF (uF (uF fi 18 (c5)) 20 (c6)) 21 (c7)) 22 (c8)) 23 (c9)) 24 (n24_2)) 25 (n25_3)) fa fl) := ⟨hP, hD⟩
      obtain ⟨rc5, rc6, rc7, rc8, rc9, hp9⟩ : (inR c5) ∧ (inR c6) ∧ (inR c7) ∧ (inR c8) ∧ (inR c9) ∧ ((fi 18) ≤ c8 ∧ c8 ≤ c9 ∧ c9 ≤ (fi 19) ∧ c5 = c9 ∧ 0 ≤ c6 ∧ c6 ≤ 4 ∧ (¬ c6 = 0 → c8 < c9)) := hp
      have cE : (0 ≤ c8 ∧ c8 ≤ c9 ∧ c9 ≤ fi 19 ∧ fi 19 ≤ 600 ∧ c5 = c9 ∧ 0 ≤ c6 ∧ c6 ≤ 4 ∧ (¬ c6 = 0 → c8 < c9)) ∧ fi 22 ≤ c8 ∧ n24_2 = 0 ∧ 0 ≤ c1 ∧ c1 ≤ 11 ∧ (7 ≤ c1 → c1 ≤ 10 → fi 14 ≤ 6) ∧ (c1 = 11 → fi 15 ≤ 3) := by omega
      clear cC htk hp9
      refine lv_iload_n hx hb dX10_readClause_113 rfl (lv_at hl 0 rfl) ?_
      refine lv_bipush (v := Int32.ofInt 7) hx hb dX10_readClause_114 (by decide +kernel) ?_
      refine iv_icmp_ge (tgt := 145) hx hb (by omega) (by omega) dX10_readClause_116 (by decide) (fun q10 => ?_) (fun q10 => ?_)
      · refine lv_iload_n hx hb dX10_readClause_145 rfl (lv_at hl 0 rfl) ?_
        refine lv_bipush (v := Int32.ofInt 11) hx hb dX10_readClause_146 (by decide +kernel) ?_
        refine iv_icmp_ge (tgt := 162) hx hb (by omega) (by omega) dX10_readClause_148 (by decide) (fun q11 => ?_) (fun q11 => ?_)
        · refine lv_aload_n hx hb dX10_readClause_162 rfl (lv_at hl 1 rfl) ?_
          refine va_get (D := G) (ci := 7) (v := .ref (ar 8)) (C := RX10) (T := TX10) (N := 71) (ref := RX10) hx hb hts h1w hown hX.1 hP 0 rfl rfl 8 (by decide) h3w (fun _ h9 => h9) rfl dX10_readClause_163 ?_
          refine lv_iconst (v := Int32.ofInt 4) hx hb dX10_readClause_166 (by decide +kernel) ?_
          refine lv_aload_n hx hb dX10_readClause_167 rfl (lv_at hl 1 rfl) ?_
          refine va_get (D := G) (ci := 7) (v := .int (Int32.ofInt (fi 15))) (C := RX10) (T := TX10) (N := 71) (ref := RX10) hx hb hts h1w hown hX.1 hP 0 rfl rfl 15 (by decide) h4w (fun _ h9 => h9) rfl dX10_readClause_168 ?_
          have rf15 := hR 15
          refine iv_add (x := 4) (y := fi 15) hx hb dX10_readClause_171 ?_
          refine lv_aload_n hx hb dX10_readClause_172 rfl (lv_at hl 1 rfl) ?_
          refine va_get (D := G) (ci := 7) (v := .int (Int32.ofInt (fi 27))) (C := RX10) (T := TX10) (N := 71) (ref := RX10) hx hb hts h1w hown hX.1 hP 0 rfl rfl 27 (by decide) h5w (fun _ h9 => h9) rfl dX10_readClause_173 ?_
          have rf27 := hR 27
          refine iv_iast hx hb hX.1 hP hD hS 6 0 rfl rfl (wM_A8 _ _ _ _ _) (by omega) (by omega) (by decide) dX10_readClause_176 (fun H locs hP hD hS => ?_)
          obtain ⟨g12, eg12, rg12⟩ : ∃ z, z = uA (fa 8) ((4 + fi 15)) (fi 27) ∧ ∀ t, inR (z t) := ⟨_, rfl, iU (hRa 8) (by omega)⟩
          rw [← eg12] at hP hD
          refine lv_aload_n hx hb dX10_readClause_177 rfl (lv_at hl 1 rfl) ?_
          refine lv_iconst (v := Int32.ofInt 0) hx hb dX10_readClause_178 (by decide +kernel) ?_
          refine cr_v (va_runV (As := [.int (Int32.ofInt (0))]) (rest := []) ⟨hx, hb, hml, hown, hts⟩ (mX10_readExpression_0 l G k ar (uF (uF (uF (uF (uF (uF (uF fi 18 (c5)) 20 (c6)) 21 (c7)) 22 (c8)) 23 (c9)) 24 (n24_2)) 25 (n25_3)) (uF fa 8 (g12)) fl 0 H.size (iF (iF (iF (iF (iF (iF (iF hR (by omega)) (by omega)) (by omega)) (by omega)) (by omega)) (by omega)) (by omega)) (iG hRa rg12) (show 0 ≤ c8 ∧ c8 ≤ c9 ∧ c9 ≤ (fi 19) ∧ (fi 19) ≤ 600 ∧ c5 = c9 ∧ 0 ≤ c6 ∧ c6 ≤ 4 ∧ (¬ c6 = 0 → c8 < c9) from by omega) (show 0 ≤ (fi 27) ∧ (fi 27) ≤ 600 ∧ (n24_2 = 0 → (fi 27) ≤ c8) from by omega) (show 0 ≤ 0 ∧ 0 ≤ 5 * 0 + 0 from by omega)) (cwV 1 hts (gz [.methodLink RX10 266 yX10_readExpression, .instanceMethod yX10_readExpression, .selects RX10 yX10_readExpression yX10_readExpression, .initialized RX10] (.code yX10_readExpression cX10_readExpression 3 none) [(19, 19), (19, 20), (19, 21), (0, 5), (19, 22)] rfl) rfl rfl rfl (by decide +kernel) ⟨Nat.le_of_ble_eq_true rfl, Nat.le_of_ble_eq_true rfl⟩) (cr_preV (EZ_ok k) hZ hS hX hP hD hA (ci := 7) (q0 := 0) rfl rfl) rfl rfl hl.1 rfl (lv_room (Nat.le_of_ble_eq_true rfl)) dX10_readClause_179 ⟨Nat.le_of_ble_eq_true rfl, Nat.le_of_ble_eq_true rfl⟩) hD hS hA (fun u H locs hp hP hD hS => ?_)
          obtain ⟨c13, c14, c15, c16, c17, c18, c19, c20, c21⟩ := u
          obtain ⟨hP, hD⟩ : va_P G vwCl (wM k ar (uF (uF (uF (uF (uF (uF (uF (uF fi 18 (c14)) 20 (c15)) 21 (c16)) 22 (c17)) 23 (c18)) 24 (c19)) 25 (c20)) 27 (c21)) (uF (uF fa 8 (g12)) 10 (c13)) fl) H ∧ va_D A (wM k ar (uF (uF (uF (uF (uF (uF (uF (uF fi 18 (c14)) 20 (c15)) 21 (c16)) 22 (c17)) 23 (c18)) 24 (c19)) 25 (c20)) 27 (c21)) (uF (uF fa 8 (g12)) 10 (c13)) fl) := ⟨hP, hD⟩
          obtain ⟨rc13, rc14, rc15, rc16, rc17, rc18, rc19, rc20, rc21, hp21⟩ : (∀ t, inR (c13 t)) ∧ (inR c14) ∧ (inR c15) ∧ (inR c16) ∧ (inR c17) ∧ (inR c18) ∧ (inR c19) ∧ (inR c20) ∧ (inR c21) ∧ (((0 ≤ c17 ∧ c17 ≤ c18 ∧ c18 ≤ (fi 19) ∧ (fi 19) ≤ 600 ∧ c14 = c18 ∧ 0 ≤ c15 ∧ c15 ≤ 4 ∧ (¬ c15 = 0 → c17 < c18)) ∧ (c19 = 0 → n24_2 = 0) ∧ c8 ≤ c17 ∧ (fi 27) ≤ c21 ∧ c21 ≤ 600 ∧ (c19 = 0 → c21 - (fi 27) ≤ c17 - c8)) ∧ (∀ t, t < 600 + (fi 27) → c13 t = (fa 10) t) ∧ (c19 = 0 → Seg c13 (600 + (fi 27)) (600 + c21) 0 (0 + 1))) := hp
          obtain ⟨hA1, hA2, hA3⟩ := hp21
          have cF : (0 ≤ c17 ∧ c17 ≤ c18 ∧ c18 ≤ fi 19 ∧ fi 19 ≤ 600 ∧ c14 = c18 ∧ 0 ≤ c15 ∧ c15 ≤ 4 ∧ (¬ c15 = 0 → c17 < c18)) ∧ fi 22 ≤ c17 ∧ fi 27 ≤ c21 ∧ c21 ≤ 600 ∧ (c19 = 0 → c21 ≤ c17) ∧ fi 15 ≤ 3 := by omega
          clear cE hA1
          have hE2 := hA2
          have hE3 := hA3
          refine lv_aload_n hx hb dX10_readClause_182 rfl (lv_at hl 1 rfl) ?_
          refine va_get (D := G) (ci := 7) (v := .ref (ar 9)) (C := RX10) (T := TX10) (N := 71) (ref := RX10) hx hb hts h1w hown hX.1 hP 0 rfl rfl 9 (by decide) h6w (fun _ h9 => h9) rfl dX10_readClause_183 ?_
          refine lv_iconst (v := Int32.ofInt 4) hx hb dX10_readClause_186 (by decide +kernel) ?_
          refine lv_aload_n hx hb dX10_readClause_187 rfl (lv_at hl 1 rfl) ?_
          refine va_get (D := G) (ci := 7) (v := .int (Int32.ofInt (fi 15))) (C := RX10) (T := TX10) (N := 71) (ref := RX10) hx hb hts h1w hown hX.1 hP 0 rfl rfl 15 (by decide) h4w (fun _ h9 => h9) rfl dX10_readClause_188 ?_
          have rf15 := hR 15
          refine iv_add (x := 4) (y := fi 15) hx hb dX10_readClause_191 ?_
          refine lv_aload_n hx hb dX10_readClause_192 rfl (lv_at hl 1 rfl) ?_
          refine va_get (D := G) (ci := 7) (v := .int (Int32.ofInt (c21))) (C := RX10) (T := TX10) (N := 71) (ref := RX10) hx hb hts h1w hown hX.1 hP 0 rfl rfl 27 (by decide) h5w (fun _ h9 => h9) rfl dX10_readClause_193 ?_
          refine iv_iast hx hb hX.1 hP hD hS 7 0 rfl rfl (wM_A9 _ _ _ _ _) (by omega) (by omega) (by decide) dX10_readClause_196 (fun H locs hP hD hS => ?_)
          obtain ⟨hP, hD⟩ : va_P G vwCl (wM k ar (uF (uF (uF (uF (uF (uF (uF (uF fi 18 (c14)) 20 (c15)) 21 (c16)) 22 (c17)) 23 (c18)) 24 (c19)) 25 (c20)) 27 (c21)) (uF (uF (uF fa 8 (g12)) 9 (uA (fa 9) ((4 + fi 15)) (c21))) 10 (c13)) fl) H ∧ va_D A (wM k ar (uF (uF (uF (uF (uF (uF (uF (uF fi 18 (c14)) 20 (c15)) 21 (c16)) 22 (c17)) 23 (c18)) 24 (c19)) 25 (c20)) 27 (c21)) (uF (uF (uF fa 8 (g12)) 9 (uA (fa 9) ((4 + fi 15)) (c21))) 10 (c13)) fl) := ⟨hP, hD⟩
          obtain ⟨g22, eg22, rg22⟩ : ∃ z, z = uA (fa 9) ((4 + fi 15)) (c21) ∧ ∀ t, inR (z t) := ⟨_, rfl, iU (hRa 9) (by omega)⟩
          rw [← eg22] at hP hD
          refine lv_aload_n hx hb dX10_readClause_197 rfl (lv_at hl 1 rfl) ?_
          refine lv_dup hx hb dX10_readClause_198 rfl ?_
          refine va_get (D := G) (ci := 7) (v := .int (Int32.ofInt (fi 15))) (C := RX10) (T := TX10) (N := 71) (ref := RX10) hx hb hts h1w hown hX.1 hP 0 rfl rfl 15 (by decide) h4w (fun _ h9 => h9) rfl dX10_readClause_199 ?_
          have rf15 := hR 15
          refine lv_iconst (v := Int32.ofInt 1) hx hb dX10_readClause_202 (by decide +kernel) ?_
          refine iv_add (x := fi 15) (y := 1) hx hb dX10_readClause_203 ?_
          refine iv_put (ci := 7) (v := .int (Int32.ofInt ((fi 15 + 1)))) (ty := .int) (C := RX10) (T := TX10) (N := 71) (ref := RX10) hx hb hts h1w tyX10 tyX10_ok nmX10 hown hX.1 hP hD hS 0 rfl rfl 15 (by decide) h4w (fun _ h9 => h9) rfl (by decide +kernel) rfl rfl (Nat.le_of_ble_eq_true rfl) (wM_F15 _ _ _ _ _) dX10_readClause_204 (fun H locs hP hD hS => ?_)
          obtain ⟨hP, hD⟩ : va_P G vwCl (wM k ar (uF (uF (uF (uF (uF (uF (uF (uF (uF fi 15 ((fi 15 + 1))) 18 (c14)) 20 (c15)) 21 (c16)) 22 (c17)) 23 (c18)) 24 (c19)) 25 (c20)) 27 (c21)) (uF (uF (uF fa 8 (g12)) 9 (g22)) 10 (c13)) fl) H ∧ va_D A (wM k ar (uF (uF (uF (uF (uF (uF (uF (uF (uF fi 15 ((fi 15 + 1))) 18 (c14)) 20 (c15)) 21 (c16)) 22 (c17)) 23 (c18)) 24 (c19)) 25 (c20)) 27 (c21)) (uF (uF (uF fa 8 (g12)) 9 (g22)) 10 (c13)) fl) := ⟨hP, hD⟩
          refine lv_aload_n hx hb dX10_readClause_207 rfl (lv_at hl 1 rfl) ?_
          refine lv_bipush (v := Int32.ofInt 59) hx hb dX10_readClause_208 (by decide +kernel) ?_
          refine cr_v (va_runV (As := [.int (Int32.ofInt (59))]) (rest := []) ⟨hx, hb, hml, hown, hts⟩ (mX10_mark l G k ar (uF (uF (uF (uF (uF (uF (uF (uF (uF fi 15 ((fi 15 + 1))) 18 (c14)) 20 (c15)) 21 (c16)) 22 (c17)) 23 (c18)) 24 (c19)) 25 (c20)) 27 (c21)) (uF (uF (uF fa 8 (g12)) 9 (g22)) 10 (c13)) fl 59 H.size (iF (iF (iF (iF (iF (iF (iF (iF (iF hR (by omega)) (by omega)) (by omega)) (by omega)) (by omega)) (by omega)) (by omega)) (by omega)) (by omega)) (iG (iG (iG hRa rg12) rg22) rc13) (by omega) (show 0 ≤ c17 ∧ c17 ≤ c18 ∧ c18 ≤ (fi 19) ∧ (fi 19) ≤ 600 ∧ c14 = c18 ∧ 0 ≤ c15 ∧ c15 ≤ 4 ∧ (¬ c15 = 0 → c17 < c18) from by omega)) (cwV 1 hts (gz [.methodLink RX10 263 yX10_mark, .instanceMethod yX10_mark, .selects RX10 yX10_mark yX10_mark, .initialized RX10] (.code yX10_mark cX10_mark 2 none) [(20, 19), (20, 20), (20, 21), (0, 5), (20, 22)] rfl) rfl rfl rfl (by decide +kernel) ⟨Nat.le_of_ble_eq_true rfl, Nat.le_of_ble_eq_true rfl⟩) (cr_preV (EZ_ok k) hZ hS hX hP hD hA (ci := 7) (q0 := 0) rfl rfl) rfl rfl hl.1 rfl (lv_room (Nat.le_of_ble_eq_true rfl)) dX10_readClause_210 ⟨Nat.le_of_ble_eq_true rfl, Nat.le_of_ble_eq_true rfl⟩) hD hS hA (fun u H locs hp hP hD hS => ?_)
          obtain ⟨c23, c24, c25, c26, c27, c28, c29⟩ := u
          obtain ⟨hP, hD⟩ : va_P G vwCl (wM k ar (uF (uF (uF (uF (uF (uF (uF (uF (uF fi 15 ((fi 15 + 1))) 18 (c23)) 20 (c24)) 21 (c25)) 22 (c26)) 23 (c27)) 24 (c28)) 25 (c29)) 27 (c21)) (uF (uF (uF fa 8 (g12)) 9 (g22)) 10 (c13)) fl) H ∧ va_D A (wM k ar (uF (uF (uF (uF (uF (uF (uF (uF (uF fi 15 ((fi 15 + 1))) 18 (c23)) 20 (c24)) 21 (c25)) 22 (c26)) 23 (c27)) 24 (c28)) 25 (c29)) 27 (c21)) (uF (uF (uF fa 8 (g12)) 9 (g22)) 10 (c13)) fl) := ⟨hP, hD⟩
          obtain ⟨rc23, rc24, rc25, rc26, rc27, rc28, rc29, hp29⟩ : (inR c23) ∧ (inR c24) ∧ (inR c25) ∧ (inR c26) ∧ (inR c27) ∧ (inR c28) ∧ (inR c29) ∧ ((0 ≤ c26 ∧ c26 ≤ c27 ∧ c27 ≤ (fi 19) ∧ (fi 19) ≤ 600 ∧ c23 = c27 ∧ 0 ≤ c24 ∧ c24 ≤ 4 ∧ (¬ c24 = 0 → c26 < c27)) ∧ c17 ≤ c26 ∧ (c28 = 0 → c19 = 0 ∧ c17 < c26)) := hp
          refine lv_iload_n hx hb dX10_readClause_213 rfl (lv_at hl 2 rfl) ?_
          refine lv_iconst (v := Int32.ofInt 1) hx hb dX10_readClause_214 (by decide +kernel) ?_
          refine lv_iload_n hx hb dX10_readClause_215 rfl (lv_at hl 0 rfl) ?_
          refine iv_shl hx hb dX10_readClause_216 ?_
          refine iv_top (fun z30 ez30 => ?_)
          have rz30 : inR z30 := ez30 ▸ bShl_r _ _
          refine iv_or hx hb dX10_readClause_217 ?_
          refine iv_top (fun z31 ez31 => ?_)
          have rz31 : inR z31 := ez31 ▸ bOr_r _ _
          exact W.iret (v := Int32.ofInt (z31)) hx hb hr (fun t ht hW => ⟨⟨Int32.ofInt (z31), (z31, fa 3, fa 4, fa 5, fa 6, fa 7, g12, g22, c13, fi 14, (fi 15 + 1), c23, c24, c25, c26, c27, c28, c29, c21), rfl, ⟨rfl, (show (inR z31) ∧ (∀ t, inR ((fa 3) t)) ∧ (∀ t, inR ((fa 4) t)) ∧ (∀ t, inR ((fa 5) t)) ∧ (∀ t, inR ((fa 6) t)) ∧ (∀ t, inR ((fa 7) t)) ∧ (∀ t, inR (g12 t)) ∧ (∀ t, inR (g22 t)) ∧ (∀ t, inR (c13 t)) ∧ (inR (fi 14)) ∧ (inR (fi 15 + 1)) ∧ (inR c23) ∧ (inR c24) ∧ (inR c25) ∧ (inR c26) ∧ (inR c27) ∧ (inR c28) ∧ (inR c29) ∧ (inR c21) ∧ (((0 ≤ c26 ∧ c26 ≤ c27 ∧ c27 ≤ fi 19 ∧ fi 19 ≤ 600 ∧ c23 = c27 ∧ 0 ≤ c24 ∧ c24 ≤ 4 ∧ (¬ c24 = 0 → c26 < c27)) ∧ fi 22 ≤ c26 ∧ (c28 = 0 → fi 22 < c26) ∧ 0 ≤ c21 ∧ c21 ≤ 600 ∧ (c28 = 0 → c21 ≤ c26) ∧ 0 ≤ (fi 14) ∧ (fi 14) ≤ 7 ∧ 0 ≤ (fi 15 + 1) ∧ (fi 15 + 1) ≤ 4 ∧ (c28 = 0 → 0 ≤ (fa 3) 7 ∧ (fa 3) 7 ≤ 11) ∧ (fa 3) 0 = fa 3 0) ∧ (c28 = 0 → ∀ q9, 0 ≤ q9 → q9 < (fi 15 + 1) → RWu c13 (g12 (4 + q9)) (g22 (4 + q9)) c21) ∧ (∀ t, t < 4 → g12 t = fa 8 t) ∧ (∀ t, t < 4 → g22 t = fa 9 t) ∧ (∀ t, t < 600 → c13 t = fa 10 t)) from ⟨(by omega), (hRa 3), (hRa 4), (hRa 5), (hRa 6), (hRa 7), rg12, rg22, rc13, (hR 14), (by omega), (by omega), (by omega), (by omega), (by omega), (by omega), (by omega), (by omega), (by omega), (by first | exact ⟨by omega, fun h0 => absurd h0 (by omega), fun t _ => rfl, fun t _ => rfl, fun t _ => rfl⟩ | exact ⟨by omega, fun h0 => hRR, fun t _ => rfl, fun t _ => rfl, fun t _ => rfl⟩ | exact ⟨by omega, fun h0 => rr_new hRR (by omega) (by omega) hE2 (by omega) eg12 eg22 (hE3 (by omega)), fun t ht => by rw [eg12, uA_ne (by omega)], fun t ht => by rw [eg22, uA_ne (by omega)], fun t ht => hE2 t (by omega)⟩)⟩)⟩, by rw [ht]; exact hP, hD⟩, hS.F ht⟩) hS.2.2 dX10_readClause_218
        · refine lv_aload_n hx hb dX10_readClause_151 rfl (lv_at hl 1 rfl) ?_
          refine lv_iload_n hx hb dX10_readClause_152 rfl (lv_at hl 0 rfl) ?_
          refine lv_bipush (v := Int32.ofInt 7) hx hb dX10_readClause_153 (by decide +kernel) ?_
          refine iv_sub (x := c1) (y := 7) hx hb dX10_readClause_155 ?_
          refine cr_v (va_runV (As := [.int (Int32.ofInt ((c1 - 7)))]) (rest := []) ⟨hx, hb, hml, hown, hts⟩ (mX10_readThing l G k ar (uF (uF (uF (uF (uF (uF (uF fi 18 (c5)) 20 (c6)) 21 (c7)) 22 (c8)) 23 (c9)) 24 (n24_2)) 25 (n25_3)) fa fl (c1 - 7) H.size (iF (iF (iF (iF (iF (iF (iF hR (by omega)) (by omega)) (by omega)) (by omega)) (by omega)) (by omega)) (by omega)) hRa (by omega) (show 0 ≤ c8 ∧ c8 ≤ c9 ∧ c9 ≤ (fi 19) ∧ (fi 19) ≤ 600 ∧ c5 = c9 ∧ 0 ≤ c6 ∧ c6 ≤ 4 ∧ (¬ c6 = 0 → c8 < c9) from by omega) (show 0 ≤ (fi 14) ∧ (fi 14) < 7 from by omega)) (cwV 1 hts (gz [.methodLink RX10 312 yX10_readThing, .instanceMethod yX10_readThing, .selects RX10 yX10_readThing yX10_readThing, .initialized RX10] (.code yX10_readThing cX10_readThing 3 none) [(19, 7), (19, 8), (19, 9), (0, 5), (19, 10)] rfl) rfl rfl rfl (by decide +kernel) ⟨Nat.le_of_ble_eq_true rfl, Nat.le_of_ble_eq_true rfl⟩) (cr_preV (EZ_ok k) hZ hS hX hP hD hA (ci := 7) (q0 := 0) rfl rfl) rfl rfl hl.1 rfl (lv_room (Nat.le_of_ble_eq_true rfl)) dX10_readClause_156 ⟨Nat.le_of_ble_eq_true rfl, Nat.le_of_ble_eq_true rfl⟩) hD hS hA (fun u H locs hp hP hD hS => ?_)
          obtain ⟨c32, c33, c34, c35, c36, c37, c38, c39, c40, c41, c42, c43⟩ := u
          obtain ⟨hP, hD⟩ : va_P G vwCl (wM k ar (uF (uF (uF (uF (uF (uF (uF (uF fi 14 (c36)) 18 (c37)) 20 (c38)) 21 (c39)) 22 (c40)) 23 (c41)) 24 (c42)) 25 (c43)) (uF (uF (uF (uF fa 4 (c32)) 5 (c33)) 6 (c34)) 7 (c35)) fl) H ∧ va_D A (wM k ar (uF (uF (uF (uF (uF (uF (uF (uF fi 14 (c36)) 18 (c37)) 20 (c38)) 21 (c39)) 22 (c40)) 23 (c41)) 24 (c42)) 25 (c43)) (uF (uF (uF (uF fa 4 (c32)) 5 (c33)) 6 (c34)) 7 (c35)) fl) := ⟨hP, hD⟩
          obtain ⟨rc32, rc33, rc34, rc35, rc36, rc37, rc38, rc39, rc40, rc41, rc42, rc43, hp43⟩ : (∀ t, inR (c32 t)) ∧ (∀ t, inR (c33 t)) ∧ (∀ t, inR (c34 t)) ∧ (∀ t, inR (c35 t)) ∧ (inR c36) ∧ (inR c37) ∧ (inR c38) ∧ (inR c39) ∧ (inR c40) ∧ (inR c41) ∧ (inR c42) ∧ (inR c43) ∧ ((0 ≤ c40 ∧ c40 ≤ c41 ∧ c41 ≤ (fi 19) ∧ (fi 19) ≤ 600 ∧ c37 = c41 ∧ 0 ≤ c38 ∧ c38 ≤ 4 ∧ (¬ c38 = 0 → c40 < c41)) ∧ c8 ≤ c40 ∧ (c42 = 0 → n24_2 = 0) ∧ c36 = (fi 14) + 1) := hp
          have cF : (0 ≤ c40 ∧ c40 ≤ c41 ∧ c41 ≤ fi 19 ∧ fi 19 ≤ 600 ∧ c37 = c41 ∧ 0 ≤ c38 ∧ c38 ≤ 4 ∧ (¬ c38 = 0 → c40 < c41)) ∧ fi 22 ≤ c40 ∧ c36 = fi 14 + 1 ∧ fi 14 ≤ 6 := by omega
          clear cE hp43
          refine lv_goto (tgt := 207) hx hb dX10_readClause_159 (by decide) ?_
          refine lv_aload_n hx hb dX10_readClause_207 rfl (lv_at hl 1 rfl) ?_
          refine lv_bipush (v := Int32.ofInt 59) hx hb dX10_readClause_208 (by decide +kernel) ?_
          refine cr_v (va_runV (As := [.int (Int32.ofInt (59))]) (rest := []) ⟨hx, hb, hml, hown, hts⟩ (mX10_mark l G k ar (uF (uF (uF (uF (uF (uF (uF (uF fi 14 (c36)) 18 (c37)) 20 (c38)) 21 (c39)) 22 (c40)) 23 (c41)) 24 (c42)) 25 (c43)) (uF (uF (uF (uF fa 4 (c32)) 5 (c33)) 6 (c34)) 7 (c35)) fl 59 H.size (iF (iF (iF (iF (iF (iF (iF (iF hR (by omega)) (by omega)) (by omega)) (by omega)) (by omega)) (by omega)) (by omega)) (by omega)) (iG (iG (iG (iG hRa rc32) rc33) rc34) rc35) (by omega) (show 0 ≤ c40 ∧ c40 ≤ c41 ∧ c41 ≤ (fi 19) ∧ (fi 19) ≤ 600 ∧ c37 = c41 ∧ 0 ≤ c38 ∧ c38 ≤ 4 ∧ (¬ c38 = 0 → c40 < c41) from by omega)) (cwV 1 hts (gz [.methodLink RX10 263 yX10_mark, .instanceMethod yX10_mark, .selects RX10 yX10_mark yX10_mark, .initialized RX10] (.code yX10_mark cX10_mark 2 none) [(20, 19), (20, 20), (20, 21), (0, 5), (20, 22)] rfl) rfl rfl rfl (by decide +kernel) ⟨Nat.le_of_ble_eq_true rfl, Nat.le_of_ble_eq_true rfl⟩) (cr_preV (EZ_ok k) hZ hS hX hP hD hA (ci := 7) (q0 := 0) rfl rfl) rfl rfl hl.1 rfl (lv_room (Nat.le_of_ble_eq_true rfl)) dX10_readClause_210 ⟨Nat.le_of_ble_eq_true rfl, Nat.le_of_ble_eq_true rfl⟩) hD hS hA (fun u H locs hp hP hD hS => ?_)
          obtain ⟨c44, c45, c46, c47, c48, c49, c50⟩ := u
          obtain ⟨hP, hD⟩ : va_P G vwCl (wM k ar (uF (uF (uF (uF (uF (uF (uF (uF fi 14 (c36)) 18 (c44)) 20 (c45)) 21 (c46)) 22 (c47)) 23 (c48)) 24 (c49)) 25 (c50)) (uF (uF (uF (uF fa 4 (c32)) 5 (c33)) 6 (c34)) 7 (c35)) fl) H ∧ va_D A (wM k ar (uF (uF (uF (uF (uF (uF (uF (uF fi 14 (c36)) 18 (c44)) 20 (c45)) 21 (c46)) 22 (c47)) 23 (c48)) 24 (c49)) 25 (c50)) (uF (uF (uF (uF fa 4 (c32)) 5 (c33)) 6 (c34)) 7 (c35)) fl) := ⟨hP, hD⟩
          obtain ⟨rc44, rc45, rc46, rc47, rc48, rc49, rc50, hp50⟩ : (inR c44) ∧ (inR c45) ∧ (inR c46) ∧ (inR c47) ∧ (inR c48) ∧ (inR c49) ∧ (inR c50) ∧ ((0 ≤ c47 ∧ c47 ≤ c48 ∧ c48 ≤ (fi 19) ∧ (fi 19) ≤ 600 ∧ c44 = c48 ∧ 0 ≤ c45 ∧ c45 ≤ 4 ∧ (¬ c45 = 0 → c47 < c48)) ∧ c40 ≤ c47 ∧ (c49 = 0 → c42 = 0 ∧ c40 < c47)) := hp
          refine lv_iload_n hx hb dX10_readClause_213 rfl (lv_at hl 2 rfl) ?_
          refine lv_iconst (v := Int32.ofInt 1) hx hb dX10_readClause_214 (by decide +kernel) ?_
          refine lv_iload_n hx hb dX10_readClause_215 rfl (lv_at hl 0 rfl) ?_
          refine iv_shl hx hb dX10_readClause_216 ?_
          refine iv_top (fun z51 ez51 => ?_)
          have rz51 : inR z51 := ez51 ▸ bShl_r _ _
          refine iv_or hx hb dX10_readClause_217 ?_
          refine iv_top (fun z52 ez52 => ?_)
          have rz52 : inR z52 := ez52 ▸ bOr_r _ _
          exact W.iret (v := Int32.ofInt (z52)) hx hb hr (fun t ht hW => ⟨⟨Int32.ofInt (z52), (z52, fa 3, c32, c33, c34, c35, fa 8, fa 9, fa 10, c36, fi 15, c44, c45, c46, c47, c48, c49, c50, fi 27), rfl, ⟨rfl, (show (inR z52) ∧ (∀ t, inR ((fa 3) t)) ∧ (∀ t, inR (c32 t)) ∧ (∀ t, inR (c33 t)) ∧ (∀ t, inR (c34 t)) ∧ (∀ t, inR (c35 t)) ∧ (∀ t, inR ((fa 8) t)) ∧ (∀ t, inR ((fa 9) t)) ∧ (∀ t, inR ((fa 10) t)) ∧ (inR c36) ∧ (inR (fi 15)) ∧ (inR c44) ∧ (inR c45) ∧ (inR c46) ∧ (inR c47) ∧ (inR c48) ∧ (inR c49) ∧ (inR c50) ∧ (inR (fi 27)) ∧ (((0 ≤ c47 ∧ c47 ≤ c48 ∧ c48 ≤ fi 19 ∧ fi 19 ≤ 600 ∧ c44 = c48 ∧ 0 ≤ c45 ∧ c45 ≤ 4 ∧ (¬ c45 = 0 → c47 < c48)) ∧ fi 22 ≤ c47 ∧ (c49 = 0 → fi 22 < c47) ∧ 0 ≤ (fi 27) ∧ (fi 27) ≤ 600 ∧ (c49 = 0 → (fi 27) ≤ c47) ∧ 0 ≤ c36 ∧ c36 ≤ 7 ∧ 0 ≤ (fi 15) ∧ (fi 15) ≤ 4 ∧ (c49 = 0 → 0 ≤ (fa 3) 7 ∧ (fa 3) 7 ≤ 11) ∧ (fa 3) 0 = fa 3 0) ∧ (c49 = 0 → ∀ q9, 0 ≤ q9 → q9 < (fi 15) → RWu (fa 10) ((fa 8) (4 + q9)) ((fa 9) (4 + q9)) (fi 27)) ∧ (∀ t, t < 4 → (fa 8) t = fa 8 t) ∧ (∀ t, t < 4 → (fa 9) t = fa 9 t) ∧ (∀ t, t < 600 → (fa 10) t = fa 10 t)) from ⟨(by omega), (hRa 3), rc32, rc33, rc34, rc35, (hRa 8), (hRa 9), (hRa 10), (by omega), (hR 15), (by omega), (by omega), (by omega), (by omega), (by omega), (by omega), (by omega), (hR 27), (by first | exact ⟨by omega, fun h0 => absurd h0 (by omega), fun t _ => rfl, fun t _ => rfl, fun t _ => rfl⟩ | exact ⟨by omega, fun h0 => hRR, fun t _ => rfl, fun t _ => rfl, fun t _ => rfl⟩ | exact ⟨by omega, fun h0 => rr_new hRR (by omega) (by omega) hE2 (by omega) efa 8 efa 9 (hE3 (by omega)), fun t ht => by rw [efa 8, uA_ne (by omega)], fun t ht => by rw [efa 9, uA_ne (by omega)], fun t ht => hE2 t (by omega)⟩)⟩)⟩, by rw [ht]; exact hP, hD⟩, hS.F ht⟩) hS.2.2 dX10_readClause_218
      · refine lv_aload_n hx hb dX10_readClause_119 rfl (lv_at hl 1 rfl) ?_
        refine va_get (D := G) (ci := 7) (v := .ref (ar 3)) (C := RX10) (T := TX10) (N := 71) (ref := RX10) hx hb hts h1w hown hX.1 hP 0 rfl rfl 3 (by decide) h7w (fun _ h9 => h9) rfl dX10_readClause_120 ?_
        refine lv_bipush (v := Int32.ofInt 7) hx hb dX10_readClause_123 (by decide +kernel) ?_
        refine lv_iload_n hx hb dX10_readClause_125 rfl (lv_at hl 0 rfl) ?_
        refine iv_add (x := 7) (y := c1) hx hb dX10_readClause_126 ?_
        refine lv_aload_n hx hb dX10_readClause_127 rfl (lv_at hl 1 rfl) ?_
        refine lv_aload_n hx hb dX10_readClause_128 rfl (lv_at hl 1 rfl) ?_
        refine lv_iload_n hx hb dX10_readClause_129 rfl (lv_at hl 0 rfl) ?_
        refine cr_i (va_runV (As := [.int (Int32.ofInt (c1))]) (rest := [.ref (ar 71), .int (Int32.ofInt ((7 + c1))), .ref (ar 3)]) ⟨hx, hb, hml, hown, hts⟩ (mX10_leastOf l G k ar (uF (uF (uF (uF (uF (uF (uF fi 18 (c5)) 20 (c6)) 21 (c7)) 22 (c8)) 23 (c9)) 24 (n24_2)) 25 (n25_3)) fa fl c1 H.size (iF (iF (iF (iF (iF (iF (iF hR (by omega)) (by omega)) (by omega)) (by omega)) (by omega)) (by omega)) (by omega)) hRa (by omega)) (cwV 1 hts (gz [.methodLink RX10 306 yX10_leastOf, .instanceMethod yX10_leastOf, .selects RX10 yX10_leastOf yX10_leastOf, .initialized RX10] (.code yX10_leastOf cX10_leastOf 2 (some .int)) [(18, 19), (18, 20), (18, 21), (0, 5), (18, 22)] rfl) rfl rfl rfl (by decide +kernel) ⟨Nat.le_of_ble_eq_true rfl, Nat.le_of_ble_eq_true rfl⟩) (cr_preV (EZ_ok k) hZ hS hX hP hD hA (ci := 7) (q0 := 0) rfl rfl) rfl rfl hl.1 rfl (lv_room (Nat.le_of_ble_eq_true rfl)) dX10_readClause_130 ⟨Nat.le_of_ble_eq_true rfl, Nat.le_of_ble_eq_true rfl⟩) hD hS hA (fun r u H locs hp hP hD hS => ?_)
        obtain ⟨c53, rfl⟩ : ∃ z, z = u := ⟨_, rfl⟩
        obtain ⟨h9, rc53, hp53⟩ : r = Int32.ofInt c53 ∧ (inR c53) ∧ ((c53 = 0 ∨ c53 = 1) ∧ (c1 = 0 → c53 = 1)) := hp
        subst h9
        have hl9 := hp53
        clear hp53
        refine lv_aload_n hx hb dX10_readClause_133 rfl (lv_at hl 1 rfl) ?_
        refine lv_iload_n hx hb dX10_readClause_134 rfl (lv_at hl 0 rfl) ?_
        refine cr_i (va_runV (As := [.int (Int32.ofInt (c1))]) (rest := [.int (Int32.ofInt (c53)), .ref (ar 71), .int (Int32.ofInt ((7 + c1))), .ref (ar 3)]) ⟨hx, hb, hml, hown, hts⟩ (mX10_topOf l G k ar (uF (uF (uF (uF (uF (uF (uF fi 18 (c5)) 20 (c6)) 21 (c7)) 22 (c8)) 23 (c9)) 24 (n24_2)) 25 (n25_3)) fa fl c1 H.size (iF (iF (iF (iF (iF (iF (iF hR (by omega)) (by omega)) (by omega)) (by omega)) (by omega)) (by omega)) (by omega)) hRa (by omega)) (cwV 1 hts (gz [.methodLink RX10 309 yX10_topOf, .instanceMethod yX10_topOf, .selects RX10 yX10_topOf yX10_topOf, .initialized RX10] (.code yX10_topOf cX10_topOf 2 (some .int)) [(18, 23), (19, 0), (19, 1), (0, 5), (19, 2)] rfl) rfl rfl rfl (by decide +kernel) ⟨Nat.le_of_ble_eq_true rfl, Nat.le_of_ble_eq_true rfl⟩) (cr_preV (EZ_ok k) hZ hS hX hP hD hA (ci := 7) (q0 := 0) rfl rfl) rfl rfl hl.1 rfl (lv_room (Nat.le_of_ble_eq_true rfl)) dX10_readClause_135 ⟨Nat.le_of_ble_eq_true rfl, Nat.le_of_ble_eq_true rfl⟩) hD hS hA (fun r u H locs hp hP hD hS => ?_)
        obtain ⟨c54, rfl⟩ : ∃ z, z = u := ⟨_, rfl⟩
        obtain ⟨h9, rc54, hp54⟩ : r = Int32.ofInt c54 ∧ (inR c54) ∧ (c1 = 0 → c54 = 11) := hp
        subst h9
        have ht9 := hp54
        clear hp54
        refine cr_i (va_runV (As := [.int (Int32.ofInt (c53)), .int (Int32.ofInt (c54))]) (rest := [.int (Int32.ofInt ((7 + c1))), .ref (ar 3)]) ⟨hx, hb, hml, hown, hts⟩ (mX10_readNumber l G k ar (uF (uF (uF (uF (uF (uF (uF fi 18 (c5)) 20 (c6)) 21 (c7)) 22 (c8)) 23 (c9)) 24 (n24_2)) 25 (n25_3)) fa fl c53 c54 H.size (iF (iF (iF (iF (iF (iF (iF hR (by omega)) (by omega)) (by omega)) (by omega)) (by omega)) (by omega)) (by omega)) hRa (by omega) (by omega) (show 0 ≤ c8 ∧ c8 ≤ c9 ∧ c9 ≤ (fi 19) ∧ (fi 19) ≤ 600 ∧ c5 = c9 ∧ 0 ≤ c6 ∧ c6 ≤ 4 ∧ (¬ c6 = 0 → c8 < c9) from by omega)) (cwV 2 hts (gz [.methodLink RX10 253 yX10_readNumber, .instanceMethod yX10_readNumber, .selects RX10 yX10_readNumber yX10_readNumber, .initialized RX10] (.code yX10_readNumber cX10_readNumber 4 (some .int)) [(19, 3), (19, 4), (19, 5), (0, 5), (19, 6)] rfl) rfl rfl rfl (by decide +kernel) ⟨Nat.le_of_ble_eq_true rfl, Nat.le_of_ble_eq_true rfl⟩) (cr_preV (EZ_ok k) hZ hS hX hP hD hA (ci := 7) (q0 := 0) rfl rfl) rfl rfl hl.1 rfl (lv_room (Nat.le_of_ble_eq_true rfl)) dX10_readClause_138 ⟨Nat.le_of_ble_eq_true rfl, Nat.le_of_ble_eq_true rfl⟩) hD hS hA (fun r u H locs hp hP hD hS => ?_)
        obtain ⟨c55, c56, c57, c58, c59, c60, c61, c62⟩ := u
        obtain ⟨hP, hD⟩ : va_P G vwCl (wM k ar (uF (uF (uF (uF (uF (uF (uF fi 18 (c56)) 20 (c57)) 21 (c58)) 22 (c59)) 23 (c60)) 24 (c61)) 25 (c62)) fa fl) H ∧ va_D A (wM k ar (uF (uF (uF (uF (uF (uF (uF fi 18 (c56)) 20 (c57)) 21 (c58)) 22 (c59)) 23 (c60)) 24 (c61)) 25 (c62)) fa fl) := ⟨hP, hD⟩
        obtain ⟨h9, rc55, rc56, rc57, rc58, rc59, rc60, rc61, rc62, hp62⟩ : r = Int32.ofInt c55 ∧ (inR c55) ∧ (inR c56) ∧ (inR c57) ∧ (inR c58) ∧ (inR c59) ∧ (inR c60) ∧ (inR c61) ∧ (inR c62) ∧ ((0 ≤ c59 ∧ c59 ≤ c60 ∧ c60 ≤ (fi 19) ∧ (fi 19) ≤ 600 ∧ c56 = c60 ∧ 0 ≤ c57 ∧ c57 ≤ 4 ∧ (¬ c57 = 0 → c59 < c60)) ∧ c8 ≤ c59 ∧ (c61 = 0 → n24_2 = 0 ∧ c8 < c59 ∧ c53 ≤ c55 ∧ c55 ≤ c54)) := hp
        subst h9
        have cF : (0 ≤ c59 ∧ c59 ≤ c60 ∧ c60 ≤ fi 19 ∧ fi 19 ≤ 600 ∧ c56 = c60 ∧ 0 ≤ c57 ∧ c57 ≤ 4 ∧ (¬ c57 = 0 → c59 < c60)) ∧ fi 22 ≤ c59 ∧ 0 ≤ c1 ∧ c1 ≤ 6 ∧ (c61 = 0 → c1 = 0 → 0 ≤ c55 ∧ c55 ≤ 11) := by omega
        clear cE hl9 ht9 hp62
        have q3 := uA_at (fa 3) (7 + c1) c55 7
        have q5 := uA_at (fa 3) (7 + c1) c55 0
        refine iv_iast hx hb hX.1 hP hD hS 1 0 rfl rfl (wM_A3 _ _ _ _ _) (by omega) (by omega) (by decide) dX10_readClause_141 (fun H locs hP hD hS => ?_)
        obtain ⟨g63, eg63, rg63⟩ : ∃ z, z = uA (fa 3) ((7 + c1)) (c55) ∧ ∀ t, inR (z t) := ⟨_, rfl, iU (hRa 3) (by omega)⟩
        rw [← eg63] at hP hD
        have q4 := congrFun eg63 7
        have q6 := congrFun eg63 0
        have cG : g63 0 = fa 3 0 ∧ (c61 = 0 → 0 ≤ g63 7 ∧ g63 7 ≤ 11) := by omega
        clear q3 q4 q5 q6
        refine lv_goto (tgt := 207) hx hb dX10_readClause_142 (by decide) ?_
        refine lv_aload_n hx hb dX10_readClause_207 rfl (lv_at hl 1 rfl) ?_
        refine lv_bipush (v := Int32.ofInt 59) hx hb dX10_readClause_208 (by decide +kernel) ?_
        refine cr_v (va_runV (As := [.int (Int32.ofInt (59))]) (rest := []) ⟨hx, hb, hml, hown, hts⟩ (mX10_mark l G k ar (uF (uF (uF (uF (uF (uF (uF fi 18 (c56)) 20 (c57)) 21 (c58)) 22 (c59)) 23 (c60)) 24 (c61)) 25 (c62)) (uF fa 3 (g63)) fl 59 H.size (iF (iF (iF (iF (iF (iF (iF hR (by omega)) (by omega)) (by omega)) (by omega)) (by omega)) (by omega)) (by omega)) (iG hRa rg63) (by omega) (show 0 ≤ c59 ∧ c59 ≤ c60 ∧ c60 ≤ (fi 19) ∧ (fi 19) ≤ 600 ∧ c56 = c60 ∧ 0 ≤ c57 ∧ c57 ≤ 4 ∧ (¬ c57 = 0 → c59 < c60) from by omega)) (cwV 1 hts (gz [.methodLink RX10 263 yX10_mark, .instanceMethod yX10_mark, .selects RX10 yX10_mark yX10_mark, .initialized RX10] (.code yX10_mark cX10_mark 2 none) [(20, 19), (20, 20), (20, 21), (0, 5), (20, 22)] rfl) rfl rfl rfl (by decide +kernel) ⟨Nat.le_of_ble_eq_true rfl, Nat.le_of_ble_eq_true rfl⟩) (cr_preV (EZ_ok k) hZ hS hX hP hD hA (ci := 7) (q0 := 0) rfl rfl) rfl rfl hl.1 rfl (lv_room (Nat.le_of_ble_eq_true rfl)) dX10_readClause_210 ⟨Nat.le_of_ble_eq_true rfl, Nat.le_of_ble_eq_true rfl⟩) hD hS hA (fun u H locs hp hP hD hS => ?_)
        obtain ⟨c64, c65, c66, c67, c68, c69, c70⟩ := u
        obtain ⟨hP, hD⟩ : va_P G vwCl (wM k ar (uF (uF (uF (uF (uF (uF (uF fi 18 (c64)) 20 (c65)) 21 (c66)) 22 (c67)) 23 (c68)) 24 (c69)) 25 (c70)) (uF fa 3 (g63)) fl) H ∧ va_D A (wM k ar (uF (uF (uF (uF (uF (uF (uF fi 18 (c64)) 20 (c65)) 21 (c66)) 22 (c67)) 23 (c68)) 24 (c69)) 25 (c70)) (uF fa 3 (g63)) fl) := ⟨hP, hD⟩
        obtain ⟨rc64, rc65, rc66, rc67, rc68, rc69, rc70, hp70⟩ : (inR c64) ∧ (inR c65) ∧ (inR c66) ∧ (inR c67) ∧ (inR c68) ∧ (inR c69) ∧ (inR c70) ∧ ((0 ≤ c67 ∧ c67 ≤ c68 ∧ c68 ≤ (fi 19) ∧ (fi 19) ≤ 600 ∧ c64 = c68 ∧ 0 ≤ c65 ∧ c65 ≤ 4 ∧ (¬ c65 = 0 → c67 < c68)) ∧ c59 ≤ c67 ∧ (c69 = 0 → c61 = 0 ∧ c59 < c67)) := hp
        refine lv_iload_n hx hb dX10_readClause_213 rfl (lv_at hl 2 rfl) ?_
        refine lv_iconst (v := Int32.ofInt 1) hx hb dX10_readClause_214 (by decide +kernel) ?_
        refine lv_iload_n hx hb dX10_readClause_215 rfl (lv_at hl 0 rfl) ?_
        refine iv_shl hx hb dX10_readClause_216 ?_
        refine iv_top (fun z71 ez71 => ?_)
        have rz71 : inR z71 := ez71 ▸ bShl_r _ _
        refine iv_or hx hb dX10_readClause_217 ?_
        refine iv_top (fun z72 ez72 => ?_)
        have rz72 : inR z72 := ez72 ▸ bOr_r _ _
        exact W.iret (v := Int32.ofInt (z72)) hx hb hr (fun t ht hW => ⟨⟨Int32.ofInt (z72), (z72, g63, fa 4, fa 5, fa 6, fa 7, fa 8, fa 9, fa 10, fi 14, fi 15, c64, c65, c66, c67, c68, c69, c70, fi 27), rfl, ⟨rfl, (show (inR z72) ∧ (∀ t, inR (g63 t)) ∧ (∀ t, inR ((fa 4) t)) ∧ (∀ t, inR ((fa 5) t)) ∧ (∀ t, inR ((fa 6) t)) ∧ (∀ t, inR ((fa 7) t)) ∧ (∀ t, inR ((fa 8) t)) ∧ (∀ t, inR ((fa 9) t)) ∧ (∀ t, inR ((fa 10) t)) ∧ (inR (fi 14)) ∧ (inR (fi 15)) ∧ (inR c64) ∧ (inR c65) ∧ (inR c66) ∧ (inR c67) ∧ (inR c68) ∧ (inR c69) ∧ (inR c70) ∧ (inR (fi 27)) ∧ (((0 ≤ c67 ∧ c67 ≤ c68 ∧ c68 ≤ fi 19 ∧ fi 19 ≤ 600 ∧ c64 = c68 ∧ 0 ≤ c65 ∧ c65 ≤ 4 ∧ (¬ c65 = 0 → c67 < c68)) ∧ fi 22 ≤ c67 ∧ (c69 = 0 → fi 22 < c67) ∧ 0 ≤ (fi 27) ∧ (fi 27) ≤ 600 ∧ (c69 = 0 → (fi 27) ≤ c67) ∧ 0 ≤ (fi 14) ∧ (fi 14) ≤ 7 ∧ 0 ≤ (fi 15) ∧ (fi 15) ≤ 4 ∧ (c69 = 0 → 0 ≤ g63 7 ∧ g63 7 ≤ 11) ∧ g63 0 = fa 3 0) ∧ (c69 = 0 → ∀ q9, 0 ≤ q9 → q9 < (fi 15) → RWu (fa 10) ((fa 8) (4 + q9)) ((fa 9) (4 + q9)) (fi 27)) ∧ (∀ t, t < 4 → (fa 8) t = fa 8 t) ∧ (∀ t, t < 4 → (fa 9) t = fa 9 t) ∧ (∀ t, t < 600 → (fa 10) t = fa 10 t)) from ⟨(by omega), rg63, (hRa 4), (hRa 5), (hRa 6), (hRa 7), (hRa 8), (hRa 9), (hRa 10), (hR 14), (hR 15), (by omega), (by omega), (by omega), (by omega), (by omega), (by omega), (by omega), (hR 27), (by first | exact ⟨by omega, fun h0 => absurd h0 (by omega), fun t _ => rfl, fun t _ => rfl, fun t _ => rfl⟩ | exact ⟨by omega, fun h0 => hRR, fun t _ => rfl, fun t _ => rfl, fun t _ => rfl⟩ | exact ⟨by omega, fun h0 => rr_new hRR (by omega) (by omega) hE2 (by omega) efa 8 efa 9 (hE3 (by omega)), fun t ht => by rw [efa 8, uA_ne (by omega)], fun t ht => by rw [efa 9, uA_ne (by omega)], fun t ht => hE2 t (by omega)⟩)⟩)⟩, by rw [ht]; exact hP, hD⟩, hS.F ht⟩) hS.2.2 dX10_readClause_218
    · refine lv_iload_n hx hb dX10_readClause_107 rfl (lv_at hl 2 rfl) ?_
      exact W.iret (v := Int32.ofInt (t0)) hx hb hr (fun t ht hW => ⟨⟨Int32.ofInt (t0), (t0, fa 3, fa 4, fa 5, fa 6, fa 7, fa 8, fa 9, fa 10, fi 14, fi 15, fi 18, fi 20, fi 21, fi 22, fi 23, n24_2, n25_3, fi 27), rfl, ⟨rfl, (show (inR t0) ∧ (∀ t, inR ((fa 3) t)) ∧ (∀ t, inR ((fa 4) t)) ∧ (∀ t, inR ((fa 5) t)) ∧ (∀ t, inR ((fa 6) t)) ∧ (∀ t, inR ((fa 7) t)) ∧ (∀ t, inR ((fa 8) t)) ∧ (∀ t, inR ((fa 9) t)) ∧ (∀ t, inR ((fa 10) t)) ∧ (inR (fi 14)) ∧ (inR (fi 15)) ∧ (inR (fi 18)) ∧ (inR (fi 20)) ∧ (inR (fi 21)) ∧ (inR (fi 22)) ∧ (inR (fi 23)) ∧ (inR n24_2) ∧ (inR n25_3) ∧ (inR (fi 27)) ∧ (((0 ≤ (fi 22) ∧ (fi 22) ≤ (fi 23) ∧ (fi 23) ≤ fi 19 ∧ fi 19 ≤ 600 ∧ (fi 18) = (fi 23) ∧ 0 ≤ (fi 20) ∧ (fi 20) ≤ 4 ∧ (¬ (fi 20) = 0 → (fi 22) < (fi 23))) ∧ fi 22 ≤ (fi 22) ∧ (n24_2 = 0 → fi 22 < (fi 22)) ∧ 0 ≤ (fi 27) ∧ (fi 27) ≤ 600 ∧ (n24_2 = 0 → (fi 27) ≤ (fi 22)) ∧ 0 ≤ (fi 14) ∧ (fi 14) ≤ 7 ∧ 0 ≤ (fi 15) ∧ (fi 15) ≤ 4 ∧ (n24_2 = 0 → 0 ≤ (fa 3) 7 ∧ (fa 3) 7 ≤ 11) ∧ (fa 3) 0 = fa 3 0) ∧ (n24_2 = 0 → ∀ q9, 0 ≤ q9 → q9 < (fi 15) → RWu (fa 10) ((fa 8) (4 + q9)) ((fa 9) (4 + q9)) (fi 27)) ∧ (∀ t, t < 4 → (fa 8) t = fa 8 t) ∧ (∀ t, t < 4 → (fa 9) t = fa 9 t) ∧ (∀ t, t < 600 → (fa 10) t = fa 10 t)) from ⟨(by omega), (hRa 3), (hRa 4), (hRa 5), (hRa 6), (hRa 7), (hRa 8), (hRa 9), (hRa 10), (hR 14), (hR 15), (hR 18), (hR 20), (hR 21), (hR 22), (hR 23), (by omega), (by omega), (hR 27), (by first | exact ⟨by omega, fun h0 => absurd h0 (by omega), fun t _ => rfl, fun t _ => rfl, fun t _ => rfl⟩ | exact ⟨by omega, fun h0 => hRR, fun t _ => rfl, fun t _ => rfl, fun t _ => rfl⟩ | exact ⟨by omega, fun h0 => rr_new hRR (by omega) (by omega) hE2 (by omega) efa 8 efa 9 (hE3 (by omega)), fun t ht => by rw [efa 8, uA_ne (by omega)], fun t ht => by rw [efa 9, uA_ne (by omega)], fun t ht => hE2 t (by omega)⟩)⟩)⟩, by rw [ht]; exact hP, hD⟩, hS.F ht⟩) hS.2.2 dX10_readClause_108
  · refine lv_iload_n hx hb dX10_readClause_9 rfl (lv_at hl 0 rfl) ?_
    refine lv_iconst (v := Int32.ofInt (-1)) hx hb dX10_readClause_10 (by decide +kernel) ?_
    refine iv_icmp_ne (tgt := 22) hx hb (by omega) (by omega) dX10_readClause_11 (by decide) (fun q73 => ?_) (fun q73 => ?_)
    · refine lv_iload_n hx hb dX10_readClause_22 rfl (lv_at hl 0 rfl) ?_
      refine iv_if_ne (tgt := 38) hx hb (by omega) dX10_readClause_23 (by decide) (fun q74 => ?_) (fun q74 => ?_)
      · refine lv_iload_n hx hb dX10_readClause_38 rfl (lv_at hl 0 rfl) ?_
        refine lv_bipush (v := Int32.ofInt 7) hx hb dX10_readClause_39 (by decide +kernel) ?_
        refine iv_icmp_ge (tgt := 61) hx hb (by omega) (by omega) dX10_readClause_41 (by decide) (fun q75 => ?_) (fun q75 => ?_)
        · refine lv_iload_n hx hb dX10_readClause_61 rfl (lv_at hl 0 rfl) ?_
          refine lv_bipush (v := Int32.ofInt 7) hx hb dX10_readClause_62 (by decide +kernel) ?_
          refine lv_bipush (v := Int32.ofInt 10) hx hb dX10_readClause_64 (by decide +kernel) ?_
          refine c0_i (va_runS (As := [.int (Int32.ofInt (c1)), .int (Int32.ofInt (7)), .int (Int32.ofInt (10))]) (rest := []) ⟨hx, hb, hml, hown, hts⟩ (mX10_isIn l G k c1 7 10 H.size (by omega) (by omega) (by omega)) (cwS 3 hts (gz [.methodLink RX10 177 yX10_isIn, .static yX10_isIn, .initialized RX10] (.code yX10_isIn cX10_isIn 3 (some .boolean)) [(18, 16), (18, 17), (0, 5), (18, 18)] rfl) rfl rfl rfl (by decide +kernel) ⟨Nat.le_of_ble_eq_true rfl, Nat.le_of_ble_eq_true rfl⟩) (cr_pre0 (EZ_ok k) hZ hS hX hP hD hA) rfl rfl hl.1 rfl (lv_room (Nat.le_of_ble_eq_true rfl)) dX10_readClause_66 ⟨Nat.le_of_ble_eq_true rfl, Nat.le_of_ble_eq_true rfl⟩) hP hD hS hA (fun r u H locs hp hP hD hS => ?_)
          obtain ⟨c76, rfl⟩ : ∃ z, z = u := ⟨_, rfl⟩
          obtain ⟨h9, rc76, hp76⟩ : r = Int32.ofInt c76 ∧ (inR c76) ∧ ((c76 = 1 ∧ 7 ≤ c1 ∧ c1 ≤ 10) ∨ (c76 = 0 ∧ (c1 < 7 ∨ 10 < c1))) := hp
          subst h9
          refine iv_if_eq (tgt := 81) hx hb (by omega) dX10_readClause_69 (by decide) (fun q77 => ?_) (fun q77 => ?_)
          · refine lv_iload_n hx hb dX10_readClause_81 rfl (lv_at hl 0 rfl) ?_
            refine lv_bipush (v := Int32.ofInt 11) hx hb dX10_readClause_82 (by decide +kernel) ?_
            refine iv_icmp_ne (tgt := 100) hx hb (by omega) (by omega) dX10_readClause_84 (by decide) (fun q78 => ?_) (fun q78 => ?_)
            · have hl : lv_has ls 3 [(2, .int (Int32.ofInt (c1))), (0, .ref (ar 71)), (1, .int (Int32.ofInt (t0)))] := lv_sub hl [0, 1, 2] rfl
              exact J100 (fi 24, fi 25) (show inR (fi 24) ∧ inR (fi 25) ∧ (((fi 24) = 0 → 0 ≤ c1 ∧ c1 ≤ 11 ∧ (7 ≤ c1 → c1 ≤ 10 → ¬ fi 14 = 7) ∧ (c1 = 11 → ¬ fi 15 = 4)) ∧ -1 ≤ c1 ∧ c1 ≤ 11) from ⟨(hR 24), (hR 25), (by omega)⟩) _ _ _ hP hD hS hl
            · refine lv_aload_n hx hb dX10_readClause_87 rfl (lv_at hl 1 rfl) ?_
              refine va_get (D := G) (ci := 7) (v := .int (Int32.ofInt (fi 15))) (C := RX10) (T := TX10) (N := 71) (ref := RX10) hx hb hts h1w hown hX.1 hP 0 rfl rfl 15 (by decide) h4w (fun _ h9 => h9) rfl dX10_readClause_88 ?_
              have rf15 := hR 15
              refine lv_iconst (v := Int32.ofInt 4) hx hb dX10_readClause_91 (by decide +kernel) ?_
              refine iv_icmp_ne (tgt := 100) hx hb (by omega) (by omega) dX10_readClause_92 (by decide) (fun q79 => ?_) (fun q79 => ?_)
              · have hl : lv_has ls 3 [(2, .int (Int32.ofInt (c1))), (0, .ref (ar 71)), (1, .int (Int32.ofInt (t0)))] := lv_sub hl [0, 1, 2] rfl
                exact J100 (fi 24, fi 25) (show inR (fi 24) ∧ inR (fi 25) ∧ (((fi 24) = 0 → 0 ≤ c1 ∧ c1 ≤ 11 ∧ (7 ≤ c1 → c1 ≤ 10 → ¬ fi 14 = 7) ∧ (c1 = 11 → ¬ fi 15 = 4)) ∧ -1 ≤ c1 ∧ c1 ≤ 11) from ⟨(hR 24), (hR 25), (by omega)⟩) _ _ _ hP hD hS hl
              · refine lv_aload_n hx hb dX10_readClause_95 rfl (lv_at hl 1 rfl) ?_
                refine lv_iconst (v := Int32.ofInt 2) hx hb dX10_readClause_96 (by decide +kernel) ?_
                refine cr_v (va_runV (As := [.int (Int32.ofInt (2))]) (rest := []) ⟨hx, hb, hml, hown, hts⟩ (mX10_wrong l G k ar fi fa fl 2 H.size hR hRa (by omega)) (cwV 1 hts (gz [.methodLink RX10 244 yX10_wrong, .instanceMethod yX10_wrong, .selects RX10 yX10_wrong yX10_wrong, .initialized RX10] (.code yX10_wrong cX10_wrong 2 none) [(18, 12), (18, 13), (18, 14), (0, 5), (18, 15)] rfl) rfl rfl rfl (by decide +kernel) ⟨Nat.le_of_ble_eq_true rfl, Nat.le_of_ble_eq_true rfl⟩) (cr_preV (EZ_ok k) hZ hS hX hP hD hA (ci := 7) (q0 := 0) rfl rfl) rfl rfl hl.1 rfl (lv_room (Nat.le_of_ble_eq_true rfl)) dX10_readClause_97 ⟨Nat.le_of_ble_eq_true rfl, Nat.le_of_ble_eq_true rfl⟩) hD hS hA (fun u H locs hp hP hD hS => ?_)
                obtain ⟨c80, c81⟩ := u
                obtain ⟨hP, hD⟩ : va_P G vwCl (wM k ar (uF (uF fi 24 (c80)) 25 (c81)) fa fl) H ∧ va_D A (wM k ar (uF (uF fi 24 (c80)) 25 (c81)) fa fl) := ⟨hP, hD⟩
                obtain ⟨rc80, rc81, hp81⟩ : (inR c80) ∧ (inR c81) ∧ ((¬ (fi 24) = 0 → c80 = (fi 24)) ∧ ((fi 24) = 0 → c80 = 2)) := hp
                have hl : lv_has ls 3 [(2, .int (Int32.ofInt (c1))), (0, .ref (ar 71)), (1, .int (Int32.ofInt (t0)))] := lv_sub hl [0, 1, 2] rfl
                exact J100 (c80, c81) (show inR c80 ∧ inR c81 ∧ ((c80 = 0 → 0 ≤ c1 ∧ c1 ≤ 11 ∧ (7 ≤ c1 → c1 ≤ 10 → ¬ fi 14 = 7) ∧ (c1 = 11 → ¬ fi 15 = 4)) ∧ -1 ≤ c1 ∧ c1 ≤ 11) from ⟨(by omega), (by omega), (by omega)⟩) _ _ _ hP hD hS hl
          · refine lv_aload_n hx hb dX10_readClause_72 rfl (lv_at hl 1 rfl) ?_
            refine va_get (D := G) (ci := 7) (v := .int (Int32.ofInt (fi 14))) (C := RX10) (T := TX10) (N := 71) (ref := RX10) hx hb hts h1w hown hX.1 hP 0 rfl rfl 14 (by decide) h8w (fun _ h9 => h9) rfl dX10_readClause_73 ?_
            have rf14 := hR 14
            refine lv_bipush (v := Int32.ofInt 7) hx hb dX10_readClause_76 (by decide +kernel) ?_
            refine iv_icmp_eq (tgt := 95) hx hb (by omega) (by omega) dX10_readClause_78 (by decide) (fun q82 => ?_) (fun q82 => ?_)
            · refine lv_aload_n hx hb dX10_readClause_95 rfl (lv_at hl 1 rfl) ?_
              refine lv_iconst (v := Int32.ofInt 2) hx hb dX10_readClause_96 (by decide +kernel) ?_
              refine cr_v (va_runV (As := [.int (Int32.ofInt (2))]) (rest := []) ⟨hx, hb, hml, hown, hts⟩ (mX10_wrong l G k ar fi fa fl 2 H.size hR hRa (by omega)) (cwV 1 hts (gz [.methodLink RX10 244 yX10_wrong, .instanceMethod yX10_wrong, .selects RX10 yX10_wrong yX10_wrong, .initialized RX10] (.code yX10_wrong cX10_wrong 2 none) [(18, 12), (18, 13), (18, 14), (0, 5), (18, 15)] rfl) rfl rfl rfl (by decide +kernel) ⟨Nat.le_of_ble_eq_true rfl, Nat.le_of_ble_eq_true rfl⟩) (cr_preV (EZ_ok k) hZ hS hX hP hD hA (ci := 7) (q0 := 0) rfl rfl) rfl rfl hl.1 rfl (lv_room (Nat.le_of_ble_eq_true rfl)) dX10_readClause_97 ⟨Nat.le_of_ble_eq_true rfl, Nat.le_of_ble_eq_true rfl⟩) hD hS hA (fun u H locs hp hP hD hS => ?_)
              obtain ⟨c83, c84⟩ := u
              obtain ⟨hP, hD⟩ : va_P G vwCl (wM k ar (uF (uF fi 24 (c83)) 25 (c84)) fa fl) H ∧ va_D A (wM k ar (uF (uF fi 24 (c83)) 25 (c84)) fa fl) := ⟨hP, hD⟩
              obtain ⟨rc83, rc84, hp84⟩ : (inR c83) ∧ (inR c84) ∧ ((¬ (fi 24) = 0 → c83 = (fi 24)) ∧ ((fi 24) = 0 → c83 = 2)) := hp
              have hl : lv_has ls 3 [(2, .int (Int32.ofInt (c1))), (0, .ref (ar 71)), (1, .int (Int32.ofInt (t0)))] := lv_sub hl [0, 1, 2] rfl
              exact J100 (c83, c84) (show inR c83 ∧ inR c84 ∧ ((c83 = 0 → 0 ≤ c1 ∧ c1 ≤ 11 ∧ (7 ≤ c1 → c1 ≤ 10 → ¬ fi 14 = 7) ∧ (c1 = 11 → ¬ fi 15 = 4)) ∧ -1 ≤ c1 ∧ c1 ≤ 11) from ⟨(by omega), (by omega), (by omega)⟩) _ _ _ hP hD hS hl
            · refine lv_iload_n hx hb dX10_readClause_81 rfl (lv_at hl 0 rfl) ?_
              refine lv_bipush (v := Int32.ofInt 11) hx hb dX10_readClause_82 (by decide +kernel) ?_
              refine iv_icmp_ne (tgt := 100) hx hb (by omega) (by omega) dX10_readClause_84 (by decide) (fun q85 => ?_) (fun q85 => ?_)
              · have hl : lv_has ls 3 [(2, .int (Int32.ofInt (c1))), (0, .ref (ar 71)), (1, .int (Int32.ofInt (t0)))] := lv_sub hl [0, 1, 2] rfl
                exact J100 (fi 24, fi 25) (show inR (fi 24) ∧ inR (fi 25) ∧ (((fi 24) = 0 → 0 ≤ c1 ∧ c1 ≤ 11 ∧ (7 ≤ c1 → c1 ≤ 10 → ¬ fi 14 = 7) ∧ (c1 = 11 → ¬ fi 15 = 4)) ∧ -1 ≤ c1 ∧ c1 ≤ 11) from ⟨(hR 24), (hR 25), (by omega)⟩) _ _ _ hP hD hS hl
              · refine lv_aload_n hx hb dX10_readClause_87 rfl (lv_at hl 1 rfl) ?_
                refine va_get (D := G) (ci := 7) (v := .int (Int32.ofInt (fi 15))) (C := RX10) (T := TX10) (N := 71) (ref := RX10) hx hb hts h1w hown hX.1 hP 0 rfl rfl 15 (by decide) h4w (fun _ h9 => h9) rfl dX10_readClause_88 ?_
                have rf15 := hR 15
                refine lv_iconst (v := Int32.ofInt 4) hx hb dX10_readClause_91 (by decide +kernel) ?_
                refine iv_icmp_ne (tgt := 100) hx hb (by omega) (by omega) dX10_readClause_92 (by decide) (fun q86 => ?_) (fun q86 => ?_)
                · have hl : lv_has ls 3 [(2, .int (Int32.ofInt (c1))), (0, .ref (ar 71)), (1, .int (Int32.ofInt (t0)))] := lv_sub hl [0, 1, 2] rfl
                  exact J100 (fi 24, fi 25) (show inR (fi 24) ∧ inR (fi 25) ∧ (((fi 24) = 0 → 0 ≤ c1 ∧ c1 ≤ 11 ∧ (7 ≤ c1 → c1 ≤ 10 → ¬ fi 14 = 7) ∧ (c1 = 11 → ¬ fi 15 = 4)) ∧ -1 ≤ c1 ∧ c1 ≤ 11) from ⟨(hR 24), (hR 25), (by omega)⟩) _ _ _ hP hD hS hl
                · refine lv_aload_n hx hb dX10_readClause_95 rfl (lv_at hl 1 rfl) ?_
                  refine lv_iconst (v := Int32.ofInt 2) hx hb dX10_readClause_96 (by decide +kernel) ?_
                  refine cr_v (va_runV (As := [.int (Int32.ofInt (2))]) (rest := []) ⟨hx, hb, hml, hown, hts⟩ (mX10_wrong l G k ar fi fa fl 2 H.size hR hRa (by omega)) (cwV 1 hts (gz [.methodLink RX10 244 yX10_wrong, .instanceMethod yX10_wrong, .selects RX10 yX10_wrong yX10_wrong, .initialized RX10] (.code yX10_wrong cX10_wrong 2 none) [(18, 12), (18, 13), (18, 14), (0, 5), (18, 15)] rfl) rfl rfl rfl (by decide +kernel) ⟨Nat.le_of_ble_eq_true rfl, Nat.le_of_ble_eq_true rfl⟩) (cr_preV (EZ_ok k) hZ hS hX hP hD hA (ci := 7) (q0 := 0) rfl rfl) rfl rfl hl.1 rfl (lv_room (Nat.le_of_ble_eq_true rfl)) dX10_readClause_97 ⟨Nat.le_of_ble_eq_true rfl, Nat.le_of_ble_eq_true rfl⟩) hD hS hA (fun u H locs hp hP hD hS => ?_)
                  obtain ⟨c87, c88⟩ := u
                  obtain ⟨hP, hD⟩ : va_P G vwCl (wM k ar (uF (uF fi 24 (c87)) 25 (c88)) fa fl) H ∧ va_D A (wM k ar (uF (uF fi 24 (c87)) 25 (c88)) fa fl) := ⟨hP, hD⟩
                  obtain ⟨rc87, rc88, hp88⟩ : (inR c87) ∧ (inR c88) ∧ ((¬ (fi 24) = 0 → c87 = (fi 24)) ∧ ((fi 24) = 0 → c87 = 2)) := hp
                  have hl : lv_has ls 3 [(2, .int (Int32.ofInt (c1))), (0, .ref (ar 71)), (1, .int (Int32.ofInt (t0)))] := lv_sub hl [0, 1, 2] rfl
                  exact J100 (c87, c88) (show inR c87 ∧ inR c88 ∧ ((c87 = 0 → 0 ≤ c1 ∧ c1 ≤ 11 ∧ (7 ≤ c1 → c1 ≤ 10 → ¬ fi 14 = 7) ∧ (c1 = 11 → ¬ fi 15 = 4)) ∧ -1 ≤ c1 ∧ c1 ≤ 11) from ⟨(by omega), (by omega), (by omega)⟩) _ _ _ hP hD hS hl
        · refine lv_iload_n hx hb dX10_readClause_44 rfl (lv_at hl 2 rfl) ?_
          refine lv_iload_n hx hb dX10_readClause_45 rfl (lv_at hl 0 rfl) ?_
          refine iv_shr hx hb dX10_readClause_46 ?_
          refine iv_top (fun z89 ez89 => ?_)
          have rz89 : inR z89 := ez89 ▸ bShr_r _ _
          refine lv_iconst (v := Int32.ofInt 1) hx hb dX10_readClause_47 (by decide +kernel) ?_
          refine iv_and hx hb dX10_readClause_48 ?_
          refine iv_top (fun z90 ez90 => ?_)
          have rz90 : inR z90 := ez90 ▸ bAnd_r _ _
          refine lv_iconst (v := Int32.ofInt 1) hx hb dX10_readClause_49 (by decide +kernel) ?_
          refine iv_icmp_ne (tgt := 61) hx hb (by omega) (by omega) dX10_readClause_50 (by decide) (fun q91 => ?_) (fun q91 => ?_)
          · refine lv_iload_n hx hb dX10_readClause_61 rfl (lv_at hl 0 rfl) ?_
            refine lv_bipush (v := Int32.ofInt 7) hx hb dX10_readClause_62 (by decide +kernel) ?_
            refine lv_bipush (v := Int32.ofInt 10) hx hb dX10_readClause_64 (by decide +kernel) ?_
            refine c0_i (va_runS (As := [.int (Int32.ofInt (c1)), .int (Int32.ofInt (7)), .int (Int32.ofInt (10))]) (rest := []) ⟨hx, hb, hml, hown, hts⟩ (mX10_isIn l G k c1 7 10 H.size (by omega) (by omega) (by omega)) (cwS 3 hts (gz [.methodLink RX10 177 yX10_isIn, .static yX10_isIn, .initialized RX10] (.code yX10_isIn cX10_isIn 3 (some .boolean)) [(18, 16), (18, 17), (0, 5), (18, 18)] rfl) rfl rfl rfl (by decide +kernel) ⟨Nat.le_of_ble_eq_true rfl, Nat.le_of_ble_eq_true rfl⟩) (cr_pre0 (EZ_ok k) hZ hS hX hP hD hA) rfl rfl hl.1 rfl (lv_room (Nat.le_of_ble_eq_true rfl)) dX10_readClause_66 ⟨Nat.le_of_ble_eq_true rfl, Nat.le_of_ble_eq_true rfl⟩) hP hD hS hA (fun r u H locs hp hP hD hS => ?_)
            obtain ⟨c92, rfl⟩ : ∃ z, z = u := ⟨_, rfl⟩
            obtain ⟨h9, rc92, hp92⟩ : r = Int32.ofInt c92 ∧ (inR c92) ∧ ((c92 = 1 ∧ 7 ≤ c1 ∧ c1 ≤ 10) ∨ (c92 = 0 ∧ (c1 < 7 ∨ 10 < c1))) := hp
            subst h9
            refine iv_if_eq (tgt := 81) hx hb (by omega) dX10_readClause_69 (by decide) (fun q93 => ?_) (fun q93 => ?_)
            · refine lv_iload_n hx hb dX10_readClause_81 rfl (lv_at hl 0 rfl) ?_
              refine lv_bipush (v := Int32.ofInt 11) hx hb dX10_readClause_82 (by decide +kernel) ?_
              refine iv_icmp_ne (tgt := 100) hx hb (by omega) (by omega) dX10_readClause_84 (by decide) (fun q94 => ?_) (fun q94 => ?_)
              · have hl : lv_has ls 3 [(2, .int (Int32.ofInt (c1))), (0, .ref (ar 71)), (1, .int (Int32.ofInt (t0)))] := lv_sub hl [0, 1, 2] rfl
                exact J100 (fi 24, fi 25) (show inR (fi 24) ∧ inR (fi 25) ∧ (((fi 24) = 0 → 0 ≤ c1 ∧ c1 ≤ 11 ∧ (7 ≤ c1 → c1 ≤ 10 → ¬ fi 14 = 7) ∧ (c1 = 11 → ¬ fi 15 = 4)) ∧ -1 ≤ c1 ∧ c1 ≤ 11) from ⟨(hR 24), (hR 25), (by omega)⟩) _ _ _ hP hD hS hl
              · refine lv_aload_n hx hb dX10_readClause_87 rfl (lv_at hl 1 rfl) ?_
                refine va_get (D := G) (ci := 7) (v := .int (Int32.ofInt (fi 15))) (C := RX10) (T := TX10) (N := 71) (ref := RX10) hx hb hts h1w hown hX.1 hP 0 rfl rfl 15 (by decide) h4w (fun _ h9 => h9) rfl dX10_readClause_88 ?_
                have rf15 := hR 15
                refine lv_iconst (v := Int32.ofInt 4) hx hb dX10_readClause_91 (by decide +kernel) ?_
                refine iv_icmp_ne (tgt := 100) hx hb (by omega) (by omega) dX10_readClause_92 (by decide) (fun q95 => ?_) (fun q95 => ?_)
                · have hl : lv_has ls 3 [(2, .int (Int32.ofInt (c1))), (0, .ref (ar 71)), (1, .int (Int32.ofInt (t0)))] := lv_sub hl [0, 1, 2] rfl
                  exact J100 (fi 24, fi 25) (show inR (fi 24) ∧ inR (fi 25) ∧ (((fi 24) = 0 → 0 ≤ c1 ∧ c1 ≤ 11 ∧ (7 ≤ c1 → c1 ≤ 10 → ¬ fi 14 = 7) ∧ (c1 = 11 → ¬ fi 15 = 4)) ∧ -1 ≤ c1 ∧ c1 ≤ 11) from ⟨(hR 24), (hR 25), (by omega)⟩) _ _ _ hP hD hS hl
                · refine lv_aload_n hx hb dX10_readClause_95 rfl (lv_at hl 1 rfl) ?_
                  refine lv_iconst (v := Int32.ofInt 2) hx hb dX10_readClause_96 (by decide +kernel) ?_
                  refine cr_v (va_runV (As := [.int (Int32.ofInt (2))]) (rest := []) ⟨hx, hb, hml, hown, hts⟩ (mX10_wrong l G k ar fi fa fl 2 H.size hR hRa (by omega)) (cwV 1 hts (gz [.methodLink RX10 244 yX10_wrong, .instanceMethod yX10_wrong, .selects RX10 yX10_wrong yX10_wrong, .initialized RX10] (.code yX10_wrong cX10_wrong 2 none) [(18, 12), (18, 13), (18, 14), (0, 5), (18, 15)] rfl) rfl rfl rfl (by decide +kernel) ⟨Nat.le_of_ble_eq_true rfl, Nat.le_of_ble_eq_true rfl⟩) (cr_preV (EZ_ok k) hZ hS hX hP hD hA (ci := 7) (q0 := 0) rfl rfl) rfl rfl hl.1 rfl (lv_room (Nat.le_of_ble_eq_true rfl)) dX10_readClause_97 ⟨Nat.le_of_ble_eq_true rfl, Nat.le_of_ble_eq_true rfl⟩) hD hS hA (fun u H locs hp hP hD hS => ?_)
                  obtain ⟨c96, c97⟩ := u
                  obtain ⟨hP, hD⟩ : va_P G vwCl (wM k ar (uF (uF fi 24 (c96)) 25 (c97)) fa fl) H ∧ va_D A (wM k ar (uF (uF fi 24 (c96)) 25 (c97)) fa fl) := ⟨hP, hD⟩
                  obtain ⟨rc96, rc97, hp97⟩ : (inR c96) ∧ (inR c97) ∧ ((¬ (fi 24) = 0 → c96 = (fi 24)) ∧ ((fi 24) = 0 → c96 = 2)) := hp
                  have hl : lv_has ls 3 [(2, .int (Int32.ofInt (c1))), (0, .ref (ar 71)), (1, .int (Int32.ofInt (t0)))] := lv_sub hl [0, 1, 2] rfl
                  exact J100 (c96, c97) (show inR c96 ∧ inR c97 ∧ ((c96 = 0 → 0 ≤ c1 ∧ c1 ≤ 11 ∧ (7 ≤ c1 → c1 ≤ 10 → ¬ fi 14 = 7) ∧ (c1 = 11 → ¬ fi 15 = 4)) ∧ -1 ≤ c1 ∧ c1 ≤ 11) from ⟨(by omega), (by omega), (by omega)⟩) _ _ _ hP hD hS hl
            · refine lv_aload_n hx hb dX10_readClause_72 rfl (lv_at hl 1 rfl) ?_
              refine va_get (D := G) (ci := 7) (v := .int (Int32.ofInt (fi 14))) (C := RX10) (T := TX10) (N := 71) (ref := RX10) hx hb hts h1w hown hX.1 hP 0 rfl rfl 14 (by decide) h8w (fun _ h9 => h9) rfl dX10_readClause_73 ?_
              have rf14 := hR 14
              refine lv_bipush (v := Int32.ofInt 7) hx hb dX10_readClause_76 (by decide +kernel) ?_
              refine iv_icmp_eq (tgt := 95) hx hb (by omega) (by omega) dX10_readClause_78 (by decide) (fun q98 => ?_) (fun q98 => ?_)
              · refine lv_aload_n hx hb dX10_readClause_95 rfl (lv_at hl 1 rfl) ?_
                refine lv_iconst (v := Int32.ofInt 2) hx hb dX10_readClause_96 (by decide +kernel) ?_
                refine cr_v (va_runV (As := [.int (Int32.ofInt (2))]) (rest := []) ⟨hx, hb, hml, hown, hts⟩ (mX10_wrong l G k ar fi fa fl 2 H.size hR hRa (by omega)) (cwV 1 hts (gz [.methodLink RX10 244 yX10_wrong, .instanceMethod yX10_wrong, .selects RX10 yX10_wrong yX10_wrong, .initialized RX10] (.code yX10_wrong cX10_wrong 2 none) [(18, 12), (18, 13), (18, 14), (0, 5), (18, 15)] rfl) rfl rfl rfl (by decide +kernel) ⟨Nat.le_of_ble_eq_true rfl, Nat.le_of_ble_eq_true rfl⟩) (cr_preV (EZ_ok k) hZ hS hX hP hD hA (ci := 7) (q0 := 0) rfl rfl) rfl rfl hl.1 rfl (lv_room (Nat.le_of_ble_eq_true rfl)) dX10_readClause_97 ⟨Nat.le_of_ble_eq_true rfl, Nat.le_of_ble_eq_true rfl⟩) hD hS hA (fun u H locs hp hP hD hS => ?_)
                obtain ⟨c99, c100⟩ := u
                obtain ⟨hP, hD⟩ : va_P G vwCl (wM k ar (uF (uF fi 24 (c99)) 25 (c100)) fa fl) H ∧ va_D A (wM k ar (uF (uF fi 24 (c99)) 25 (c100)) fa fl) := ⟨hP, hD⟩
                obtain ⟨rc99, rc100, hp100⟩ : (inR c99) ∧ (inR c100) ∧ ((¬ (fi 24) = 0 → c99 = (fi 24)) ∧ ((fi 24) = 0 → c99 = 2)) := hp
                have hl : lv_has ls 3 [(2, .int (Int32.ofInt (c1))), (0, .ref (ar 71)), (1, .int (Int32.ofInt (t0)))] := lv_sub hl [0, 1, 2] rfl
                exact J100 (c99, c100) (show inR c99 ∧ inR c100 ∧ ((c99 = 0 → 0 ≤ c1 ∧ c1 ≤ 11 ∧ (7 ≤ c1 → c1 ≤ 10 → ¬ fi 14 = 7) ∧ (c1 = 11 → ¬ fi 15 = 4)) ∧ -1 ≤ c1 ∧ c1 ≤ 11) from ⟨(by omega), (by omega), (by omega)⟩) _ _ _ hP hD hS hl
              · refine lv_iload_n hx hb dX10_readClause_81 rfl (lv_at hl 0 rfl) ?_
                refine lv_bipush (v := Int32.ofInt 11) hx hb dX10_readClause_82 (by decide +kernel) ?_
                refine iv_icmp_ne (tgt := 100) hx hb (by omega) (by omega) dX10_readClause_84 (by decide) (fun q101 => ?_) (fun q101 => ?_)
                · have hl : lv_has ls 3 [(2, .int (Int32.ofInt (c1))), (0, .ref (ar 71)), (1, .int (Int32.ofInt (t0)))] := lv_sub hl [0, 1, 2] rfl
                  exact J100 (fi 24, fi 25) (show inR (fi 24) ∧ inR (fi 25) ∧ (((fi 24) = 0 → 0 ≤ c1 ∧ c1 ≤ 11 ∧ (7 ≤ c1 → c1 ≤ 10 → ¬ fi 14 = 7) ∧ (c1 = 11 → ¬ fi 15 = 4)) ∧ -1 ≤ c1 ∧ c1 ≤ 11) from ⟨(hR 24), (hR 25), (by omega)⟩) _ _ _ hP hD hS hl
                · refine lv_aload_n hx hb dX10_readClause_87 rfl (lv_at hl 1 rfl) ?_
                  refine va_get (D := G) (ci := 7) (v := .int (Int32.ofInt (fi 15))) (C := RX10) (T := TX10) (N := 71) (ref := RX10) hx hb hts h1w hown hX.1 hP 0 rfl rfl 15 (by decide) h4w (fun _ h9 => h9) rfl dX10_readClause_88 ?_
                  have rf15 := hR 15
                  refine lv_iconst (v := Int32.ofInt 4) hx hb dX10_readClause_91 (by decide +kernel) ?_
                  refine iv_icmp_ne (tgt := 100) hx hb (by omega) (by omega) dX10_readClause_92 (by decide) (fun q102 => ?_) (fun q102 => ?_)
                  · have hl : lv_has ls 3 [(2, .int (Int32.ofInt (c1))), (0, .ref (ar 71)), (1, .int (Int32.ofInt (t0)))] := lv_sub hl [0, 1, 2] rfl
                    exact J100 (fi 24, fi 25) (show inR (fi 24) ∧ inR (fi 25) ∧ (((fi 24) = 0 → 0 ≤ c1 ∧ c1 ≤ 11 ∧ (7 ≤ c1 → c1 ≤ 10 → ¬ fi 14 = 7) ∧ (c1 = 11 → ¬ fi 15 = 4)) ∧ -1 ≤ c1 ∧ c1 ≤ 11) from ⟨(hR 24), (hR 25), (by omega)⟩) _ _ _ hP hD hS hl
                  · refine lv_aload_n hx hb dX10_readClause_95 rfl (lv_at hl 1 rfl) ?_
                    refine lv_iconst (v := Int32.ofInt 2) hx hb dX10_readClause_96 (by decide +kernel) ?_
                    refine cr_v (va_runV (As := [.int (Int32.ofInt (2))]) (rest := []) ⟨hx, hb, hml, hown, hts⟩ (mX10_wrong l G k ar fi fa fl 2 H.size hR hRa (by omega)) (cwV 1 hts (gz [.methodLink RX10 244 yX10_wrong, .instanceMethod yX10_wrong, .selects RX10 yX10_wrong yX10_wrong, .initialized RX10] (.code yX10_wrong cX10_wrong 2 none) [(18, 12), (18, 13), (18, 14), (0, 5), (18, 15)] rfl) rfl rfl rfl (by decide +kernel) ⟨Nat.le_of_ble_eq_true rfl, Nat.le_of_ble_eq_true rfl⟩) (cr_preV (EZ_ok k) hZ hS hX hP hD hA (ci := 7) (q0 := 0) rfl rfl) rfl rfl hl.1 rfl (lv_room (Nat.le_of_ble_eq_true rfl)) dX10_readClause_97 ⟨Nat.le_of_ble_eq_true rfl, Nat.le_of_ble_eq_true rfl⟩) hD hS hA (fun u H locs hp hP hD hS => ?_)
                    obtain ⟨c103, c104⟩ := u
                    obtain ⟨hP, hD⟩ : va_P G vwCl (wM k ar (uF (uF fi 24 (c103)) 25 (c104)) fa fl) H ∧ va_D A (wM k ar (uF (uF fi 24 (c103)) 25 (c104)) fa fl) := ⟨hP, hD⟩
                    obtain ⟨rc103, rc104, hp104⟩ : (inR c103) ∧ (inR c104) ∧ ((¬ (fi 24) = 0 → c103 = (fi 24)) ∧ ((fi 24) = 0 → c103 = 2)) := hp
                    have hl : lv_has ls 3 [(2, .int (Int32.ofInt (c1))), (0, .ref (ar 71)), (1, .int (Int32.ofInt (t0)))] := lv_sub hl [0, 1, 2] rfl
                    exact J100 (c103, c104) (show inR c103 ∧ inR c104 ∧ ((c103 = 0 → 0 ≤ c1 ∧ c1 ≤ 11 ∧ (7 ≤ c1 → c1 ≤ 10 → ¬ fi 14 = 7) ∧ (c1 = 11 → ¬ fi 15 = 4)) ∧ -1 ≤ c1 ∧ c1 ≤ 11) from ⟨(by omega), (by omega), (by omega)⟩) _ _ _ hP hD hS hl
          · refine lv_aload_n hx hb dX10_readClause_53 rfl (lv_at hl 1 rfl) ?_
            refine lv_iconst (v := Int32.ofInt 5) hx hb dX10_readClause_54 (by decide +kernel) ?_
            refine cr_v (va_runV (As := [.int (Int32.ofInt (5))]) (rest := []) ⟨hx, hb, hml, hown, hts⟩ (mX10_wrong l G k ar fi fa fl 5 H.size hR hRa (by omega)) (cwV 1 hts (gz [.methodLink RX10 244 yX10_wrong, .instanceMethod yX10_wrong, .selects RX10 yX10_wrong yX10_wrong, .initialized RX10] (.code yX10_wrong cX10_wrong 2 none) [(18, 12), (18, 13), (18, 14), (0, 5), (18, 15)] rfl) rfl rfl rfl (by decide +kernel) ⟨Nat.le_of_ble_eq_true rfl, Nat.le_of_ble_eq_true rfl⟩) (cr_preV (EZ_ok k) hZ hS hX hP hD hA (ci := 7) (q0 := 0) rfl rfl) rfl rfl hl.1 rfl (lv_room (Nat.le_of_ble_eq_true rfl)) dX10_readClause_55 ⟨Nat.le_of_ble_eq_true rfl, Nat.le_of_ble_eq_true rfl⟩) hD hS hA (fun u H locs hp hP hD hS => ?_)
            obtain ⟨c105, c106⟩ := u
            obtain ⟨hP, hD⟩ : va_P G vwCl (wM k ar (uF (uF fi 24 (c105)) 25 (c106)) fa fl) H ∧ va_D A (wM k ar (uF (uF fi 24 (c105)) 25 (c106)) fa fl) := ⟨hP, hD⟩
            obtain ⟨rc105, rc106, hp106⟩ : (inR c105) ∧ (inR c106) ∧ ((¬ (fi 24) = 0 → c105 = (fi 24)) ∧ ((fi 24) = 0 → c105 = 5)) := hp
            refine lv_goto (tgt := 100) hx hb dX10_readClause_58 (by decide) ?_
            have hl : lv_has ls 3 [(2, .int (Int32.ofInt (c1))), (0, .ref (ar 71)), (1, .int (Int32.ofInt (t0)))] := lv_sub hl [0, 1, 2] rfl
            exact J100 (c105, c106) (show inR c105 ∧ inR c106 ∧ ((c105 = 0 → 0 ≤ c1 ∧ c1 ≤ 11 ∧ (7 ≤ c1 → c1 ≤ 10 → ¬ fi 14 = 7) ∧ (c1 = 11 → ¬ fi 15 = 4)) ∧ -1 ≤ c1 ∧ c1 ≤ 11) from ⟨(by omega), (by omega), (by omega)⟩) _ _ _ hP hD hS hl
      · refine lv_iload_n hx hb dX10_readClause_26 rfl (lv_at hl 2 rfl) ?_
        refine iv_if_eq (tgt := 38) hx hb (by omega) dX10_readClause_27 (by decide) (fun q107 => ?_) (fun q107 => ?_)
        · refine lv_iload_n hx hb dX10_readClause_38 rfl (lv_at hl 0 rfl) ?_
          refine lv_bipush (v := Int32.ofInt 7) hx hb dX10_readClause_39 (by decide +kernel) ?_
          refine iv_icmp_ge (tgt := 61) hx hb (by omega) (by omega) dX10_readClause_41 (by decide) (fun q108 => ?_) (fun q108 => ?_)
          · refine lv_iload_n hx hb dX10_readClause_61 rfl (lv_at hl 0 rfl) ?_
            refine lv_bipush (v := Int32.ofInt 7) hx hb dX10_readClause_62 (by decide +kernel) ?_
            refine lv_bipush (v := Int32.ofInt 10) hx hb dX10_readClause_64 (by decide +kernel) ?_
            refine c0_i (va_runS (As := [.int (Int32.ofInt (c1)), .int (Int32.ofInt (7)), .int (Int32.ofInt (10))]) (rest := []) ⟨hx, hb, hml, hown, hts⟩ (mX10_isIn l G k c1 7 10 H.size (by omega) (by omega) (by omega)) (cwS 3 hts (gz [.methodLink RX10 177 yX10_isIn, .static yX10_isIn, .initialized RX10] (.code yX10_isIn cX10_isIn 3 (some .boolean)) [(18, 16), (18, 17), (0, 5), (18, 18)] rfl) rfl rfl rfl (by decide +kernel) ⟨Nat.le_of_ble_eq_true rfl, Nat.le_of_ble_eq_true rfl⟩) (cr_pre0 (EZ_ok k) hZ hS hX hP hD hA) rfl rfl hl.1 rfl (lv_room (Nat.le_of_ble_eq_true rfl)) dX10_readClause_66 ⟨Nat.le_of_ble_eq_true rfl, Nat.le_of_ble_eq_true rfl⟩) hP hD hS hA (fun r u H locs hp hP hD hS => ?_)
            obtain ⟨c109, rfl⟩ : ∃ z, z = u := ⟨_, rfl⟩
            obtain ⟨h9, rc109, hp109⟩ : r = Int32.ofInt c109 ∧ (inR c109) ∧ ((c109 = 1 ∧ 7 ≤ c1 ∧ c1 ≤ 10) ∨ (c109 = 0 ∧ (c1 < 7 ∨ 10 < c1))) := hp
            subst h9
            refine iv_if_eq (tgt := 81) hx hb (by omega) dX10_readClause_69 (by decide) (fun q110 => ?_) (fun q110 => ?_)
            · refine lv_iload_n hx hb dX10_readClause_81 rfl (lv_at hl 0 rfl) ?_
              refine lv_bipush (v := Int32.ofInt 11) hx hb dX10_readClause_82 (by decide +kernel) ?_
              refine iv_icmp_ne (tgt := 100) hx hb (by omega) (by omega) dX10_readClause_84 (by decide) (fun q111 => ?_) (fun q111 => ?_)
              · have hl : lv_has ls 3 [(2, .int (Int32.ofInt (c1))), (0, .ref (ar 71)), (1, .int (Int32.ofInt (t0)))] := lv_sub hl [0, 1, 2] rfl
                exact J100 (fi 24, fi 25) (show inR (fi 24) ∧ inR (fi 25) ∧ (((fi 24) = 0 → 0 ≤ c1 ∧ c1 ≤ 11 ∧ (7 ≤ c1 → c1 ≤ 10 → ¬ fi 14 = 7) ∧ (c1 = 11 → ¬ fi 15 = 4)) ∧ -1 ≤ c1 ∧ c1 ≤ 11) from ⟨(hR 24), (hR 25), (by omega)⟩) _ _ _ hP hD hS hl
              · refine lv_aload_n hx hb dX10_readClause_87 rfl (lv_at hl 1 rfl) ?_
                refine va_get (D := G) (ci := 7) (v := .int (Int32.ofInt (fi 15))) (C := RX10) (T := TX10) (N := 71) (ref := RX10) hx hb hts h1w hown hX.1 hP 0 rfl rfl 15 (by decide) h4w (fun _ h9 => h9) rfl dX10_readClause_88 ?_
                have rf15 := hR 15
                refine lv_iconst (v := Int32.ofInt 4) hx hb dX10_readClause_91 (by decide +kernel) ?_
                refine iv_icmp_ne (tgt := 100) hx hb (by omega) (by omega) dX10_readClause_92 (by decide) (fun q112 => ?_) (fun q112 => ?_)
                · have hl : lv_has ls 3 [(2, .int (Int32.ofInt (c1))), (0, .ref (ar 71)), (1, .int (Int32.ofInt (t0)))] := lv_sub hl [0, 1, 2] rfl
                  exact J100 (fi 24, fi 25) (show inR (fi 24) ∧ inR (fi 25) ∧ (((fi 24) = 0 → 0 ≤ c1 ∧ c1 ≤ 11 ∧ (7 ≤ c1 → c1 ≤ 10 → ¬ fi 14 = 7) ∧ (c1 = 11 → ¬ fi 15 = 4)) ∧ -1 ≤ c1 ∧ c1 ≤ 11) from ⟨(hR 24), (hR 25), (by omega)⟩) _ _ _ hP hD hS hl
                · refine lv_aload_n hx hb dX10_readClause_95 rfl (lv_at hl 1 rfl) ?_
                  refine lv_iconst (v := Int32.ofInt 2) hx hb dX10_readClause_96 (by decide +kernel) ?_
                  refine cr_v (va_runV (As := [.int (Int32.ofInt (2))]) (rest := []) ⟨hx, hb, hml, hown, hts⟩ (mX10_wrong l G k ar fi fa fl 2 H.size hR hRa (by omega)) (cwV 1 hts (gz [.methodLink RX10 244 yX10_wrong, .instanceMethod yX10_wrong, .selects RX10 yX10_wrong yX10_wrong, .initialized RX10] (.code yX10_wrong cX10_wrong 2 none) [(18, 12), (18, 13), (18, 14), (0, 5), (18, 15)] rfl) rfl rfl rfl (by decide +kernel) ⟨Nat.le_of_ble_eq_true rfl, Nat.le_of_ble_eq_true rfl⟩) (cr_preV (EZ_ok k) hZ hS hX hP hD hA (ci := 7) (q0 := 0) rfl rfl) rfl rfl hl.1 rfl (lv_room (Nat.le_of_ble_eq_true rfl)) dX10_readClause_97 ⟨Nat.le_of_ble_eq_true rfl, Nat.le_of_ble_eq_true rfl⟩) hD hS hA (fun u H locs hp hP hD hS => ?_)
                  obtain ⟨c113, c114⟩ := u
                  obtain ⟨hP, hD⟩ : va_P G vwCl (wM k ar (uF (uF fi 24 (c113)) 25 (c114)) fa fl) H ∧ va_D A (wM k ar (uF (uF fi 24 (c113)) 25 (c114)) fa fl) := ⟨hP, hD⟩
                  obtain ⟨rc113, rc114, hp114⟩ : (inR c113) ∧ (inR c114) ∧ ((¬ (fi 24) = 0 → c113 = (fi 24)) ∧ ((fi 24) = 0 → c113 = 2)) := hp
                  have hl : lv_has ls 3 [(2, .int (Int32.ofInt (c1))), (0, .ref (ar 71)), (1, .int (Int32.ofInt (t0)))] := lv_sub hl [0, 1, 2] rfl
                  exact J100 (c113, c114) (show inR c113 ∧ inR c114 ∧ ((c113 = 0 → 0 ≤ c1 ∧ c1 ≤ 11 ∧ (7 ≤ c1 → c1 ≤ 10 → ¬ fi 14 = 7) ∧ (c1 = 11 → ¬ fi 15 = 4)) ∧ -1 ≤ c1 ∧ c1 ≤ 11) from ⟨(by omega), (by omega), (by omega)⟩) _ _ _ hP hD hS hl
            · refine lv_aload_n hx hb dX10_readClause_72 rfl (lv_at hl 1 rfl) ?_
              refine va_get (D := G) (ci := 7) (v := .int (Int32.ofInt (fi 14))) (C := RX10) (T := TX10) (N := 71) (ref := RX10) hx hb hts h1w hown hX.1 hP 0 rfl rfl 14 (by decide) h8w (fun _ h9 => h9) rfl dX10_readClause_73 ?_
              have rf14 := hR 14
              refine lv_bipush (v := Int32.ofInt 7) hx hb dX10_readClause_76 (by decide +kernel) ?_
              refine iv_icmp_eq (tgt := 95) hx hb (by omega) (by omega) dX10_readClause_78 (by decide) (fun q115 => ?_) (fun q115 => ?_)
              · refine lv_aload_n hx hb dX10_readClause_95 rfl (lv_at hl 1 rfl) ?_
                refine lv_iconst (v := Int32.ofInt 2) hx hb dX10_readClause_96 (by decide +kernel) ?_
                refine cr_v (va_runV (As := [.int (Int32.ofInt (2))]) (rest := []) ⟨hx, hb, hml, hown, hts⟩ (mX10_wrong l G k ar fi fa fl 2 H.size hR hRa (by omega)) (cwV 1 hts (gz [.methodLink RX10 244 yX10_wrong, .instanceMethod yX10_wrong, .selects RX10 yX10_wrong yX10_wrong, .initialized RX10] (.code yX10_wrong cX10_wrong 2 none) [(18, 12), (18, 13), (18, 14), (0, 5), (18, 15)] rfl) rfl rfl rfl (by decide +kernel) ⟨Nat.le_of_ble_eq_true rfl, Nat.le_of_ble_eq_true rfl⟩) (cr_preV (EZ_ok k) hZ hS hX hP hD hA (ci := 7) (q0 := 0) rfl rfl) rfl rfl hl.1 rfl (lv_room (Nat.le_of_ble_eq_true rfl)) dX10_readClause_97 ⟨Nat.le_of_ble_eq_true rfl, Nat.le_of_ble_eq_true rfl⟩) hD hS hA (fun u H locs hp hP hD hS => ?_)
                obtain ⟨c116, c117⟩ := u
                obtain ⟨hP, hD⟩ : va_P G vwCl (wM k ar (uF (uF fi 24 (c116)) 25 (c117)) fa fl) H ∧ va_D A (wM k ar (uF (uF fi 24 (c116)) 25 (c117)) fa fl) := ⟨hP, hD⟩
                obtain ⟨rc116, rc117, hp117⟩ : (inR c116) ∧ (inR c117) ∧ ((¬ (fi 24) = 0 → c116 = (fi 24)) ∧ ((fi 24) = 0 → c116 = 2)) := hp
                have hl : lv_has ls 3 [(2, .int (Int32.ofInt (c1))), (0, .ref (ar 71)), (1, .int (Int32.ofInt (t0)))] := lv_sub hl [0, 1, 2] rfl
                exact J100 (c116, c117) (show inR c116 ∧ inR c117 ∧ ((c116 = 0 → 0 ≤ c1 ∧ c1 ≤ 11 ∧ (7 ≤ c1 → c1 ≤ 10 → ¬ fi 14 = 7) ∧ (c1 = 11 → ¬ fi 15 = 4)) ∧ -1 ≤ c1 ∧ c1 ≤ 11) from ⟨(by omega), (by omega), (by omega)⟩) _ _ _ hP hD hS hl
              · refine lv_iload_n hx hb dX10_readClause_81 rfl (lv_at hl 0 rfl) ?_
                refine lv_bipush (v := Int32.ofInt 11) hx hb dX10_readClause_82 (by decide +kernel) ?_
                refine iv_icmp_ne (tgt := 100) hx hb (by omega) (by omega) dX10_readClause_84 (by decide) (fun q118 => ?_) (fun q118 => ?_)
                · have hl : lv_has ls 3 [(2, .int (Int32.ofInt (c1))), (0, .ref (ar 71)), (1, .int (Int32.ofInt (t0)))] := lv_sub hl [0, 1, 2] rfl
                  exact J100 (fi 24, fi 25) (show inR (fi 24) ∧ inR (fi 25) ∧ (((fi 24) = 0 → 0 ≤ c1 ∧ c1 ≤ 11 ∧ (7 ≤ c1 → c1 ≤ 10 → ¬ fi 14 = 7) ∧ (c1 = 11 → ¬ fi 15 = 4)) ∧ -1 ≤ c1 ∧ c1 ≤ 11) from ⟨(hR 24), (hR 25), (by omega)⟩) _ _ _ hP hD hS hl
                · refine lv_aload_n hx hb dX10_readClause_87 rfl (lv_at hl 1 rfl) ?_
                  refine va_get (D := G) (ci := 7) (v := .int (Int32.ofInt (fi 15))) (C := RX10) (T := TX10) (N := 71) (ref := RX10) hx hb hts h1w hown hX.1 hP 0 rfl rfl 15 (by decide) h4w (fun _ h9 => h9) rfl dX10_readClause_88 ?_
                  have rf15 := hR 15
                  refine lv_iconst (v := Int32.ofInt 4) hx hb dX10_readClause_91 (by decide +kernel) ?_
                  refine iv_icmp_ne (tgt := 100) hx hb (by omega) (by omega) dX10_readClause_92 (by decide) (fun q119 => ?_) (fun q119 => ?_)
                  · have hl : lv_has ls 3 [(2, .int (Int32.ofInt (c1))), (0, .ref (ar 71)), (1, .int (Int32.ofInt (t0)))] := lv_sub hl [0, 1, 2] rfl
                    exact J100 (fi 24, fi 25) (show inR (fi 24) ∧ inR (fi 25) ∧ (((fi 24) = 0 → 0 ≤ c1 ∧ c1 ≤ 11 ∧ (7 ≤ c1 → c1 ≤ 10 → ¬ fi 14 = 7) ∧ (c1 = 11 → ¬ fi 15 = 4)) ∧ -1 ≤ c1 ∧ c1 ≤ 11) from ⟨(hR 24), (hR 25), (by omega)⟩) _ _ _ hP hD hS hl
                  · refine lv_aload_n hx hb dX10_readClause_95 rfl (lv_at hl 1 rfl) ?_
                    refine lv_iconst (v := Int32.ofInt 2) hx hb dX10_readClause_96 (by decide +kernel) ?_
                    refine cr_v (va_runV (As := [.int (Int32.ofInt (2))]) (rest := []) ⟨hx, hb, hml, hown, hts⟩ (mX10_wrong l G k ar fi fa fl 2 H.size hR hRa (by omega)) (cwV 1 hts (gz [.methodLink RX10 244 yX10_wrong, .instanceMethod yX10_wrong, .selects RX10 yX10_wrong yX10_wrong, .initialized RX10] (.code yX10_wrong cX10_wrong 2 none) [(18, 12), (18, 13), (18, 14), (0, 5), (18, 15)] rfl) rfl rfl rfl (by decide +kernel) ⟨Nat.le_of_ble_eq_true rfl, Nat.le_of_ble_eq_true rfl⟩) (cr_preV (EZ_ok k) hZ hS hX hP hD hA (ci := 7) (q0 := 0) rfl rfl) rfl rfl hl.1 rfl (lv_room (Nat.le_of_ble_eq_true rfl)) dX10_readClause_97 ⟨Nat.le_of_ble_eq_true rfl, Nat.le_of_ble_eq_true rfl⟩) hD hS hA (fun u H locs hp hP hD hS => ?_)
                    obtain ⟨c120, c121⟩ := u
                    obtain ⟨hP, hD⟩ : va_P G vwCl (wM k ar (uF (uF fi 24 (c120)) 25 (c121)) fa fl) H ∧ va_D A (wM k ar (uF (uF fi 24 (c120)) 25 (c121)) fa fl) := ⟨hP, hD⟩
                    obtain ⟨rc120, rc121, hp121⟩ : (inR c120) ∧ (inR c121) ∧ ((¬ (fi 24) = 0 → c120 = (fi 24)) ∧ ((fi 24) = 0 → c120 = 2)) := hp
                    have hl : lv_has ls 3 [(2, .int (Int32.ofInt (c1))), (0, .ref (ar 71)), (1, .int (Int32.ofInt (t0)))] := lv_sub hl [0, 1, 2] rfl
                    exact J100 (c120, c121) (show inR c120 ∧ inR c121 ∧ ((c120 = 0 → 0 ≤ c1 ∧ c1 ≤ 11 ∧ (7 ≤ c1 → c1 ≤ 10 → ¬ fi 14 = 7) ∧ (c1 = 11 → ¬ fi 15 = 4)) ∧ -1 ≤ c1 ∧ c1 ≤ 11) from ⟨(by omega), (by omega), (by omega)⟩) _ _ _ hP hD hS hl
          · refine lv_iload_n hx hb dX10_readClause_44 rfl (lv_at hl 2 rfl) ?_
            refine lv_iload_n hx hb dX10_readClause_45 rfl (lv_at hl 0 rfl) ?_
            refine iv_shr hx hb dX10_readClause_46 ?_
            refine iv_top (fun z122 ez122 => ?_)
            have rz122 : inR z122 := ez122 ▸ bShr_r _ _
            refine lv_iconst (v := Int32.ofInt 1) hx hb dX10_readClause_47 (by decide +kernel) ?_
            refine iv_and hx hb dX10_readClause_48 ?_
            refine iv_top (fun z123 ez123 => ?_)
            have rz123 : inR z123 := ez123 ▸ bAnd_r _ _
            refine lv_iconst (v := Int32.ofInt 1) hx hb dX10_readClause_49 (by decide +kernel) ?_
            refine iv_icmp_ne (tgt := 61) hx hb (by omega) (by omega) dX10_readClause_50 (by decide) (fun q124 => ?_) (fun q124 => ?_)
            · refine lv_iload_n hx hb dX10_readClause_61 rfl (lv_at hl 0 rfl) ?_
              refine lv_bipush (v := Int32.ofInt 7) hx hb dX10_readClause_62 (by decide +kernel) ?_
              refine lv_bipush (v := Int32.ofInt 10) hx hb dX10_readClause_64 (by decide +kernel) ?_
              refine c0_i (va_runS (As := [.int (Int32.ofInt (c1)), .int (Int32.ofInt (7)), .int (Int32.ofInt (10))]) (rest := []) ⟨hx, hb, hml, hown, hts⟩ (mX10_isIn l G k c1 7 10 H.size (by omega) (by omega) (by omega)) (cwS 3 hts (gz [.methodLink RX10 177 yX10_isIn, .static yX10_isIn, .initialized RX10] (.code yX10_isIn cX10_isIn 3 (some .boolean)) [(18, 16), (18, 17), (0, 5), (18, 18)] rfl) rfl rfl rfl (by decide +kernel) ⟨Nat.le_of_ble_eq_true rfl, Nat.le_of_ble_eq_true rfl⟩) (cr_pre0 (EZ_ok k) hZ hS hX hP hD hA) rfl rfl hl.1 rfl (lv_room (Nat.le_of_ble_eq_true rfl)) dX10_readClause_66 ⟨Nat.le_of_ble_eq_true rfl, Nat.le_of_ble_eq_true rfl⟩) hP hD hS hA (fun r u H locs hp hP hD hS => ?_)
              obtain ⟨c125, rfl⟩ : ∃ z, z = u := ⟨_, rfl⟩
              obtain ⟨h9, rc125, hp125⟩ : r = Int32.ofInt c125 ∧ (inR c125) ∧ ((c125 = 1 ∧ 7 ≤ c1 ∧ c1 ≤ 10) ∨ (c125 = 0 ∧ (c1 < 7 ∨ 10 < c1))) := hp
              subst h9
              refine iv_if_eq (tgt := 81) hx hb (by omega) dX10_readClause_69 (by decide) (fun q126 => ?_) (fun q126 => ?_)
              · refine lv_iload_n hx hb dX10_readClause_81 rfl (lv_at hl 0 rfl) ?_
                refine lv_bipush (v := Int32.ofInt 11) hx hb dX10_readClause_82 (by decide +kernel) ?_
                refine iv_icmp_ne (tgt := 100) hx hb (by omega) (by omega) dX10_readClause_84 (by decide) (fun q127 => ?_) (fun q127 => ?_)
                · have hl : lv_has ls 3 [(2, .int (Int32.ofInt (c1))), (0, .ref (ar 71)), (1, .int (Int32.ofInt (t0)))] := lv_sub hl [0, 1, 2] rfl
                  exact J100 (fi 24, fi 25) (show inR (fi 24) ∧ inR (fi 25) ∧ (((fi 24) = 0 → 0 ≤ c1 ∧ c1 ≤ 11 ∧ (7 ≤ c1 → c1 ≤ 10 → ¬ fi 14 = 7) ∧ (c1 = 11 → ¬ fi 15 = 4)) ∧ -1 ≤ c1 ∧ c1 ≤ 11) from ⟨(hR 24), (hR 25), (by omega)⟩) _ _ _ hP hD hS hl
                · refine lv_aload_n hx hb dX10_readClause_87 rfl (lv_at hl 1 rfl) ?_
                  refine va_get (D := G) (ci := 7) (v := .int (Int32.ofInt (fi 15))) (C := RX10) (T := TX10) (N := 71) (ref := RX10) hx hb hts h1w hown hX.1 hP 0 rfl rfl 15 (by decide) h4w (fun _ h9 => h9) rfl dX10_readClause_88 ?_
                  have rf15 := hR 15
                  refine lv_iconst (v := Int32.ofInt 4) hx hb dX10_readClause_91 (by decide +kernel) ?_
                  refine iv_icmp_ne (tgt := 100) hx hb (by omega) (by omega) dX10_readClause_92 (by decide) (fun q128 => ?_) (fun q128 => ?_)
                  · have hl : lv_has ls 3 [(2, .int (Int32.ofInt (c1))), (0, .ref (ar 71)), (1, .int (Int32.ofInt (t0)))] := lv_sub hl [0, 1, 2] rfl
                    exact J100 (fi 24, fi 25) (show inR (fi 24) ∧ inR (fi 25) ∧ (((fi 24) = 0 → 0 ≤ c1 ∧ c1 ≤ 11 ∧ (7 ≤ c1 → c1 ≤ 10 → ¬ fi 14 = 7) ∧ (c1 = 11 → ¬ fi 15 = 4)) ∧ -1 ≤ c1 ∧ c1 ≤ 11) from ⟨(hR 24), (hR 25), (by omega)⟩) _ _ _ hP hD hS hl
                  · refine lv_aload_n hx hb dX10_readClause_95 rfl (lv_at hl 1 rfl) ?_
                    refine lv_iconst (v := Int32.ofInt 2) hx hb dX10_readClause_96 (by decide +kernel) ?_
                    refine cr_v (va_runV (As := [.int (Int32.ofInt (2))]) (rest := []) ⟨hx, hb, hml, hown, hts⟩ (mX10_wrong l G k ar fi fa fl 2 H.size hR hRa (by omega)) (cwV 1 hts (gz [.methodLink RX10 244 yX10_wrong, .instanceMethod yX10_wrong, .selects RX10 yX10_wrong yX10_wrong, .initialized RX10] (.code yX10_wrong cX10_wrong 2 none) [(18, 12), (18, 13), (18, 14), (0, 5), (18, 15)] rfl) rfl rfl rfl (by decide +kernel) ⟨Nat.le_of_ble_eq_true rfl, Nat.le_of_ble_eq_true rfl⟩) (cr_preV (EZ_ok k) hZ hS hX hP hD hA (ci := 7) (q0 := 0) rfl rfl) rfl rfl hl.1 rfl (lv_room (Nat.le_of_ble_eq_true rfl)) dX10_readClause_97 ⟨Nat.le_of_ble_eq_true rfl, Nat.le_of_ble_eq_true rfl⟩) hD hS hA (fun u H locs hp hP hD hS => ?_)
                    obtain ⟨c129, c130⟩ := u
                    obtain ⟨hP, hD⟩ : va_P G vwCl (wM k ar (uF (uF fi 24 (c129)) 25 (c130)) fa fl) H ∧ va_D A (wM k ar (uF (uF fi 24 (c129)) 25 (c130)) fa fl) := ⟨hP, hD⟩
                    obtain ⟨rc129, rc130, hp130⟩ : (inR c129) ∧ (inR c130) ∧ ((¬ (fi 24) = 0 → c129 = (fi 24)) ∧ ((fi 24) = 0 → c129 = 2)) := hp
                    have hl : lv_has ls 3 [(2, .int (Int32.ofInt (c1))), (0, .ref (ar 71)), (1, .int (Int32.ofInt (t0)))] := lv_sub hl [0, 1, 2] rfl
                    exact J100 (c129, c130) (show inR c129 ∧ inR c130 ∧ ((c129 = 0 → 0 ≤ c1 ∧ c1 ≤ 11 ∧ (7 ≤ c1 → c1 ≤ 10 → ¬ fi 14 = 7) ∧ (c1 = 11 → ¬ fi 15 = 4)) ∧ -1 ≤ c1 ∧ c1 ≤ 11) from ⟨(by omega), (by omega), (by omega)⟩) _ _ _ hP hD hS hl
              · refine lv_aload_n hx hb dX10_readClause_72 rfl (lv_at hl 1 rfl) ?_
                refine va_get (D := G) (ci := 7) (v := .int (Int32.ofInt (fi 14))) (C := RX10) (T := TX10) (N := 71) (ref := RX10) hx hb hts h1w hown hX.1 hP 0 rfl rfl 14 (by decide) h8w (fun _ h9 => h9) rfl dX10_readClause_73 ?_
                have rf14 := hR 14
                refine lv_bipush (v := Int32.ofInt 7) hx hb dX10_readClause_76 (by decide +kernel) ?_
                refine iv_icmp_eq (tgt := 95) hx hb (by omega) (by omega) dX10_readClause_78 (by decide) (fun q131 => ?_) (fun q131 => ?_)
                · refine lv_aload_n hx hb dX10_readClause_95 rfl (lv_at hl 1 rfl) ?_
                  refine lv_iconst (v := Int32.ofInt 2) hx hb dX10_readClause_96 (by decide +kernel) ?_
                  refine cr_v (va_runV (As := [.int (Int32.ofInt (2))]) (rest := []) ⟨hx, hb, hml, hown, hts⟩ (mX10_wrong l G k ar fi fa fl 2 H.size hR hRa (by omega)) (cwV 1 hts (gz [.methodLink RX10 244 yX10_wrong, .instanceMethod yX10_wrong, .selects RX10 yX10_wrong yX10_wrong, .initialized RX10] (.code yX10_wrong cX10_wrong 2 none) [(18, 12), (18, 13), (18, 14), (0, 5), (18, 15)] rfl) rfl rfl rfl (by decide +kernel) ⟨Nat.le_of_ble_eq_true rfl, Nat.le_of_ble_eq_true rfl⟩) (cr_preV (EZ_ok k) hZ hS hX hP hD hA (ci := 7) (q0 := 0) rfl rfl) rfl rfl hl.1 rfl (lv_room (Nat.le_of_ble_eq_true rfl)) dX10_readClause_97 ⟨Nat.le_of_ble_eq_true rfl, Nat.le_of_ble_eq_true rfl⟩) hD hS hA (fun u H locs hp hP hD hS => ?_)
                  obtain ⟨c132, c133⟩ := u
                  obtain ⟨hP, hD⟩ : va_P G vwCl (wM k ar (uF (uF fi 24 (c132)) 25 (c133)) fa fl) H ∧ va_D A (wM k ar (uF (uF fi 24 (c132)) 25 (c133)) fa fl) := ⟨hP, hD⟩
                  obtain ⟨rc132, rc133, hp133⟩ : (inR c132) ∧ (inR c133) ∧ ((¬ (fi 24) = 0 → c132 = (fi 24)) ∧ ((fi 24) = 0 → c132 = 2)) := hp
                  have hl : lv_has ls 3 [(2, .int (Int32.ofInt (c1))), (0, .ref (ar 71)), (1, .int (Int32.ofInt (t0)))] := lv_sub hl [0, 1, 2] rfl
                  exact J100 (c132, c133) (show inR c132 ∧ inR c133 ∧ ((c132 = 0 → 0 ≤ c1 ∧ c1 ≤ 11 ∧ (7 ≤ c1 → c1 ≤ 10 → ¬ fi 14 = 7) ∧ (c1 = 11 → ¬ fi 15 = 4)) ∧ -1 ≤ c1 ∧ c1 ≤ 11) from ⟨(by omega), (by omega), (by omega)⟩) _ _ _ hP hD hS hl
                · refine lv_iload_n hx hb dX10_readClause_81 rfl (lv_at hl 0 rfl) ?_
                  refine lv_bipush (v := Int32.ofInt 11) hx hb dX10_readClause_82 (by decide +kernel) ?_
                  refine iv_icmp_ne (tgt := 100) hx hb (by omega) (by omega) dX10_readClause_84 (by decide) (fun q134 => ?_) (fun q134 => ?_)
                  · have hl : lv_has ls 3 [(2, .int (Int32.ofInt (c1))), (0, .ref (ar 71)), (1, .int (Int32.ofInt (t0)))] := lv_sub hl [0, 1, 2] rfl
                    exact J100 (fi 24, fi 25) (show inR (fi 24) ∧ inR (fi 25) ∧ (((fi 24) = 0 → 0 ≤ c1 ∧ c1 ≤ 11 ∧ (7 ≤ c1 → c1 ≤ 10 → ¬ fi 14 = 7) ∧ (c1 = 11 → ¬ fi 15 = 4)) ∧ -1 ≤ c1 ∧ c1 ≤ 11) from ⟨(hR 24), (hR 25), (by omega)⟩) _ _ _ hP hD hS hl
                  · refine lv_aload_n hx hb dX10_readClause_87 rfl (lv_at hl 1 rfl) ?_
                    refine va_get (D := G) (ci := 7) (v := .int (Int32.ofInt (fi 15))) (C := RX10) (T := TX10) (N := 71) (ref := RX10) hx hb hts h1w hown hX.1 hP 0 rfl rfl 15 (by decide) h4w (fun _ h9 => h9) rfl dX10_readClause_88 ?_
                    have rf15 := hR 15
                    refine lv_iconst (v := Int32.ofInt 4) hx hb dX10_readClause_91 (by decide +kernel) ?_
                    refine iv_icmp_ne (tgt := 100) hx hb (by omega) (by omega) dX10_readClause_92 (by decide) (fun q135 => ?_) (fun q135 => ?_)
                    · have hl : lv_has ls 3 [(2, .int (Int32.ofInt (c1))), (0, .ref (ar 71)), (1, .int (Int32.ofInt (t0)))] := lv_sub hl [0, 1, 2] rfl
                      exact J100 (fi 24, fi 25) (show inR (fi 24) ∧ inR (fi 25) ∧ (((fi 24) = 0 → 0 ≤ c1 ∧ c1 ≤ 11 ∧ (7 ≤ c1 → c1 ≤ 10 → ¬ fi 14 = 7) ∧ (c1 = 11 → ¬ fi 15 = 4)) ∧ -1 ≤ c1 ∧ c1 ≤ 11) from ⟨(hR 24), (hR 25), (by omega)⟩) _ _ _ hP hD hS hl
                    · refine lv_aload_n hx hb dX10_readClause_95 rfl (lv_at hl 1 rfl) ?_
                      refine lv_iconst (v := Int32.ofInt 2) hx hb dX10_readClause_96 (by decide +kernel) ?_
                      refine cr_v (va_runV (As := [.int (Int32.ofInt (2))]) (rest := []) ⟨hx, hb, hml, hown, hts⟩ (mX10_wrong l G k ar fi fa fl 2 H.size hR hRa (by omega)) (cwV 1 hts (gz [.methodLink RX10 244 yX10_wrong, .instanceMethod yX10_wrong, .selects RX10 yX10_wrong yX10_wrong, .initialized RX10] (.code yX10_wrong cX10_wrong 2 none) [(18, 12), (18, 13), (18, 14), (0, 5), (18, 15)] rfl) rfl rfl rfl (by decide +kernel) ⟨Nat.le_of_ble_eq_true rfl, Nat.le_of_ble_eq_true rfl⟩) (cr_preV (EZ_ok k) hZ hS hX hP hD hA (ci := 7) (q0 := 0) rfl rfl) rfl rfl hl.1 rfl (lv_room (Nat.le_of_ble_eq_true rfl)) dX10_readClause_97 ⟨Nat.le_of_ble_eq_true rfl, Nat.le_of_ble_eq_true rfl⟩) hD hS hA (fun u H locs hp hP hD hS => ?_)
                      obtain ⟨c136, c137⟩ := u
                      obtain ⟨hP, hD⟩ : va_P G vwCl (wM k ar (uF (uF fi 24 (c136)) 25 (c137)) fa fl) H ∧ va_D A (wM k ar (uF (uF fi 24 (c136)) 25 (c137)) fa fl) := ⟨hP, hD⟩
                      obtain ⟨rc136, rc137, hp137⟩ : (inR c136) ∧ (inR c137) ∧ ((¬ (fi 24) = 0 → c136 = (fi 24)) ∧ ((fi 24) = 0 → c136 = 2)) := hp
                      have hl : lv_has ls 3 [(2, .int (Int32.ofInt (c1))), (0, .ref (ar 71)), (1, .int (Int32.ofInt (t0)))] := lv_sub hl [0, 1, 2] rfl
                      exact J100 (c136, c137) (show inR c136 ∧ inR c137 ∧ ((c136 = 0 → 0 ≤ c1 ∧ c1 ≤ 11 ∧ (7 ≤ c1 → c1 ≤ 10 → ¬ fi 14 = 7) ∧ (c1 = 11 → ¬ fi 15 = 4)) ∧ -1 ≤ c1 ∧ c1 ≤ 11) from ⟨(by omega), (by omega), (by omega)⟩) _ _ _ hP hD hS hl
            · refine lv_aload_n hx hb dX10_readClause_53 rfl (lv_at hl 1 rfl) ?_
              refine lv_iconst (v := Int32.ofInt 5) hx hb dX10_readClause_54 (by decide +kernel) ?_
              refine cr_v (va_runV (As := [.int (Int32.ofInt (5))]) (rest := []) ⟨hx, hb, hml, hown, hts⟩ (mX10_wrong l G k ar fi fa fl 5 H.size hR hRa (by omega)) (cwV 1 hts (gz [.methodLink RX10 244 yX10_wrong, .instanceMethod yX10_wrong, .selects RX10 yX10_wrong yX10_wrong, .initialized RX10] (.code yX10_wrong cX10_wrong 2 none) [(18, 12), (18, 13), (18, 14), (0, 5), (18, 15)] rfl) rfl rfl rfl (by decide +kernel) ⟨Nat.le_of_ble_eq_true rfl, Nat.le_of_ble_eq_true rfl⟩) (cr_preV (EZ_ok k) hZ hS hX hP hD hA (ci := 7) (q0 := 0) rfl rfl) rfl rfl hl.1 rfl (lv_room (Nat.le_of_ble_eq_true rfl)) dX10_readClause_55 ⟨Nat.le_of_ble_eq_true rfl, Nat.le_of_ble_eq_true rfl⟩) hD hS hA (fun u H locs hp hP hD hS => ?_)
              obtain ⟨c138, c139⟩ := u
              obtain ⟨hP, hD⟩ : va_P G vwCl (wM k ar (uF (uF fi 24 (c138)) 25 (c139)) fa fl) H ∧ va_D A (wM k ar (uF (uF fi 24 (c138)) 25 (c139)) fa fl) := ⟨hP, hD⟩
              obtain ⟨rc138, rc139, hp139⟩ : (inR c138) ∧ (inR c139) ∧ ((¬ (fi 24) = 0 → c138 = (fi 24)) ∧ ((fi 24) = 0 → c138 = 5)) := hp
              refine lv_goto (tgt := 100) hx hb dX10_readClause_58 (by decide) ?_
              have hl : lv_has ls 3 [(2, .int (Int32.ofInt (c1))), (0, .ref (ar 71)), (1, .int (Int32.ofInt (t0)))] := lv_sub hl [0, 1, 2] rfl
              exact J100 (c138, c139) (show inR c138 ∧ inR c139 ∧ ((c138 = 0 → 0 ≤ c1 ∧ c1 ≤ 11 ∧ (7 ≤ c1 → c1 ≤ 10 → ¬ fi 14 = 7) ∧ (c1 = 11 → ¬ fi 15 = 4)) ∧ -1 ≤ c1 ∧ c1 ≤ 11) from ⟨(by omega), (by omega), (by omega)⟩) _ _ _ hP hD hS hl
        · refine lv_aload_n hx hb dX10_readClause_30 rfl (lv_at hl 1 rfl) ?_
          refine lv_iconst (v := Int32.ofInt 4) hx hb dX10_readClause_31 (by decide +kernel) ?_
          refine cr_v (va_runV (As := [.int (Int32.ofInt (4))]) (rest := []) ⟨hx, hb, hml, hown, hts⟩ (mX10_wrong l G k ar fi fa fl 4 H.size hR hRa (by omega)) (cwV 1 hts (gz [.methodLink RX10 244 yX10_wrong, .instanceMethod yX10_wrong, .selects RX10 yX10_wrong yX10_wrong, .initialized RX10] (.code yX10_wrong cX10_wrong 2 none) [(18, 12), (18, 13), (18, 14), (0, 5), (18, 15)] rfl) rfl rfl rfl (by decide +kernel) ⟨Nat.le_of_ble_eq_true rfl, Nat.le_of_ble_eq_true rfl⟩) (cr_preV (EZ_ok k) hZ hS hX hP hD hA (ci := 7) (q0 := 0) rfl rfl) rfl rfl hl.1 rfl (lv_room (Nat.le_of_ble_eq_true rfl)) dX10_readClause_32 ⟨Nat.le_of_ble_eq_true rfl, Nat.le_of_ble_eq_true rfl⟩) hD hS hA (fun u H locs hp hP hD hS => ?_)
          obtain ⟨c140, c141⟩ := u
          obtain ⟨hP, hD⟩ : va_P G vwCl (wM k ar (uF (uF fi 24 (c140)) 25 (c141)) fa fl) H ∧ va_D A (wM k ar (uF (uF fi 24 (c140)) 25 (c141)) fa fl) := ⟨hP, hD⟩
          obtain ⟨rc140, rc141, hp141⟩ : (inR c140) ∧ (inR c141) ∧ ((¬ (fi 24) = 0 → c140 = (fi 24)) ∧ ((fi 24) = 0 → c140 = 4)) := hp
          refine lv_goto (tgt := 100) hx hb dX10_readClause_35 (by decide) ?_
          have hl : lv_has ls 3 [(2, .int (Int32.ofInt (c1))), (0, .ref (ar 71)), (1, .int (Int32.ofInt (t0)))] := lv_sub hl [0, 1, 2] rfl
          exact J100 (c140, c141) (show inR c140 ∧ inR c141 ∧ ((c140 = 0 → 0 ≤ c1 ∧ c1 ≤ 11 ∧ (7 ≤ c1 → c1 ≤ 10 → ¬ fi 14 = 7) ∧ (c1 = 11 → ¬ fi 15 = 4)) ∧ -1 ≤ c1 ∧ c1 ≤ 11) from ⟨(by omega), (by omega), (by omega)⟩) _ _ _ hP hD hS hl
    · refine lv_aload_n hx hb dX10_readClause_14 rfl (lv_at hl 1 rfl) ?_
      refine lv_iconst (v := Int32.ofInt 1) hx hb dX10_readClause_15 (by decide +kernel) ?_
      refine cr_v (va_runV (As := [.int (Int32.ofInt (1))]) (rest := []) ⟨hx, hb, hml, hown, hts⟩ (mX10_wrong l G k ar fi fa fl 1 H.size hR hRa (by omega)) (cwV 1 hts (gz [.methodLink RX10 244 yX10_wrong, .instanceMethod yX10_wrong, .selects RX10 yX10_wrong yX10_wrong, .initialized RX10] (.code yX10_wrong cX10_wrong 2 none) [(18, 12), (18, 13), (18, 14), (0, 5), (18, 15)] rfl) rfl rfl rfl (by decide +kernel) ⟨Nat.le_of_ble_eq_true rfl, Nat.le_of_ble_eq_true rfl⟩) (cr_preV (EZ_ok k) hZ hS hX hP hD hA (ci := 7) (q0 := 0) rfl rfl) rfl rfl hl.1 rfl (lv_room (Nat.le_of_ble_eq_true rfl)) dX10_readClause_16 ⟨Nat.le_of_ble_eq_true rfl, Nat.le_of_ble_eq_true rfl⟩) hD hS hA (fun u H locs hp hP hD hS => ?_)
      obtain ⟨c142, c143⟩ := u
      obtain ⟨hP, hD⟩ : va_P G vwCl (wM k ar (uF (uF fi 24 (c142)) 25 (c143)) fa fl) H ∧ va_D A (wM k ar (uF (uF fi 24 (c142)) 25 (c143)) fa fl) := ⟨hP, hD⟩
      obtain ⟨rc142, rc143, hp143⟩ : (inR c142) ∧ (inR c143) ∧ ((¬ (fi 24) = 0 → c142 = (fi 24)) ∧ ((fi 24) = 0 → c142 = 1)) := hp
      refine lv_goto (tgt := 100) hx hb dX10_readClause_19 (by decide) ?_
      have hl : lv_has ls 3 [(2, .int (Int32.ofInt (c1))), (0, .ref (ar 71)), (1, .int (Int32.ofInt (t0)))] := lv_sub hl [0, 1, 2] rfl
      exact J100 (c142, c143) (show inR c142 ∧ inR c143 ∧ ((c142 = 0 → 0 ≤ c1 ∧ c1 ≤ 11 ∧ (7 ≤ c1 → c1 ≤ 10 → ¬ fi 14 = 7) ∧ (c1 = 11 → ¬ fi 15 = 4)) ∧ -1 ≤ c1 ∧ c1 ≤ 11) from ⟨(by omega), (by omega), (by omega)⟩) _ _ _ hP hD hS hl

