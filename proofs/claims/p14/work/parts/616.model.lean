set_option maxHeartbeats 4000000 in
set_option maxRecDepth 100000 in
theorem mX10_come (l : Launch) (G : va_G) (k : Nat → ClassId) (ar : Nat → Nat) (fi : Nat → Int) (fa : Nat → Int → Int) (fl : Nat → Int64) (v0 : Int64) (y0 : Int) (sz : Nat) (hR : ∀ j, inR (fi j)) (hRa : ∀ j t, inR (fa j t)) (hr_y0 : inR y0) (s1 : 0 ≤ fi 50) (s2 : fi 50 ≤ 1500) (s3 : ∀ f, 0 ≤ f → f < 8192 → -1 ≤ fa 48 f ∧ fa 48 f < fi 50) (s4 : ∀ t, 0 ≤ t → t < fi 50 → -1 ≤ fa 47 t ∧ fa 47 t < t) : CNv l G k (EZ k) yX10_come wzX10_come ({ frames := 1, cells := 0, slots := 0, locals := 24 }) [.ref (ar 71), .long (v0), .int (Int32.ofInt (y0))] sz (wM k ar fi fa fl) (fun (u : (Int → Int) × (Int → Int) × (Int → Int) × (Int → Int) × Int × Int × (Nat → Int64)) => (∀ t, inR (u.1 t)) ∧ (∀ t, inR (u.2.1 t)) ∧ (∀ t, inR (u.2.2.1 t)) ∧ (∀ t, inR (u.2.2.2.1 t)) ∧ (inR u.2.2.2.2.1) ∧ (inR u.2.2.2.2.2.1) ∧ (0 ≤ u.2.2.2.2.1 ∧ u.2.2.2.2.1 ≤ 1500 ∧ (∀ f, 0 ≤ f → f < 8192 → -1 ≤ u.2.2.1 f ∧ u.2.2.1 f < u.2.2.2.2.1) ∧ (∀ t, 0 ≤ t → t < u.2.2.2.2.1 → -1 ≤ u.2.1 t ∧ u.2.1 t < t) ∧ FR (fi 50) (fa 49) u.2.2.2.2.1 u.2.2.2.1)) (fun (u : (Int → Int) × (Int → Int) × (Int → Int) × (Int → Int) × Int × Int × (Nat → Int64)) => (wM k ar (uF (uF fi 50 (u.2.2.2.2.1)) 52 (u.2.2.2.2.2.1)) (uF (uF (uF (uF fa 46 (u.1)) 47 (u.2.1)) 48 (u.2.2.1)) 49 (u.2.2.2.1)) u.2.2.2.2.2.2)) := by
  refine Met.ofW (cc := cX10_come) (maxL := 6) (ret := none) (by decide) rfl ?_
  intro p e s m args below meth c s₁ B hml hv
  obtain ⟨rfl, hsz, hP, hX, hD0, hZ0⟩ := hv
  have hx := B.exec
  have hb := B.bytes
  have hr := B.returns
  have hts := atoms_spec (ws := wzX10_come) B.pre
  have hown : s.vm.findClass RX10 = some m.cls := findClass_of_methodNamed B.named
  subst hsz
  have hD := hD0.self (sz := s.heap.size)
  have hZ := hZ0
  generalize hAe : va_A (wM k ar fi fa fl) s.heap.size = A at hD hZ ⊢
  have hA : ∀ q : Nat, s.heap.size ≤ q → A q := fun q h => by rw [← hAe]; exact Or.inr h
  have hS : va_S A s.heap s.heap [] := va_S.rf
  have hl := lv_entry ([.ref (ar 71), .long (v0), .int (Int32.ofInt (y0))]) (n := 6) (Nat.le_of_ble_eq_true rfl)
  rw [lg_entry_eq]
  generalize (lg_sl ([.ref (ar 71), .long (v0), .int (Int32.ofInt (y0))]) ++ List.replicate (6 - (lg_sl ([.ref (ar 71), .long (v0), .int (Int32.ofInt (y0))])).length) Slot.unset).toArray = ls at hl ⊢
  have hl : lv_has ls 6 [(0, .ref (ar 71)), (1, .long (v0)), (3, .int (Int32.ofInt (y0)))] := hl
  obtain ⟨H, eH⟩ : ∃ H, H = s.heap := ⟨_, rfl⟩
  rw [← eH] at hP
  have hS : va_S A s.heap H [] := by rw [eH]; exact hS
  have gW : s.heap = H := eH.symm
  refine iv_heap gW ?_
  have h0w := hts (.fieldLink RX10 127 "RopeTownModel" "heads" "[I") (wz_at 7 6 rfl)
  have h1w : ∀ w ∈ wsX100, w ∈ wzX10_come := fun w h => List.mem_cons_of_mem _ (inlX10 w h)
  have h2w := hts (.fieldLink RX10 436 "RopeTownModel" "states" "I") (wz_at 35 21 rfl)
  have h3w := hts (.fieldLink RX10 117 "RopeTownModel" "state" "[J") (wz_at 7 3 rfl)
  have h4w := hts (.fieldLink RX10 121 "RopeTownModel" "far" "[I") (wz_at 7 4 rfl)
  have h5w := hts (.fieldLink RX10 130 "RopeTownModel" "isDone" "[Z") (wz_at 7 8 rfl)
  have h6w := hts (.fieldLink RX10 124 "RopeTownModel" "next" "[I") (wz_at 7 5 rfl)
  have h7w := hts (.fieldLink RX10 439 "RopeTownModel" "isSpent" "Z") (wz_at 35 22 rfl)
  have h8w := hts (.methodLink RX10 211 Lib.Math.min.name) (wz_at 17 4 rfl)
  have h9w := hts (.static Lib.Math.min.name) (wz_at 17 5 rfl)
  have h10w := hts (.initialized "java/lang/Math") (wz_at 17 6 rfl)
  have h11w := hts (.code Lib.Math.min.name Lib.Math.min.code 2 (some .int)) (wz_at 17 7 rfl)
  refine lv_lload_n hx hb dX10_come_0 rfl (lv_at hl 1 rfl) ?_
  refine c0_i (va_runS (As := [.long (v0)]) (rest := []) ⟨hx, hb, hml, hown, hts⟩ (mX10_foldOf l G k v0 H.size ) (cwS 1 hts (gz [.methodLink RX10 432 yX10_foldOf, .static yX10_foldOf, .initialized RX10] (.code yX10_foldOf cX10_foldOf 4 (some .int)) [(36, 9), (36, 10), (0, 5), (36, 11)] rfl) rfl rfl rfl (by decide +kernel) ⟨Nat.le_of_ble_eq_true rfl, Nat.le_of_ble_eq_true rfl⟩) (cr_pre0 (EZ_ok k) hZ hS hX hP hD hA) rfl rfl hl.1 rfl (lv_room (Nat.le_of_ble_eq_true rfl)) dX10_come_1 ⟨Nat.le_of_ble_eq_true rfl, Nat.le_of_ble_eq_true rfl⟩) hP hD hS hA (fun r u H locs hp hP hD hS => ?_)
  obtain ⟨c1, rfl⟩ : ∃ z, z = u := ⟨_, rfl⟩
  obtain ⟨h9, rc1, hp1⟩ : r = Int32.ofInt c1 ∧ (inR c1) ∧ (0 ≤ c1 ∧ c1 < 8192) := hp
  subst h9
  refine lv_istore (lv' := [(4, .int (Int32.ofInt (c1))), (0, .ref (ar 71)), (1, .long (v0)), (3, .int (Int32.ofInt (y0)))]) hx hb dX10_come_4 hl (by decide) rfl (fun ls hl => ?_)
  refine lv_aload_n hx hb dX10_come_6 rfl (lv_at hl 1 rfl) ?_
  refine va_get (D := G) (ci := 7) (v := .ref (ar 48)) (C := RX10) (T := TX10) (N := 71) (ref := RX10) hx hb hts h1w hown hX.1 hP 0 rfl rfl 48 (by decide) h0w (fun _ h9 => h9) rfl dX10_come_7 ?_
  refine lv_iload hx hb dX10_come_10 (lv_at hl 0 rfl) ?_
  refine iv_iald hx hb hX.1 hP 24 0 rfl rfl (by omega) (by omega) (by decide) dX10_come_12 ?_
  refine iv_top (fun z2 ez2 => ?_)
  have rz2 : inR z2 := ez2 ▸ (hRa 48) _
  have ez2 : z2 = (fa 48) c1 := ez2
  have hh := s3 c1 (by omega) (by omega)
  refine lv_istore (lv' := [(5, .int (Int32.ofInt (z2))), (4, .int (Int32.ofInt (c1))), (0, .ref (ar 71)), (1, .long (v0)), (3, .int (Int32.ofInt (y0)))]) hx hb dX10_come_13 hl (by decide) rfl (fun ls hl => ?_)
  refine iv_loop (α := Int × (Int → Int)) (nL := 6) (fun b9 => (wM k ar fi (uF fa 46 (b9.2)) fl)) (fun b9 => [(5, .int (Int32.ofInt (b9.1))), (4, .int (Int32.ofInt (c1))), (0, .ref (ar 71)), (1, .long (v0)), (3, .int (Int32.ofInt (y0)))]) (fun b9 => (b9.1 + 1).toNat) (fun b9 => inR b9.1 ∧ (∀ t, inR (b9.2 t)) ∧ (-1 ≤ b9.1 ∧ b9.1 < fi 50)) ?_ (z2, fa 46) (show inR z2 ∧ (∀ t, inR ((fa 46) t)) ∧ (-1 ≤ z2 ∧ z2 < fi 50) from ⟨(by omega), (hRa 46), (by omega)⟩) hP hD hS hl
  rintro ⟨x5_3, g46_4⟩ ih hi9 H locs ls hP hD hS hl
  obtain ⟨r_x5_3, r_g46_4, hinv⟩ : inR x5_3 ∧ (∀ t, inR (g46_4 t)) ∧ (-1 ≤ x5_3 ∧ x5_3 < fi 50) := hi9
  obtain ⟨hP, hD⟩ : va_P G vwCl (wM k ar fi (uF fa 46 (g46_4)) fl) H ∧ va_D A (wM k ar fi (uF fa 46 (g46_4)) fl) := ⟨hP, hD⟩
  have hl : lv_has ls 6 [(5, .int (Int32.ofInt (x5_3))), (4, .int (Int32.ofInt (c1))), (0, .ref (ar 71)), (1, .long (v0)), (3, .int (Int32.ofInt (y0)))] := hl
  refine lv_iload hx hb dX10_come_15 (lv_at hl 0 rfl) ?_
  refine lv_iconst (v := Int32.ofInt (-1)) hx hb dX10_come_17 (by decide +kernel) ?_
  refine iv_icmp_eq (tgt := 67) hx hb (by omega) (by omega) dX10_come_18 (by decide) (fun q5 => ?_) (fun q5 => ?_)
  · refine lv_aload_n hx hb dX10_come_67 rfl (lv_at hl 2 rfl) ?_
    refine va_get (D := G) (ci := 7) (v := .int (Int32.ofInt (fi 50))) (C := RX10) (T := TX10) (N := 71) (ref := RX10) hx hb hts h1w hown hX.1 hP 0 rfl rfl 50 (by decide) h2w (fun _ h9 => h9) rfl dX10_come_68 ?_
    have rf50 := hR 50
    refine lv_sipush (v := Int32.ofInt 1500) hx hb dX10_come_71 (by decide +kernel) ?_
    refine iv_icmp_ne (tgt := 83) hx hb (by omega) (by omega) dX10_come_74 (by decide) (fun q6 => ?_) (fun q6 => ?_)
    · refine lv_aload_n hx hb dX10_come_83 rfl (lv_at hl 2 rfl) ?_
      refine va_get (D := G) (ci := 7) (v := .ref (ar 45)) (C := RX10) (T := TX10) (N := 71) (ref := RX10) hx hb hts h1w hown hX.1 hP 0 rfl rfl 45 (by decide) h3w (fun _ h9 => h9) rfl dX10_come_84 ?_
      refine lv_aload_n hx hb dX10_come_87 rfl (lv_at hl 2 rfl) ?_
      refine va_get (D := G) (ci := 7) (v := .int (Int32.ofInt (fi 50))) (C := RX10) (T := TX10) (N := 71) (ref := RX10) hx hb hts h1w hown hX.1 hP 0 rfl rfl 50 (by decide) h2w (fun _ h9 => h9) rfl dX10_come_88 ?_
      have rf50 := hR 50
      refine lv_lload_n hx hb dX10_come_91 rfl (lv_at hl 3 rfl) ?_
      refine iv_last hx hb hX.1 hP hD hS 21 2 rfl rfl (wM_L _ _ _ _ _) (by omega) (by omega) (by decide) dX10_come_92 (fun H locs hP hD hS => ?_)
      obtain ⟨g7, eg7⟩ : ∃ z, z = vp_updL (fl) (fi 50).toNat (v0) := ⟨_, rfl⟩
      rw [← eg7] at hP hD
      refine lv_aload_n hx hb dX10_come_93 rfl (lv_at hl 2 rfl) ?_
      refine va_get (D := G) (ci := 7) (v := .ref (ar 46)) (C := RX10) (T := TX10) (N := 71) (ref := RX10) hx hb hts h1w hown hX.1 hP 0 rfl rfl 46 (by decide) h4w (fun _ h9 => h9) rfl dX10_come_94 ?_
      refine lv_aload_n hx hb dX10_come_97 rfl (lv_at hl 2 rfl) ?_
      refine va_get (D := G) (ci := 7) (v := .int (Int32.ofInt (fi 50))) (C := RX10) (T := TX10) (N := 71) (ref := RX10) hx hb hts h1w hown hX.1 hP 0 rfl rfl 50 (by decide) h2w (fun _ h9 => h9) rfl dX10_come_98 ?_
      have rf50 := hR 50
      refine lv_iload_n hx hb dX10_come_101 rfl (lv_at hl 4 rfl) ?_
      refine iv_iast hx hb hX.1 hP hD hS 22 0 rfl rfl (wM_A46 _ _ _ _ _) (by omega) (by omega) (by decide) dX10_come_102 (fun H locs hP hD hS => ?_)
      obtain ⟨hP, hD⟩ : va_P G vwCl (wM k ar fi (uF fa 46 (uA (g46_4) (fi 50) (y0))) g7) H ∧ va_D A (wM k ar fi (uF fa 46 (uA (g46_4) (fi 50) (y0))) g7) := ⟨hP, hD⟩
      obtain ⟨g8, eg8, rg8⟩ : ∃ z, z = uA (g46_4) (fi 50) (y0) ∧ ∀ t, inR (z t) := ⟨_, rfl, iU r_g46_4 (by omega)⟩
      rw [← eg8] at hP hD
      refine lv_aload_n hx hb dX10_come_103 rfl (lv_at hl 2 rfl) ?_
      refine va_get (D := G) (ci := 7) (v := .ref (ar 49)) (C := RX10) (T := TX10) (N := 71) (ref := RX10) hx hb hts h1w hown hX.1 hP 0 rfl rfl 49 (by decide) h5w (fun _ h9 => h9) rfl dX10_come_104 ?_
      refine lv_aload_n hx hb dX10_come_107 rfl (lv_at hl 2 rfl) ?_
      refine va_get (D := G) (ci := 7) (v := .int (Int32.ofInt (fi 50))) (C := RX10) (T := TX10) (N := 71) (ref := RX10) hx hb hts h1w hown hX.1 hP 0 rfl rfl 50 (by decide) h2w (fun _ h9 => h9) rfl dX10_come_108 ?_
      have rf50 := hR 50
      refine lv_iconst (v := Int32.ofInt 0) hx hb dX10_come_111 (by decide +kernel) ?_
      refine iv_zast hx hb hX.1 hP hD hS 25 3 rfl rfl (wM_A49 _ _ _ _ _) (by omega) (by omega) (by omega) (by decide) dX10_come_112 (fun H locs hP hD hS => ?_)
      obtain ⟨hP, hD⟩ : va_P G vwCl (wM k ar fi (uF (uF fa 46 (g8)) 49 (uA (fa 49) (fi 50) (0))) g7) H ∧ va_D A (wM k ar fi (uF (uF fa 46 (g8)) 49 (uA (fa 49) (fi 50) (0))) g7) := ⟨hP, hD⟩
      obtain ⟨g9, eg9, rg9⟩ : ∃ z, z = uA (fa 49) (fi 50) (0) ∧ ∀ t, inR (z t) := ⟨_, rfl, iU (hRa 49) (by omega)⟩
      rw [← eg9] at hP hD
      refine lv_aload_n hx hb dX10_come_113 rfl (lv_at hl 2 rfl) ?_
      refine va_get (D := G) (ci := 7) (v := .ref (ar 47)) (C := RX10) (T := TX10) (N := 71) (ref := RX10) hx hb hts h1w hown hX.1 hP 0 rfl rfl 47 (by decide) h6w (fun _ h9 => h9) rfl dX10_come_114 ?_
      refine lv_aload_n hx hb dX10_come_117 rfl (lv_at hl 2 rfl) ?_
      refine va_get (D := G) (ci := 7) (v := .int (Int32.ofInt (fi 50))) (C := RX10) (T := TX10) (N := 71) (ref := RX10) hx hb hts h1w hown hX.1 hP 0 rfl rfl 50 (by decide) h2w (fun _ h9 => h9) rfl dX10_come_118 ?_
      have rf50 := hR 50
      refine lv_aload_n hx hb dX10_come_121 rfl (lv_at hl 2 rfl) ?_
      refine va_get (D := G) (ci := 7) (v := .ref (ar 48)) (C := RX10) (T := TX10) (N := 71) (ref := RX10) hx hb hts h1w hown hX.1 hP 0 rfl rfl 48 (by decide) h0w (fun _ h9 => h9) rfl dX10_come_122 ?_
      refine lv_iload hx hb dX10_come_125 (lv_at hl 1 rfl) ?_
      refine iv_iald hx hb hX.1 hP 24 0 rfl rfl (by omega) (by omega) (by decide) dX10_come_127 ?_
      refine iv_top (fun z10 ez10 => ?_)
      have rz10 : inR z10 := ez10 ▸ (hRa 48) _
      have ez10 : z10 = (fa 48) c1 := ez10
      refine iv_iast hx hb hX.1 hP hD hS 23 0 rfl rfl (wM_A47 _ _ _ _ _) (by omega) (by omega) (by decide) dX10_come_128 (fun H locs hP hD hS => ?_)
      obtain ⟨hP, hD⟩ : va_P G vwCl (wM k ar fi (uF (uF (uF fa 46 (g8)) 47 (uA (fa 47) (fi 50) (z10))) 49 (g9)) g7) H ∧ va_D A (wM k ar fi (uF (uF (uF fa 46 (g8)) 47 (uA (fa 47) (fi 50) (z10))) 49 (g9)) g7) := ⟨hP, hD⟩
      obtain ⟨g11, eg11, rg11⟩ : ∃ z, z = uA (fa 47) (fi 50) (z10) ∧ ∀ t, inR (z t) := ⟨_, rfl, iU (hRa 47) (by omega)⟩
      rw [← eg11] at hP hD
      refine lv_aload_n hx hb dX10_come_129 rfl (lv_at hl 2 rfl) ?_
      refine va_get (D := G) (ci := 7) (v := .ref (ar 48)) (C := RX10) (T := TX10) (N := 71) (ref := RX10) hx hb hts h1w hown hX.1 hP 0 rfl rfl 48 (by decide) h0w (fun _ h9 => h9) rfl dX10_come_130 ?_
      refine lv_iload hx hb dX10_come_133 (lv_at hl 1 rfl) ?_
      refine lv_aload_n hx hb dX10_come_135 rfl (lv_at hl 2 rfl) ?_
      refine va_get (D := G) (ci := 7) (v := .int (Int32.ofInt (fi 50))) (C := RX10) (T := TX10) (N := 71) (ref := RX10) hx hb hts h1w hown hX.1 hP 0 rfl rfl 50 (by decide) h2w (fun _ h9 => h9) rfl dX10_come_136 ?_
      have rf50 := hR 50
      refine iv_iast hx hb hX.1 hP hD hS 24 0 rfl rfl (wM_A48 _ _ _ _ _) (by omega) (by omega) (by decide) dX10_come_139 (fun H locs hP hD hS => ?_)
      obtain ⟨hP, hD⟩ : va_P G vwCl (wM k ar fi (uF (uF (uF (uF fa 46 (g8)) 47 (g11)) 48 (uA (fa 48) (c1) (fi 50))) 49 (g9)) g7) H ∧ va_D A (wM k ar fi (uF (uF (uF (uF fa 46 (g8)) 47 (g11)) 48 (uA (fa 48) (c1) (fi 50))) 49 (g9)) g7) := ⟨hP, hD⟩
      obtain ⟨g12, eg12, rg12⟩ : ∃ z, z = uA (fa 48) (c1) (fi 50) ∧ ∀ t, inR (z t) := ⟨_, rfl, iU (hRa 48) (by omega)⟩
      rw [← eg12] at hP hD
      refine lv_aload_n hx hb dX10_come_140 rfl (lv_at hl 2 rfl) ?_
      refine lv_dup hx hb dX10_come_141 rfl ?_
      refine va_get (D := G) (ci := 7) (v := .int (Int32.ofInt (fi 50))) (C := RX10) (T := TX10) (N := 71) (ref := RX10) hx hb hts h1w hown hX.1 hP 0 rfl rfl 50 (by decide) h2w (fun _ h9 => h9) rfl dX10_come_142 ?_
      have rf50 := hR 50
      refine lv_iconst (v := Int32.ofInt 1) hx hb dX10_come_145 (by decide +kernel) ?_
      refine iv_add (x := fi 50) (y := 1) hx hb dX10_come_146 ?_
      refine iv_put (ci := 7) (v := .int (Int32.ofInt ((fi 50 + 1)))) (ty := .int) (C := RX10) (T := TX10) (N := 71) (ref := RX10) hx hb hts h1w tyX10 tyX10_ok nmX10 hown hX.1 hP hD hS 0 rfl rfl 50 (by decide) h2w (fun _ h9 => h9) rfl (by decide +kernel) rfl rfl (Nat.le_of_ble_eq_true rfl) (wM_F50 _ _ _ _ _) dX10_come_147 (fun H locs hP hD hS => ?_)
      exact W.vret hx hb hr (fun t ht hW => ⟨⟨(g8, g11, g12, g9, (fi 50 + 1), fi 52, g7), rfl, (show (∀ t, inR (g8 t)) ∧ (∀ t, inR (g11 t)) ∧ (∀ t, inR (g12 t)) ∧ (∀ t, inR (g9 t)) ∧ (inR (fi 50 + 1)) ∧ (inR (fi 52)) ∧ (0 ≤ (fi 50 + 1) ∧ (fi 50 + 1) ≤ 1500 ∧ (∀ f, 0 ≤ f → f < 8192 → -1 ≤ g12 f ∧ g12 f < (fi 50 + 1)) ∧ (∀ t, 0 ≤ t → t < (fi 50 + 1) → -1 ≤ g11 t ∧ g11 t < t) ∧ FR (fi 50) (fa 49) (fi 50 + 1) g9) from ⟨rg8, rg11, rg12, rg9, (by omega), (hR 52), (by first | exact ⟨s1, s2, s3, s4, FR.rf⟩ | exact si_new s1 s2 s3 s4 (by omega) (by omega) (by omega) (by assumption) eg11 eg12 eg9)⟩), by rw [ht]; exact hP, hD⟩, hS.F ht⟩) hS.2.2 dX10_come_150
    · refine lv_aload_n hx hb dX10_come_77 rfl (lv_at hl 2 rfl) ?_
      refine lv_iconst (v := Int32.ofInt 1) hx hb dX10_come_78 (by decide +kernel) ?_
      refine iv_put (ci := 7) (v := .int (Int32.ofInt (1))) (ty := .boolean) (C := RX10) (T := TX10) (N := 71) (ref := RX10) hx hb hts h1w tyX10 tyX10_ok nmX10 hown hX.1 hP hD hS 0 rfl rfl 52 (by decide) h7w (fun _ h9 => h9) rfl (by decide +kernel) (nz_bool (by omega)) (fz_bool (by omega)) (Nat.le_of_ble_eq_true rfl) (wM_F52 _ _ _ _ _) dX10_come_79 (fun H locs hP hD hS => ?_)
      exact W.vret hx hb hr (fun t ht hW => ⟨⟨(g46_4, fa 47, fa 48, fa 49, fi 50, 1, fl), rfl, (show (∀ t, inR (g46_4 t)) ∧ (∀ t, inR ((fa 47) t)) ∧ (∀ t, inR ((fa 48) t)) ∧ (∀ t, inR ((fa 49) t)) ∧ (inR (fi 50)) ∧ (inR 1) ∧ (0 ≤ (fi 50) ∧ (fi 50) ≤ 1500 ∧ (∀ f, 0 ≤ f → f < 8192 → -1 ≤ (fa 48) f ∧ (fa 48) f < (fi 50)) ∧ (∀ t, 0 ≤ t → t < (fi 50) → -1 ≤ (fa 47) t ∧ (fa 47) t < t) ∧ FR (fi 50) (fa 49) (fi 50) (fa 49)) from ⟨r_g46_4, (hRa 47), (hRa 48), (hRa 49), (hR 50), (by omega), (by first | exact ⟨s1, s2, s3, s4, FR.rf⟩ | exact si_new s1 s2 s3 s4 (by omega) (by omega) (by omega) (by assumption) efa 47 efa 48 efa 49)⟩), by rw [ht]; exact hP, hD⟩, hS.F ht⟩) hS.2.2 dX10_come_82
  · refine lv_aload_n hx hb dX10_come_21 rfl (lv_at hl 2 rfl) ?_
    refine va_get (D := G) (ci := 7) (v := .ref (ar 45)) (C := RX10) (T := TX10) (N := 71) (ref := RX10) hx hb hts h1w hown hX.1 hP 0 rfl rfl 45 (by decide) h3w (fun _ h9 => h9) rfl dX10_come_22 ?_
    refine lv_iload hx hb dX10_come_25 (lv_at hl 0 rfl) ?_
    refine iv_lald hx hb hX.1 hP 21 2 rfl rfl (by omega) (by omega) (by decide) dX10_come_27 ?_
    refine lv_topl (fun z13 ez13 => ?_)
    refine lv_lload_n hx hb dX10_come_28 rfl (lv_at hl 3 rfl) ?_
    refine iv_lcmp hx hb dX10_come_29 ?_
    refine iv_top (fun z14 ez14 => ?_)
    have rz14 : inR z14 := ez14 ▸ bCmp_r _ _
    refine iv_if_eq (tgt := 36) hx hb (by omega) dX10_come_30 (by decide) (fun q15 => ?_) (fun q15 => ?_)
    · refine lv_aload_n hx hb dX10_come_36 rfl (lv_at hl 2 rfl) ?_
      refine va_get (D := G) (ci := 7) (v := .ref (ar 46)) (C := RX10) (T := TX10) (N := 71) (ref := RX10) hx hb hts h1w hown hX.1 hP 0 rfl rfl 46 (by decide) h4w (fun _ h9 => h9) rfl dX10_come_37 ?_
      refine lv_iload hx hb dX10_come_40 (lv_at hl 0 rfl) ?_
      refine lv_aload_n hx hb dX10_come_42 rfl (lv_at hl 2 rfl) ?_
      refine va_get (D := G) (ci := 7) (v := .ref (ar 46)) (C := RX10) (T := TX10) (N := 71) (ref := RX10) hx hb hts h1w hown hX.1 hP 0 rfl rfl 46 (by decide) h4w (fun _ h9 => h9) rfl dX10_come_43 ?_
      refine lv_iload hx hb dX10_come_46 (lv_at hl 0 rfl) ?_
      refine iv_iald hx hb hX.1 hP 22 0 rfl rfl (by omega) (by omega) (by decide) dX10_come_48 ?_
      refine iv_top (fun z16 ez16 => ?_)
      have rz16 : inR z16 := ez16 ▸ r_g46_4 _
      have ez16 : z16 = g46_4 x5_3 := ez16
      refine lv_iload_n hx hb dX10_come_49 rfl (lv_at hl 4 rfl) ?_
      refine iv_mmin hx hb (hml.trans hl.1.symm) hown h8w h9w h10w h11w (Nat.le_of_ble_eq_true rfl) (Nat.le_of_ble_eq_true rfl) (Nat.le_of_ble_eq_true rfl) (Nat.le_of_ble_eq_true rfl) (by omega) (by omega) dX10_come_50 (fun z17 ez17 => ?_)
      have rz17 : inR z17 := by omega
      refine iv_iast hx hb hX.1 hP hD hS 22 0 rfl rfl (wM_A46 _ _ _ _ _) (by omega) (by omega) (by decide) dX10_come_53 (fun H locs hP hD hS => ?_)
      obtain ⟨hP, hD⟩ : va_P G vwCl (wM k ar fi (uF fa 46 (uA (g46_4) (x5_3) (z17))) fl) H ∧ va_D A (wM k ar fi (uF fa 46 (uA (g46_4) (x5_3) (z17))) fl) := ⟨hP, hD⟩
      obtain ⟨g18, eg18, rg18⟩ : ∃ z, z = uA (g46_4) (x5_3) (z17) ∧ ∀ t, inR (z t) := ⟨_, rfl, iU r_g46_4 (by omega)⟩
      rw [← eg18] at hP hD
      exact W.vret hx hb hr (fun t ht hW => ⟨⟨(g18, fa 47, fa 48, fa 49, fi 50, fi 52, fl), rfl, (show (∀ t, inR (g18 t)) ∧ (∀ t, inR ((fa 47) t)) ∧ (∀ t, inR ((fa 48) t)) ∧ (∀ t, inR ((fa 49) t)) ∧ (inR (fi 50)) ∧ (inR (fi 52)) ∧ (0 ≤ (fi 50) ∧ (fi 50) ≤ 1500 ∧ (∀ f, 0 ≤ f → f < 8192 → -1 ≤ (fa 48) f ∧ (fa 48) f < (fi 50)) ∧ (∀ t, 0 ≤ t → t < (fi 50) → -1 ≤ (fa 47) t ∧ (fa 47) t < t) ∧ FR (fi 50) (fa 49) (fi 50) (fa 49)) from ⟨rg18, (hRa 47), (hRa 48), (hRa 49), (hR 50), (hR 52), (by first | exact ⟨s1, s2, s3, s4, FR.rf⟩ | exact si_new s1 s2 s3 s4 (by omega) (by omega) (by omega) (by assumption) efa 47 efa 48 efa 49)⟩), by rw [ht]; exact hP, hD⟩, hS.F ht⟩) hS.2.2 dX10_come_54
    · refine lv_goto (tgt := 55) hx hb dX10_come_33 (by decide) ?_
      refine lv_aload_n hx hb dX10_come_55 rfl (lv_at hl 2 rfl) ?_
      refine va_get (D := G) (ci := 7) (v := .ref (ar 47)) (C := RX10) (T := TX10) (N := 71) (ref := RX10) hx hb hts h1w hown hX.1 hP 0 rfl rfl 47 (by decide) h6w (fun _ h9 => h9) rfl dX10_come_56 ?_
      refine lv_iload hx hb dX10_come_59 (lv_at hl 0 rfl) ?_
      refine iv_iald hx hb hX.1 hP 23 0 rfl rfl (by omega) (by omega) (by decide) dX10_come_61 ?_
      refine iv_top (fun z19 ez19 => ?_)
      have rz19 : inR z19 := ez19 ▸ (hRa 47) _
      have ez19 : z19 = (fa 47) x5_3 := ez19
      have hn5 := s4 x5_3 (by omega) (by omega)
      refine lv_istore (lv' := [(5, .int (Int32.ofInt (z19))), (4, .int (Int32.ofInt (c1))), (0, .ref (ar 71)), (1, .long (v0)), (3, .int (Int32.ofInt (y0)))]) hx hb dX10_come_62 hl (by decide) rfl (fun ls hl => ?_)
      refine lv_goto (tgt := 15) hx hb dX10_come_64 (by decide) ?_
      have hl : lv_has ls 6 [(5, .int (Int32.ofInt (z19))), (4, .int (Int32.ofInt (c1))), (0, .ref (ar 71)), (1, .long (v0)), (3, .int (Int32.ofInt (y0)))] := lv_sub hl [0, 1, 2, 3, 4] rfl
      exact ih (z19, g46_4) (show (z19 + 1).toNat < (x5_3 + 1).toNat from by omega) (show inR z19 ∧ (∀ t, inR (g46_4 t)) ∧ (-1 ≤ z19 ∧ z19 < fi 50) from ⟨(by omega), r_g46_4, (by omega)⟩) _ _ _ hP hD hS hl

