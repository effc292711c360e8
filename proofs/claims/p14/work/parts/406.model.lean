set_option maxHeartbeats 4000000 in
set_option maxRecDepth 100000 in
theorem mX10_feed (l : Launch) (G : va_G) (k : Nat → ClassId) (ar : Nat → Nat) (fi : Nat → Int) (fa : Nat → Int → Int) (fl : Nat → Int64) (a : Int) (b : Int) (c0 : Int) (d0 : Int) (e0 : Int) (sz : Nat) (hR : ∀ j, inR (fi j)) (hRa : ∀ j t, inR (fa j t)) (hr_a : inR a) (hr_b : inR b) (hr_c0 : inR c0) (hr_d0 : inR d0) (hr_e0 : inR e0) (h1 : 0 ≤ fi 17) (h2 : fi 17 ≤ 600) : CNi l G k (EZ k) yX10_feed wzX10_feed ({ frames := 0, cells := 0, slots := 0, locals := 0 }) [.ref (ar 71), .int (Int32.ofInt (a)), .int (Int32.ofInt (b)), .int (Int32.ofInt (c0)), .int (Int32.ofInt (d0)), .int (Int32.ofInt (e0))] sz (wM k ar fi fa fl) (fun (r0 : Int32) (u : Int × (Int → Int) × Int × Int) => r0 = Int32.ofInt (u.1) ∧ (inR u.1) ∧ (∀ t, inR (u.2.1 t)) ∧ (inR u.2.2.1) ∧ (inR u.2.2.2) ∧ (u.2.2.1 = 0 ∧ (fi 17 ≤ 580 → u.2.2.2 = fi 17 + 20 ∧ u.1 = u.2.2.2) ∧ (580 < fi 17 → u.2.2.2 = fi 17 ∧ u.1 = -1))) (fun (u : Int × (Int → Int) × Int × Int) => (wM k ar (uF (uF fi 2 (u.2.2.1)) 17 (u.2.2.2)) (uF fa 16 (u.2.1)) fl)) := by
  refine Met.ofW (cc := cX10_feed) (maxL := 8) (ret := (some .int)) (by decide) rfl ?_
  intro p e s m args below meth c s₁ B hml hv
  obtain ⟨rfl, hsz, hP, hX, hD0, hZ0⟩ := hv
  have hx := B.exec
  have hb := B.bytes
  have hr := B.returns
  have hts := atoms_spec (ws := wzX10_feed) B.pre
  have hown : s.vm.findClass RX10 = some m.cls := findClass_of_methodNamed B.named
  subst hsz
  have hD := hD0.self (sz := s.heap.size)
  have hZ := hZ0
  generalize hAe : va_A (wM k ar fi fa fl) s.heap.size = A at hD hZ ⊢
  have hA : ∀ q : Nat, s.heap.size ≤ q → A q := fun q h => by rw [← hAe]; exact Or.inr h
  have hS : va_S A s.heap s.heap [] := va_S.rf
  have hl := lv_entry ([.ref (ar 71), .int (Int32.ofInt (a)), .int (Int32.ofInt (b)), .int (Int32.ofInt (c0)), .int (Int32.ofInt (d0)), .int (Int32.ofInt (e0))]) (n := 8) (Nat.le_of_ble_eq_true rfl)
  rw [lg_entry_eq]
  generalize (lg_sl ([.ref (ar 71), .int (Int32.ofInt (a)), .int (Int32.ofInt (b)), .int (Int32.ofInt (c0)), .int (Int32.ofInt (d0)), .int (Int32.ofInt (e0))]) ++ List.replicate (8 - (lg_sl ([.ref (ar 71), .int (Int32.ofInt (a)), .int (Int32.ofInt (b)), .int (Int32.ofInt (c0)), .int (Int32.ofInt (d0)), .int (Int32.ofInt (e0))])).length) Slot.unset).toArray = ls at hl ⊢
  have hl : lv_has ls 8 [(0, .ref (ar 71)), (1, .int (Int32.ofInt (a))), (2, .int (Int32.ofInt (b))), (3, .int (Int32.ofInt (c0))), (4, .int (Int32.ofInt (d0))), (5, .int (Int32.ofInt (e0)))] := hl
  obtain ⟨H, eH⟩ : ∃ H, H = s.heap := ⟨_, rfl⟩
  rw [← eH] at hP
  have hS : va_S A s.heap H [] := by rw [eH]; exact hS
  have gW : s.heap = H := eH.symm
  refine iv_heap gW ?_
  have h0w := hts (.fieldLink RX10 171 "RopeTownModel" "code" "I") (wz_at 8 12 rfl)
  have h1w : ∀ w ∈ wsX100, w ∈ wzX10_feed := fun w h => List.mem_cons_of_mem _ (inlX10 w h)
  have h2w := hts (.fieldLink RX10 181 "RopeTownModel" "taped" "I") (wz_at 8 13 rfl)
  have h3w := hts (.fieldLink RX10 80 "RopeTownModel" "tape" "[I") (wz_at 6 15 rfl)
  refine lv_aload_n hx hb dX10_feed_0 rfl (lv_at hl 0 rfl) ?_
  refine lv_iconst (v := Int32.ofInt 0) hx hb dX10_feed_1 (by decide +kernel) ?_
  refine iv_put (ci := 7) (v := .int (Int32.ofInt (0))) (ty := .int) (C := RX10) (T := TX10) (N := 71) (ref := RX10) hx hb hts h1w tyX10 tyX10_ok nmX10 hown hX.1 hP hD hS 0 rfl rfl 2 (by decide) h0w (fun _ h9 => h9) rfl (by decide +kernel) rfl rfl (Nat.le_of_ble_eq_true rfl) (wM_F2 _ _ _ _ _) dX10_feed_2 (fun H locs hP hD hS => ?_)
  refine lv_aload_n hx hb dX10_feed_5 rfl (lv_at hl 0 rfl) ?_
  refine va_get (D := G) (ci := 7) (v := .int (Int32.ofInt (fi 17))) (C := RX10) (T := TX10) (N := 71) (ref := RX10) hx hb hts h1w hown hX.1 hP 0 rfl rfl 17 (by decide) h2w (fun _ h9 => h9) rfl dX10_feed_6 ?_
  have rf17 := hR 17
  refine lv_bipush (v := Int32.ofInt 20) hx hb dX10_feed_9 (by decide +kernel) ?_
  refine iv_add (x := fi 17) (y := 20) hx hb dX10_feed_11 ?_
  refine lv_sipush (v := Int32.ofInt 600) hx hb dX10_feed_12 (by decide +kernel) ?_
  refine iv_icmp_le (tgt := 20) hx hb (by omega) (by omega) dX10_feed_15 (by decide) (fun q1 => ?_) (fun q1 => ?_)
  · refine lv_iconst (v := Int32.ofInt 0) hx hb dX10_feed_20 (by decide +kernel) ?_
    refine lv_istore (lv' := [(6, .int (Int32.ofInt (0))), (0, .ref (ar 71)), (1, .int (Int32.ofInt (a))), (2, .int (Int32.ofInt (b))), (3, .int (Int32.ofInt (c0))), (4, .int (Int32.ofInt (d0))), (5, .int (Int32.ofInt (e0)))]) hx hb dX10_feed_21 hl (by decide) rfl (fun ls hl => ?_)
    refine iv_loop (α := Int × Int × (Int → Int)) (nL := 8) (fun b9 => (wM k ar (uF (uF fi 2 (0)) 17 (b9.2.1)) (uF fa 16 (b9.2.2)) fl)) (fun b9 => [(6, .int (Int32.ofInt (b9.1))), (0, .ref (ar 71)), (1, .int (Int32.ofInt (a))), (2, .int (Int32.ofInt (b))), (3, .int (Int32.ofInt (c0))), (4, .int (Int32.ofInt (d0))), (5, .int (Int32.ofInt (e0)))]) (fun b9 => (20 - b9.1).toNat) (fun b9 => inR b9.1 ∧ inR b9.2.1 ∧ (∀ t, inR (b9.2.2 t)) ∧ (0 ≤ b9.1 ∧ b9.1 ≤ 20 ∧ b9.2.1 = fi 17 + b9.1 ∧ fi 17 ≤ 580)) ?_ (0, fi 17, fa 16) (show inR 0 ∧ inR (fi 17) ∧ (∀ t, inR ((fa 16) t)) ∧ (0 ≤ 0 ∧ 0 ≤ 20 ∧ (fi 17) = fi 17 + 0 ∧ fi 17 ≤ 580) from ⟨(by omega), (hR 17), (hRa 16), (by omega)⟩) hP hD hS hl
    rintro ⟨x6_2, n17_3, g16_4⟩ ih hi9 H locs ls hP hD hS hl
    obtain ⟨r_x6_2, r_n17_3, r_g16_4, hinv⟩ : inR x6_2 ∧ inR n17_3 ∧ (∀ t, inR (g16_4 t)) ∧ (0 ≤ x6_2 ∧ x6_2 ≤ 20 ∧ n17_3 = fi 17 + x6_2 ∧ fi 17 ≤ 580) := hi9
    obtain ⟨hP, hD⟩ : va_P G vwCl (wM k ar (uF (uF fi 2 (0)) 17 (n17_3)) (uF fa 16 (g16_4)) fl) H ∧ va_D A (wM k ar (uF (uF fi 2 (0)) 17 (n17_3)) (uF fa 16 (g16_4)) fl) := ⟨hP, hD⟩
    have hl : lv_has ls 8 [(6, .int (Int32.ofInt (x6_2))), (0, .ref (ar 71)), (1, .int (Int32.ofInt (a))), (2, .int (Int32.ofInt (b))), (3, .int (Int32.ofInt (c0))), (4, .int (Int32.ofInt (d0))), (5, .int (Int32.ofInt (e0)))] := hl
    refine lv_iload hx hb dX10_feed_23 (lv_at hl 0 rfl) ?_
    refine lv_bipush (v := Int32.ofInt 20) hx hb dX10_feed_25 (by decide +kernel) ?_
    refine iv_icmp_ge (tgt := 120) hx hb (by omega) (by omega) dX10_feed_27 (by decide) (fun q5 => ?_) (fun q5 => ?_)
    · refine lv_aload_n hx hb dX10_feed_120 rfl (lv_at hl 1 rfl) ?_
      refine va_get (D := G) (ci := 7) (v := .int (Int32.ofInt (n17_3))) (C := RX10) (T := TX10) (N := 71) (ref := RX10) hx hb hts h1w hown hX.1 hP 0 rfl rfl 17 (by decide) h2w (fun _ h9 => h9) rfl dX10_feed_121 ?_
      exact W.iret (v := Int32.ofInt (n17_3)) hx hb hr (fun t ht hW => ⟨⟨Int32.ofInt (n17_3), (n17_3, g16_4, 0, n17_3), rfl, ⟨rfl, (show (inR n17_3) ∧ (∀ t, inR (g16_4 t)) ∧ (inR 0) ∧ (inR n17_3) ∧ (0 = 0 ∧ (fi 17 ≤ 580 → n17_3 = fi 17 + 20 ∧ n17_3 = n17_3) ∧ (580 < fi 17 → n17_3 = fi 17 ∧ n17_3 = -1)) from ⟨(by omega), r_g16_4, (by omega), (by omega), (by omega)⟩)⟩, by rw [ht]; exact hP, hD⟩, hS.F ht⟩) hS.2.2 dX10_feed_124
    · refine iv_join (G := G) (A := A) (H0 := s.heap) (α := Int) (nL := 8) 76 (fun b9 => [.int (Int32.ofInt (b9))]) (fun b9 => (wM k ar (uF (uF fi 2 (0)) 17 (n17_3)) (uF fa 16 (g16_4)) fl)) (fun b9 => [(6, .int (Int32.ofInt (x6_2))), (0, .ref (ar 71)), (1, .int (Int32.ofInt (a))), (2, .int (Int32.ofInt (b))), (3, .int (Int32.ofInt (c0))), (4, .int (Int32.ofInt (d0))), (5, .int (Int32.ofInt (e0)))]) (fun b9 => inR b9 ∧ (True)) ?_ (fun J76 => ?_)
      · intro s0_6 hi9 H locs ls hP hD hS hl
        obtain ⟨r_s0_6, hinv⟩ : inR s0_6 ∧ (True) := hi9
        obtain ⟨hP, hD⟩ : va_P G vwCl (wM k ar (uF (uF fi 2 (0)) 17 (n17_3)) (uF fa 16 (g16_4)) fl) H ∧ va_D A (wM k ar (uF (uF fi 2 (0)) 17 (n17_3)) (uF fa 16 (g16_4)) fl) := ⟨hP, hD⟩
        have hl : lv_has ls 8 [(6, .int (Int32.ofInt (x6_2))), (0, .ref (ar 71)), (1, .int (Int32.ofInt (a))), (2, .int (Int32.ofInt (b))), (3, .int (Int32.ofInt (c0))), (4, .int (Int32.ofInt (d0))), (5, .int (Int32.ofInt (e0)))] := hl
        refine lv_istore (lv' := [(7, .int (Int32.ofInt (s0_6))), (6, .int (Int32.ofInt (x6_2))), (0, .ref (ar 71)), (1, .int (Int32.ofInt (a))), (2, .int (Int32.ofInt (b))), (3, .int (Int32.ofInt (c0))), (4, .int (Int32.ofInt (d0))), (5, .int (Int32.ofInt (e0)))]) hx hb dX10_feed_76 hl (by decide) rfl (fun ls hl => ?_)
        refine lv_aload_n hx hb dX10_feed_78 rfl (lv_at hl 2 rfl) ?_
        refine va_get (D := G) (ci := 7) (v := .ref (ar 16)) (C := RX10) (T := TX10) (N := 71) (ref := RX10) hx hb hts h1w hown hX.1 hP 0 rfl rfl 16 (by decide) h3w (fun _ h9 => h9) rfl dX10_feed_79 ?_
        refine lv_aload_n hx hb dX10_feed_82 rfl (lv_at hl 2 rfl) ?_
        refine va_get (D := G) (ci := 7) (v := .int (Int32.ofInt (n17_3))) (C := RX10) (T := TX10) (N := 71) (ref := RX10) hx hb hts h1w hown hX.1 hP 0 rfl rfl 17 (by decide) h2w (fun _ h9 => h9) rfl dX10_feed_83 ?_
        refine lv_iload hx hb dX10_feed_86 (lv_at hl 0 rfl) ?_
        refine lv_bipush (v := Int32.ofInt 24) hx hb dX10_feed_88 (by decide +kernel) ?_
        refine lv_bipush (v := Int32.ofInt 8) hx hb dX10_feed_90 (by decide +kernel) ?_
        refine lv_iload hx hb dX10_feed_92 (lv_at hl 1 rfl) ?_
        refine lv_iconst (v := Int32.ofInt 4) hx hb dX10_feed_94 (by decide +kernel) ?_
        refine iv_rem hx hb dX10_feed_95 (by omega) (by omega) ?_
        refine iv_top (fun z7 ez7 => ?_)
        have rz7 : inR z7 := ez7 ▸ bRem_r _ _
        refine iv_mul (x := 8) (y := z7) hx hb dX10_feed_96 ?_
        refine iv_sub (x := 24) (y := (8 * z7)) hx hb dX10_feed_97 ?_
        refine iv_shr hx hb dX10_feed_98 ?_
        refine iv_top (fun z8 ez8 => ?_)
        have rz8 : inR z8 := ez8 ▸ bShr_r _ _
        refine lv_sipush (v := Int32.ofInt 255) hx hb dX10_feed_99 (by decide +kernel) ?_
        refine iv_and hx hb dX10_feed_102 ?_
        refine iv_top (fun z9 ez9 => ?_)
        have rz9 : inR z9 := ez9 ▸ bAnd_r _ _
        refine iv_iast hx hb hX.1 hP hD hS 10 0 rfl rfl (wM_A16 _ _ _ _ _) (by omega) (by omega) (by decide) dX10_feed_103 (fun H locs hP hD hS => ?_)
        obtain ⟨hP, hD⟩ : va_P G vwCl (wM k ar (uF (uF fi 2 (0)) 17 (n17_3)) (uF fa 16 (uA (g16_4) (n17_3) (z9))) fl) H ∧ va_D A (wM k ar (uF (uF fi 2 (0)) 17 (n17_3)) (uF fa 16 (uA (g16_4) (n17_3) (z9))) fl) := ⟨hP, hD⟩
        obtain ⟨g10, eg10, rg10⟩ : ∃ z, z = uA (g16_4) (n17_3) (z9) ∧ ∀ t, inR (z t) := ⟨_, rfl, iU r_g16_4 (by omega)⟩
        rw [← eg10] at hP hD
        refine lv_aload_n hx hb dX10_feed_104 rfl (lv_at hl 2 rfl) ?_
        refine lv_dup hx hb dX10_feed_105 rfl ?_
        refine va_get (D := G) (ci := 7) (v := .int (Int32.ofInt (n17_3))) (C := RX10) (T := TX10) (N := 71) (ref := RX10) hx hb hts h1w hown hX.1 hP 0 rfl rfl 17 (by decide) h2w (fun _ h9 => h9) rfl dX10_feed_106 ?_
        refine lv_iconst (v := Int32.ofInt 1) hx hb dX10_feed_109 (by decide +kernel) ?_
        refine iv_add (x := n17_3) (y := 1) hx hb dX10_feed_110 ?_
        refine iv_put (ci := 7) (v := .int (Int32.ofInt ((n17_3 + 1)))) (ty := .int) (C := RX10) (T := TX10) (N := 71) (ref := RX10) hx hb hts h1w tyX10 tyX10_ok nmX10 hown hX.1 hP hD hS 0 rfl rfl 17 (by decide) h2w (fun _ h9 => h9) rfl (by decide +kernel) rfl rfl (Nat.le_of_ble_eq_true rfl) (wM_F17 _ _ _ _ _) dX10_feed_111 (fun H locs hP hD hS => ?_)
        obtain ⟨hP, hD⟩ : va_P G vwCl (wM k ar (uF (uF fi 2 (0)) 17 ((n17_3 + 1))) (uF fa 16 (g10)) fl) H ∧ va_D A (wM k ar (uF (uF fi 2 (0)) 17 ((n17_3 + 1))) (uF fa 16 (g10)) fl) := ⟨hP, hD⟩
        refine lv_iinc (v := Int32.ofInt (x6_2 + 1)) (lv' := [(6, .int (Int32.ofInt ((x6_2 + 1)))), (7, .int (Int32.ofInt (s0_6))), (0, .ref (ar 71)), (1, .int (Int32.ofInt (a))), (2, .int (Int32.ofInt (b))), (3, .int (Int32.ofInt (c0))), (4, .int (Int32.ofInt (d0))), (5, .int (Int32.ofInt (e0)))]) hx hb dX10_feed_114 hl (k := 1) rfl (Int32.ofInt_add _ _).symm (by decide) rfl (fun ls hl => ?_)
        refine lv_goto (tgt := 23) hx hb dX10_feed_117 (by decide) ?_
        have hl : lv_has ls 8 [(6, .int (Int32.ofInt ((x6_2 + 1)))), (0, .ref (ar 71)), (1, .int (Int32.ofInt (a))), (2, .int (Int32.ofInt (b))), (3, .int (Int32.ofInt (c0))), (4, .int (Int32.ofInt (d0))), (5, .int (Int32.ofInt (e0)))] := lv_sub hl [0, 2, 3, 4, 5, 6, 7] rfl
        exact ih ((x6_2 + 1), (n17_3 + 1), g10) (show (20 - (x6_2 + 1)).toNat < (20 - x6_2).toNat from by omega) (show inR (x6_2 + 1) ∧ inR (n17_3 + 1) ∧ (∀ t, inR (g10 t)) ∧ (0 ≤ (x6_2 + 1) ∧ (x6_2 + 1) ≤ 20 ∧ (n17_3 + 1) = fi 17 + (x6_2 + 1) ∧ fi 17 ≤ 580) from ⟨(by omega), (by omega), rg10, (by omega)⟩) _ _ _ hP hD hS hl
      · refine lv_iload hx hb dX10_feed_30 (lv_at hl 0 rfl) ?_
        refine lv_iconst (v := Int32.ofInt 4) hx hb dX10_feed_32 (by decide +kernel) ?_
        refine iv_icmp_ge (tgt := 40) hx hb (by omega) (by omega) dX10_feed_33 (by decide) (fun q11 => ?_) (fun q11 => ?_)
        · refine lv_iload hx hb dX10_feed_40 (lv_at hl 0 rfl) ?_
          refine lv_bipush (v := Int32.ofInt 8) hx hb dX10_feed_42 (by decide +kernel) ?_
          refine iv_icmp_ge (tgt := 51) hx hb (by omega) (by omega) dX10_feed_44 (by decide) (fun q12 => ?_) (fun q12 => ?_)
          · refine lv_iload hx hb dX10_feed_51 (lv_at hl 0 rfl) ?_
            refine lv_bipush (v := Int32.ofInt 12) hx hb dX10_feed_53 (by decide +kernel) ?_
            refine iv_icmp_ge (tgt := 62) hx hb (by omega) (by omega) dX10_feed_55 (by decide) (fun q13 => ?_) (fun q13 => ?_)
            · refine lv_iload hx hb dX10_feed_62 (lv_at hl 0 rfl) ?_
              refine lv_bipush (v := Int32.ofInt 16) hx hb dX10_feed_64 (by decide +kernel) ?_
              refine iv_icmp_ge (tgt := 74) hx hb (by omega) (by omega) dX10_feed_66 (by decide) (fun q14 => ?_) (fun q14 => ?_)
              · refine lv_iload hx hb dX10_feed_74 (lv_at hl 6 rfl) ?_
                have hl : lv_has ls 8 [(6, .int (Int32.ofInt (x6_2))), (0, .ref (ar 71)), (1, .int (Int32.ofInt (a))), (2, .int (Int32.ofInt (b))), (3, .int (Int32.ofInt (c0))), (4, .int (Int32.ofInt (d0))), (5, .int (Int32.ofInt (e0)))] := lv_sub hl [0, 1, 2, 3, 4, 5, 6] rfl
                exact J76 (e0) (show inR e0 ∧ (True) from ⟨(by omega), (by trivial)⟩) _ _ _ hP hD hS hl
              · refine lv_iload hx hb dX10_feed_69 (lv_at hl 5 rfl) ?_
                refine lv_goto (tgt := 76) hx hb dX10_feed_71 (by decide) ?_
                have hl : lv_has ls 8 [(6, .int (Int32.ofInt (x6_2))), (0, .ref (ar 71)), (1, .int (Int32.ofInt (a))), (2, .int (Int32.ofInt (b))), (3, .int (Int32.ofInt (c0))), (4, .int (Int32.ofInt (d0))), (5, .int (Int32.ofInt (e0)))] := lv_sub hl [0, 1, 2, 3, 4, 5, 6] rfl
                exact J76 (d0) (show inR d0 ∧ (True) from ⟨(by omega), (by trivial)⟩) _ _ _ hP hD hS hl
            · refine lv_iload_n hx hb dX10_feed_58 rfl (lv_at hl 4 rfl) ?_
              refine lv_goto (tgt := 76) hx hb dX10_feed_59 (by decide) ?_
              have hl : lv_has ls 8 [(6, .int (Int32.ofInt (x6_2))), (0, .ref (ar 71)), (1, .int (Int32.ofInt (a))), (2, .int (Int32.ofInt (b))), (3, .int (Int32.ofInt (c0))), (4, .int (Int32.ofInt (d0))), (5, .int (Int32.ofInt (e0)))] := lv_sub hl [0, 1, 2, 3, 4, 5, 6] rfl
              exact J76 (c0) (show inR c0 ∧ (True) from ⟨(by omega), (by trivial)⟩) _ _ _ hP hD hS hl
          · refine lv_iload_n hx hb dX10_feed_47 rfl (lv_at hl 3 rfl) ?_
            refine lv_goto (tgt := 76) hx hb dX10_feed_48 (by decide) ?_
            have hl : lv_has ls 8 [(6, .int (Int32.ofInt (x6_2))), (0, .ref (ar 71)), (1, .int (Int32.ofInt (a))), (2, .int (Int32.ofInt (b))), (3, .int (Int32.ofInt (c0))), (4, .int (Int32.ofInt (d0))), (5, .int (Int32.ofInt (e0)))] := lv_sub hl [0, 1, 2, 3, 4, 5, 6] rfl
            exact J76 (b) (show inR b ∧ (True) from ⟨(by omega), (by trivial)⟩) _ _ _ hP hD hS hl
        · refine lv_iload_n hx hb dX10_feed_36 rfl (lv_at hl 2 rfl) ?_
          refine lv_goto (tgt := 76) hx hb dX10_feed_37 (by decide) ?_
          have hl : lv_has ls 8 [(6, .int (Int32.ofInt (x6_2))), (0, .ref (ar 71)), (1, .int (Int32.ofInt (a))), (2, .int (Int32.ofInt (b))), (3, .int (Int32.ofInt (c0))), (4, .int (Int32.ofInt (d0))), (5, .int (Int32.ofInt (e0)))] := lv_sub hl [0, 1, 2, 3, 4, 5, 6] rfl
          exact J76 (a) (show inR a ∧ (True) from ⟨(by omega), (by trivial)⟩) _ _ _ hP hD hS hl
  · refine lv_iconst (v := Int32.ofInt (-1)) hx hb dX10_feed_18 (by decide +kernel) ?_
    exact W.iret (v := Int32.ofInt ((-1))) hx hb hr (fun t ht hW => ⟨⟨Int32.ofInt ((-1)), ((-1), fa 16, 0, fi 17), rfl, ⟨rfl, (show (inR (-1)) ∧ (∀ t, inR ((fa 16) t)) ∧ (inR 0) ∧ (inR (fi 17)) ∧ (0 = 0 ∧ (fi 17 ≤ 580 → (fi 17) = fi 17 + 20 ∧ (-1) = (fi 17)) ∧ (580 < fi 17 → (fi 17) = fi 17 ∧ (-1) = -1)) from ⟨(by omega), (hRa 16), (by omega), (hR 17), (by omega)⟩)⟩, by rw [ht]; exact hP, hD⟩, hS.F ht⟩) hS.2.2 dX10_feed_19

