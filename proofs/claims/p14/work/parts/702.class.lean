set_option maxHeartbeats 4000000 in
set_option maxRecDepth 100000 in
theorem mX5_worth (l : Launch) (G : va_G) (k : Nat → ClassId) (ar : Nat → Nat) (fi : Nat → Int) (fa : Nat → Int → Int) (q0 : Int) (sz : Nat) (hR : ∀ j, inR (fi j)) (hRa : ∀ j t, inR (fa j t)) (hB8 : bnd (fa 8) 7 0 4) (hB20 : bnd (fa 20) 600 (-1000) 10000) (hB21 : bnd (fa 21) 4 0 601) (hr_q0 : inR q0) (hsz : 0 ≤ fi 24 ∧ fi 24 ≤ 4) (hq0 : 0 ≤ q0 ∧ q0 < fi 24) (hrc : RWf (dcf (fa 20)) (stq (fa 21) q0) (fa 21 q0)) : CNi l G k (EZ k) yX5_worth wzX5_worth ({ frames := 1, cells := 0, slots := 0, locals := 22 }) [.ref (ar 98), .int (Int32.ofInt (q0)), .ref (ar 13)] sz (wP k ar fi fa) (fun (r0 : Int32) (u : Int × (Int → Int)) => r0 = Int32.ofInt (u.1) ∧ (inR u.1) ∧ (∀ t, inR (u.2 t)) ∧ (u.1 = evR (dcf (fa 20)) (fa 13) (stq (fa 21) q0) (fa 21 q0))) (fun (u : Int × (Int → Int)) => (wP k ar fi (uF fa 22 (u.2)))) := by
  refine Met.ofW (cc := cX5_worth) (maxL := 7) (ret := (some .int)) (by decide) rfl ?_
  intro p e s m args below meth c s₁ B hml hv
  obtain ⟨rfl, hsz, hP, hX, hD0, hZ0⟩ := hv
  have hx := B.exec
  have hb := B.bytes
  have hr := B.returns
  have hts := atoms_spec (ws := wzX5_worth) B.pre
  have hown : s.vm.findClass RX5 = some m.cls := findClass_of_methodNamed B.named
  subst hsz
  have hD := hD0.self (sz := s.heap.size)
  have hZ := hZ0
  generalize hAe : va_A (wP k ar fi fa) s.heap.size = A at hD hZ ⊢
  have hA : ∀ q : Nat, s.heap.size ≤ q → A q := fun q h => by rw [← hAe]; exact Or.inr h
  have hS : va_S A s.heap s.heap [] := va_S.rf
  have hl := lv_entry ([.ref (ar 98), .int (Int32.ofInt (q0)), .ref (ar 13)]) (n := 7) (Nat.le_of_ble_eq_true rfl)
  rw [lg_entry_eq]
  generalize (lg_sl ([.ref (ar 98), .int (Int32.ofInt (q0)), .ref (ar 13)]) ++ List.replicate (7 - (lg_sl ([.ref (ar 98), .int (Int32.ofInt (q0)), .ref (ar 13)])).length) Slot.unset).toArray = ls at hl ⊢
  have hl : lv_has ls 7 [(0, .ref (ar 98)), (1, .int (Int32.ofInt (q0))), (2, .ref (ar 13))] := hl
  obtain ⟨H, eH⟩ : ∃ H, H = s.heap := ⟨_, rfl⟩
  rw [← eH] at hP
  have hS : va_S A s.heap H [] := by rw [eH]; exact hS
  have gW : s.heap = H := eH.symm
  refine iv_heap gW ?_
  have h0w := hts (.fieldLink RX5 15 "RopeTown$Rules" "ends" "[I") (wz_at 2 6 rfl)
  have h1w : ∀ w ∈ wsX50, w ∈ wzX5_worth := fun w h => List.mem_cons_of_mem _ (inlX5 w h)
  have h2w := hts (.fieldLink RX5 18 "RopeTown$Rules" "held" "[I") (wz_at 2 7 rfl)
  have h3w := hts (.fieldLink RX5 9 "RopeTown$Rules" "code" "[I") (wz_at 2 5 rfl)
  refine lv_iload_n hx hb dX5_worth_0 rfl (lv_at hl 1 rfl) ?_
  refine iv_join (G := G) (A := A) (H0 := s.heap) (α := Int) (nL := 7) 16 (fun b9 => [.int (Int32.ofInt (b9))]) (fun b9 => (wP k ar fi fa)) (fun b9 => [(0, .ref (ar 98)), (1, .int (Int32.ofInt (q0))), (2, .ref (ar 13))]) (fun b9 => inR b9 ∧ (b9 = stq (fa 21) q0)) ?_ (fun J16 => ?_)
  · intro s0_1 hi9 H locs ls hP hD hS hl
    obtain ⟨r_s0_1, hinv⟩ : inR s0_1 ∧ (s0_1 = stq (fa 21) q0) := hi9
    obtain ⟨hP, hD⟩ : va_P G vwCl (wP k ar fi fa) H ∧ va_D A (wP k ar fi fa) := ⟨hP, hD⟩
    have hl : lv_has ls 7 [(0, .ref (ar 98)), (1, .int (Int32.ofInt (q0))), (2, .ref (ar 13))] := hl
    obtain ⟨b0, b1, b2, h, b3, b4, hok⟩ := hrc
    have hz9 : h s0_1 = 0 := by rw [hinv]; exact b3
    refine lv_istore_n (lv' := [(3, .int (Int32.ofInt (s0_1))), (0, .ref (ar 98)), (1, .int (Int32.ofInt (q0))), (2, .ref (ar 13))]) hx hb dX5_worth_16 rfl hl (by decide) rfl (fun ls hl => ?_)
    refine lv_iconst (v := Int32.ofInt 0) hx hb dX5_worth_17 (by decide +kernel) ?_
    refine lv_istore (lv' := [(4, .int (Int32.ofInt (0))), (3, .int (Int32.ofInt (s0_1))), (0, .ref (ar 98)), (1, .int (Int32.ofInt (q0))), (2, .ref (ar 13))]) hx hb dX5_worth_18 hl (by decide) rfl (fun ls hl => ?_)
    refine lv_iload_n hx hb dX5_worth_20 rfl (lv_at hl 1 rfl) ?_
    refine lv_istore (lv' := [(5, .int (Int32.ofInt (s0_1))), (4, .int (Int32.ofInt (0))), (3, .int (Int32.ofInt (s0_1))), (0, .ref (ar 98)), (1, .int (Int32.ofInt (q0))), (2, .ref (ar 13))]) hx hb dX5_worth_21 hl (by decide) rfl (fun ls hl => ?_)
    refine iv_loop (α := Int × Int × (Int → Int)) (nL := 7) (fun b9 => (wP k ar fi (uF fa 22 (b9.2.2)))) (fun b9 => [(5, .int (Int32.ofInt (b9.1))), (4, .int (Int32.ofInt (b9.2.1))), (3, .int (Int32.ofInt (s0_1))), (0, .ref (ar 98)), (1, .int (Int32.ofInt (q0))), (2, .ref (ar 13))]) (fun b9 => (600 - b9.1).toNat) (fun b9 => inR b9.1 ∧ inR b9.2.1 ∧ (∀ t, inR (b9.2.2 t)) ∧ ((0 ≤ b9.1 ∧ s0_1 ≤ b9.1 ∧ b9.1 ≤ fa 21 q0 ∧ b9.2.1 = h b9.1 ∧ 0 ≤ b9.2.1 ∧ b9.2.1 ≤ 32) ∧ RunI (dcf (fa 20)) (fa 13) (stq (fa 21) q0) b9.1 b9.2.2 b9.2.1)) ?_ (s0_1, 0, fa 22) (show inR s0_1 ∧ inR 0 ∧ (∀ t, inR ((fa 22) t)) ∧ ((0 ≤ s0_1 ∧ s0_1 ≤ s0_1 ∧ s0_1 ≤ fa 21 q0 ∧ 0 = h s0_1 ∧ 0 ≤ 0 ∧ 0 ≤ 32) ∧ RunI (dcf (fa 20)) (fa 13) (stq (fa 21) q0) s0_1 (fa 22) 0) from ⟨(by omega), (by omega), (hRa 22), (by exact ⟨by omega, ri_0 (by omega) rfl⟩)⟩) hP hD hS hl
    rintro ⟨x5_2, x4_3, g22_4⟩ ih hi9 H locs ls hP hD hS hl
    obtain ⟨r_x5_2, r_x4_3, r_g22_4, hinv⟩ : inR x5_2 ∧ inR x4_3 ∧ (∀ t, inR (g22_4 t)) ∧ ((0 ≤ x5_2 ∧ s0_1 ≤ x5_2 ∧ x5_2 ≤ fa 21 q0 ∧ x4_3 = h x5_2 ∧ 0 ≤ x4_3 ∧ x4_3 ≤ 32) ∧ RunI (dcf (fa 20)) (fa 13) (stq (fa 21) q0) x5_2 g22_4 x4_3) := hi9
    obtain ⟨hinv, hRI⟩ := hinv
    obtain ⟨hP, hD⟩ : va_P G vwCl (wP k ar fi (uF fa 22 (g22_4))) H ∧ va_D A (wP k ar fi (uF fa 22 (g22_4))) := ⟨hP, hD⟩
    have hl : lv_has ls 7 [(5, .int (Int32.ofInt (x5_2))), (4, .int (Int32.ofInt (x4_3))), (3, .int (Int32.ofInt (s0_1))), (0, .ref (ar 98)), (1, .int (Int32.ofInt (q0))), (2, .ref (ar 13))] := hl
    refine lv_iload hx hb dX5_worth_23 (lv_at hl 0 rfl) ?_
    refine lv_aload_n hx hb dX5_worth_25 rfl (lv_at hl 3 rfl) ?_
    refine va_get (D := G) (ci := 4) (v := .ref (ar 21)) (C := RX5) (T := TX5) (N := 5) (ref := RX5) hx hb hts h1w hown hX.1 hP 1 rfl rfl 1 (by decide) h0w (fun _ h9 => h9) rfl dX5_worth_26 ?_
    refine lv_iload_n hx hb dX5_worth_29 rfl (lv_at hl 4 rfl) ?_
    refine iv_iald hx hb hX.1 hP 8 0 rfl rfl (by omega) (by omega) (by decide) dX5_worth_30 ?_
    refine iv_top (fun z5 ez5 => ?_)
    have rz5 : inR z5 := ez5 ▸ (hRa 21) _
    have ez5 : z5 = (fa 21) q0 := ez5
    have bz5 : 0 ≤ z5 ∧ z5 < 601 := by rw [ez5]; exact bnd_at hB21 (by omega) (by omega)
    refine iv_icmp_ge (tgt := 176) hx hb (by omega) (by omega) dX5_worth_31 (by decide) (fun q6 => ?_) (fun q6 => ?_)
    · have hxe : x5_2 = fa 21 q0 := by omega
      have hh9 : h x5_2 = 1 := by rw [hxe]; exact b4
      have hv9 := ri_ev2 hRI hxe (by omega)
      have h41 : x4_3 - 1 = 0 := by omega
      refine lv_iload hx hb dX5_worth_176 (lv_at hl 1 rfl) ?_
      refine iv_if_le (tgt := 193) hx hb (by omega) dX5_worth_178 (by decide) (fun q7 => ?_) (fun q7 => ?_)
      · refine lv_iconst (v := Int32.ofInt 0) hx hb dX5_worth_193 (by decide +kernel) ?_
        exact W.iret (v := Int32.ofInt (0)) hx hb hr (fun t ht hW => ⟨⟨Int32.ofInt (0), (0, g22_4), rfl, ⟨rfl, (show (inR 0) ∧ (∀ t, inR (g22_4 t)) ∧ (0 = evR (dcf (fa 20)) (fa 13) (stq (fa 21) q0) (fa 21 q0)) from ⟨(by omega), r_g22_4, (by first | exact hz0.trans hv9 | (exfalso; omega))⟩)⟩, by rw [ht]; exact hP, hD⟩, hS.F ht⟩) hS.2.2 dX5_worth_194
      · refine lv_aload_n hx hb dX5_worth_181 rfl (lv_at hl 3 rfl) ?_
        refine va_get (D := G) (ci := 4) (v := .ref (ar 22)) (C := RX5) (T := TX5) (N := 5) (ref := RX5) hx hb hts h1w hown hX.1 hP 1 rfl rfl 2 (by decide) h2w (fun _ h9 => h9) rfl dX5_worth_182 ?_
        refine lv_iload hx hb dX5_worth_185 (lv_at hl 1 rfl) ?_
        refine lv_iconst (v := Int32.ofInt 1) hx hb dX5_worth_187 (by decide +kernel) ?_
        refine iv_sub (x := x4_3) (y := 1) hx hb dX5_worth_188 ?_
        refine iv_iald hx hb hX.1 hP 9 0 rfl rfl (by omega) (by omega) (by decide) dX5_worth_189 ?_
        refine iv_top (fun z8 ez8 => ?_)
        have rz8 : inR z8 := ez8 ▸ r_g22_4 _
        have ez8 : z8 = g22_4 (x4_3 - 1) := ez8
        have hz0 : z8 = g22_4 0 := by rw [ez8, h41]
        refine lv_goto (tgt := 194) hx hb dX5_worth_190 (by decide) ?_
        exact W.iret (v := Int32.ofInt (z8)) hx hb hr (fun t ht hW => ⟨⟨Int32.ofInt (z8), (z8, g22_4), rfl, ⟨rfl, (show (inR z8) ∧ (∀ t, inR (g22_4 t)) ∧ (z8 = evR (dcf (fa 20)) (fa 13) (stq (fa 21) q0) (fa 21 q0)) from ⟨(by omega), r_g22_4, (by first | exact hz0.trans hv9 | (exfalso; omega))⟩)⟩, by rw [ht]; exact hP, hD⟩, hS.F ht⟩) hS.2.2 dX5_worth_194
    · refine lv_aload_n hx hb dX5_worth_34 rfl (lv_at hl 3 rfl) ?_
      refine va_get (D := G) (ci := 4) (v := .ref (ar 20)) (C := RX5) (T := TX5) (N := 5) (ref := RX5) hx hb hts h1w hown hX.1 hP 1 rfl rfl 0 (by decide) h3w (fun _ h9 => h9) rfl dX5_worth_35 ?_
      refine lv_iload hx hb dX5_worth_38 (lv_at hl 0 rfl) ?_
      refine iv_iald hx hb hX.1 hP 7 0 rfl rfl (by omega) (by omega) (by decide) dX5_worth_40 ?_
      refine iv_top (fun z9 ez9 => ?_)
      have rz9 : inR z9 := ez9 ▸ (hRa 20) _
      have ez9 : z9 = (fa 20) x5_2 := ez9
      have bz9 : (-1000) ≤ z9 ∧ z9 < 10000 := by rw [ez9]; exact bnd_at hB20 (by omega) (by omega)
      refine lv_istore (lv' := [(6, .int (Int32.ofInt (z9))), (5, .int (Int32.ofInt (x5_2))), (4, .int (Int32.ofInt (x4_3))), (3, .int (Int32.ofInt (s0_1))), (0, .ref (ar 98)), (1, .int (Int32.ofInt (q0))), (2, .ref (ar 13))]) hx hb dX5_worth_41 hl (by decide) rfl (fun ls hl => ?_)
      have hsg : dec z9 = dcf (fa 20) x5_2 := by rw [ez9]; rfl
      have ho : okst (dec z9) (h x5_2) (h (x5_2 + 1)) := by rw [hsg]; exact hok x5_2 (by omega) (by omega)
      have hdf := dec_f z9
      refine lv_iload hx hb dX5_worth_43 (lv_at hl 0 rfl) ?_
      refine lv_bipush (v := Int32.ofInt (-7)) hx hb dX5_worth_45 (by decide +kernel) ?_
      refine iv_icmp_lt (tgt := 89) hx hb (by omega) (by omega) dX5_worth_47 (by decide) (fun q10 => ?_) (fun q10 => ?_)
      · refine lv_iload hx hb dX5_worth_89 (lv_at hl 0 rfl) ?_
        refine lv_bipush (v := Int32.ofInt (-33)) hx hb dX5_worth_91 (by decide +kernel) ?_
        refine iv_icmp_ne (tgt := 130) hx hb (by omega) (by omega) dX5_worth_93 (by decide) (fun q11 => ?_) (fun q11 => ?_)
        · refine lv_iload hx hb dX5_worth_130 (lv_at hl 2 rfl) ?_
          refine lv_iconst (v := Int32.ofInt 1) hx hb dX5_worth_132 (by decide +kernel) ?_
          refine iv_icmp_le (tgt := 170) hx hb (by omega) (by omega) dX5_worth_133 (by decide) (fun q12 => ?_) (fun q12 => ?_)
          · refine lv_iinc (v := Int32.ofInt (x5_2 + 1)) (lv' := [(5, .int (Int32.ofInt ((x5_2 + 1)))), (6, .int (Int32.ofInt (z9))), (4, .int (Int32.ofInt (x4_3))), (3, .int (Int32.ofInt (s0_1))), (0, .ref (ar 98)), (1, .int (Int32.ofInt (q0))), (2, .ref (ar 13))]) hx hb dX5_worth_170 hl (k := 1) rfl (Int32.ofInt_add _ _).symm (by decide) rfl (fun ls hl => ?_)
            refine lv_goto (tgt := 23) hx hb dX5_worth_173 (by decide) ?_
            have hl : lv_has ls 7 [(5, .int (Int32.ofInt ((x5_2 + 1)))), (4, .int (Int32.ofInt (x4_3))), (3, .int (Int32.ofInt (s0_1))), (0, .ref (ar 98)), (1, .int (Int32.ofInt (q0))), (2, .ref (ar 13))] := lv_sub hl [0, 2, 3, 4, 5, 6] rfl
            exact ih ((x5_2 + 1), x4_3, g22_4) (show (600 - (x5_2 + 1)).toNat < (600 - x5_2).toNat from by omega) (show inR (x5_2 + 1) ∧ inR x4_3 ∧ (∀ t, inR (g22_4 t)) ∧ ((0 ≤ (x5_2 + 1) ∧ s0_1 ≤ (x5_2 + 1) ∧ (x5_2 + 1) ≤ fa 21 q0 ∧ x4_3 = h (x5_2 + 1) ∧ 0 ≤ x4_3 ∧ x4_3 ≤ 32) ∧ RunI (dcf (fa 20)) (fa 13) (stq (fa 21) q0) (x5_2 + 1) g22_4 x4_3) from ⟨(by omega), (by omega), r_g22_4, (by first | (exfalso; omega) | exact ⟨by omega, ri_push hRI (by omega) (by omega) (pv_y (s := z9) (by omega) (by omega) rfl) eg22_4 rfl rfl⟩ | exact ⟨by omega, ri_push hRI (by omega) (by omega) (pv_n (s := z9) (by omega) (by omega) rfl (by assumption)) eg22_4 rfl rfl⟩ | exact ⟨by omega, ri_not2 hRI (by omega) (show dec z9 = -28 by omega) hsg (by omega) hz3 rfl (by omega) eg22_4 rfl rfl rfl⟩ | exact ⟨by omega, ri_bin2 hRI (by omega) (show dec z9 ≤ -20 by omega) (by omega) hsg (by omega) hJn166 hz1 (by omega) hz2 (by omega) eg22_4 (by omega) (by omega) rfl⟩)⟩) _ _ _ hP hD hS hl
          · refine lv_iinc (v := Int32.ofInt (x4_3 + (-1))) (lv' := [(4, .int (Int32.ofInt ((x4_3 + (-1))))), (6, .int (Int32.ofInt (z9))), (5, .int (Int32.ofInt (x5_2))), (3, .int (Int32.ofInt (s0_1))), (0, .ref (ar 98)), (1, .int (Int32.ofInt (q0))), (2, .ref (ar 13))]) hx hb dX5_worth_136 hl (k := 2) rfl (Int32.ofInt_add _ _).symm (by decide) rfl (fun ls hl => ?_)
            refine lv_aload_n hx hb dX5_worth_139 rfl (lv_at hl 4 rfl) ?_
            refine va_get (D := G) (ci := 4) (v := .ref (ar 22)) (C := RX5) (T := TX5) (N := 5) (ref := RX5) hx hb hts h1w hown hX.1 hP 1 rfl rfl 2 (by decide) h2w (fun _ h9 => h9) rfl dX5_worth_140 ?_
            refine lv_iload hx hb dX5_worth_143 (lv_at hl 0 rfl) ?_
            refine lv_iconst (v := Int32.ofInt 1) hx hb dX5_worth_145 (by decide +kernel) ?_
            refine iv_sub (x := (x4_3 + (-1))) (y := 1) hx hb dX5_worth_146 ?_
            refine lv_iload hx hb dX5_worth_147 (lv_at hl 1 rfl) ?_
            refine iv_neg hx hb dX5_worth_149 ?_
            refine lv_aload_n hx hb dX5_worth_150 rfl (lv_at hl 4 rfl) ?_
            refine va_get (D := G) (ci := 4) (v := .ref (ar 22)) (C := RX5) (T := TX5) (N := 5) (ref := RX5) hx hb hts h1w hown hX.1 hP 1 rfl rfl 2 (by decide) h2w (fun _ h9 => h9) rfl dX5_worth_151 ?_
            refine lv_iload hx hb dX5_worth_154 (lv_at hl 0 rfl) ?_
            refine lv_iconst (v := Int32.ofInt 1) hx hb dX5_worth_156 (by decide +kernel) ?_
            refine iv_sub (x := (x4_3 + (-1))) (y := 1) hx hb dX5_worth_157 ?_
            refine iv_iald hx hb hX.1 hP 9 0 rfl rfl (by omega) (by omega) (by decide) dX5_worth_158 ?_
            refine iv_top (fun z13 ez13 => ?_)
            have rz13 : inR z13 := ez13 ▸ r_g22_4 _
            have ez13 : z13 = g22_4 ((x4_3 + (-1)) - 1) := ez13
            have hz1 := ez13
            refine lv_aload_n hx hb dX5_worth_159 rfl (lv_at hl 4 rfl) ?_
            refine va_get (D := G) (ci := 4) (v := .ref (ar 22)) (C := RX5) (T := TX5) (N := 5) (ref := RX5) hx hb hts h1w hown hX.1 hP 1 rfl rfl 2 (by decide) h2w (fun _ h9 => h9) rfl dX5_worth_160 ?_
            refine lv_iload hx hb dX5_worth_163 (lv_at hl 0 rfl) ?_
            refine iv_iald hx hb hX.1 hP 9 0 rfl rfl (by omega) (by omega) (by decide) dX5_worth_165 ?_
            refine iv_top (fun z14 ez14 => ?_)
            have rz14 : inR z14 := ez14 ▸ r_g22_4 _
            have ez14 : z14 = g22_4 (x4_3 + (-1)) := ez14
            have hz2 := ez14
            refine c0_i (va_runS (As := [.int (Int32.ofInt ((-z9))), .int (Int32.ofInt (z13)), .int (Int32.ofInt (z14))]) (rest := [.int (Int32.ofInt (((x4_3 + (-1)) - 1))), .ref (ar 22)]) ⟨hx, hb, hml, hown, hts⟩ (mX5_joined l G k (-z9) z13 z14 H.size (by omega) (by omega) (by omega)) (cwS 3 hts (gz [.methodLink RX5 35 yX5_joined, .static yX5_joined, .initialized RX5] (.code yX5_joined cX5_joined 3 (some .int)) [(25, 14), (25, 15), (1, 23), (25, 16)] rfl) rfl rfl rfl (by decide +kernel) ⟨Nat.le_of_ble_eq_true rfl, Nat.le_of_ble_eq_true rfl⟩) (cr_pre0 (EZ_ok k) hZ hS hX hP hD hA) rfl rfl hl.1 rfl (lv_room (Nat.le_of_ble_eq_true rfl)) dX5_worth_166 ⟨Nat.le_of_ble_eq_true rfl, Nat.le_of_ble_eq_true rfl⟩) hP hD hS hA (fun r u H locs hp hP hD hS => ?_)
            obtain ⟨c15, rfl⟩ : ∃ z, z = u := ⟨_, rfl⟩
            obtain ⟨h9, rc15, hp15⟩ : r = Int32.ofInt c15 ∧ (inR c15) ∧ (c15 = rk (dec (-(-z9))) z13 z14) := hp
            subst h9
            have hJn166 := hp15
            rw [Int.neg_neg] at hJn166
            refine iv_iast hx hb hX.1 hP hD hS 9 0 rfl rfl (fun g' => show _ = (wP k ar fi (uF fa 22 (g'))) from rfl) (by omega) (by omega) (by decide) dX5_worth_169 (fun H locs hP hD hS => ?_)
            obtain ⟨hP, hD⟩ : va_P G vwCl (wP k ar fi (uF fa 22 (uA (g22_4) (((x4_3 + (-1)) - 1)) (c15)))) H ∧ va_D A (wP k ar fi (uF fa 22 (uA (g22_4) (((x4_3 + (-1)) - 1)) (c15)))) := ⟨hP, hD⟩
            obtain ⟨g16, eg16, rg16⟩ : ∃ z, z = uA (g22_4) (((x4_3 + (-1)) - 1)) (c15) ∧ ∀ t, inR (z t) := ⟨_, rfl, iU r_g22_4 (by omega)⟩
            rw [← eg16] at hP hD
            refine lv_iinc (v := Int32.ofInt (x5_2 + 1)) (lv' := [(5, .int (Int32.ofInt ((x5_2 + 1)))), (4, .int (Int32.ofInt ((x4_3 + (-1))))), (6, .int (Int32.ofInt (z9))), (3, .int (Int32.ofInt (s0_1))), (0, .ref (ar 98)), (1, .int (Int32.ofInt (q0))), (2, .ref (ar 13))]) hx hb dX5_worth_170 hl (k := 2) rfl (Int32.ofInt_add _ _).symm (by decide) rfl (fun ls hl => ?_)
            refine lv_goto (tgt := 23) hx hb dX5_worth_173 (by decide) ?_
            have hl : lv_has ls 7 [(5, .int (Int32.ofInt ((x5_2 + 1)))), (4, .int (Int32.ofInt ((x4_3 + (-1))))), (3, .int (Int32.ofInt (s0_1))), (0, .ref (ar 98)), (1, .int (Int32.ofInt (q0))), (2, .ref (ar 13))] := lv_sub hl [0, 1, 3, 4, 5, 6] rfl
            exact ih ((x5_2 + 1), (x4_3 + (-1)), g16) (show (600 - (x5_2 + 1)).toNat < (600 - x5_2).toNat from by omega) (show inR (x5_2 + 1) ∧ inR (x4_3 + (-1)) ∧ (∀ t, inR (g16 t)) ∧ ((0 ≤ (x5_2 + 1) ∧ s0_1 ≤ (x5_2 + 1) ∧ (x5_2 + 1) ≤ fa 21 q0 ∧ (x4_3 + (-1)) = h (x5_2 + 1) ∧ 0 ≤ (x4_3 + (-1)) ∧ (x4_3 + (-1)) ≤ 32) ∧ RunI (dcf (fa 20)) (fa 13) (stq (fa 21) q0) (x5_2 + 1) g16 (x4_3 + (-1))) from ⟨(by omega), (by omega), rg16, (by first | (exfalso; omega) | exact ⟨by omega, ri_push hRI (by omega) (by omega) (pv_y (s := z9) (by omega) (by omega) rfl) eg16 rfl rfl⟩ | exact ⟨by omega, ri_push hRI (by omega) (by omega) (pv_n (s := z9) (by omega) (by omega) rfl (by assumption)) eg16 rfl rfl⟩ | exact ⟨by omega, ri_not2 hRI (by omega) (show dec z9 = -28 by omega) hsg (by omega) hz3 rfl (by omega) eg16 rfl rfl rfl⟩ | exact ⟨by omega, ri_bin2 hRI (by omega) (show dec z9 ≤ -20 by omega) (by omega) hsg (by omega) hJn166 hz1 (by omega) hz2 (by omega) eg16 (by omega) (by omega) rfl⟩)⟩) _ _ _ hP hD hS hl
        · refine lv_iload hx hb dX5_worth_96 (lv_at hl 2 rfl) ?_
          refine iv_if_le (tgt := 170) hx hb (by omega) dX5_worth_98 (by decide) (fun q17 => ?_) (fun q17 => ?_)
          · refine lv_iinc (v := Int32.ofInt (x5_2 + 1)) (lv' := [(5, .int (Int32.ofInt ((x5_2 + 1)))), (6, .int (Int32.ofInt (z9))), (4, .int (Int32.ofInt (x4_3))), (3, .int (Int32.ofInt (s0_1))), (0, .ref (ar 98)), (1, .int (Int32.ofInt (q0))), (2, .ref (ar 13))]) hx hb dX5_worth_170 hl (k := 1) rfl (Int32.ofInt_add _ _).symm (by decide) rfl (fun ls hl => ?_)
            refine lv_goto (tgt := 23) hx hb dX5_worth_173 (by decide) ?_
            have hl : lv_has ls 7 [(5, .int (Int32.ofInt ((x5_2 + 1)))), (4, .int (Int32.ofInt (x4_3))), (3, .int (Int32.ofInt (s0_1))), (0, .ref (ar 98)), (1, .int (Int32.ofInt (q0))), (2, .ref (ar 13))] := lv_sub hl [0, 2, 3, 4, 5, 6] rfl
            exact ih ((x5_2 + 1), x4_3, g22_4) (show (600 - (x5_2 + 1)).toNat < (600 - x5_2).toNat from by omega) (show inR (x5_2 + 1) ∧ inR x4_3 ∧ (∀ t, inR (g22_4 t)) ∧ ((0 ≤ (x5_2 + 1) ∧ s0_1 ≤ (x5_2 + 1) ∧ (x5_2 + 1) ≤ fa 21 q0 ∧ x4_3 = h (x5_2 + 1) ∧ 0 ≤ x4_3 ∧ x4_3 ≤ 32) ∧ RunI (dcf (fa 20)) (fa 13) (stq (fa 21) q0) (x5_2 + 1) g22_4 x4_3) from ⟨(by omega), (by omega), r_g22_4, (by first | (exfalso; omega) | exact ⟨by omega, ri_push hRI (by omega) (by omega) (pv_y (s := z9) (by omega) (by omega) rfl) eg22_4 rfl rfl⟩ | exact ⟨by omega, ri_push hRI (by omega) (by omega) (pv_n (s := z9) (by omega) (by omega) rfl (by assumption)) eg22_4 rfl rfl⟩ | exact ⟨by omega, ri_not2 hRI (by omega) (show dec z9 = -28 by omega) hsg (by omega) hz3 rfl (by omega) eg22_4 rfl rfl rfl⟩ | exact ⟨by omega, ri_bin2 hRI (by omega) (show dec z9 ≤ -20 by omega) (by omega) hsg (by omega) hJn166 hz1 (by omega) hz2 (by omega) eg22_4 (by omega) (by omega) rfl⟩)⟩) _ _ _ hP hD hS hl
          · refine lv_aload_n hx hb dX5_worth_101 rfl (lv_at hl 4 rfl) ?_
            refine va_get (D := G) (ci := 4) (v := .ref (ar 22)) (C := RX5) (T := TX5) (N := 5) (ref := RX5) hx hb hts h1w hown hX.1 hP 1 rfl rfl 2 (by decide) h2w (fun _ h9 => h9) rfl dX5_worth_102 ?_
            refine lv_iload hx hb dX5_worth_105 (lv_at hl 2 rfl) ?_
            refine lv_iconst (v := Int32.ofInt 1) hx hb dX5_worth_107 (by decide +kernel) ?_
            refine iv_sub (x := x4_3) (y := 1) hx hb dX5_worth_108 ?_
            refine lv_aload_n hx hb dX5_worth_109 rfl (lv_at hl 4 rfl) ?_
            refine va_get (D := G) (ci := 4) (v := .ref (ar 22)) (C := RX5) (T := TX5) (N := 5) (ref := RX5) hx hb hts h1w hown hX.1 hP 1 rfl rfl 2 (by decide) h2w (fun _ h9 => h9) rfl dX5_worth_110 ?_
            refine lv_iload hx hb dX5_worth_113 (lv_at hl 2 rfl) ?_
            refine lv_iconst (v := Int32.ofInt 1) hx hb dX5_worth_115 (by decide +kernel) ?_
            refine iv_sub (x := x4_3) (y := 1) hx hb dX5_worth_116 ?_
            refine iv_iald hx hb hX.1 hP 9 0 rfl rfl (by omega) (by omega) (by decide) dX5_worth_117 ?_
            refine iv_top (fun z18 ez18 => ?_)
            have rz18 : inR z18 := ez18 ▸ r_g22_4 _
            have ez18 : z18 = g22_4 (x4_3 - 1) := ez18
            have hz3 := ez18
            refine iv_if_ne (tgt := 125) hx hb (by omega) dX5_worth_118 (by decide) (fun q19 => ?_) (fun q19 => ?_)
            · refine lv_iconst (v := Int32.ofInt 0) hx hb dX5_worth_125 (by decide +kernel) ?_
              refine iv_iast hx hb hX.1 hP hD hS 9 0 rfl rfl (fun g' => show _ = (wP k ar fi (uF fa 22 (g'))) from rfl) (by omega) (by omega) (by decide) dX5_worth_126 (fun H locs hP hD hS => ?_)
              obtain ⟨hP, hD⟩ : va_P G vwCl (wP k ar fi (uF fa 22 (uA (g22_4) ((x4_3 - 1)) (0)))) H ∧ va_D A (wP k ar fi (uF fa 22 (uA (g22_4) ((x4_3 - 1)) (0)))) := ⟨hP, hD⟩
              obtain ⟨g20, eg20, rg20⟩ : ∃ z, z = uA (g22_4) ((x4_3 - 1)) (0) ∧ ∀ t, inR (z t) := ⟨_, rfl, iU r_g22_4 (by omega)⟩
              rw [← eg20] at hP hD
              refine lv_goto (tgt := 170) hx hb dX5_worth_127 (by decide) ?_
              refine lv_iinc (v := Int32.ofInt (x5_2 + 1)) (lv' := [(5, .int (Int32.ofInt ((x5_2 + 1)))), (6, .int (Int32.ofInt (z9))), (4, .int (Int32.ofInt (x4_3))), (3, .int (Int32.ofInt (s0_1))), (0, .ref (ar 98)), (1, .int (Int32.ofInt (q0))), (2, .ref (ar 13))]) hx hb dX5_worth_170 hl (k := 1) rfl (Int32.ofInt_add _ _).symm (by decide) rfl (fun ls hl => ?_)
              refine lv_goto (tgt := 23) hx hb dX5_worth_173 (by decide) ?_
              have hl : lv_has ls 7 [(5, .int (Int32.ofInt ((x5_2 + 1)))), (4, .int (Int32.ofInt (x4_3))), (3, .int (Int32.ofInt (s0_1))), (0, .ref (ar 98)), (1, .int (Int32.ofInt (q0))), (2, .ref (ar 13))] := lv_sub hl [0, 2, 3, 4, 5, 6] rfl
              exact ih ((x5_2 + 1), x4_3, g20) (show (600 - (x5_2 + 1)).toNat < (600 - x5_2).toNat from by omega) (show inR (x5_2 + 1) ∧ inR x4_3 ∧ (∀ t, inR (g20 t)) ∧ ((0 ≤ (x5_2 + 1) ∧ s0_1 ≤ (x5_2 + 1) ∧ (x5_2 + 1) ≤ fa 21 q0 ∧ x4_3 = h (x5_2 + 1) ∧ 0 ≤ x4_3 ∧ x4_3 ≤ 32) ∧ RunI (dcf (fa 20)) (fa 13) (stq (fa 21) q0) (x5_2 + 1) g20 x4_3) from ⟨(by omega), (by omega), rg20, (by first | (exfalso; omega) | exact ⟨by omega, ri_push hRI (by omega) (by omega) (pv_y (s := z9) (by omega) (by omega) rfl) eg20 rfl rfl⟩ | exact ⟨by omega, ri_push hRI (by omega) (by omega) (pv_n (s := z9) (by omega) (by omega) rfl (by assumption)) eg20 rfl rfl⟩ | exact ⟨by omega, ri_not2 hRI (by omega) (show dec z9 = -28 by omega) hsg (by omega) hz3 rfl (by omega) eg20 rfl rfl rfl⟩ | exact ⟨by omega, ri_bin2 hRI (by omega) (show dec z9 ≤ -20 by omega) (by omega) hsg (by omega) hJn166 hz1 (by omega) hz2 (by omega) eg20 (by omega) (by omega) rfl⟩)⟩) _ _ _ hP hD hS hl
            · refine lv_iconst (v := Int32.ofInt 1) hx hb dX5_worth_121 (by decide +kernel) ?_
              refine lv_goto (tgt := 126) hx hb dX5_worth_122 (by decide) ?_
              refine iv_iast hx hb hX.1 hP hD hS 9 0 rfl rfl (fun g' => show _ = (wP k ar fi (uF fa 22 (g'))) from rfl) (by omega) (by omega) (by decide) dX5_worth_126 (fun H locs hP hD hS => ?_)
              obtain ⟨hP, hD⟩ : va_P G vwCl (wP k ar fi (uF fa 22 (uA (g22_4) ((x4_3 - 1)) (1)))) H ∧ va_D A (wP k ar fi (uF fa 22 (uA (g22_4) ((x4_3 - 1)) (1)))) := ⟨hP, hD⟩
              obtain ⟨g21, eg21, rg21⟩ : ∃ z, z = uA (g22_4) ((x4_3 - 1)) (1) ∧ ∀ t, inR (z t) := ⟨_, rfl, iU r_g22_4 (by omega)⟩
              rw [← eg21] at hP hD
              refine lv_goto (tgt := 170) hx hb dX5_worth_127 (by decide) ?_
              refine lv_iinc (v := Int32.ofInt (x5_2 + 1)) (lv' := [(5, .int (Int32.ofInt ((x5_2 + 1)))), (6, .int (Int32.ofInt (z9))), (4, .int (Int32.ofInt (x4_3))), (3, .int (Int32.ofInt (s0_1))), (0, .ref (ar 98)), (1, .int (Int32.ofInt (q0))), (2, .ref (ar 13))]) hx hb dX5_worth_170 hl (k := 1) rfl (Int32.ofInt_add _ _).symm (by decide) rfl (fun ls hl => ?_)
              refine lv_goto (tgt := 23) hx hb dX5_worth_173 (by decide) ?_
              have hl : lv_has ls 7 [(5, .int (Int32.ofInt ((x5_2 + 1)))), (4, .int (Int32.ofInt (x4_3))), (3, .int (Int32.ofInt (s0_1))), (0, .ref (ar 98)), (1, .int (Int32.ofInt (q0))), (2, .ref (ar 13))] := lv_sub hl [0, 2, 3, 4, 5, 6] rfl
              exact ih ((x5_2 + 1), x4_3, g21) (show (600 - (x5_2 + 1)).toNat < (600 - x5_2).toNat from by omega) (show inR (x5_2 + 1) ∧ inR x4_3 ∧ (∀ t, inR (g21 t)) ∧ ((0 ≤ (x5_2 + 1) ∧ s0_1 ≤ (x5_2 + 1) ∧ (x5_2 + 1) ≤ fa 21 q0 ∧ x4_3 = h (x5_2 + 1) ∧ 0 ≤ x4_3 ∧ x4_3 ≤ 32) ∧ RunI (dcf (fa 20)) (fa 13) (stq (fa 21) q0) (x5_2 + 1) g21 x4_3) from ⟨(by omega), (by omega), rg21, (by first | (exfalso; omega) | exact ⟨by omega, ri_push hRI (by omega) (by omega) (pv_y (s := z9) (by omega) (by omega) rfl) eg21 rfl rfl⟩ | exact ⟨by omega, ri_push hRI (by omega) (by omega) (pv_n (s := z9) (by omega) (by omega) rfl (by assumption)) eg21 rfl rfl⟩ | exact ⟨by omega, ri_not2 hRI (by omega) (show dec z9 = -28 by omega) hsg (by omega) hz3 rfl (by omega) eg21 rfl rfl rfl⟩ | exact ⟨by omega, ri_bin2 hRI (by omega) (show dec z9 ≤ -20 by omega) (by omega) hsg (by omega) hJn166 hz1 (by omega) hz2 (by omega) eg21 (by omega) (by omega) rfl⟩)⟩) _ _ _ hP hD hS hl
      · refine lv_iload hx hb dX5_worth_50 (lv_at hl 2 rfl) ?_
        refine lv_aload_n hx hb dX5_worth_52 rfl (lv_at hl 4 rfl) ?_
        refine va_get (D := G) (ci := 4) (v := .ref (ar 22)) (C := RX5) (T := TX5) (N := 5) (ref := RX5) hx hb hts h1w hown hX.1 hP 1 rfl rfl 2 (by decide) h2w (fun _ h9 => h9) rfl dX5_worth_53 ?_
        refine va_alen (v := Int32.ofInt 32) hx hb hX.1 hP 9 0 rfl rfl (show Int32.ofNat 32 = Int32.ofInt 32 from by decide) dX5_worth_56 ?_
        refine iv_icmp_ge (tgt := 170) hx hb (by omega) (by omega) dX5_worth_57 (by decide) (fun q22 => ?_) (fun q22 => ?_)
        · refine lv_iinc (v := Int32.ofInt (x5_2 + 1)) (lv' := [(5, .int (Int32.ofInt ((x5_2 + 1)))), (6, .int (Int32.ofInt (z9))), (4, .int (Int32.ofInt (x4_3))), (3, .int (Int32.ofInt (s0_1))), (0, .ref (ar 98)), (1, .int (Int32.ofInt (q0))), (2, .ref (ar 13))]) hx hb dX5_worth_170 hl (k := 1) rfl (Int32.ofInt_add _ _).symm (by decide) rfl (fun ls hl => ?_)
          refine lv_goto (tgt := 23) hx hb dX5_worth_173 (by decide) ?_
          have hl : lv_has ls 7 [(5, .int (Int32.ofInt ((x5_2 + 1)))), (4, .int (Int32.ofInt (x4_3))), (3, .int (Int32.ofInt (s0_1))), (0, .ref (ar 98)), (1, .int (Int32.ofInt (q0))), (2, .ref (ar 13))] := lv_sub hl [0, 2, 3, 4, 5, 6] rfl
          exact ih ((x5_2 + 1), x4_3, g22_4) (show (600 - (x5_2 + 1)).toNat < (600 - x5_2).toNat from by omega) (show inR (x5_2 + 1) ∧ inR x4_3 ∧ (∀ t, inR (g22_4 t)) ∧ ((0 ≤ (x5_2 + 1) ∧ s0_1 ≤ (x5_2 + 1) ∧ (x5_2 + 1) ≤ fa 21 q0 ∧ x4_3 = h (x5_2 + 1) ∧ 0 ≤ x4_3 ∧ x4_3 ≤ 32) ∧ RunI (dcf (fa 20)) (fa 13) (stq (fa 21) q0) (x5_2 + 1) g22_4 x4_3) from ⟨(by omega), (by omega), r_g22_4, (by first | (exfalso; omega) | exact ⟨by omega, ri_push hRI (by omega) (by omega) (pv_y (s := z9) (by omega) (by omega) rfl) eg22_4 rfl rfl⟩ | exact ⟨by omega, ri_push hRI (by omega) (by omega) (pv_n (s := z9) (by omega) (by omega) rfl (by assumption)) eg22_4 rfl rfl⟩ | exact ⟨by omega, ri_not2 hRI (by omega) (show dec z9 = -28 by omega) hsg (by omega) hz3 rfl (by omega) eg22_4 rfl rfl rfl⟩ | exact ⟨by omega, ri_bin2 hRI (by omega) (show dec z9 ≤ -20 by omega) (by omega) hsg (by omega) hJn166 hz1 (by omega) hz2 (by omega) eg22_4 (by omega) (by omega) rfl⟩)⟩) _ _ _ hP hD hS hl
        · refine lv_aload_n hx hb dX5_worth_60 rfl (lv_at hl 4 rfl) ?_
          refine va_get (D := G) (ci := 4) (v := .ref (ar 22)) (C := RX5) (T := TX5) (N := 5) (ref := RX5) hx hb hts h1w hown hX.1 hP 1 rfl rfl 2 (by decide) h2w (fun _ h9 => h9) rfl dX5_worth_61 ?_
          refine lv_iload hx hb dX5_worth_64 (lv_at hl 2 rfl) ?_
          refine lv_iload hx hb dX5_worth_66 (lv_at hl 0 rfl) ?_
          refine iv_if_lt (tgt := 76) hx hb (by omega) dX5_worth_68 (by decide) (fun q23 => ?_) (fun q23 => ?_)
          · refine lv_aload_n hx hb dX5_worth_76 rfl (lv_at hl 6 rfl) ?_
            refine lv_iconst (v := Int32.ofInt (-1)) hx hb dX5_worth_77 (by decide +kernel) ?_
            refine lv_iload hx hb dX5_worth_78 (lv_at hl 0 rfl) ?_
            refine iv_sub (x := (-1)) (y := z9) hx hb dX5_worth_80 ?_
            refine iv_iald hx hb hX.1 hP 6 0 rfl rfl (by omega) (by omega) (by decide) dX5_worth_81 ?_
            refine iv_top (fun z24 ez24 => ?_)
            have rz24 : inR z24 := ez24 ▸ (hRa 13) _
            have ez24 : z24 = (fa 13) ((-1) - z9) := ez24
            refine iv_iast hx hb hX.1 hP hD hS 9 0 rfl rfl (fun g' => show _ = (wP k ar fi (uF fa 22 (g'))) from rfl) (by omega) (by omega) (by decide) dX5_worth_82 (fun H locs hP hD hS => ?_)
            obtain ⟨hP, hD⟩ : va_P G vwCl (wP k ar fi (uF fa 22 (uA (g22_4) (x4_3) (z24)))) H ∧ va_D A (wP k ar fi (uF fa 22 (uA (g22_4) (x4_3) (z24)))) := ⟨hP, hD⟩
            obtain ⟨g25, eg25, rg25⟩ : ∃ z, z = uA (g22_4) (x4_3) (z24) ∧ ∀ t, inR (z t) := ⟨_, rfl, iU r_g22_4 (by omega)⟩
            rw [← eg25] at hP hD
            refine lv_iinc (v := Int32.ofInt (x4_3 + 1)) (lv' := [(4, .int (Int32.ofInt ((x4_3 + 1)))), (6, .int (Int32.ofInt (z9))), (5, .int (Int32.ofInt (x5_2))), (3, .int (Int32.ofInt (s0_1))), (0, .ref (ar 98)), (1, .int (Int32.ofInt (q0))), (2, .ref (ar 13))]) hx hb dX5_worth_83 hl (k := 2) rfl (Int32.ofInt_add _ _).symm (by decide) rfl (fun ls hl => ?_)
            refine lv_goto (tgt := 170) hx hb dX5_worth_86 (by decide) ?_
            refine lv_iinc (v := Int32.ofInt (x5_2 + 1)) (lv' := [(5, .int (Int32.ofInt ((x5_2 + 1)))), (4, .int (Int32.ofInt ((x4_3 + 1)))), (6, .int (Int32.ofInt (z9))), (3, .int (Int32.ofInt (s0_1))), (0, .ref (ar 98)), (1, .int (Int32.ofInt (q0))), (2, .ref (ar 13))]) hx hb dX5_worth_170 hl (k := 2) rfl (Int32.ofInt_add _ _).symm (by decide) rfl (fun ls hl => ?_)
            refine lv_goto (tgt := 23) hx hb dX5_worth_173 (by decide) ?_
            have hl : lv_has ls 7 [(5, .int (Int32.ofInt ((x5_2 + 1)))), (4, .int (Int32.ofInt ((x4_3 + 1)))), (3, .int (Int32.ofInt (s0_1))), (0, .ref (ar 98)), (1, .int (Int32.ofInt (q0))), (2, .ref (ar 13))] := lv_sub hl [0, 1, 3, 4, 5, 6] rfl
            exact ih ((x5_2 + 1), (x4_3 + 1), g25) (show (600 - (x5_2 + 1)).toNat < (600 - x5_2).toNat from by omega) (show inR (x5_2 + 1) ∧ inR (x4_3 + 1) ∧ (∀ t, inR (g25 t)) ∧ ((0 ≤ (x5_2 + 1) ∧ s0_1 ≤ (x5_2 + 1) ∧ (x5_2 + 1) ≤ fa 21 q0 ∧ (x4_3 + 1) = h (x5_2 + 1) ∧ 0 ≤ (x4_3 + 1) ∧ (x4_3 + 1) ≤ 32) ∧ RunI (dcf (fa 20)) (fa 13) (stq (fa 21) q0) (x5_2 + 1) g25 (x4_3 + 1)) from ⟨(by omega), (by omega), rg25, (by first | (exfalso; omega) | exact ⟨by omega, ri_push hRI (by omega) (by omega) (pv_y (s := z9) (by omega) (by omega) rfl) eg25 rfl rfl⟩ | exact ⟨by omega, ri_push hRI (by omega) (by omega) (pv_n (s := z9) (by omega) (by omega) rfl (by assumption)) eg25 rfl rfl⟩ | exact ⟨by omega, ri_not2 hRI (by omega) (show dec z9 = -28 by omega) hsg (by omega) hz3 rfl (by omega) eg25 rfl rfl rfl⟩ | exact ⟨by omega, ri_bin2 hRI (by omega) (show dec z9 ≤ -20 by omega) (by omega) hsg (by omega) hJn166 hz1 (by omega) hz2 (by omega) eg25 (by omega) (by omega) rfl⟩)⟩) _ _ _ hP hD hS hl
          · refine lv_iload hx hb dX5_worth_71 (lv_at hl 0 rfl) ?_
            refine lv_goto (tgt := 82) hx hb dX5_worth_73 (by decide) ?_
            refine iv_iast hx hb hX.1 hP hD hS 9 0 rfl rfl (fun g' => show _ = (wP k ar fi (uF fa 22 (g'))) from rfl) (by omega) (by omega) (by decide) dX5_worth_82 (fun H locs hP hD hS => ?_)
            obtain ⟨hP, hD⟩ : va_P G vwCl (wP k ar fi (uF fa 22 (uA (g22_4) (x4_3) (z9)))) H ∧ va_D A (wP k ar fi (uF fa 22 (uA (g22_4) (x4_3) (z9)))) := ⟨hP, hD⟩
            obtain ⟨g26, eg26, rg26⟩ : ∃ z, z = uA (g22_4) (x4_3) (z9) ∧ ∀ t, inR (z t) := ⟨_, rfl, iU r_g22_4 (by omega)⟩
            rw [← eg26] at hP hD
            refine lv_iinc (v := Int32.ofInt (x4_3 + 1)) (lv' := [(4, .int (Int32.ofInt ((x4_3 + 1)))), (6, .int (Int32.ofInt (z9))), (5, .int (Int32.ofInt (x5_2))), (3, .int (Int32.ofInt (s0_1))), (0, .ref (ar 98)), (1, .int (Int32.ofInt (q0))), (2, .ref (ar 13))]) hx hb dX5_worth_83 hl (k := 2) rfl (Int32.ofInt_add _ _).symm (by decide) rfl (fun ls hl => ?_)
            refine lv_goto (tgt := 170) hx hb dX5_worth_86 (by decide) ?_
            refine lv_iinc (v := Int32.ofInt (x5_2 + 1)) (lv' := [(5, .int (Int32.ofInt ((x5_2 + 1)))), (4, .int (Int32.ofInt ((x4_3 + 1)))), (6, .int (Int32.ofInt (z9))), (3, .int (Int32.ofInt (s0_1))), (0, .ref (ar 98)), (1, .int (Int32.ofInt (q0))), (2, .ref (ar 13))]) hx hb dX5_worth_170 hl (k := 2) rfl (Int32.ofInt_add _ _).symm (by decide) rfl (fun ls hl => ?_)
            refine lv_goto (tgt := 23) hx hb dX5_worth_173 (by decide) ?_
            have hl : lv_has ls 7 [(5, .int (Int32.ofInt ((x5_2 + 1)))), (4, .int (Int32.ofInt ((x4_3 + 1)))), (3, .int (Int32.ofInt (s0_1))), (0, .ref (ar 98)), (1, .int (Int32.ofInt (q0))), (2, .ref (ar 13))] := lv_sub hl [0, 1, 3, 4, 5, 6] rfl
            exact ih ((x5_2 + 1), (x4_3 + 1), g26) (show (600 - (x5_2 + 1)).toNat < (600 - x5_2).toNat from by omega) (show inR (x5_2 + 1) ∧ inR (x4_3 + 1) ∧ (∀ t, inR (g26 t)) ∧ ((0 ≤ (x5_2 + 1) ∧ s0_1 ≤ (x5_2 + 1) ∧ (x5_2 + 1) ≤ fa 21 q0 ∧ (x4_3 + 1) = h (x5_2 + 1) ∧ 0 ≤ (x4_3 + 1) ∧ (x4_3 + 1) ≤ 32) ∧ RunI (dcf (fa 20)) (fa 13) (stq (fa 21) q0) (x5_2 + 1) g26 (x4_3 + 1)) from ⟨(by omega), (by omega), rg26, (by first | (exfalso; omega) | exact ⟨by omega, ri_push hRI (by omega) (by omega) (pv_y (s := z9) (by omega) (by omega) rfl) eg26 rfl rfl⟩ | exact ⟨by omega, ri_push hRI (by omega) (by omega) (pv_n (s := z9) (by omega) (by omega) rfl (by assumption)) eg26 rfl rfl⟩ | exact ⟨by omega, ri_not2 hRI (by omega) (show dec z9 = -28 by omega) hsg (by omega) hz3 rfl (by omega) eg26 rfl rfl rfl⟩ | exact ⟨by omega, ri_bin2 hRI (by omega) (show dec z9 ≤ -20 by omega) (by omega) hsg (by omega) hJn166 hz1 (by omega) hz2 (by omega) eg26 (by omega) (by omega) rfl⟩)⟩) _ _ _ hP hD hS hl
  · refine iv_if_ne (tgt := 8) hx hb (by omega) dX5_worth_1 (by decide) (fun q27 => ?_) (fun q27 => ?_)
    · refine lv_aload_n hx hb dX5_worth_8 rfl (lv_at hl 0 rfl) ?_
      refine va_get (D := G) (ci := 4) (v := .ref (ar 21)) (C := RX5) (T := TX5) (N := 5) (ref := RX5) hx hb hts h1w hown hX.1 hP 1 rfl rfl 1 (by decide) h0w (fun _ h9 => h9) rfl dX5_worth_9 ?_
      refine lv_iload_n hx hb dX5_worth_12 rfl (lv_at hl 1 rfl) ?_
      refine lv_iconst (v := Int32.ofInt 1) hx hb dX5_worth_13 (by decide +kernel) ?_
      refine iv_sub (x := q0) (y := 1) hx hb dX5_worth_14 ?_
      refine iv_iald hx hb hX.1 hP 8 0 rfl rfl (by omega) (by omega) (by decide) dX5_worth_15 ?_
      refine iv_top (fun z28 ez28 => ?_)
      have rz28 : inR z28 := ez28 ▸ (hRa 21) _
      have ez28 : z28 = (fa 21) (q0 - 1) := ez28
      have bz28 : 0 ≤ z28 ∧ z28 < 601 := by rw [ez28]; exact bnd_at hB21 (by omega) (by omega)
      have hl : lv_has ls 7 [(0, .ref (ar 98)), (1, .int (Int32.ofInt (q0))), (2, .ref (ar 13))] := lv_sub hl [0, 1, 2] rfl
      exact J16 (z28) (show inR z28 ∧ (z28 = stq (fa 21) q0) from ⟨(by omega), (by first | exact stq_0 (by omega) rfl | exact stq_s (by omega) (by assumption))⟩) _ _ _ hP hD hS hl
    · refine lv_iconst (v := Int32.ofInt 0) hx hb dX5_worth_4 (by decide +kernel) ?_
      refine lv_goto (tgt := 16) hx hb dX5_worth_5 (by decide) ?_
      have hl : lv_has ls 7 [(0, .ref (ar 98)), (1, .int (Int32.ofInt (q0))), (2, .ref (ar 13))] := lv_sub hl [0, 1, 2] rfl
      exact J16 (0) (show inR 0 ∧ (0 = stq (fa 21) q0) from ⟨(by omega), (by first | exact stq_0 (by omega) rfl | exact stq_s (by omega) (by assumption))⟩) _ _ _ hP hD hS hl

set_option maxHeartbeats 4000000 in
set_option maxRecDepth 100000 in
theorem mX3_has (l : Launch) (G : va_G) (k : Nat → ClassId) (ar : Nat → Nat) (fi : Nat → Int) (fa : Nat → Int → Int) (t0 : Int) (sz : Nat) (hR : ∀ j, inR (fi j)) (hRa : ∀ j t, inR (fa j t)) (hB8 : bnd (fa 8) 7 0 4) (hB20 : bnd (fa 20) 600 (-1000) 10000) (hB21 : bnd (fa 21) 4 0 601) (hr_t0 : inR t0) : CNi l G k (EZ k) yX3_has wzX3_has ({ frames := 0, cells := 0, slots := 0, locals := 0 }) [.ref (ar 99), .int (Int32.ofInt (t0))] sz (wP k ar fi fa) (fun (r0 : Int32) (u : Int) => r0 = Int32.ofInt (u) ∧ (inR u) ∧ ((u = 1 ∧ 0 ≤ t0 ∧ t0 < fi 7) ∨ (u = 0 ∧ (t0 < 0 ∨ fi 7 ≤ t0)))) (fun (u : Int) => (wP k ar fi fa)) := by
  refine Met.ofW (cc := cX3_has) (maxL := 2) (ret := (some .boolean)) (by decide) rfl ?_
  intro p e s m args below meth c s₁ B hml hv
  obtain ⟨rfl, hsz, hP, hX, hD0, hZ0⟩ := hv
  have hx := B.exec
  have hb := B.bytes
  have hr := B.returns
  have hts := atoms_spec (ws := wzX3_has) B.pre
  have hown : s.vm.findClass RX3 = some m.cls := findClass_of_methodNamed B.named
  subst hsz
  have hD := hD0.self (sz := s.heap.size)
  have hZ := hZ0
  generalize hAe : va_A (wP k ar fi fa) s.heap.size = A at hD hZ ⊢
  have hA : ∀ q : Nat, s.heap.size ≤ q → A q := fun q h => by rw [← hAe]; exact Or.inr h
  have hS : va_S A s.heap s.heap [] := va_S.rf
  have hl := lv_entry ([.ref (ar 99), .int (Int32.ofInt (t0))]) (n := 2) (Nat.le_of_ble_eq_true rfl)
  rw [lg_entry_eq]
  generalize (lg_sl ([.ref (ar 99), .int (Int32.ofInt (t0))]) ++ List.replicate (2 - (lg_sl ([.ref (ar 99), .int (Int32.ofInt (t0))])).length) Slot.unset).toArray = ls at hl ⊢
  have hl : lv_has ls 2 [(0, .ref (ar 99)), (1, .int (Int32.ofInt (t0)))] := hl
  obtain ⟨H, eH⟩ : ∃ H, H = s.heap := ⟨_, rfl⟩
  rw [← eH] at hP
  have hS : va_S A s.heap H [] := by rw [eH]; exact hS
  have gW : s.heap = H := eH.symm
  refine iv_heap gW ?_
  have h0w := hts (.fieldLink RX3 59 "RopeTown$Plan" "things" "I") (wz_at 3 1 rfl)
  have h1w : ∀ w ∈ wsX30, w ∈ wzX3_has := fun w h => List.mem_cons_of_mem _ (inlX3 w h)
  refine lv_iload_n hx hb dX3_has_0 rfl (lv_at hl 1 rfl) ?_
  refine iv_if_lt (tgt := 16) hx hb (by omega) dX3_has_1 (by decide) (fun q1 => ?_) (fun q1 => ?_)
  · refine lv_iconst (v := Int32.ofInt 0) hx hb dX3_has_16 (by decide +kernel) ?_
    exact W.zret (v := Int32.ofInt (0)) hx hb hr (nz_bool (by omega)) (fun t ht hW => ⟨⟨Int32.ofInt (0), (0), rfl, ⟨rfl, (show (inR 0) ∧ ((0 = 1 ∧ 0 ≤ t0 ∧ t0 < fi 7) ∨ (0 = 0 ∧ (t0 < 0 ∨ fi 7 ≤ t0))) from ⟨(by omega), (by omega)⟩)⟩, by rw [ht]; exact hP, hD⟩, hS.F ht⟩) hS.2.2 dX3_has_17
  · refine lv_iload_n hx hb dX3_has_4 rfl (lv_at hl 1 rfl) ?_
    refine lv_aload_n hx hb dX3_has_5 rfl (lv_at hl 0 rfl) ?_
    refine va_get (D := G) (ci := 2) (v := .int (Int32.ofInt (fi 7))) (C := RX3) (T := TX3) (N := 14) (ref := RX3) hx hb hts h1w hown hX.1 hP 0 rfl rfl 7 (by decide) h0w (fun _ h9 => h9) rfl dX3_has_6 ?_
    have rf7 := hR 7
    refine iv_icmp_ge (tgt := 16) hx hb (by omega) (by omega) dX3_has_9 (by decide) (fun q2 => ?_) (fun q2 => ?_)
    · refine lv_iconst (v := Int32.ofInt 0) hx hb dX3_has_16 (by decide +kernel) ?_
      exact W.zret (v := Int32.ofInt (0)) hx hb hr (nz_bool (by omega)) (fun t ht hW => ⟨⟨Int32.ofInt (0), (0), rfl, ⟨rfl, (show (inR 0) ∧ ((0 = 1 ∧ 0 ≤ t0 ∧ t0 < fi 7) ∨ (0 = 0 ∧ (t0 < 0 ∨ fi 7 ≤ t0))) from ⟨(by omega), (by omega)⟩)⟩, by rw [ht]; exact hP, hD⟩, hS.F ht⟩) hS.2.2 dX3_has_17
    · refine lv_iconst (v := Int32.ofInt 1) hx hb dX3_has_12 (by decide +kernel) ?_
      refine lv_goto (tgt := 17) hx hb dX3_has_13 (by decide) ?_
      exact W.zret (v := Int32.ofInt (1)) hx hb hr (nz_bool (by omega)) (fun t ht hW => ⟨⟨Int32.ofInt (1), (1), rfl, ⟨rfl, (show (inR 1) ∧ ((1 = 1 ∧ 0 ≤ t0 ∧ t0 < fi 7) ∨ (1 = 0 ∧ (t0 < 0 ∨ fi 7 ≤ t0))) from ⟨(by omega), (by omega)⟩)⟩, by rw [ht]; exact hP, hD⟩, hS.F ht⟩) hS.2.2 dX3_has_17

set_option maxHeartbeats 4000000 in
set_option maxRecDepth 100000 in
theorem mX3_hasDepth (l : Launch) (G : va_G) (k : Nat → ClassId) (ar : Nat → Nat) (fi : Nat → Int) (fa : Nat → Int → Int) (d0 : Int) (sz : Nat) (hR : ∀ j, inR (fi j)) (hRa : ∀ j t, inR (fa j t)) (hB8 : bnd (fa 8) 7 0 4) (hB20 : bnd (fa 20) 600 (-1000) 10000) (hB21 : bnd (fa 21) 4 0 601) (hr_d0 : inR d0) : CNi l G k (EZ k) yX3_hasDepth wzX3_hasDepth ({ frames := 0, cells := 0, slots := 0, locals := 0 }) [.ref (ar 99), .int (Int32.ofInt (d0))] sz (wP k ar fi fa) (fun (r0 : Int32) (u : Int) => r0 = Int32.ofInt (u) ∧ (inR u) ∧ ((u = 1 ∧ 0 ≤ d0 ∧ d0 ≤ fi 0) ∨ (u = 0 ∧ (d0 < 0 ∨ fi 0 < d0)))) (fun (u : Int) => (wP k ar fi fa)) := by
  refine Met.ofW (cc := cX3_hasDepth) (maxL := 2) (ret := (some .boolean)) (by decide) rfl ?_
  intro p e s m args below meth c s₁ B hml hv
  obtain ⟨rfl, hsz, hP, hX, hD0, hZ0⟩ := hv
  have hx := B.exec
  have hb := B.bytes
  have hr := B.returns
  have hts := atoms_spec (ws := wzX3_hasDepth) B.pre
  have hown : s.vm.findClass RX3 = some m.cls := findClass_of_methodNamed B.named
  subst hsz
  have hD := hD0.self (sz := s.heap.size)
  have hZ := hZ0
  generalize hAe : va_A (wP k ar fi fa) s.heap.size = A at hD hZ ⊢
  have hA : ∀ q : Nat, s.heap.size ≤ q → A q := fun q h => by rw [← hAe]; exact Or.inr h
  have hS : va_S A s.heap s.heap [] := va_S.rf
  have hl := lv_entry ([.ref (ar 99), .int (Int32.ofInt (d0))]) (n := 2) (Nat.le_of_ble_eq_true rfl)
  rw [lg_entry_eq]
  generalize (lg_sl ([.ref (ar 99), .int (Int32.ofInt (d0))]) ++ List.replicate (2 - (lg_sl ([.ref (ar 99), .int (Int32.ofInt (d0))])).length) Slot.unset).toArray = ls at hl ⊢
  have hl : lv_has ls 2 [(0, .ref (ar 99)), (1, .int (Int32.ofInt (d0)))] := hl
  obtain ⟨H, eH⟩ : ∃ H, H = s.heap := ⟨_, rfl⟩
  rw [← eH] at hP
  have hS : va_S A s.heap H [] := by rw [eH]; exact hS
  have gW : s.heap = H := eH.symm
  refine iv_heap gW ?_
  have h0w := hts (.fieldLink RX3 37 "RopeTown$Plan" "bottom" "I") (wz_at 2 18 rfl)
  have h1w : ∀ w ∈ wsX30, w ∈ wzX3_hasDepth := fun w h => List.mem_cons_of_mem _ (inlX3 w h)
  refine lv_iload_n hx hb dX3_hasDepth_0 rfl (lv_at hl 1 rfl) ?_
  refine iv_if_lt (tgt := 16) hx hb (by omega) dX3_hasDepth_1 (by decide) (fun q1 => ?_) (fun q1 => ?_)
  · refine lv_iconst (v := Int32.ofInt 0) hx hb dX3_hasDepth_16 (by decide +kernel) ?_
    exact W.zret (v := Int32.ofInt (0)) hx hb hr (nz_bool (by omega)) (fun t ht hW => ⟨⟨Int32.ofInt (0), (0), rfl, ⟨rfl, (show (inR 0) ∧ ((0 = 1 ∧ 0 ≤ d0 ∧ d0 ≤ fi 0) ∨ (0 = 0 ∧ (d0 < 0 ∨ fi 0 < d0))) from ⟨(by omega), (by omega)⟩)⟩, by rw [ht]; exact hP, hD⟩, hS.F ht⟩) hS.2.2 dX3_hasDepth_17
  · refine lv_iload_n hx hb dX3_hasDepth_4 rfl (lv_at hl 1 rfl) ?_
    refine lv_aload_n hx hb dX3_hasDepth_5 rfl (lv_at hl 0 rfl) ?_
    refine va_get (D := G) (ci := 2) (v := .int (Int32.ofInt (fi 0))) (C := RX3) (T := TX3) (N := 14) (ref := RX3) hx hb hts h1w hown hX.1 hP 0 rfl rfl 0 (by decide) h0w (fun _ h9 => h9) rfl dX3_hasDepth_6 ?_
    have rf0 := hR 0
    refine iv_icmp_gt (tgt := 16) hx hb (by omega) (by omega) dX3_hasDepth_9 (by decide) (fun q2 => ?_) (fun q2 => ?_)
    · refine lv_iconst (v := Int32.ofInt 0) hx hb dX3_hasDepth_16 (by decide +kernel) ?_
      exact W.zret (v := Int32.ofInt (0)) hx hb hr (nz_bool (by omega)) (fun t ht hW => ⟨⟨Int32.ofInt (0), (0), rfl, ⟨rfl, (show (inR 0) ∧ ((0 = 1 ∧ 0 ≤ d0 ∧ d0 ≤ fi 0) ∨ (0 = 0 ∧ (d0 < 0 ∨ fi 0 < d0))) from ⟨(by omega), (by omega)⟩)⟩, by rw [ht]; exact hP, hD⟩, hS.F ht⟩) hS.2.2 dX3_hasDepth_17
    · refine lv_iconst (v := Int32.ofInt 1) hx hb dX3_hasDepth_12 (by decide +kernel) ?_
      refine lv_goto (tgt := 17) hx hb dX3_hasDepth_13 (by decide) ?_
      exact W.zret (v := Int32.ofInt (1)) hx hb hr (nz_bool (by omega)) (fun t ht hW => ⟨⟨Int32.ofInt (1), (1), rfl, ⟨rfl, (show (inR 1) ∧ ((1 = 1 ∧ 0 ≤ d0 ∧ d0 ≤ fi 0) ∨ (1 = 0 ∧ (d0 < 0 ∨ fi 0 < d0))) from ⟨(by omega), (by omega)⟩)⟩, by rw [ht]; exact hP, hD⟩, hS.F ht⟩) hS.2.2 dX3_hasDepth_17

set_option maxHeartbeats 4000000 in
set_option maxRecDepth 100000 in
theorem mX3_firstState (l : Launch) (G : va_G) (k : Nat → ClassId) (ar : Nat → Nat) (fi : Nat → Int) (fa : Nat → Int → Int) (sz : Nat) (hR : ∀ j, inR (fi j)) (hRa : ∀ j t, inR (fa j t)) (hB8 : bnd (fa 8) 7 0 4) (hB20 : bnd (fa 20) 600 (-1000) 10000) (hB21 : bnd (fa 21) 4 0 601) (hth : 0 ≤ fi 7 ∧ fi 7 ≤ 7) : CNi l G k (EZ k) yX3_firstState wzX3_firstState ({ frames := 1, cells := 0, slots := 0, locals := 22 }) [.ref (ar 99)] sz (wP k ar fi fa) (fun (r0 : Int32) (u : Int) => r0 = Int32.ofInt (u) ∧ (inR u) ∧ (FsI u (fi 7) (fi 1) (fa 10) (fi 7))) (fun (u : Int) => (wP k ar fi fa)) := by
  refine Met.ofW (cc := cX3_firstState) (maxL := 3) (ret := (some .int)) (by decide) rfl ?_
  intro p e s m args below meth c s₁ B hml hv
  obtain ⟨rfl, hsz, hP, hX, hD0, hZ0⟩ := hv
  have hx := B.exec
  have hb := B.bytes
  have hr := B.returns
  have hts := atoms_spec (ws := wzX3_firstState) B.pre
  have hown : s.vm.findClass RX3 = some m.cls := findClass_of_methodNamed B.named
  subst hsz
  have hD := hD0.self (sz := s.heap.size)
  have hZ := hZ0
  generalize hAe : va_A (wP k ar fi fa) s.heap.size = A at hD hZ ⊢
  have hA : ∀ q : Nat, s.heap.size ≤ q → A q := fun q h => by rw [← hAe]; exact Or.inr h
  have hS : va_S A s.heap s.heap [] := va_S.rf
  have hl := lv_entry ([.ref (ar 99)]) (n := 3) (Nat.le_of_ble_eq_true rfl)
  rw [lg_entry_eq]
  generalize (lg_sl ([.ref (ar 99)]) ++ List.replicate (3 - (lg_sl ([.ref (ar 99)])).length) Slot.unset).toArray = ls at hl ⊢
  have hl : lv_has ls 3 [(0, .ref (ar 99))] := hl
  obtain ⟨H, eH⟩ : ∃ H, H = s.heap := ⟨_, rfl⟩
  rw [← eH] at hP
  have hS : va_S A s.heap H [] := by rw [eH]; exact hS
  have gW : s.heap = H := eH.symm
  refine iv_heap gW ?_
  have h0w := hts (.constant RX3 65 (268435455)) (wz_at 5 8 rfl)
  have h1w := hts (.fieldLink RX3 41 "RopeTown$Plan" "start" "I") (wz_at 2 19 rfl)
  have h2w : ∀ w ∈ wsX30, w ∈ wzX3_firstState := fun w h => List.mem_cons_of_mem _ (inlX3 w h)
  have h3w := hts (.initialized RX7) (wz_at 5 10 rfl)
  have h4w := hts (.static yX7_move) (wz_at 5 9 rfl)
  have h5w := hts (.fieldLink RX3 59 "RopeTown$Plan" "things" "I") (wz_at 3 1 rfl)
  have h6w := hts (.fieldLink RX3 18 "RopeTown$Plan" "first" "[I") (wz_at 1 19 rfl)
  have h7w := hts (.static yX7_put) (wz_at 5 13 rfl)
  refine lv_ldc (v := Int32.ofInt 268435455) hx hb hown h0w dX3_firstState_0 ?_
  refine lv_aload_n hx hb dX3_firstState_2 rfl (lv_at hl 0 rfl) ?_
  refine va_get (D := G) (ci := 2) (v := .int (Int32.ofInt (fi 1))) (C := RX3) (T := TX3) (N := 14) (ref := RX3) hx hb hts h2w hown hX.1 hP 0 rfl rfl 1 (by decide) h1w (fun _ h9 => h9) rfl dX3_firstState_3 ?_
  have rf1 := hR 1
  refine c0_i (va_runSN (As := [.int (Int32.ofInt (268435455)), .int (Int32.ofInt (fi 1))]) (rest := []) ⟨hx, hb, hml, hown, hts⟩ (mX7_move l G k 268435455 (fi 1) H.size (by omega) (hR 1)) ⟨va_cnB 2 hts (gz [] (.code yX7_move cX7_move 2 (some .int)) [(5, 11)] rfl) rfl rfl rfl (nm_8 hX.2.2.1) h3w (by decide +kernel) ⟨Nat.le_of_ble_eq_true rfl, Nat.le_of_ble_eq_true rfl⟩, h4w, trivial⟩ (cr_pre0 (EZ_ok k) hZ hS hX hP hD hA) rfl rfl hl.1 rfl (lv_room (Nat.le_of_ble_eq_true rfl)) dX3_firstState_6 ⟨Nat.le_of_ble_eq_true rfl, Nat.le_of_ble_eq_true rfl⟩) hP hD hS hA (fun r u H locs hp hP hD hS => ?_)
  obtain ⟨c1, rfl⟩ : ∃ z, z = u := ⟨_, rfl⟩
  obtain ⟨h9, rc1, hp1⟩ : r = Int32.ofInt c1 ∧ (inR c1) ∧ (c1 = mvS 268435455 (fi 1)) := hp
  subst h9
  have hMv6 := hp1
  refine lv_istore_n (lv' := [(1, .int (Int32.ofInt (c1))), (0, .ref (ar 99))]) hx hb dX3_firstState_9 rfl hl (by decide) rfl (fun ls hl => ?_)
  refine lv_iconst (v := Int32.ofInt 0) hx hb dX3_firstState_10 (by decide +kernel) ?_
  refine lv_istore_n (lv' := [(2, .int (Int32.ofInt (0))), (1, .int (Int32.ofInt (c1))), (0, .ref (ar 99))]) hx hb dX3_firstState_11 rfl hl (by decide) rfl (fun ls hl => ?_)
  refine iv_loop (α := Int × Int) (nL := 3) (fun b9 => (wP k ar fi fa)) (fun b9 => [(2, .int (Int32.ofInt (b9.1))), (1, .int (Int32.ofInt (b9.2))), (0, .ref (ar 99))]) (fun b9 => (fi 7 - b9.1).toNat) (fun b9 => inR b9.1 ∧ inR b9.2 ∧ ((0 ≤ b9.1 ∧ b9.1 ≤ fi 7) ∧ FsI b9.2 b9.1 (fi 1) (fa 10) (fi 7))) ?_ (0, c1) (show inR 0 ∧ inR c1 ∧ ((0 ≤ 0 ∧ 0 ≤ fi 7) ∧ FsI c1 0 (fi 1) (fa 10) (fi 7)) from ⟨(by omega), (by omega), (by exact ⟨by omega, fs_0 hMv6 rfl⟩)⟩) hP hD hS hl
  rintro ⟨x2_2, x1_3⟩ ih hi9 H locs ls hP hD hS hl
  obtain ⟨r_x2_2, r_x1_3, hinv⟩ : inR x2_2 ∧ inR x1_3 ∧ ((0 ≤ x2_2 ∧ x2_2 ≤ fi 7) ∧ FsI x1_3 x2_2 (fi 1) (fa 10) (fi 7)) := hi9
  obtain ⟨hinv, hFs⟩ := hinv
  obtain ⟨hP, hD⟩ : va_P G vwCl (wP k ar fi fa) H ∧ va_D A (wP k ar fi fa) := ⟨hP, hD⟩
  have hl : lv_has ls 3 [(2, .int (Int32.ofInt (x2_2))), (1, .int (Int32.ofInt (x1_3))), (0, .ref (ar 99))] := hl
  refine lv_iload_n hx hb dX3_firstState_12 rfl (lv_at hl 0 rfl) ?_
  refine lv_aload_n hx hb dX3_firstState_13 rfl (lv_at hl 2 rfl) ?_
  refine va_get (D := G) (ci := 2) (v := .int (Int32.ofInt (fi 7))) (C := RX3) (T := TX3) (N := 14) (ref := RX3) hx hb hts h2w hown hX.1 hP 0 rfl rfl 7 (by decide) h5w (fun _ h9 => h9) rfl dX3_firstState_14 ?_
  have rf7 := hR 7
  refine iv_icmp_ge (tgt := 38) hx hb (by omega) (by omega) dX3_firstState_17 (by decide) (fun q4 => ?_) (fun q4 => ?_)
  · refine lv_iload_n hx hb dX3_firstState_38 rfl (lv_at hl 1 rfl) ?_
    exact W.iret (v := Int32.ofInt (x1_3)) hx hb hr (fun t ht hW => ⟨⟨Int32.ofInt (x1_3), (x1_3), rfl, ⟨rfl, (show (inR x1_3) ∧ (FsI x1_3 (fi 7) (fi 1) (fa 10) (fi 7)) from ⟨(by omega), (by exact fs_n hFs (by omega))⟩)⟩, by rw [ht]; exact hP, hD⟩, hS.F ht⟩) hS.2.2 dX3_firstState_39
  · refine lv_iload_n hx hb dX3_firstState_20 rfl (lv_at hl 1 rfl) ?_
    refine lv_iload_n hx hb dX3_firstState_21 rfl (lv_at hl 0 rfl) ?_
    refine lv_aload_n hx hb dX3_firstState_22 rfl (lv_at hl 2 rfl) ?_
    refine va_get (D := G) (ci := 2) (v := .ref (ar 10)) (C := RX3) (T := TX3) (N := 14) (ref := RX3) hx hb hts h2w hown hX.1 hP 0 rfl rfl 10 (by decide) h6w (fun _ h9 => h9) rfl dX3_firstState_23 ?_
    refine lv_iload_n hx hb dX3_firstState_26 rfl (lv_at hl 0 rfl) ?_
    refine iv_iald hx hb hX.1 hP 4 0 rfl rfl (by omega) (by omega) (by decide) dX3_firstState_27 ?_
    refine iv_top (fun z5 ez5 => ?_)
    have rz5 : inR z5 := ez5 ▸ (hRa 10) _
    have ez5 : z5 = (fa 10) x2_2 := ez5
    have hf9 := ez5
    refine c0_i (va_runSN (As := [.int (Int32.ofInt (x1_3)), .int (Int32.ofInt (x2_2)), .int (Int32.ofInt (z5))]) (rest := []) ⟨hx, hb, hml, hown, hts⟩ (mX7_put l G k x1_3 x2_2 z5 H.size (by omega) (by omega) (by omega)) ⟨va_cnB 3 hts (gz [] (.code yX7_put cX7_put 3 (some .int)) [(5, 14)] rfl) rfl rfl rfl (nm_9 hX.2.2.1) h3w (by decide +kernel) ⟨Nat.le_of_ble_eq_true rfl, Nat.le_of_ble_eq_true rfl⟩, h7w, trivial⟩ (cr_pre0 (EZ_ok k) hZ hS hX hP hD hA) rfl rfl hl.1 rfl (lv_room (Nat.le_of_ble_eq_true rfl)) dX3_firstState_28 ⟨Nat.le_of_ble_eq_true rfl, Nat.le_of_ble_eq_true rfl⟩) hP hD hS hA (fun r u H locs hp hP hD hS => ?_)
    obtain ⟨c6, rfl⟩ : ∃ z, z = u := ⟨_, rfl⟩
    obtain ⟨h9, rc6, hp6⟩ : r = Int32.ofInt c6 ∧ (inR c6) ∧ (c6 = putS x1_3 x2_2 z5) := hp
    subst h9
    have hPu28 := hp6
    refine lv_istore_n (lv' := [(1, .int (Int32.ofInt (c6))), (2, .int (Int32.ofInt (x2_2))), (0, .ref (ar 99))]) hx hb dX3_firstState_31 rfl hl (by decide) rfl (fun ls hl => ?_)
    refine lv_iinc (v := Int32.ofInt (x2_2 + 1)) (lv' := [(2, .int (Int32.ofInt ((x2_2 + 1)))), (1, .int (Int32.ofInt (c6))), (0, .ref (ar 99))]) hx hb dX3_firstState_32 hl (k := 1) rfl (Int32.ofInt_add _ _).symm (by decide) rfl (fun ls hl => ?_)
    refine lv_goto (tgt := 12) hx hb dX3_firstState_35 (by decide) ?_
    have hl : lv_has ls 3 [(2, .int (Int32.ofInt ((x2_2 + 1)))), (1, .int (Int32.ofInt (c6))), (0, .ref (ar 99))] := lv_sub hl [0, 1, 2] rfl
    exact ih ((x2_2 + 1), c6) (show (fi 7 - (x2_2 + 1)).toNat < (fi 7 - x2_2).toNat from by omega) (show inR (x2_2 + 1) ∧ inR c6 ∧ ((0 ≤ (x2_2 + 1) ∧ (x2_2 + 1) ≤ fi 7) ∧ FsI c6 (x2_2 + 1) (fi 1) (fa 10) (fi 7)) from ⟨(by omega), (by omega), (by exact ⟨by omega, fs_s hFs (by omega) (by omega) (by omega) hf9 hPu28 rfl⟩)⟩) _ _ _ hP hD hS hl

set_option maxHeartbeats 4000000 in
set_option maxRecDepth 100000 in
theorem mX3_stones (l : Launch) (G : va_G) (k : Nat → ClassId) (ar : Nat → Nat) (fi : Nat → Int) (fa : Nat → Int → Int) (sz : Nat) (hR : ∀ j, inR (fi j)) (hRa : ∀ j t, inR (fa j t)) (hB8 : bnd (fa 8) 7 0 4) (hB20 : bnd (fa 20) 600 (-1000) 10000) (hB21 : bnd (fa 21) 4 0 601) (hth : 0 ≤ fi 7 ∧ fi 7 ≤ 7) : CNi l G k (EZ k) yX3_stones wzX3_stones ({ frames := 0, cells := 0, slots := 0, locals := 0 }) [.ref (ar 99)] sz (wP k ar fi fa) (fun (r0 : Int32) (u : Int) => r0 = Int32.ofInt (u) ∧ (inR u) ∧ (0 ≤ u ∧ u ≤ 7)) (fun (u : Int) => (wP k ar fi fa)) := by
  refine Met.ofW (cc := cX3_stones) (maxL := 3) (ret := (some .int)) (by decide) rfl ?_
  intro p e s m args below meth c s₁ B hml hv
  obtain ⟨rfl, hsz, hP, hX, hD0, hZ0⟩ := hv
  have hx := B.exec
  have hb := B.bytes
  have hr := B.returns
  have hts := atoms_spec (ws := wzX3_stones) B.pre
  have hown : s.vm.findClass RX3 = some m.cls := findClass_of_methodNamed B.named
  subst hsz
  have hD := hD0.self (sz := s.heap.size)
  have hZ := hZ0
  generalize hAe : va_A (wP k ar fi fa) s.heap.size = A at hD hZ ⊢
  have hA : ∀ q : Nat, s.heap.size ≤ q → A q := fun q h => by rw [← hAe]; exact Or.inr h
  have hS : va_S A s.heap s.heap [] := va_S.rf
  have hl := lv_entry ([.ref (ar 99)]) (n := 3) (Nat.le_of_ble_eq_true rfl)
  rw [lg_entry_eq]
  generalize (lg_sl ([.ref (ar 99)]) ++ List.replicate (3 - (lg_sl ([.ref (ar 99)])).length) Slot.unset).toArray = ls at hl ⊢
  have hl : lv_has ls 3 [(0, .ref (ar 99))] := hl
  obtain ⟨H, eH⟩ : ∃ H, H = s.heap := ⟨_, rfl⟩
  rw [← eH] at hP
  have hS : va_S A s.heap H [] := by rw [eH]; exact hS
  have gW : s.heap = H := eH.symm
  refine iv_heap gW ?_
  have h0w := hts (.fieldLink RX3 59 "RopeTown$Plan" "things" "I") (wz_at 3 1 rfl)
  have h1w : ∀ w ∈ wsX30, w ∈ wzX3_stones := fun w h => List.mem_cons_of_mem _ (inlX3 w h)
  have h2w := hts (.fieldLink RX3 9 "RopeTown$Plan" "kind" "[I") (wz_at 1 17 rfl)
  refine lv_iconst (v := Int32.ofInt 0) hx hb dX3_stones_0 (by decide +kernel) ?_
  refine lv_istore_n (lv' := [(1, .int (Int32.ofInt (0))), (0, .ref (ar 99))]) hx hb dX3_stones_1 rfl hl (by decide) rfl (fun ls hl => ?_)
  refine lv_iconst (v := Int32.ofInt 0) hx hb dX3_stones_2 (by decide +kernel) ?_
  refine lv_istore_n (lv' := [(2, .int (Int32.ofInt (0))), (1, .int (Int32.ofInt (0))), (0, .ref (ar 99))]) hx hb dX3_stones_3 rfl hl (by decide) rfl (fun ls hl => ?_)
  refine iv_loop (α := Int × Int) (nL := 3) (fun b9 => (wP k ar fi fa)) (fun b9 => [(2, .int (Int32.ofInt (b9.1))), (1, .int (Int32.ofInt (b9.2))), (0, .ref (ar 99))]) (fun b9 => (fi 7 - b9.1).toNat) (fun b9 => inR b9.1 ∧ inR b9.2 ∧ (0 ≤ b9.1 ∧ b9.1 ≤ fi 7 ∧ 0 ≤ b9.2 ∧ b9.2 ≤ b9.1)) ?_ (0, 0) (show inR 0 ∧ inR 0 ∧ (0 ≤ 0 ∧ 0 ≤ fi 7 ∧ 0 ≤ 0 ∧ 0 ≤ 0) from ⟨(by omega), (by omega), (by omega)⟩) hP hD hS hl
  rintro ⟨x2_1, x1_2⟩ ih hi9 H locs ls hP hD hS hl
  obtain ⟨r_x2_1, r_x1_2, hinv⟩ : inR x2_1 ∧ inR x1_2 ∧ (0 ≤ x2_1 ∧ x2_1 ≤ fi 7 ∧ 0 ≤ x1_2 ∧ x1_2 ≤ x2_1) := hi9
  obtain ⟨hP, hD⟩ : va_P G vwCl (wP k ar fi fa) H ∧ va_D A (wP k ar fi fa) := ⟨hP, hD⟩
  have hl : lv_has ls 3 [(2, .int (Int32.ofInt (x2_1))), (1, .int (Int32.ofInt (x1_2))), (0, .ref (ar 99))] := hl
  refine lv_iload_n hx hb dX3_stones_4 rfl (lv_at hl 0 rfl) ?_
  refine lv_aload_n hx hb dX3_stones_5 rfl (lv_at hl 2 rfl) ?_
  refine va_get (D := G) (ci := 2) (v := .int (Int32.ofInt (fi 7))) (C := RX3) (T := TX3) (N := 14) (ref := RX3) hx hb hts h1w hown hX.1 hP 0 rfl rfl 7 (by decide) h0w (fun _ h9 => h9) rfl dX3_stones_6 ?_
  have rf7 := hR 7
  refine iv_icmp_ge (tgt := 36) hx hb (by omega) (by omega) dX3_stones_9 (by decide) (fun q3 => ?_) (fun q3 => ?_)
  · refine lv_iload_n hx hb dX3_stones_36 rfl (lv_at hl 1 rfl) ?_
    exact W.iret (v := Int32.ofInt (x1_2)) hx hb hr (fun t ht hW => ⟨⟨Int32.ofInt (x1_2), (x1_2), rfl, ⟨rfl, (show (inR x1_2) ∧ (0 ≤ x1_2 ∧ x1_2 ≤ 7) from ⟨(by omega), (by omega)⟩)⟩, by rw [ht]; exact hP, hD⟩, hS.F ht⟩) hS.2.2 dX3_stones_37
  · refine lv_iload_n hx hb dX3_stones_12 rfl (lv_at hl 1 rfl) ?_
    refine lv_aload_n hx hb dX3_stones_13 rfl (lv_at hl 2 rfl) ?_
    refine va_get (D := G) (ci := 2) (v := .ref (ar 8)) (C := RX3) (T := TX3) (N := 14) (ref := RX3) hx hb hts h1w hown hX.1 hP 0 rfl rfl 8 (by decide) h2w (fun _ h9 => h9) rfl dX3_stones_14 ?_
    refine lv_iload_n hx hb dX3_stones_17 rfl (lv_at hl 0 rfl) ?_
    refine iv_iald hx hb hX.1 hP 2 0 rfl rfl (by omega) (by omega) (by decide) dX3_stones_18 ?_
    refine iv_top (fun z4 ez4 => ?_)
    have rz4 : inR z4 := ez4 ▸ (hRa 8) _
    have ez4 : z4 = (fa 8) x2_1 := ez4
    have bz4 : 0 ≤ z4 ∧ z4 < 4 := by rw [ez4]; exact bnd_at hB8 (by omega) (by omega)
    refine lv_iconst (v := Int32.ofInt 2) hx hb dX3_stones_19 (by decide +kernel) ?_
    refine iv_icmp_ne (tgt := 27) hx hb (by omega) (by omega) dX3_stones_20 (by decide) (fun q5 => ?_) (fun q5 => ?_)
    · refine lv_iconst (v := Int32.ofInt 0) hx hb dX3_stones_27 (by decide +kernel) ?_
      refine iv_add (x := x1_2) (y := 0) hx hb dX3_stones_28 ?_
      refine lv_istore_n (lv' := [(1, .int (Int32.ofInt ((x1_2 + 0)))), (2, .int (Int32.ofInt (x2_1))), (0, .ref (ar 99))]) hx hb dX3_stones_29 rfl hl (by decide) rfl (fun ls hl => ?_)
      refine lv_iinc (v := Int32.ofInt (x2_1 + 1)) (lv' := [(2, .int (Int32.ofInt ((x2_1 + 1)))), (1, .int (Int32.ofInt ((x1_2 + 0)))), (0, .ref (ar 99))]) hx hb dX3_stones_30 hl (k := 1) rfl (Int32.ofInt_add _ _).symm (by decide) rfl (fun ls hl => ?_)
      refine lv_goto (tgt := 4) hx hb dX3_stones_33 (by decide) ?_
      have hl : lv_has ls 3 [(2, .int (Int32.ofInt ((x2_1 + 1)))), (1, .int (Int32.ofInt ((x1_2 + 0)))), (0, .ref (ar 99))] := lv_sub hl [0, 1, 2] rfl
      exact ih ((x2_1 + 1), (x1_2 + 0)) (show (fi 7 - (x2_1 + 1)).toNat < (fi 7 - x2_1).toNat from by omega) (show inR (x2_1 + 1) ∧ inR (x1_2 + 0) ∧ (0 ≤ (x2_1 + 1) ∧ (x2_1 + 1) ≤ fi 7 ∧ 0 ≤ (x1_2 + 0) ∧ (x1_2 + 0) ≤ (x2_1 + 1)) from ⟨(by omega), (by omega), (by omega)⟩) _ _ _ hP hD hS hl
    · refine lv_iconst (v := Int32.ofInt 1) hx hb dX3_stones_23 (by decide +kernel) ?_
      refine lv_goto (tgt := 28) hx hb dX3_stones_24 (by decide) ?_
      refine iv_add (x := x1_2) (y := 1) hx hb dX3_stones_28 ?_
      refine lv_istore_n (lv' := [(1, .int (Int32.ofInt ((x1_2 + 1)))), (2, .int (Int32.ofInt (x2_1))), (0, .ref (ar 99))]) hx hb dX3_stones_29 rfl hl (by decide) rfl (fun ls hl => ?_)
      refine lv_iinc (v := Int32.ofInt (x2_1 + 1)) (lv' := [(2, .int (Int32.ofInt ((x2_1 + 1)))), (1, .int (Int32.ofInt ((x1_2 + 1)))), (0, .ref (ar 99))]) hx hb dX3_stones_30 hl (k := 1) rfl (Int32.ofInt_add _ _).symm (by decide) rfl (fun ls hl => ?_)
      refine lv_goto (tgt := 4) hx hb dX3_stones_33 (by decide) ?_
      have hl : lv_has ls 3 [(2, .int (Int32.ofInt ((x2_1 + 1)))), (1, .int (Int32.ofInt ((x1_2 + 1)))), (0, .ref (ar 99))] := lv_sub hl [0, 1, 2] rfl
      exact ih ((x2_1 + 1), (x1_2 + 1)) (show (fi 7 - (x2_1 + 1)).toNat < (fi 7 - x2_1).toNat from by omega) (show inR (x2_1 + 1) ∧ inR (x1_2 + 1) ∧ (0 ≤ (x2_1 + 1) ∧ (x2_1 + 1) ≤ fi 7 ∧ 0 ≤ (x1_2 + 1) ∧ (x1_2 + 1) ≤ (x2_1 + 1)) from ⟨(by omega), (by omega), (by omega)⟩) _ _ _ hP hD hS hl

