set_option maxHeartbeats 4000000 in
set_option maxRecDepth 100000 in
theorem mX5_worth (l : Launch) (G : va_G) (k : Nat → ClassId) (ar : Nat → Nat) (fi : Nat → Int) (fa : Nat → Int → Int) (r0 : Int) (sz : Nat) (hR : ∀ j, inR (fi j)) (hRa : ∀ j t, inR (fa j t)) (hB8 : bnd (fa 8) 7 0 4) (hB21 : bnd (fa 21) 4 0 601) (hr_r0 : inR r0) (hsz : 0 ≤ fi 24 ∧ fi 24 ≤ 4) (hr0 : 0 ≤ r0 ∧ r0 < fi 24) : CNi l G k (EZ k) yX5_worth wzX5_worth ({ frames := 1, cells := 0, slots := 0, locals := 22 }) [.ref (ar 98), .int (Int32.ofInt (r0)), .ref (ar 13)] sz (wP k ar fi fa) (fun (r0 : Int32) (u : Int × (Int → Int)) => r0 = Int32.ofInt (u.1) ∧ (inR u.1) ∧ (∀ t, inR (u.2 t)) ∧ (True)) (fun (u : Int × (Int → Int)) => (wP k ar fi (uF fa 22 (u.2)))) := by
  refine Met.ofW (cc := cX5_worth) (maxL := 7) (ret := (some .int)) (by decide) rfl ?_
  intro p e s m args below meth c s₁ B hml hv
  obtain ⟨rfl, hsz, hP, hX, hD0, hZ0⟩ := hv
  have hx := B.exec
  have hb := B.bytes
  have hr := B.returns
  have hts := atoms_spec (ws := wzX5_worth) B.pre
  have hown : s.vm.findClass RX5 = some m.cls := findClass_of_methodNamed B.named
  subst hsz
  have hD := hD0.self (sz := s.heap.size)
  have hZ := hZ0
  generalize hAe : va_A (wP k ar fi fa) s.heap.size = A at hD hZ ⊢
  have hA : ∀ q : Nat, s.heap.size ≤ q → A q := fun q h => by rw [← hAe]; exact Or.inr h
  have hS : va_S A s.heap s.heap [] := va_S.rf
  have hl := lv_entry ([.ref (ar 98), .int (Int32.ofInt (r0)), .ref (ar 13)]) (n := 7) (Nat.le_of_ble_eq_true rfl)
  rw [lg_entry_eq]
  generalize (lg_sl ([.ref (ar 98), .int (Int32.ofInt (r0)), .ref (ar 13)]) ++ List.replicate (7 - (lg_sl ([.ref (ar 98), .int (Int32.ofInt (r0)), .ref (ar 13)])).length) Slot.unset).toArray = ls at hl ⊢
  have hl : lv_has ls 7 [(0, .ref (ar 98)), (1, .int (Int32.ofInt (r0))), (2, .ref (ar 13))] := hl
  obtain ⟨H, eH⟩ : ∃ H, H = s.heap := ⟨_, rfl⟩
  rw [← eH] at hP
  have hS : va_S A s.heap H [] := by rw [eH]; exact hS
  have gW : s.heap = H := eH.symm
  refine iv_heap gW ?_
  have h0w := hts (.fieldLink RX5 15 "RopeTown$Rules" "ends" "[I") (wz_at 2 6 rfl)
  have h1w : ∀ w ∈ wsX50, w ∈ wzX5_worth := fun w h => List.mem_cons_of_mem _ (inlX5 w h)
  have h2w := hts (.fieldLink RX5 18 "RopeTown$Rules" "held" "[I") (wz_at 2 7 rfl)
  have h3w := hts (.fieldLink RX5 9 "RopeTown$Rules" "code" "[I") (wz_at 2 5 rfl)
  refine lv_iload_n hx hb dX5_worth_0 rfl (lv_at hl 1 rfl) ?_
  refine iv_if_ne (tgt := 8) hx hb (by omega) dX5_worth_1 (by decide) (fun q1 => ?_) (fun q1 => ?_)
  · refine lv_aload_n hx hb dX5_worth_8 rfl (lv_at hl 0 rfl) ?_
    refine va_get (D := G) (ci := 4) (v := .ref (ar 21)) (C := RX5) (T := TX5) (N := 5) (ref := RX5) hx hb hts h1w hown hX.1 hP 1 rfl rfl 1 (by decide) h0w (fun _ h9 => h9) rfl dX5_worth_9 ?_
    refine lv_iload_n hx hb dX5_worth_12 rfl (lv_at hl 1 rfl) ?_
    refine lv_iconst (v := Int32.ofInt 1) hx hb dX5_worth_13 (by decide +kernel) ?_
    refine iv_sub (x := r0) (y := 1) hx hb dX5_worth_14 ?_
    refine iv_iald hx hb hX.1 hP 8 0 rfl rfl (by omega) (by omega) (by decide) dX5_worth_15 ?_
    refine iv_top (fun z2 ez2 => ?_)
    have rz2 : inR z2 := ez2 ▸ (hRa 21) _
    have ez2 : z2 = (fa 21) (r0 - 1) := ez2
    have bz2 : 0 ≤ z2 ∧ z2 < 601 := by rw [ez2]; exact bnd_at hB21 (by omega) (by omega)
    refine lv_istore_n (lv' := [(3, .int (Int32.ofInt (z2))), (0, .ref (ar 98)), (1, .int (Int32.ofInt (r0))), (2, .ref (ar 13))]) hx hb dX5_worth_16 rfl hl (by decide) rfl (fun ls hl => ?_)
    refine lv_iconst (v := Int32.ofInt 0) hx hb dX5_worth_17 (by decide +kernel) ?_
    refine lv_istore (lv' := [(4, .int (Int32.ofInt (0))), (3, .int (Int32.ofInt (z2))), (0, .ref (ar 98)), (1, .int (Int32.ofInt (r0))), (2, .ref (ar 13))]) hx hb dX5_worth_18 hl (by decide) rfl (fun ls hl => ?_)
    refine lv_iload_n hx hb dX5_worth_20 rfl (lv_at hl 1 rfl) ?_
    refine lv_istore (lv' := [(5, .int (Int32.ofInt (z2))), (4, .int (Int32.ofInt (0))), (3, .int (Int32.ofInt (z2))), (0, .ref (ar 98)), (1, .int (Int32.ofInt (r0))), (2, .ref (ar 13))]) hx hb dX5_worth_21 hl (by decide) rfl (fun ls hl => ?_)
    refine iv_loop (α := Int × Int × (Int → Int)) (nL := 7) (fun b9 => (wP k ar fi (uF fa 22 (b9.2.2)))) (fun b9 => [(5, .int (Int32.ofInt (b9.1))), (4, .int (Int32.ofInt (b9.2.1))), (3, .int (Int32.ofInt (z2))), (0, .ref (ar 98)), (1, .int (Int32.ofInt (r0))), (2, .ref (ar 13))]) (fun b9 => (600 - b9.1).toNat) (fun b9 => inR b9.1 ∧ inR b9.2.1 ∧ (∀ t, inR (b9.2.2 t)) ∧ (0 ≤ b9.1 ∧ 0 ≤ b9.2.1 ∧ b9.2.1 ≤ 32)) ?_ (z2, 0, fa 22) (show inR z2 ∧ inR 0 ∧ (∀ t, inR ((fa 22) t)) ∧ (0 ≤ z2 ∧ 0 ≤ 0 ∧ 0 ≤ 32) from ⟨(by omega), (by omega), (hRa 22), (by omega)⟩) hP hD hS hl
    rintro ⟨x5_3, x4_4, g22_5⟩ ih hi9 H locs ls hP hD hS hl
    obtain ⟨r_x5_3, r_x4_4, r_g22_5, hinv⟩ : inR x5_3 ∧ inR x4_4 ∧ (∀ t, inR (g22_5 t)) ∧ (0 ≤ x5_3 ∧ 0 ≤ x4_4 ∧ x4_4 ≤ 32) := hi9
    obtain ⟨hP, hD⟩ : va_P G vwCl (wP k ar fi (uF fa 22 (g22_5))) H ∧ va_D A (wP k ar fi (uF fa 22 (g22_5))) := ⟨hP, hD⟩
    have hl : lv_has ls 7 [(5, .int (Int32.ofInt (x5_3))), (4, .int (Int32.ofInt (x4_4))), (3, .int (Int32.ofInt (z2))), (0, .ref (ar 98)), (1, .int (Int32.ofInt (r0))), (2, .ref (ar 13))] := hl
    refine lv_iload hx hb dX5_worth_23 (lv_at hl 0 rfl) ?_
    refine lv_aload_n hx hb dX5_worth_25 rfl (lv_at hl 3 rfl) ?_
    refine va_get (D := G) (ci := 4) (v := .ref (ar 21)) (C := RX5) (T := TX5) (N := 5) (ref := RX5) hx hb hts h1w hown hX.1 hP 1 rfl rfl 1 (by decide) h0w (fun _ h9 => h9) rfl dX5_worth_26 ?_
    refine lv_iload_n hx hb dX5_worth_29 rfl (lv_at hl 4 rfl) ?_
    refine iv_iald hx hb hX.1 hP 8 0 rfl rfl (by omega) (by omega) (by decide) dX5_worth_30 ?_
    refine iv_top (fun z6 ez6 => ?_)
    have rz6 : inR z6 := ez6 ▸ (hRa 21) _
    have ez6 : z6 = (fa 21) r0 := ez6
    have bz6 : 0 ≤ z6 ∧ z6 < 601 := by rw [ez6]; exact bnd_at hB21 (by omega) (by omega)
    refine iv_icmp_ge (tgt := 176) hx hb (by omega) (by omega) dX5_worth_31 (by decide) (fun q7 => ?_) (fun q7 => ?_)
    · refine lv_iload hx hb dX5_worth_176 (lv_at hl 1 rfl) ?_
      refine iv_if_le (tgt := 193) hx hb (by omega) dX5_worth_178 (by decide) (fun q8 => ?_) (fun q8 => ?_)
      · refine lv_iconst (v := Int32.ofInt 0) hx hb dX5_worth_193 (by decide +kernel) ?_
        exact W.iret (v := Int32.ofInt (0)) hx hb hr (fun t ht hW => ⟨⟨Int32.ofInt (0), (0, g22_5), rfl, ⟨rfl, (show (inR 0) ∧ (∀ t, inR (g22_5 t)) ∧ (True) from ⟨(by omega), r_g22_5, trivial⟩)⟩, by rw [ht]; exact hP, hD⟩, hS.F ht⟩) hS.2.2 dX5_worth_194
      · refine lv_aload_n hx hb dX5_worth_181 rfl (lv_at hl 3 rfl) ?_
        refine va_get (D := G) (ci := 4) (v := .ref (ar 22)) (C := RX5) (T := TX5) (N := 5) (ref := RX5) hx hb hts h1w hown hX.1 hP 1 rfl rfl 2 (by decide) h2w (fun _ h9 => h9) rfl dX5_worth_182 ?_
        refine lv_iload hx hb dX5_worth_185 (lv_at hl 1 rfl) ?_
        refine lv_iconst (v := Int32.ofInt 1) hx hb dX5_worth_187 (by decide +kernel) ?_
        refine iv_sub (x := x4_4) (y := 1) hx hb dX5_worth_188 ?_
        refine iv_iald hx hb hX.1 hP 9 0 rfl rfl (by omega) (by omega) (by decide) dX5_worth_189 ?_
        refine iv_top (fun z9 ez9 => ?_)
        have rz9 : inR z9 := ez9 ▸ r_g22_5 _
        have ez9 : z9 = g22_5 (x4_4 - 1) := ez9
        refine lv_goto (tgt := 194) hx hb dX5_worth_190 (by decide) ?_
        exact W.iret (v := Int32.ofInt (z9)) hx hb hr (fun t ht hW => ⟨⟨Int32.ofInt (z9), (z9, g22_5), rfl, ⟨rfl, (show (inR z9) ∧ (∀ t, inR (g22_5 t)) ∧ (True) from ⟨(by omega), r_g22_5, trivial⟩)⟩, by rw [ht]; exact hP, hD⟩, hS.F ht⟩) hS.2.2 dX5_worth_194
    · refine lv_aload_n hx hb dX5_worth_34 rfl (lv_at hl 3 rfl) ?_
      refine va_get (D := G) (ci := 4) (v := .ref (ar 20)) (C := RX5) (T := TX5) (N := 5) (ref := RX5) hx hb hts h1w hown hX.1 hP 1 rfl rfl 0 (by decide) h3w (fun _ h9 => h9) rfl dX5_worth_35 ?_
      refine lv_iload hx hb dX5_worth_38 (lv_at hl 0 rfl) ?_
      refine iv_iald hx hb hX.1 hP 7 0 rfl rfl (by omega) (by omega) (by decide) dX5_worth_40 ?_
      refine iv_top (fun z10 ez10 => ?_)
      have rz10 : inR z10 := ez10 ▸ (hRa 20) _
      have ez10 : z10 = (fa 20) x5_3 := ez10
      refine lv_istore (lv' := [(6, .int (Int32.ofInt (z10))), (5, .int (Int32.ofInt (x5_3))), (4, .int (Int32.ofInt (x4_4))), (3, .int (Int32.ofInt (z2))), (0, .ref (ar 98)), (1, .int (Int32.ofInt (r0))), (2, .ref (ar 13))]) hx hb dX5_worth_41 hl (by decide) rfl (fun ls hl => ?_)
      refine lv_iload hx hb dX5_worth_43 (lv_at hl 0 rfl) ?_
      refine lv_bipush (v := Int32.ofInt (-7)) hx hb dX5_worth_45 (by decide +kernel) ?_
      refine iv_icmp_lt (tgt := 89) hx hb (by omega) (by omega) dX5_worth_47 (by decide) (fun q11 => ?_) (fun q11 => ?_)
      · refine lv_iload hx hb dX5_worth_89 (lv_at hl 0 rfl) ?_
        refine lv_bipush (v := Int32.ofInt (-33)) hx hb dX5_worth_91 (by decide +kernel) ?_
        refine iv_icmp_ne (tgt := 130) hx hb (by omega) (by omega) dX5_worth_93 (by decide) (fun q12 => ?_) (fun q12 => ?_)
        · refine lv_iload hx hb dX5_worth_130 (lv_at hl 2 rfl) ?_
          refine lv_iconst (v := Int32.ofInt 1) hx hb dX5_worth_132 (by decide +kernel) ?_
          refine iv_icmp_le (tgt := 170) hx hb (by omega) (by omega) dX5_worth_133 (by decide) (fun q13 => ?_) (fun q13 => ?_)
          · refine lv_iinc (v := Int32.ofInt (x5_3 + 1)) (lv' := [(5, .int (Int32.ofInt ((x5_3 + 1)))), (6, .int (Int32.ofInt (z10))), (4, .int (Int32.ofInt (x4_4))), (3, .int (Int32.ofInt (z2))), (0, .ref (ar 98)), (1, .int (Int32.ofInt (r0))), (2, .ref (ar 13))]) hx hb dX5_worth_170 hl (k := 1) rfl (Int32.ofInt_add _ _).symm (by decide) rfl (fun ls hl => ?_)
            refine lv_goto (tgt := 23) hx hb dX5_worth_173 (by decide) ?_
            have hl : lv_has ls 7 [(5, .int (Int32.ofInt ((x5_3 + 1)))), (4, .int (Int32.ofInt (x4_4))), (3, .int (Int32.ofInt (z2))), (0, .ref (ar 98)), (1, .int (Int32.ofInt (r0))), (2, .ref (ar 13))] := lv_sub hl [0, 2, 3, 4, 5, 6] rfl
            exact ih ((x5_3 + 1), x4_4, g22_5) (show (600 - (x5_3 + 1)).toNat < (600 - x5_3).toNat from by omega) (show inR (x5_3 + 1) ∧ inR x4_4 ∧ (∀ t, inR (g22_5 t)) ∧ (0 ≤ (x5_3 + 1) ∧ 0 ≤ x4_4 ∧ x4_4 ≤ 32) from ⟨(by omega), (by omega), r_g22_5, (by omega)⟩) _ _ _ hP hD hS hl
          · refine lv_iinc (v := Int32.ofInt (x4_4 + (-1))) (lv' := [(4, .int (Int32.ofInt ((x4_4 + (-1))))), (6, .int (Int32.ofInt (z10))), (5, .int (Int32.ofInt (x5_3))), (3, .int (Int32.ofInt (z2))), (0, .ref (ar 98)), (1, .int (Int32.ofInt (r0))), (2, .ref (ar 13))]) hx hb dX5_worth_136 hl (k := 2) rfl (Int32.ofInt_add _ _).symm (by decide) rfl (fun ls hl => ?_)
            refine lv_aload_n hx hb dX5_worth_139 rfl (lv_at hl 4 rfl) ?_
            refine va_get (D := G) (ci := 4) (v := .ref (ar 22)) (C := RX5) (T := TX5) (N := 5) (ref := RX5) hx hb hts h1w hown hX.1 hP 1 rfl rfl 2 (by decide) h2w (fun _ h9 => h9) rfl dX5_worth_140 ?_
            refine lv_iload hx hb dX5_worth_143 (lv_at hl 0 rfl) ?_
            refine lv_iconst (v := Int32.ofInt 1) hx hb dX5_worth_145 (by decide +kernel) ?_
            refine iv_sub (x := (x4_4 + (-1))) (y := 1) hx hb dX5_worth_146 ?_
            refine lv_iload hx hb dX5_worth_147 (lv_at hl 1 rfl) ?_
            refine iv_neg hx hb dX5_worth_149 ?_
            refine iv_wr ?_
            refine iv_top (fun z14 ez14 => ?_)
            have rz14 : inR z14 := ez14 ▸ bWr_r _
            refine lv_aload_n hx hb dX5_worth_150 rfl (lv_at hl 4 rfl) ?_
            refine va_get (D := G) (ci := 4) (v := .ref (ar 22)) (C := RX5) (T := TX5) (N := 5) (ref := RX5) hx hb hts h1w hown hX.1 hP 1 rfl rfl 2 (by decide) h2w (fun _ h9 => h9) rfl dX5_worth_151 ?_
            refine lv_iload hx hb dX5_worth_154 (lv_at hl 0 rfl) ?_
            refine lv_iconst (v := Int32.ofInt 1) hx hb dX5_worth_156 (by decide +kernel) ?_
            refine iv_sub (x := (x4_4 + (-1))) (y := 1) hx hb dX5_worth_157 ?_
            refine iv_iald hx hb hX.1 hP 9 0 rfl rfl (by omega) (by omega) (by decide) dX5_worth_158 ?_
            refine iv_top (fun z15 ez15 => ?_)
            have rz15 : inR z15 := ez15 ▸ r_g22_5 _
            have ez15 : z15 = g22_5 ((x4_4 + (-1)) - 1) := ez15
            refine lv_aload_n hx hb dX5_worth_159 rfl (lv_at hl 4 rfl) ?_
            refine va_get (D := G) (ci := 4) (v := .ref (ar 22)) (C := RX5) (T := TX5) (N := 5) (ref := RX5) hx hb hts h1w hown hX.1 hP 1 rfl rfl 2 (by decide) h2w (fun _ h9 => h9) rfl dX5_worth_160 ?_
            refine lv_iload hx hb dX5_worth_163 (lv_at hl 0 rfl) ?_
            refine iv_iald hx hb hX.1 hP 9 0 rfl rfl (by omega) (by omega) (by decide) dX5_worth_165 ?_
            refine iv_top (fun z16 ez16 => ?_)
            have rz16 : inR z16 := ez16 ▸ r_g22_5 _
            have ez16 : z16 = g22_5 (x4_4 + (-1)) := ez16
            refine c0_i (va_runS (As := [.int (Int32.ofInt (z14)), .int (Int32.ofInt (z15)), .int (Int32.ofInt (z16))]) (rest := [.int (Int32.ofInt (((x4_4 + (-1)) - 1))), .ref (ar 22)]) ⟨hx, hb, hml, hown, hts⟩ (mX5_joined l G k z14 z15 z16 H.size (by omega) (by omega) (by omega)) (cwS 3 hts (gz [.methodLink RX5 35 yX5_joined, .static yX5_joined, .initialized RX5] (.code yX5_joined cX5_joined 3 (some .int)) [(25, 14), (25, 15), (1, 23), (25, 16)] rfl) rfl rfl rfl (by decide +kernel) ⟨Nat.le_of_ble_eq_true rfl, Nat.le_of_ble_eq_true rfl⟩) (cr_pre0 (EZ_ok k) hZ hS hX hP hD hA) rfl rfl hl.1 rfl (lv_room (Nat.le_of_ble_eq_true rfl)) dX5_worth_166 ⟨Nat.le_of_ble_eq_true rfl, Nat.le_of_ble_eq_true rfl⟩) hP hD hS hA (fun r u H locs hp hP hD hS => ?_)
            obtain ⟨c17, rfl⟩ : ∃ z, z = u := ⟨_, rfl⟩
            obtain ⟨h9, rc17, hp17⟩ : r = Int32.ofInt c17 ∧ (inR c17) ∧ (True) := hp
            subst h9
            refine iv_iast hx hb hX.1 hP hD hS 9 0 rfl rfl (fun g' => show _ = (wP k ar fi (uF fa 22 (g'))) from rfl) (by omega) (by omega) (by decide) dX5_worth_169 (fun H locs hP hD hS => ?_)
            obtain ⟨hP, hD⟩ : va_P G vwCl (wP k ar fi (uF fa 22 (uA (g22_5) (((x4_4 + (-1)) - 1)) (c17)))) H ∧ va_D A (wP k ar fi (uF fa 22 (uA (g22_5) (((x4_4 + (-1)) - 1)) (c17)))) := ⟨hP, hD⟩
            obtain ⟨g18, eg18, rg18⟩ : ∃ z, z = uA (g22_5) (((x4_4 + (-1)) - 1)) (c17) ∧ ∀ t, inR (z t) := ⟨_, rfl, iU r_g22_5 (by omega)⟩
            rw [← eg18] at hP hD
            refine lv_iinc (v := Int32.ofInt (x5_3 + 1)) (lv' := [(5, .int (Int32.ofInt ((x5_3 + 1)))), (4, .int (Int32.ofInt ((x4_4 + (-1))))), (6, .int (Int32.ofInt (z10))), (3, .int (Int32.ofInt (z2))), (0, .ref (ar 98)), (1, .int (Int32.ofInt (r0))), (2, .ref (ar 13))]) hx hb dX5_worth_170 hl (k := 2) rfl (Int32.ofInt_add _ _).symm (by decide) rfl (fun ls hl => ?_)
            refine lv_goto (tgt := 23) hx hb dX5_worth_173 (by decide) ?_
            have hl : lv_has ls 7 [(5, .int (Int32.ofInt ((x5_3 + 1)))), (4, .int (Int32.ofInt ((x4_4 + (-1))))), (3, .int (Int32.ofInt (z2))), (0, .ref (ar 98)), (1, .int (Int32.ofInt (r0))), (2, .ref (ar 13))] := lv_sub hl [0, 1, 3, 4, 5, 6] rfl
            exact ih ((x5_3 + 1), (x4_4 + (-1)), g18) (show (600 - (x5_3 + 1)).toNat < (600 - x5_3).toNat from by omega) (show inR (x5_3 + 1) ∧ inR (x4_4 + (-1)) ∧ (∀ t, inR (g18 t)) ∧ (0 ≤ (x5_3 + 1) ∧ 0 ≤ (x4_4 + (-1)) ∧ (x4_4 + (-1)) ≤ 32) from ⟨(by omega), (by omega), rg18, (by omega)⟩) _ _ _ hP hD hS hl
        · refine lv_iload hx hb dX5_worth_96 (lv_at hl 2 rfl) ?_
          refine iv_if_le (tgt := 170) hx hb (by omega) dX5_worth_98 (by decide) (fun q19 => ?_) (fun q19 => ?_)
          · refine lv_iinc (v := Int32.ofInt (x5_3 + 1)) (lv' := [(5, .int (Int32.ofInt ((x5_3 + 1)))), (6, .int (Int32.ofInt (z10))), (4, .int (Int32.ofInt (x4_4))), (3, .int (Int32.ofInt (z2))), (0, .ref (ar 98)), (1, .int (Int32.ofInt (r0))), (2, .ref (ar 13))]) hx hb dX5_worth_170 hl (k := 1) rfl (Int32.ofInt_add _ _).symm (by decide) rfl (fun ls hl => ?_)
            refine lv_goto (tgt := 23) hx hb dX5_worth_173 (by decide) ?_
            have hl : lv_has ls 7 [(5, .int (Int32.ofInt ((x5_3 + 1)))), (4, .int (Int32.ofInt (x4_4))), (3, .int (Int32.ofInt (z2))), (0, .ref (ar 98)), (1, .int (Int32.ofInt (r0))), (2, .ref (ar 13))] := lv_sub hl [0, 2, 3, 4, 5, 6] rfl
            exact ih ((x5_3 + 1), x4_4, g22_5) (show (600 - (x5_3 + 1)).toNat < (600 - x5_3).toNat from by omega) (show inR (x5_3 + 1) ∧ inR x4_4 ∧ (∀ t, inR (g22_5 t)) ∧ (0 ≤ (x5_3 + 1) ∧ 0 ≤ x4_4 ∧ x4_4 ≤ 32) from ⟨(by omega), (by omega), r_g22_5, (by omega)⟩) _ _ _ hP hD hS hl
          · refine lv_aload_n hx hb dX5_worth_101 rfl (lv_at hl 4 rfl) ?_
            refine va_get (D := G) (ci := 4) (v := .ref (ar 22)) (C := RX5) (T := TX5) (N := 5) (ref := RX5) hx hb hts h1w hown hX.1 hP 1 rfl rfl 2 (by decide) h2w (fun _ h9 => h9) rfl dX5_worth_102 ?_
            refine lv_iload hx hb dX5_worth_105 (lv_at hl 2 rfl) ?_
            refine lv_iconst (v := Int32.ofInt 1) hx hb dX5_worth_107 (by decide +kernel) ?_
            refine iv_sub (x := x4_4) (y := 1) hx hb dX5_worth_108 ?_
            refine lv_aload_n hx hb dX5_worth_109 rfl (lv_at hl 4 rfl) ?_
            refine va_get (D := G) (ci := 4) (v := .ref (ar 22)) (C := RX5) (T := TX5) (N := 5) (ref := RX5) hx hb hts h1w hown hX.1 hP 1 rfl rfl 2 (by decide) h2w (fun _ h9 => h9) rfl dX5_worth_110 ?_
            refine lv_iload hx hb dX5_worth_113 (lv_at hl 2 rfl) ?_
            refine lv_iconst (v := Int32.ofInt 1) hx hb dX5_worth_115 (by decide +kernel) ?_
            refine iv_sub (x := x4_4) (y := 1) hx hb dX5_worth_116 ?_
            refine iv_iald hx hb hX.1 hP 9 0 rfl rfl (by omega) (by omega) (by decide) dX5_worth_117 ?_
            refine iv_top (fun z20 ez20 => ?_)
            have rz20 : inR z20 := ez20 ▸ r_g22_5 _
            have ez20 : z20 = g22_5 (x4_4 - 1) := ez20
            refine iv_if_ne (tgt := 125) hx hb (by omega) dX5_worth_118 (by decide) (fun q21 => ?_) (fun q21 => ?_)
            · refine lv_iconst (v := Int32.ofInt 0) hx hb dX5_worth_125 (by decide +kernel) ?_
              refine iv_iast hx hb hX.1 hP hD hS 9 0 rfl rfl (fun g' => show _ = (wP k ar fi (uF fa 22 (g'))) from rfl) (by omega) (by omega) (by decide) dX5_worth_126 (fun H locs hP hD hS => ?_)
              obtain ⟨hP, hD⟩ : va_P G vwCl (wP k ar fi (uF fa 22 (uA (g22_5) ((x4_4 - 1)) (0)))) H ∧ va_D A (wP k ar fi (uF fa 22 (uA (g22_5) ((x4_4 - 1)) (0)))) := ⟨hP, hD⟩
              obtain ⟨g22, eg22, rg22⟩ : ∃ z, z = uA (g22_5) ((x4_4 - 1)) (0) ∧ ∀ t, inR (z t) := ⟨_, rfl, iU r_g22_5 (by omega)⟩
              rw [← eg22] at hP hD
              refine lv_goto (tgt := 170) hx hb dX5_worth_127 (by decide) ?_
              refine lv_iinc (v := Int32.ofInt (x5_3 + 1)) (lv' := [(5, .int (Int32.ofInt ((x5_3 + 1)))), (6, .int (Int32.ofInt (z10))), (4, .int (Int32.ofInt (x4_4))), (3, .int (Int32.ofInt (z2))), (0, .ref (ar 98)), (1, .int (Int32.ofInt (r0))), (2, .ref (ar 13))]) hx hb dX5_worth_170 hl (k := 1) rfl (Int32.ofInt_add _ _).symm (by decide) rfl (fun ls hl => ?_)
              refine lv_goto (tgt := 23) hx hb dX5_worth_173 (by decide) ?_
              have hl : lv_has ls 7 [(5, .int (Int32.ofInt ((x5_3 + 1)))), (4, .int (Int32.ofInt (x4_4))), (3, .int (Int32.ofInt (z2))), (0, .ref (ar 98)), (1, .int (Int32.ofInt (r0))), (2, .ref (ar 13))] := lv_sub hl [0, 2, 3, 4, 5, 6] rfl
              exact ih ((x5_3 + 1), x4_4, g22) (show (600 - (x5_3 + 1)).toNat < (600 - x5_3).toNat from by omega) (show inR (x5_3 + 1) ∧ inR x4_4 ∧ (∀ t, inR (g22 t)) ∧ (0 ≤ (x5_3 + 1) ∧ 0 ≤ x4_4 ∧ x4_4 ≤ 32) from ⟨(by omega), (by omega), rg22, (by omega)⟩) _ _ _ hP hD hS hl
            · refine lv_iconst (v := Int32.ofInt 1) hx hb dX5_worth_121 (by decide +kernel) ?_
              refine lv_goto (tgt := 126) hx hb dX5_worth_122 (by decide) ?_
              refine iv_iast hx hb hX.1 hP hD hS 9 0 rfl rfl (fun g' => show _ = (wP k ar fi (uF fa 22 (g'))) from rfl) (by omega) (by omega) (by decide) dX5_worth_126 (fun H locs hP hD hS => ?_)
              obtain ⟨hP, hD⟩ : va_P G vwCl (wP k ar fi (uF fa 22 (uA (g22_5) ((x4_4 - 1)) (1)))) H ∧ va_D A (wP k ar fi (uF fa 22 (uA (g22_5) ((x4_4 - 1)) (1)))) := ⟨hP, hD⟩
              obtain ⟨g23, eg23, rg23⟩ : ∃ z, z = uA (g22_5) ((x4_4 - 1)) (1) ∧ ∀ t, inR (z t) := ⟨_, rfl, iU r_g22_5 (by omega)⟩
              rw [← eg23] at hP hD
              refine lv_goto (tgt := 170) hx hb dX5_worth_127 (by decide) ?_
              refine lv_iinc (v := Int32.ofInt (x5_3 + 1)) (lv' := [(5, .int (Int32.ofInt ((x5_3 + 1)))), (6, .int (Int32.ofInt (z10))), (4, .int (Int32.ofInt (x4_4))), (3, .int (Int32.ofInt (z2))), (0, .ref (ar 98)), (1, .int (Int32.ofInt (r0))), (2, .ref (ar 13))]) hx hb dX5_worth_170 hl (k := 1) rfl (Int32.ofInt_add _ _).symm (by decide) rfl (fun ls hl => ?_)
              refine lv_goto (tgt := 23) hx hb dX5_worth_173 (by decide) ?_
              have hl : lv_has ls 7 [(5, .int (Int32.ofInt ((x5_3 + 1)))), (4, .int (Int32.ofInt (x4_4))), (3, .int (Int32.ofInt (z2))), (0, .ref (ar 98)), (1, .int (Int32.ofInt (r0))), (2, .ref (ar 13))] := lv_sub hl [0, 2, 3, 4, 5, 6] rfl
              exact ih ((x5_3 + 1), x4_4, g23) (show (600 - (x5_3 + 1)).toNat < (600 - x5_3).toNat from by omega) (show inR (x5_3 + 1) ∧ inR x4_4 ∧ (∀ t, inR (g23 t)) ∧ (0 ≤ (x5_3 + 1) ∧ 0 ≤ x4_4 ∧ x4_4 ≤ 32) from ⟨(by omega), (by omega), rg23, (by omega)⟩) _ _ _ hP hD hS hl
      · refine lv_iload hx hb dX5_worth_50 (lv_at hl 2 rfl) ?_
        refine lv_aload_n hx hb dX5_worth_52 rfl (lv_at hl 4 rfl) ?_
        refine va_get (D := G) (ci := 4) (v := .ref (ar 22)) (C := RX5) (T := TX5) (N := 5) (ref := RX5) hx hb hts h1w hown hX.1 hP 1 rfl rfl 2 (by decide) h2w (fun _ h9 => h9) rfl dX5_worth_53 ?_
        refine va_alen (v := Int32.ofInt 32) hx hb hX.1 hP 9 0 rfl rfl (show Int32.ofNat 32 = Int32.ofInt 32 from by decide) dX5_worth_56 ?_
        refine iv_icmp_ge (tgt := 170) hx hb (by omega) (by omega) dX5_worth_57 (by decide) (fun q24 => ?_) (fun q24 => ?_)
        · refine lv_iinc (v := Int32.ofInt (x5_3 + 1)) (lv' := [(5, .int (Int32.ofInt ((x5_3 + 1)))), (6, .int (Int32.ofInt (z10))), (4, .int (Int32.ofInt (x4_4))), (3, .int (Int32.ofInt (z2))), (0, .ref (ar 98)), (1, .int (Int32.ofInt (r0))), (2, .ref (ar 13))]) hx hb dX5_worth_170 hl (k := 1) rfl (Int32.ofInt_add _ _).symm (by decide) rfl (fun ls hl => ?_)
          refine lv_goto (tgt := 23) hx hb dX5_worth_173 (by decide) ?_
          have hl : lv_has ls 7 [(5, .int (Int32.ofInt ((x5_3 + 1)))), (4, .int (Int32.ofInt (x4_4))), (3, .int (Int32.ofInt (z2))), (0, .ref (ar 98)), (1, .int (Int32.ofInt (r0))), (2, .ref (ar 13))] := lv_sub hl [0, 2, 3, 4, 5, 6] rfl
          exact ih ((x5_3 + 1), x4_4, g22_5) (show (600 - (x5_3 + 1)).toNat < (600 - x5_3).toNat from by omega) (show inR (x5_3 + 1) ∧ inR x4_4 ∧ (∀ t, inR (g22_5 t)) ∧ (0 ≤ (x5_3 + 1) ∧ 0 ≤ x4_4 ∧ x4_4 ≤ 32) from ⟨(by omega), (by omega), r_g22_5, (by omega)⟩) _ _ _ hP hD hS hl
        · refine lv_aload_n hx hb dX5_worth_60 rfl (lv_at hl 4 rfl) ?_
          refine va_get (D := G) (ci := 4) (v := .ref (ar 22)) (C := RX5) (T := TX5) (N := 5) (ref := RX5) hx hb hts h1w hown hX.1 hP 1 rfl rfl 2 (by decide) h2w (fun _ h9 => h9) rfl dX5_worth_61 ?_
          refine lv_iload hx hb dX5_worth_64 (lv_at hl 2 rfl) ?_
          refine lv_iload hx hb dX5_worth_66 (lv_at hl 0 rfl) ?_
          refine iv_if_lt (tgt := 76) hx hb (by omega) dX5_worth_68 (by decide) (fun q25 => ?_) (fun q25 => ?_)
          · refine lv_aload_n hx hb dX5_worth_76 rfl (lv_at hl 6 rfl) ?_
            refine lv_iconst (v := Int32.ofInt (-1)) hx hb dX5_worth_77 (by decide +kernel) ?_
            refine lv_iload hx hb dX5_worth_78 (lv_at hl 0 rfl) ?_
            refine iv_sub (x := (-1)) (y := z10) hx hb dX5_worth_80 ?_
            refine iv_iald hx hb hX.1 hP 6 0 rfl rfl (by omega) (by omega) (by decide) dX5_worth_81 ?_
            refine iv_top (fun z26 ez26 => ?_)
            have rz26 : inR z26 := ez26 ▸ (hRa 13) _
            have ez26 : z26 = (fa 13) ((-1) - z10) := ez26
            refine iv_iast hx hb hX.1 hP hD hS 9 0 rfl rfl (fun g' => show _ = (wP k ar fi (uF fa 22 (g'))) from rfl) (by omega) (by omega) (by decide) dX5_worth_82 (fun H locs hP hD hS => ?_)
            obtain ⟨hP, hD⟩ : va_P G vwCl (wP k ar fi (uF fa 22 (uA (g22_5) (x4_4) (z26)))) H ∧ va_D A (wP k ar fi (uF fa 22 (uA (g22_5) (x4_4) (z26)))) := ⟨hP, hD⟩
            obtain ⟨g27, eg27, rg27⟩ : ∃ z, z = uA (g22_5) (x4_4) (z26) ∧ ∀ t, inR (z t) := ⟨_, rfl, iU r_g22_5 (by omega)⟩
            rw [← eg27] at hP hD
            refine lv_iinc (v := Int32.ofInt (x4_4 + 1)) (lv' := [(4, .int (Int32.ofInt ((x4_4 + 1)))), (6, .int (Int32.ofInt (z10))), (5, .int (Int32.ofInt (x5_3))), (3, .int (Int32.ofInt (z2))), (0, .ref (ar 98)), (1, .int (Int32.ofInt (r0))), (2, .ref (ar 13))]) hx hb dX5_worth_83 hl (k := 2) rfl (Int32.ofInt_add _ _).symm (by decide) rfl (fun ls hl => ?_)
            refine lv_goto (tgt := 170) hx hb dX5_worth_86 (by decide) ?_
            refine lv_iinc (v := Int32.ofInt (x5_3 + 1)) (lv' := [(5, .int (Int32.ofInt ((x5_3 + 1)))), (4, .int (Int32.ofInt ((x4_4 + 1)))), (6, .int (Int32.ofInt (z10))), (3, .int (Int32.ofInt (z2))), (0, .ref (ar 98)), (1, .int (Int32.ofInt (r0))), (2, .ref (ar 13))]) hx hb dX5_worth_170 hl (k := 2) rfl (Int32.ofInt_add _ _).symm (by decide) rfl (fun ls hl => ?_)
            refine lv_goto (tgt := 23) hx hb dX5_worth_173 (by decide) ?_
            have hl : lv_has ls 7 [(5, .int (Int32.ofInt ((x5_3 + 1)))), (4, .int (Int32.ofInt ((x4_4 + 1)))), (3, .int (Int32.ofInt (z2))), (0, .ref (ar 98)), (1, .int (Int32.ofInt (r0))), (2, .ref (ar 13))] := lv_sub hl [0, 1, 3, 4, 5, 6] rfl
            exact ih ((x5_3 + 1), (x4_4 + 1), g27) (show (600 - (x5_3 + 1)).toNat < (600 - x5_3).toNat from by omega) (show inR (x5_3 + 1) ∧ inR (x4_4 + 1) ∧ (∀ t, inR (g27 t)) ∧ (0 ≤ (x5_3 + 1) ∧ 0 ≤ (x4_4 + 1) ∧ (x4_4 + 1) ≤ 32) from ⟨(by omega), (by omega), rg27, (by omega)⟩) _ _ _ hP hD hS hl
          · refine lv_iload hx hb dX5_worth_71 (lv_at hl 0 rfl) ?_
            refine lv_goto (tgt := 82) hx hb dX5_worth_73 (by decide) ?_
            refine iv_iast hx hb hX.1 hP hD hS 9 0 rfl rfl (fun g' => show _ = (wP k ar fi (uF fa 22 (g'))) from rfl) (by omega) (by omega) (by decide) dX5_worth_82 (fun H locs hP hD hS => ?_)
            obtain ⟨hP, hD⟩ : va_P G vwCl (wP k ar fi (uF fa 22 (uA (g22_5) (x4_4) (z10)))) H ∧ va_D A (wP k ar fi (uF fa 22 (uA (g22_5) (x4_4) (z10)))) := ⟨hP, hD⟩
            obtain ⟨g28, eg28, rg28⟩ : ∃ z, z = uA (g22_5) (x4_4) (z10) ∧ ∀ t, inR (z t) := ⟨_, rfl, iU r_g22_5 (by omega)⟩
            rw [← eg28] at hP hD
            refine lv_iinc (v := Int32.ofInt (x4_4 + 1)) (lv' := [(4, .int (Int32.ofInt ((x4_4 + 1)))), (6, .int (Int32.ofInt (z10))), (5, .int (Int32.ofInt (x5_3))), (3, .int (Int32.ofInt (z2))), (0, .ref (ar 98)), (1, .int (Int32.ofInt (r0))), (2, .ref (ar 13))]) hx hb dX5_worth_83 hl (k := 2) rfl (Int32.ofInt_add _ _).symm (by decide) rfl (fun ls hl => ?_)
            refine lv_goto (tgt := 170) hx hb dX5_worth_86 (by decide) ?_
            refine lv_iinc (v := Int32.ofInt (x5_3 + 1)) (lv' := [(5, .int (Int32.ofInt ((x5_3 + 1)))), (4, .int (Int32.ofInt ((x4_4 + 1)))), (6, .int (Int32.ofInt (z10))), (3, .int (Int32.ofInt (z2))), (0, .ref (ar 98)), (1, .int (Int32.ofInt (r0))), (2, .ref (ar 13))]) hx hb dX5_worth_170 hl (k := 2) rfl (Int32.ofInt_add _ _).symm (by decide) rfl (fun ls hl => ?_)
            refine lv_goto (tgt := 23) hx hb dX5_worth_173 (by decide) ?_
            have hl : lv_has ls 7 [(5, .int (Int32.ofInt ((x5_3 + 1)))), (4, .int (Int32.ofInt ((x4_4 + 1)))), (3, .int (Int32.ofInt (z2))), (0, .ref (ar 98)), (1, .int (Int32.ofInt (r0))), (2, .ref (ar 13))] := lv_sub hl [0, 1, 3, 4, 5, 6] rfl
            exact ih ((x5_3 + 1), (x4_4 + 1), g28) (show (600 - (x5_3 + 1)).toNat < (600 - x5_3).toNat from by omega) (show inR (x5_3 + 1) ∧ inR (x4_4 + 1) ∧ (∀ t, inR (g28 t)) ∧ (0 ≤ (x5_3 + 1) ∧ 0 ≤ (x4_4 + 1) ∧ (x4_4 + 1) ≤ 32) from ⟨(by omega), (by omega), rg28, (by omega)⟩) _ _ _ hP hD hS hl
  · refine lv_iconst (v := Int32.ofInt 0) hx hb dX5_worth_4 (by decide +kernel) ?_
    refine lv_goto (tgt := 16) hx hb dX5_worth_5 (by decide) ?_
    refine lv_istore_n (lv' := [(3, .int (Int32.ofInt (0))), (0, .ref (ar 98)), (1, .int (Int32.ofInt (r0))), (2, .ref (ar 13))]) hx hb dX5_worth_16 rfl hl (by decide) rfl (fun ls hl => ?_)
    refine lv_iconst (v := Int32.ofInt 0) hx hb dX5_worth_17 (by decide +kernel) ?_
    refine lv_istore (lv' := [(4, .int (Int32.ofInt (0))), (3, .int (Int32.ofInt (0))), (0, .ref (ar 98)), (1, .int (Int32.ofInt (r0))), (2, .ref (ar 13))]) hx hb dX5_worth_18 hl (by decide) rfl (fun ls hl => ?_)
    refine lv_iload_n hx hb dX5_worth_20 rfl (lv_at hl 1 rfl) ?_
    refine lv_istore (lv' := [(5, .int (Int32.ofInt (0))), (4, .int (Int32.ofInt (0))), (3, .int (Int32.ofInt (0))), (0, .ref (ar 98)), (1, .int (Int32.ofInt (r0))), (2, .ref (ar 13))]) hx hb dX5_worth_21 hl (by decide) rfl (fun ls hl => ?_)
    refine iv_loop (α := Int × Int × (Int → Int)) (nL := 7) (fun b9 => (wP k ar fi (uF fa 22 (b9.2.2)))) (fun b9 => [(5, .int (Int32.ofInt (b9.1))), (4, .int (Int32.ofInt (b9.2.1))), (3, .int (Int32.ofInt (0))), (0, .ref (ar 98)), (1, .int (Int32.ofInt (r0))), (2, .ref (ar 13))]) (fun b9 => (600 - b9.1).toNat) (fun b9 => inR b9.1 ∧ inR b9.2.1 ∧ (∀ t, inR (b9.2.2 t)) ∧ (0 ≤ b9.1 ∧ 0 ≤ b9.2.1 ∧ b9.2.1 ≤ 32)) ?_ (0, 0, fa 22) (show inR 0 ∧ inR 0 ∧ (∀ t, inR ((fa 22) t)) ∧ (0 ≤ 0 ∧ 0 ≤ 0 ∧ 0 ≤ 32) from ⟨(by omega), (by omega), (hRa 22), (by omega)⟩) hP hD hS hl
    rintro ⟨x5_29, x4_30, g22_31⟩ ih hi9 H locs ls hP hD hS hl
    obtain ⟨r_x5_29, r_x4_30, r_g22_31, hinv⟩ : inR x5_29 ∧ inR x4_30 ∧ (∀ t, inR (g22_31 t)) ∧ (0 ≤ x5_29 ∧ 0 ≤ x4_30 ∧ x4_30 ≤ 32) := hi9
    obtain ⟨hP, hD⟩ : va_P G vwCl (wP k ar fi (uF fa 22 (g22_31))) H ∧ va_D A (wP k ar fi (uF fa 22 (g22_31))) := ⟨hP, hD⟩
    have hl : lv_has ls 7 [(5, .int (Int32.ofInt (x5_29))), (4, .int (Int32.ofInt (x4_30))), (3, .int (Int32.ofInt (0))), (0, .ref (ar 98)), (1, .int (Int32.ofInt (r0))), (2, .ref (ar 13))] := hl
    refine lv_iload hx hb dX5_worth_23 (lv_at hl 0 rfl) ?_
    refine lv_aload_n hx hb dX5_worth_25 rfl (lv_at hl 3 rfl) ?_
    refine va_get (D := G) (ci := 4) (v := .ref (ar 21)) (C := RX5) (T := TX5) (N := 5) (ref := RX5) hx hb hts h1w hown hX.1 hP 1 rfl rfl 1 (by decide) h0w (fun _ h9 => h9) rfl dX5_worth_26 ?_
    refine lv_iload_n hx hb dX5_worth_29 rfl (lv_at hl 4 rfl) ?_
    refine iv_iald hx hb hX.1 hP 8 0 rfl rfl (by omega) (by omega) (by decide) dX5_worth_30 ?_
    refine iv_top (fun z32 ez32 => ?_)
    have rz32 : inR z32 := ez32 ▸ (hRa 21) _
    have ez32 : z32 = (fa 21) r0 := ez32
    have bz32 : 0 ≤ z32 ∧ z32 < 601 := by rw [ez32]; exact bnd_at hB21 (by omega) (by omega)
    refine iv_icmp_ge (tgt := 176) hx hb (by omega) (by omega) dX5_worth_31 (by decide) (fun q33 => ?_) (fun q33 => ?_)
    · refine lv_iload hx hb dX5_worth_176 (lv_at hl 1 rfl) ?_
      refine iv_if_le (tgt := 193) hx hb (by omega) dX5_worth_178 (by decide) (fun q34 => ?_) (fun q34 => ?_)
      · refine lv_iconst (v := Int32.ofInt 0) hx hb dX5_worth_193 (by decide +kernel) ?_
        exact W.iret (v := Int32.ofInt (0)) hx hb hr (fun t ht hW => ⟨⟨Int32.ofInt (0), (0, g22_31), rfl, ⟨rfl, (show (inR 0) ∧ (∀ t, inR (g22_31 t)) ∧ (True) from ⟨(by omega), r_g22_31, trivial⟩)⟩, by rw [ht]; exact hP, hD⟩, hS.F ht⟩) hS.2.2 dX5_worth_194
      · refine lv_aload_n hx hb dX5_worth_181 rfl (lv_at hl 3 rfl) ?_
        refine va_get (D := G) (ci := 4) (v := .ref (ar 22)) (C := RX5) (T := TX5) (N := 5) (ref := RX5) hx hb hts h1w hown hX.1 hP 1 rfl rfl 2 (by decide) h2w (fun _ h9 => h9) rfl dX5_worth_182 ?_
        refine lv_iload hx hb dX5_worth_185 (lv_at hl 1 rfl) ?_
        refine lv_iconst (v := Int32.ofInt 1) hx hb dX5_worth_187 (by decide +kernel) ?_
        refine iv_sub (x := x4_30) (y := 1) hx hb dX5_worth_188 ?_
        refine iv_iald hx hb hX.1 hP 9 0 rfl rfl (by omega) (by omega) (by decide) dX5_worth_189 ?_
        refine iv_top (fun z35 ez35 => ?_)
        have rz35 : inR z35 := ez35 ▸ r_g22_31 _
        have ez35 : z35 = g22_31 (x4_30 - 1) := ez35
        refine lv_goto (tgt := 194) hx hb dX5_worth_190 (by decide) ?_
        exact W.iret (v := Int32.ofInt (z35)) hx hb hr (fun t ht hW => ⟨⟨Int32.ofInt (z35), (z35, g22_31), rfl, ⟨rfl, (show (inR z35) ∧ (∀ t, inR (g22_31 t)) ∧ (True) from ⟨(by omega), r_g22_31, trivial⟩)⟩, by rw [ht]; exact hP, hD⟩, hS.F ht⟩) hS.2.2 dX5_worth_194
    · refine lv_aload_n hx hb dX5_worth_34 rfl (lv_at hl 3 rfl) ?_
      refine va_get (D := G) (ci := 4) (v := .ref (ar 20)) (C := RX5) (T := TX5) (N := 5) (ref := RX5) hx hb hts h1w hown hX.1 hP 1 rfl rfl 0 (by decide) h3w (fun _ h9 => h9) rfl dX5_worth_35 ?_
      refine lv_iload hx hb dX5_worth_38 (lv_at hl 0 rfl) ?_
      refine iv_iald hx hb hX.1 hP 7 0 rfl rfl (by omega) (by omega) (by decide) dX5_worth_40 ?_
      refine iv_top (fun z36 ez36 => ?_)
      have rz36 : inR z36 := ez36 ▸ (hRa 20) _
      have ez36 : z36 = (fa 20) x5_29 := ez36
      refine lv_istore (lv' := [(6, .int (Int32.ofInt (z36))), (5, .int (Int32.ofInt (x5_29))), (4, .int (Int32.ofInt (x4_30))), (3, .int (Int32.ofInt (0))), (0, .ref (ar 98)), (1, .int (Int32.ofInt (r0))), (2, .ref (ar 13))]) hx hb dX5_worth_41 hl (by decide) rfl (fun ls hl => ?_)
      refine lv_iload hx hb dX5_worth_43 (lv_at hl 0 rfl) ?_
      refine lv_bipush (v := Int32.ofInt (-7)) hx hb dX5_worth_45 (by decide +kernel) ?_
      refine iv_icmp_lt (tgt := 89) hx hb (by omega) (by omega) dX5_worth_47 (by decide) (fun q37 => ?_) (fun q37 => ?_)
      · refine lv_iload hx hb dX5_worth_89 (lv_at hl 0 rfl) ?_
        refine lv_bipush (v := Int32.ofInt (-33)) hx hb dX5_worth_91 (by decide +kernel) ?_
        refine iv_icmp_ne (tgt := 130) hx hb (by omega) (by omega) dX5_worth_93 (by decide) (fun q38 => ?_) (fun q38 => ?_)
        · refine lv_iload hx hb dX5_worth_130 (lv_at hl 2 rfl) ?_
          refine lv_iconst (v := Int32.ofInt 1) hx hb dX5_worth_132 (by decide +kernel) ?_
          refine iv_icmp_le (tgt := 170) hx hb (by omega) (by omega) dX5_worth_133 (by decide) (fun q39 => ?_) (fun q39 => ?_)
          · refine lv_iinc (v := Int32.ofInt (x5_29 + 1)) (lv' := [(5, .int (Int32.ofInt ((x5_29 + 1)))), (6, .int (Int32.ofInt (z36))), (4, .int (Int32.ofInt (x4_30))), (3, .int (Int32.ofInt (0))), (0, .ref (ar 98)), (1, .int (Int32.ofInt (r0))), (2, .ref (ar 13))]) hx hb dX5_worth_170 hl (k := 1) rfl (Int32.ofInt_add _ _).symm (by decide) rfl (fun ls hl => ?_)
            refine lv_goto (tgt := 23) hx hb dX5_worth_173 (by decide) ?_
            have hl : lv_has ls 7 [(5, .int (Int32.ofInt ((x5_29 + 1)))), (4, .int (Int32.ofInt (x4_30))), (3, .int (Int32.ofInt (0))), (0, .ref (ar 98)), (1, .int (Int32.ofInt (r0))), (2, .ref (ar 13))] := lv_sub hl [0, 2, 3, 4, 5, 6] rfl
            exact ih ((x5_29 + 1), x4_30, g22_31) (show (600 - (x5_29 + 1)).toNat < (600 - x5_29).toNat from by omega) (show inR (x5_29 + 1) ∧ inR x4_30 ∧ (∀ t, inR (g22_31 t)) ∧ (0 ≤ (x5_29 + 1) ∧ 0 ≤ x4_30 ∧ x4_30 ≤ 32) from ⟨(by omega), (by omega), r_g22_31, (by omega)⟩) _ _ _ hP hD hS hl
          · refine lv_iinc (v := Int32.ofInt (x4_30 + (-1))) (lv' := [(4, .int (Int32.ofInt ((x4_30 + (-1))))), (6, .int (Int32.ofInt (z36))), (5, .int (Int32.ofInt (x5_29))), (3, .int (Int32.ofInt (0))), (0, .ref (ar 98)), (1, .int (Int32.ofInt (r0))), (2, .ref (ar 13))]) hx hb dX5_worth_136 hl (k := 2) rfl (Int32.ofInt_add _ _).symm (by decide) rfl (fun ls hl => ?_)
            refine lv_aload_n hx hb dX5_worth_139 rfl (lv_at hl 4 rfl) ?_
            refine va_get (D := G) (ci := 4) (v := .ref (ar 22)) (C := RX5) (T := TX5) (N := 5) (ref := RX5) hx hb hts h1w hown hX.1 hP 1 rfl rfl 2 (by decide) h2w (fun _ h9 => h9) rfl dX5_worth_140 ?_
            refine lv_iload hx hb dX5_worth_143 (lv_at hl 0 rfl) ?_
            refine lv_iconst (v := Int32.ofInt 1) hx hb dX5_worth_145 (by decide +kernel) ?_
            refine iv_sub (x := (x4_30 + (-1))) (y := 1) hx hb dX5_worth_146 ?_
            refine lv_iload hx hb dX5_worth_147 (lv_at hl 1 rfl) ?_
            refine iv_neg hx hb dX5_worth_149 ?_
            refine iv_wr ?_
            refine iv_top (fun z40 ez40 => ?_)
            have rz40 : inR z40 := ez40 ▸ bWr_r _
            refine lv_aload_n hx hb dX5_worth_150 rfl (lv_at hl 4 rfl) ?_
            refine va_get (D := G) (ci := 4) (v := .ref (ar 22)) (C := RX5) (T := TX5) (N := 5) (ref := RX5) hx hb hts h1w hown hX.1 hP 1 rfl rfl 2 (by decide) h2w (fun _ h9 => h9) rfl dX5_worth_151 ?_
            refine lv_iload hx hb dX5_worth_154 (lv_at hl 0 rfl) ?_
            refine lv_iconst (v := Int32.ofInt 1) hx hb dX5_worth_156 (by decide +kernel) ?_
            refine iv_sub (x := (x4_30 + (-1))) (y := 1) hx hb dX5_worth_157 ?_
            refine iv_iald hx hb hX.1 hP 9 0 rfl rfl (by omega) (by omega) (by decide) dX5_worth_158 ?_
            refine iv_top (fun z41 ez41 => ?_)
            have rz41 : inR z41 := ez41 ▸ r_g22_31 _
            have ez41 : z41 = g22_31 ((x4_30 + (-1)) - 1) := ez41
            refine lv_aload_n hx hb dX5_worth_159 rfl (lv_at hl 4 rfl) ?_
            refine va_get (D := G) (ci := 4) (v := .ref (ar 22)) (C := RX5) (T := TX5) (N := 5) (ref := RX5) hx hb hts h1w hown hX.1 hP 1 rfl rfl 2 (by decide) h2w (fun _ h9 => h9) rfl dX5_worth_160 ?_
            refine lv_iload hx hb dX5_worth_163 (lv_at hl 0 rfl) ?_
            refine iv_iald hx hb hX.1 hP 9 0 rfl rfl (by omega) (by omega) (by decide) dX5_worth_165 ?_
            refine iv_top (fun z42 ez42 => ?_)
            have rz42 : inR z42 := ez42 ▸ r_g22_31 _
            have ez42 : z42 = g22_31 (x4_30 + (-1)) := ez42
            refine c0_i (va_runS (As := [.int (Int32.ofInt (z40)), .int (Int32.ofInt (z41)), .int (Int32.ofInt (z42))]) (rest := [.int (Int32.ofInt (((x4_30 + (-1)) - 1))), .ref (ar 22)]) ⟨hx, hb, hml, hown, hts⟩ (mX5_joined l G k z40 z41 z42 H.size (by omega) (by omega) (by omega)) (cwS 3 hts (gz [.methodLink RX5 35 yX5_joined, .static yX5_joined, .initialized RX5] (.code yX5_joined cX5_joined 3 (some .int)) [(25, 14), (25, 15), (1, 23), (25, 16)] rfl) rfl rfl rfl (by decide +kernel) ⟨Nat.le_of_ble_eq_true rfl, Nat.le_of_ble_eq_true rfl⟩) (cr_pre0 (EZ_ok k) hZ hS hX hP hD hA) rfl rfl hl.1 rfl (lv_room (Nat.le_of_ble_eq_true rfl)) dX5_worth_166 ⟨Nat.le_of_ble_eq_true rfl, Nat.le_of_ble_eq_true rfl⟩) hP hD hS hA (fun r u H locs hp hP hD hS => ?_)
            obtain ⟨c43, rfl⟩ : ∃ z, z = u := ⟨_, rfl⟩
            obtain ⟨h9, rc43, hp43⟩ : r = Int32.ofInt c43 ∧ (inR c43) ∧ (True) := hp
            subst h9
            refine iv_iast hx hb hX.1 hP hD hS 9 0 rfl rfl (fun g' => show _ = (wP k ar fi (uF fa 22 (g'))) from rfl) (by omega) (by omega) (by decide) dX5_worth_169 (fun H locs hP hD hS => ?_)
            obtain ⟨hP, hD⟩ : va_P G vwCl (wP k ar fi (uF fa 22 (uA (g22_31) (((x4_30 + (-1)) - 1)) (c43)))) H ∧ va_D A (wP k ar fi (uF fa 22 (uA (g22_31) (((x4_30 + (-1)) - 1)) (c43)))) := ⟨hP, hD⟩
            obtain ⟨g44, eg44, rg44⟩ : ∃ z, z = uA (g22_31) (((x4_30 + (-1)) - 1)) (c43) ∧ ∀ t, inR (z t) := ⟨_, rfl, iU r_g22_31 (by omega)⟩
            rw [← eg44] at hP hD
            refine lv_iinc (v := Int32.ofInt (x5_29 + 1)) (lv' := [(5, .int (Int32.ofInt ((x5_29 + 1)))), (4, .int (Int32.ofInt ((x4_30 + (-1))))), (6, .int (Int32.ofInt (z36))), (3, .int (Int32.ofInt (0))), (0, .ref (ar 98)), (1, .int (Int32.ofInt (r0))), (2, .ref (ar 13))]) hx hb dX5_worth_170 hl (k := 2) rfl (Int32.ofInt_add _ _).symm (by decide) rfl (fun ls hl => ?_)
            refine lv_goto (tgt := 23) hx hb dX5_worth_173 (by decide) ?_
            have hl : lv_has ls 7 [(5, .int (Int32.ofInt ((x5_29 + 1)))), (4, .int (Int32.ofInt ((x4_30 + (-1))))), (3, .int (Int32.ofInt (0))), (0, .ref (ar 98)), (1, .int (Int32.ofInt (r0))), (2, .ref (ar 13))] := lv_sub hl [0, 1, 3, 4, 5, 6] rfl
            exact ih ((x5_29 + 1), (x4_30 + (-1)), g44) (show (600 - (x5_29 + 1)).toNat < (600 - x5_29).toNat from by omega) (show inR (x5_29 + 1) ∧ inR (x4_30 + (-1)) ∧ (∀ t, inR (g44 t)) ∧ (0 ≤ (x5_29 + 1) ∧ 0 ≤ (x4_30 + (-1)) ∧ (x4_30 + (-1)) ≤ 32) from ⟨(by omega), (by omega), rg44, (by omega)⟩) _ _ _ hP hD hS hl
        · refine lv_iload hx hb dX5_worth_96 (lv_at hl 2 rfl) ?_
          refine iv_if_le (tgt := 170) hx hb (by omega) dX5_worth_98 (by decide) (fun q45 => ?_) (fun q45 => ?_)
          · refine lv_iinc (v := Int32.ofInt (x5_29 + 1)) (lv' := [(5, .int (Int32.ofInt ((x5_29 + 1)))), (6, .int (Int32.ofInt (z36))), (4, .int (Int32.ofInt (x4_30))), (3, .int (Int32.ofInt (0))), (0, .ref (ar 98)), (1, .int (Int32.ofInt (r0))), (2, .ref (ar 13))]) hx hb dX5_worth_170 hl (k := 1) rfl (Int32.ofInt_add _ _).symm (by decide) rfl (fun ls hl => ?_)
            refine lv_goto (tgt := 23) hx hb dX5_worth_173 (by decide) ?_
            have hl : lv_has ls 7 [(5, .int (Int32.ofInt ((x5_29 + 1)))), (4, .int (Int32.ofInt (x4_30))), (3, .int (Int32.ofInt (0))), (0, .ref (ar 98)), (1, .int (Int32.ofInt (r0))), (2, .ref (ar 13))] := lv_sub hl [0, 2, 3, 4, 5, 6] rfl
            exact ih ((x5_29 + 1), x4_30, g22_31) (show (600 - (x5_29 + 1)).toNat < (600 - x5_29).toNat from by omega) (show inR (x5_29 + 1) ∧ inR x4_30 ∧ (∀ t, inR (g22_31 t)) ∧ (0 ≤ (x5_29 + 1) ∧ 0 ≤ x4_30 ∧ x4_30 ≤ 32) from ⟨(by omega), (by omega), r_g22_31, (by omega)⟩) _ _ _ hP hD hS hl
          · refine lv_aload_n hx hb dX5_worth_101 rfl (lv_at hl 4 rfl) ?_
            refine va_get (D := G) (ci := 4) (v := .ref (ar 22)) (C := RX5) (T := TX5) (N := 5) (ref := RX5) hx hb hts h1w hown hX.1 hP 1 rfl rfl 2 (by decide) h2w (fun _ h9 => h9) rfl dX5_worth_102 ?_
            refine lv_iload hx hb dX5_worth_105 (lv_at hl 2 rfl) ?_
            refine lv_iconst (v := Int32.ofInt 1) hx hb dX5_worth_107 (by decide +kernel) ?_
            refine iv_sub (x := x4_30) (y := 1) hx hb dX5_worth_108 ?_
            refine lv_aload_n hx hb dX5_worth_109 rfl (lv_at hl 4 rfl) ?_
            refine va_get (D := G) (ci := 4) (v := .ref (ar 22)) (C := RX5) (T := TX5) (N := 5) (ref := RX5) hx hb hts h1w hown hX.1 hP 1 rfl rfl 2 (by decide) h2w (fun _ h9 => h9) rfl dX5_worth_110 ?_
            refine lv_iload hx hb dX5_worth_113 (lv_at hl 2 rfl) ?_
            refine lv_iconst (v := Int32.ofInt 1) hx hb dX5_worth_115 (by decide +kernel) ?_
            refine iv_sub (x := x4_30) (y := 1) hx hb dX5_worth_116 ?_
            refine iv_iald hx hb hX.1 hP 9 0 rfl rfl (by omega) (by omega) (by decide) dX5_worth_117 ?_
            refine iv_top (fun z46 ez46 => ?_)
            have rz46 : inR z46 := ez46 ▸ r_g22_31 _
            have ez46 : z46 = g22_31 (x4_30 - 1) := ez46
            refine iv_if_ne (tgt := 125) hx hb (by omega) dX5_worth_118 (by decide) (fun q47 => ?_) (fun q47 => ?_)
            · refine lv_iconst (v := Int32.ofInt 0) hx hb dX5_worth_125 (by decide +kernel) ?_
              refine iv_iast hx hb hX.1 hP hD hS 9 0 rfl rfl (fun g' => show _ = (wP k ar fi (uF fa 22 (g'))) from rfl) (by omega) (by omega) (by decide) dX5_worth_126 (fun H locs hP hD hS => ?_)
              obtain ⟨hP, hD⟩ : va_P G vwCl (wP k ar fi (uF fa 22 (uA (g22_31) ((x4_30 - 1)) (0)))) H ∧ va_D A (wP k ar fi (uF fa 22 (uA (g22_31) ((x4_30 - 1)) (0)))) := ⟨hP, hD⟩
              obtain ⟨g48, eg48, rg48⟩ : ∃ z, z = uA (g22_31) ((x4_30 - 1)) (0) ∧ ∀ t, inR (z t) := ⟨_, rfl, iU r_g22_31 (by omega)⟩
              rw [← eg48] at hP hD
              refine lv_goto (tgt := 170) hx hb dX5_worth_127 (by decide) ?_
              refine lv_iinc (v := Int32.ofInt (x5_29 + 1)) (lv' := [(5, .int (Int32.ofInt ((x5_29 + 1)))), (6, .int (Int32.ofInt (z36))), (4, .int (Int32.ofInt (x4_30))), (3, .int (Int32.ofInt (0))), (0, .ref (ar 98)), (1, .int (Int32.ofInt (r0))), (2, .ref (ar 13))]) hx hb dX5_worth_170 hl (k := 1) rfl (Int32.ofInt_add _ _).symm (by decide) rfl (fun ls hl => ?_)
              refine lv_goto (tgt := 23) hx hb dX5_worth_173 (by decide) ?_
              have hl : lv_has ls 7 [(5, .int (Int32.ofInt ((x5_29 + 1)))), (4, .int (Int32.ofInt (x4_30))), (3, .int (Int32.ofInt (0))), (0, .ref (ar 98)), (1, .int (Int32.ofInt (r0))), (2, .ref (ar 13))] := lv_sub hl [0, 2, 3, 4, 5, 6] rfl
              exact ih ((x5_29 + 1), x4_30, g48) (show (600 - (x5_29 + 1)).toNat < (600 - x5_29).toNat from by omega) (show inR (x5_29 + 1) ∧ inR x4_30 ∧ (∀ t, inR (g48 t)) ∧ (0 ≤ (x5_29 + 1) ∧ 0 ≤ x4_30 ∧ x4_30 ≤ 32) from ⟨(by omega), (by omega), rg48, (by omega)⟩) _ _ _ hP hD hS hl
            · refine lv_iconst (v := Int32.ofInt 1) hx hb dX5_worth_121 (by decide +kernel) ?_
              refine lv_goto (tgt := 126) hx hb dX5_worth_122 (by decide) ?_
              refine iv_iast hx hb hX.1 hP hD hS 9 0 rfl rfl (fun g' => show _ = (wP k ar fi (uF fa 22 (g'))) from rfl) (by omega) (by omega) (by decide) dX5_worth_126 (fun H locs hP hD hS => ?_)
              obtain ⟨hP, hD⟩ : va_P G vwCl (wP k ar fi (uF fa 22 (uA (g22_31) ((x4_30 - 1)) (1)))) H ∧ va_D A (wP k ar fi (uF fa 22 (uA (g22_31) ((x4_30 - 1)) (1)))) := ⟨hP, hD⟩
              obtain ⟨g49, eg49, rg49⟩ : ∃ z, z = uA (g22_31) ((x4_30 - 1)) (1) ∧ ∀ t, inR (z t) := ⟨_, rfl, iU r_g22_31 (by omega)⟩
              rw [← eg49] at hP hD
              refine lv_goto (tgt := 170) hx hb dX5_worth_127 (by decide) ?_
              refine lv_iinc (v := Int32.ofInt (x5_29 + 1)) (lv' := [(5, .int (Int32.ofInt ((x5_29 + 1)))), (6, .int (Int32.ofInt (z36))), (4, .int (Int32.ofInt (x4_30))), (3, .int (Int32.ofInt (0))), (0, .ref (ar 98)), (1, .int (Int32.ofInt (r0))), (2, .ref (ar 13))]) hx hb dX5_worth_170 hl (k := 1) rfl (Int32.ofInt_add _ _).symm (by decide) rfl (fun ls hl => ?_)
              refine lv_goto (tgt := 23) hx hb dX5_worth_173 (by decide) ?_
              have hl : lv_has ls 7 [(5, .int (Int32.ofInt ((x5_29 + 1)))), (4, .int (Int32.ofInt (x4_30))), (3, .int (Int32.ofInt (0))), (0, .ref (ar 98)), (1, .int (Int32.ofInt (r0))), (2, .ref (ar 13))] := lv_sub hl [0, 2, 3, 4, 5, 6] rfl
              exact ih ((x5_29 + 1), x4_30, g49) (show (600 - (x5_29 + 1)).toNat < (600 - x5_29).toNat from by omega) (show inR (x5_29 + 1) ∧ inR x4_30 ∧ (∀ t, inR (g49 t)) ∧ (0 ≤ (x5_29 + 1) ∧ 0 ≤ x4_30 ∧ x4_30 ≤ 32) from ⟨(by omega), (by omega), rg49, (by omega)⟩) _ _ _ hP hD hS hl
      · refine lv_iload hx hb dX5_worth_50 (lv_at hl 2 rfl) ?_
        refine lv_aload_n hx hb dX5_worth_52 rfl (lv_at hl 4 rfl) ?_
        refine va_get (D := G) (ci := 4) (v := .ref (ar 22)) (C := RX5) (T := TX5) (N := 5) (ref := RX5) hx hb hts h1w hown hX.1 hP 1 rfl rfl 2 (by decide) h2w (fun _ h9 => h9) rfl dX5_worth_53 ?_
        refine va_alen (v := Int32.ofInt 32) hx hb hX.1 hP 9 0 rfl rfl (show Int32.ofNat 32 = Int32.ofInt 32 from by decide) dX5_worth_56 ?_
        refine iv_icmp_ge (tgt := 170) hx hb (by omega) (by omega) dX5_worth_57 (by decide) (fun q50 => ?_) (fun q50 => ?_)
        · refine lv_iinc (v := Int32.ofInt (x5_29 + 1)) (lv' := [(5, .int (Int32.ofInt ((x5_29 + 1)))), (6, .int (Int32.ofInt (z36))), (4, .int (Int32.ofInt (x4_30))), (3, .int (Int32.ofInt (0))), (0, .ref (ar 98)), (1, .int (Int32.ofInt (r0))), (2, .ref (ar 13))]) hx hb dX5_worth_170 hl (k := 1) rfl (Int32.ofInt_add _ _).symm (by decide) rfl (fun ls hl => ?_)
          refine lv_goto (tgt := 23) hx hb dX5_worth_173 (by decide) ?_
          have hl : lv_has ls 7 [(5, .int (Int32.ofInt ((x5_29 + 1)))), (4, .int (Int32.ofInt (x4_30))), (3, .int (Int32.ofInt (0))), (0, .ref (ar 98)), (1, .int (Int32.ofInt (r0))), (2, .ref (ar 13))] := lv_sub hl [0, 2, 3, 4, 5, 6] rfl
          exact ih ((x5_29 + 1), x4_30, g22_31) (show (600 - (x5_29 + 1)).toNat < (600 - x5_29).toNat from by omega) (show inR (x5_29 + 1) ∧ inR x4_30 ∧ (∀ t, inR (g22_31 t)) ∧ (0 ≤ (x5_29 + 1) ∧ 0 ≤ x4_30 ∧ x4_30 ≤ 32) from ⟨(by omega), (by omega), r_g22_31, (by omega)⟩) _ _ _ hP hD hS hl
        · refine lv_aload_n hx hb dX5_worth_60 rfl (lv_at hl 4 rfl) ?_
          refine va_get (D := G) (ci := 4) (v := .ref (ar 22)) (C := RX5) (T := TX5) (N := 5) (ref := RX5) hx hb hts h1w hown hX.1 hP 1 rfl rfl 2 (by decide) h2w (fun _ h9 => h9) rfl dX5_worth_61 ?_
          refine lv_iload hx hb dX5_worth_64 (lv_at hl 2 rfl) ?_
          refine lv_iload hx hb dX5_worth_66 (lv_at hl 0 rfl) ?_
          refine iv_if_lt (tgt := 76) hx hb (by omega) dX5_worth_68 (by decide) (fun q51 => ?_) (fun q51 => ?_)
          · refine lv_aload_n hx hb dX5_worth_76 rfl (lv_at hl 6 rfl) ?_
            refine lv_iconst (v := Int32.ofInt (-1)) hx hb dX5_worth_77 (by decide +kernel) ?_
            refine lv_iload hx hb dX5_worth_78 (lv_at hl 0 rfl) ?_
            refine iv_sub (x := (-1)) (y := z36) hx hb dX5_worth_80 ?_
            refine iv_iald hx hb hX.1 hP 6 0 rfl rfl (by omega) (by omega) (by decide) dX5_worth_81 ?_
            refine iv_top (fun z52 ez52 => ?_)
            have rz52 : inR z52 := ez52 ▸ (hRa 13) _
            have ez52 : z52 = (fa 13) ((-1) - z36) := ez52
            refine iv_iast hx hb hX.1 hP hD hS 9 0 rfl rfl (fun g' => show _ = (wP k ar fi (uF fa 22 (g'))) from rfl) (by omega) (by omega) (by decide) dX5_worth_82 (fun H locs hP hD hS => ?_)
            obtain ⟨hP, hD⟩ : va_P G vwCl (wP k ar fi (uF fa 22 (uA (g22_31) (x4_30) (z52)))) H ∧ va_D A (wP k ar fi (uF fa 22 (uA (g22_31) (x4_30) (z52)))) := ⟨hP, hD⟩
            obtain ⟨g53, eg53, rg53⟩ : ∃ z, z = uA (g22_31) (x4_30) (z52) ∧ ∀ t, inR (z t) := ⟨_, rfl, iU r_g22_31 (by omega)⟩
            rw [← eg53] at hP hD
            refine lv_iinc (v := Int32.ofInt (x4_30 + 1)) (lv' := [(4, .int (Int32.ofInt ((x4_30 + 1)))), (6, .int (Int32.ofInt (z36))), (5, .int (Int32.ofInt (x5_29))), (3, .int (Int32.ofInt (0))), (0, .ref (ar 98)), (1, .int (Int32.ofInt (r0))), (2, .ref (ar 13))]) hx hb dX5_worth_83 hl (k := 2) rfl (Int32.ofInt_add _ _).symm (by decide) rfl (fun ls hl => ?_)
            refine lv_goto (tgt := 170) hx hb dX5_worth_86 (by decide) ?_
            refine lv_iinc (v := Int32.ofInt (x5_29 + 1)) (lv' := [(5, .int (Int32.ofInt ((x5_29 + 1)))), (4, .int (Int32.ofInt ((x4_30 + 1)))), (6, .int (Int32.ofInt (z36))), (3, .int (Int32.ofInt (0))), (0, .ref (ar 98)), (1, .int (Int32.ofInt (r0))), (2, .ref (ar 13))]) hx hb dX5_worth_170 hl (k := 2) rfl (Int32.ofInt_add _ _).symm (by decide) rfl (fun ls hl => ?_)
            refine lv_goto (tgt := 23) hx hb dX5_worth_173 (by decide) ?_
            have hl : lv_has ls 7 [(5, .int (Int32.ofInt ((x5_29 + 1)))), (4, .int (Int32.ofInt ((x4_30 + 1)))), (3, .int (Int32.ofInt (0))), (0, .ref (ar 98)), (1, .int (Int32.ofInt (r0))), (2, .ref (ar 13))] := lv_sub hl [0, 1, 3, 4, 5, 6] rfl
            exact ih ((x5_29 + 1), (x4_30 + 1), g53) (show (600 - (x5_29 + 1)).toNat < (600 - x5_29).toNat from by omega) (show inR (x5_29 + 1) ∧ inR (x4_30 + 1) ∧ (∀ t, inR (g53 t)) ∧ (0 ≤ (x5_29 + 1) ∧ 0 ≤ (x4_30 + 1) ∧ (x4_30 + 1) ≤ 32) from ⟨(by omega), (by omega), rg53, (by omega)⟩) _ _ _ hP hD hS hl
          · refine lv_iload hx hb dX5_worth_71 (lv_at hl 0 rfl) ?_
            refine lv_goto (tgt := 82) hx hb dX5_worth_73 (by decide) ?_
            refine iv_iast hx hb hX.1 hP hD hS 9 0 rfl rfl (fun g' => show _ = (wP k ar fi (uF fa 22 (g'))) from rfl) (by omega) (by omega) (by decide) dX5_worth_82 (fun H locs hP hD hS => ?_)
            obtain ⟨hP, hD⟩ : va_P G vwCl (wP k ar fi (uF fa 22 (uA (g22_31) (x4_30) (z36)))) H ∧ va_D A (wP k ar fi (uF fa 22 (uA (g22_31) (x4_30) (z36)))) := ⟨hP, hD⟩
            obtain ⟨g54, eg54, rg54⟩ : ∃ z, z = uA (g22_31) (x4_30) (z36) ∧ ∀ t, inR (z t) := ⟨_, rfl, iU r_g22_31 (by omega)⟩
            rw [← eg54] at hP hD
            refine lv_iinc (v := Int32.ofInt (x4_30 + 1)) (lv' := [(4, .int (Int32.ofInt ((x4_30 + 1)))), (6, .int (Int32.ofInt (z36))), (5, .int (Int32.ofInt (x5_29))), (3, .int (Int32.ofInt (0))), (0, .ref (ar 98)), (1, .int (Int32.ofInt (r0))), (2, .ref (ar 13))]) hx hb dX5_worth_83 hl (k := 2) rfl (Int32.ofInt_add _ _).symm (by decide) rfl (fun ls hl => ?_)
            refine lv_goto (tgt := 170) hx hb dX5_worth_86 (by decide) ?_
            refine lv_iinc (v := Int32.ofInt (x5_29 + 1)) (lv' := [(5, .int (Int32.ofInt ((x5_29 + 1)))), (4, .int (Int32.ofInt ((x4_30 + 1)))), (6, .int (Int32.ofInt (z36))), (3, .int (Int32.ofInt (0))), (0, .ref (ar 98)), (1, .int (Int32.ofInt (r0))), (2, .ref (ar 13))]) hx hb dX5_worth_170 hl (k := 2) rfl (Int32.ofInt_add _ _).symm (by decide) rfl (fun ls hl => ?_)
            refine lv_goto (tgt := 23) hx hb dX5_worth_173 (by decide) ?_
            have hl : lv_has ls 7 [(5, .int (Int32.ofInt ((x5_29 + 1)))), (4, .int (Int32.ofInt ((x4_30 + 1)))), (3, .int (Int32.ofInt (0))), (0, .ref (ar 98)), (1, .int (Int32.ofInt (r0))), (2, .ref (ar 13))] := lv_sub hl [0, 1, 3, 4, 5, 6] rfl
            exact ih ((x5_29 + 1), (x4_30 + 1), g54) (show (600 - (x5_29 + 1)).toNat < (600 - x5_29).toNat from by omega) (show inR (x5_29 + 1) ∧ inR (x4_30 + 1) ∧ (∀ t, inR (g54 t)) ∧ (0 ≤ (x5_29 + 1) ∧ 0 ≤ (x4_30 + 1) ∧ (x4_30 + 1) ≤ 32) from ⟨(by omega), (by omega), rg54, (by omega)⟩) _ _ _ hP hD hS hl

set_option maxHeartbeats 4000000 in
set_option maxRecDepth 100000 in
theorem mX3_has (l : Launch) (G : va_G) (k : Nat → ClassId) (ar : Nat → Nat) (fi : Nat → Int) (fa : Nat → Int → Int) (t0 : Int) (sz : Nat) (hR : ∀ j, inR (fi j)) (hRa : ∀ j t, inR (fa j t)) (hB8 : bnd (fa 8) 7 0 4) (hB21 : bnd (fa 21) 4 0 601) (hr_t0 : inR t0) : CNi l G k (EZ k) yX3_has wzX3_has ({ frames := 0, cells := 0, slots := 0, locals := 0 }) [.ref (ar 99), .int (Int32.ofInt (t0))] sz (wP k ar fi fa) (fun (r0 : Int32) (u : Int) => r0 = Int32.ofInt (u) ∧ (inR u) ∧ ((u = 1 ∧ 0 ≤ t0 ∧ t0 < fi 7) ∨ (u = 0 ∧ (t0 < 0 ∨ fi 7 ≤ t0)))) (fun (u : Int) => (wP k ar fi fa)) := by
  refine Met.ofW (cc := cX3_has) (maxL := 2) (ret := (some .boolean)) (by decide) rfl ?_
  intro p e s m args below meth c s₁ B hml hv
  obtain ⟨rfl, hsz, hP, hX, hD0, hZ0⟩ := hv
  have hx := B.exec
  have hb := B.bytes
  have hr := B.returns
  have hts := atoms_spec (ws := wzX3_has) B.pre
  have hown : s.vm.findClass RX3 = some m.cls := findClass_of_methodNamed B.named
  subst hsz
  have hD := hD0.self (sz := s.heap.size)
  have hZ := hZ0
  generalize hAe : va_A (wP k ar fi fa) s.heap.size = A at hD hZ ⊢
  have hA : ∀ q : Nat, s.heap.size ≤ q → A q := fun q h => by rw [← hAe]; exact Or.inr h
  have hS : va_S A s.heap s.heap [] := va_S.rf
  have hl := lv_entry ([.ref (ar 99), .int (Int32.ofInt (t0))]) (n := 2) (Nat.le_of_ble_eq_true rfl)
  rw [lg_entry_eq]
  generalize (lg_sl ([.ref (ar 99), .int (Int32.ofInt (t0))]) ++ List.replicate (2 - (lg_sl ([.ref (ar 99), .int (Int32.ofInt (t0))])).length) Slot.unset).toArray = ls at hl ⊢
  have hl : lv_has ls 2 [(0, .ref (ar 99)), (1, .int (Int32.ofInt (t0)))] := hl
  obtain ⟨H, eH⟩ : ∃ H, H = s.heap := ⟨_, rfl⟩
  rw [← eH] at hP
  have hS : va_S A s.heap H [] := by rw [eH]; exact hS
  have gW : s.heap = H := eH.symm
  refine iv_heap gW ?_
  have h0w := hts (.fieldLink RX3 59 "RopeTown$Plan" "things" "I") (wz_at 3 1 rfl)
  have h1w : ∀ w ∈ wsX30, w ∈ wzX3_has := fun w h => List.mem_cons_of_mem _ (inlX3 w h)
  refine lv_iload_n hx hb dX3_has_0 rfl (lv_at hl 1 rfl) ?_
  refine iv_if_lt (tgt := 16) hx hb (by omega) dX3_has_1 (by decide) (fun q1 => ?_) (fun q1 => ?_)
  · refine lv_iconst (v := Int32.ofInt 0) hx hb dX3_has_16 (by decide +kernel) ?_
    exact W.zret (v := Int32.ofInt (0)) hx hb hr (nz_bool (by omega)) (fun t ht hW => ⟨⟨Int32.ofInt (0), (0), rfl, ⟨rfl, (show (inR 0) ∧ ((0 = 1 ∧ 0 ≤ t0 ∧ t0 < fi 7) ∨ (0 = 0 ∧ (t0 < 0 ∨ fi 7 ≤ t0))) from ⟨(by omega), (by omega)⟩)⟩, by rw [ht]; exact hP, hD⟩, hS.F ht⟩) hS.2.2 dX3_has_17
  · refine lv_iload_n hx hb dX3_has_4 rfl (lv_at hl 1 rfl) ?_
    refine lv_aload_n hx hb dX3_has_5 rfl (lv_at hl 0 rfl) ?_
    refine va_get (D := G) (ci := 2) (v := .int (Int32.ofInt (fi 7))) (C := RX3) (T := TX3) (N := 14) (ref := RX3) hx hb hts h1w hown hX.1 hP 0 rfl rfl 7 (by decide) h0w (fun _ h9 => h9) rfl dX3_has_6 ?_
    have rf7 := hR 7
    refine iv_icmp_ge (tgt := 16) hx hb (by omega) (by omega) dX3_has_9 (by decide) (fun q2 => ?_) (fun q2 => ?_)
    · refine lv_iconst (v := Int32.ofInt 0) hx hb dX3_has_16 (by decide +kernel) ?_
      exact W.zret (v := Int32.ofInt (0)) hx hb hr (nz_bool (by omega)) (fun t ht hW => ⟨⟨Int32.ofInt (0), (0), rfl, ⟨rfl, (show (inR 0) ∧ ((0 = 1 ∧ 0 ≤ t0 ∧ t0 < fi 7) ∨ (0 = 0 ∧ (t0 < 0 ∨ fi 7 ≤ t0))) from ⟨(by omega), (by omega)⟩)⟩, by rw [ht]; exact hP, hD⟩, hS.F ht⟩) hS.2.2 dX3_has_17
    · refine lv_iconst (v := Int32.ofInt 1) hx hb dX3_has_12 (by decide +kernel) ?_
      refine lv_goto (tgt := 17) hx hb dX3_has_13 (by decide) ?_
      exact W.zret (v := Int32.ofInt (1)) hx hb hr (nz_bool (by omega)) (fun t ht hW => ⟨⟨Int32.ofInt (1), (1), rfl, ⟨rfl, (show (inR 1) ∧ ((1 = 1 ∧ 0 ≤ t0 ∧ t0 < fi 7) ∨ (1 = 0 ∧ (t0 < 0 ∨ fi 7 ≤ t0))) from ⟨(by omega), (by omega)⟩)⟩, by rw [ht]; exact hP, hD⟩, hS.F ht⟩) hS.2.2 dX3_has_17

