set_option maxHeartbeats 4000000 in
set_option maxRecDepth 100000 in
theorem cX9_fewest_1 (l : Launch) (G : va_G) (k : Nat → ClassId) (p0 : Nat) (v1 : Value) (v2 : Value) (v3 : Value) (v4 : Value) (p5 : Nat) (v6 : Value) (p7 : Nat) (v8 : Value) (v9 : Value) (p10 : Nat) (v11 : Value) (v12 : Value) (v13 : Value) (v14 : Value) (v15 : Value) (v16 : Value) (v17 : Value) (v18 : Value) (v19 : Value) (v20 : Value) (v21 : Value) (v22 : Value) (p23 : Nat) (p24 : Nat) (p25 : Nat) (p26 : Nat) (p27 : Nat) (p28 : Nat) (p29 : Nat) (v30 : Value) (p31 : Nat) (f32 : Nat → Int32) (f33 : Nat → Int32) (v34 : Value) (v35 : Value) (v36 : Value) (v37 : Value) (v38 : Value) (v39 : Value) (v40 : Value) (v41 : Value) (p42 : Nat) (v43 : Value) (v44 : Value) (v45 : Value) (v46 : Value) (v47 : Value) (sz : Nat) : CMi l G k yX9_fewest wsX9_fewest ({ frames := 6, cells := 0, slots := 0, locals := 154 }) [.ref p0, .int 1] sz [(p0, .inr (6, [v1, v2, v3, v4, .ref p5, v6, .ref p7, v8, v9, .ref p10, v11])), (p7, .inr (0, [.int 268435455, v12, v13, v14, v15, v16, v17, v18, v19, v20, v21, v22])), (p10, .inr (5, [.ref p5, .int 0, .int 0, .ref p23, .ref p24, .ref p25, .int 0, .ref p26, .ref p27, .ref p28, .ref p29, .int 0, .int (-1), v30, .ref p31])), (p26, .inl (k 0, 1024, .inl (fun _ => 0))), (p23, .inl (k 0, 1500, .inl (fun _ => 0))), (p27, .inl (k 0, 1500, .inl f32)), (p29, .inl (k 0, 1500, .inl (fun _ => 0))), (p24, .inl (k 0, 1500, .inl (fun _ => 0))), (p25, .inl (k 0, 1500, .inl f33)), (p28, .inl (k 0, 1500, .inl (fun _ => 0))), (p5, .inr (2, [.int 1, v34, v35, .int 0, .int 1, v36, v37, .int 0, v38, v39, v40, v41, .ref p42, v43])), (p31, .inl (k 0, 1641, .inl (fun _ => 0))), (p42, .inr (4, [v44, v45, v46, v47, .int 0]))] (fun r (u : Unit) => r = 0) (fun (u : Unit) => [(p0, .inr (6, [v1, v2, v3, v4, .ref p5, v6, .ref p7, v8, v9, .ref p10, v11])), (p7, .inr (0, [.int 268435455, v12, v13, v14, v15, v16, v17, v18, v19, v20, v21, v22])), (p27, .inl (k 0, 1500, .inl (upd (upd f32 (0 : Int32).toNatClampNeg (-1)) (1 : Int32).toNatClampNeg (-1)))), (p25, .inl (k 0, 1500, .inl (upd (upd f33 (0 : Int32).toNatClampNeg (-1)) (1 : Int32).toNatClampNeg 0))), (p28, .inl (k 0, 1500, .inl (upd (upd (upd (upd (fun _ => 0) (0 : Int32).toNatClampNeg 0) (0 : Int32).toNatClampNeg 0) (0 : Int32).toNatClampNeg 1) (0 : Int32).toNatClampNeg 1))), (p29, .inl (k 0, 1500, .inl (upd (upd (upd (upd (upd (upd (fun _ => 0) (0 : Int32).toNatClampNeg 0) (0 : Int32).toNatClampNeg 0) (0 : Int32).toNatClampNeg 0) (1 : Int32).toNatClampNeg 0) (1 : Int32).toNatClampNeg 0) (1 : Int32).toNatClampNeg 0))), (p31, .inl (k 0, 1641, .inl (upd (upd (fun _ => 0) (0 : Int32).toNatClampNeg 3) (0 : Int32).toNatClampNeg 15))), (p42, .inr (4, [v44, v45, v46, v47, .int 0])), (p26, .inl (k 0, 1024, .inl (upd (upd (fun _ => (-1)) (455 : Int32).toNatClampNeg 0) (519 : Int32).toNatClampNeg 1))), (p10, .inr (5, [.ref p5, .int 1, .int 0, .ref p23, .ref p24, .ref p25, .int 2, .ref p26, .ref p27, .ref p28, .ref p29, .int 0, .int 1, v30, .ref p31])), (p23, .inl (k 0, 1500, .inl (upd (upd (fun _ => 0) (0 : Int32).toNatClampNeg 268435455) (1 : Int32).toNatClampNeg 536870911))), (p24, .inl (k 0, 1500, .inl (upd (upd (fun _ => 0) (0 : Int32).toNatClampNeg 0) (1 : Int32).toNatClampNeg 1))), (p5, .inr (2, [.int 1, v34, v35, .int 0, .int 1, v36, v37, .int 0, v38, v39, v40, v41, .ref p42, v43]))]) := by
  refine Met.ofW (cc := cX9_fewest) (maxL := 3) (ret := (some .int)) (by decide) rfl ?_
  intro p e s m args below meth c s₁ B hml hv
  obtain ⟨rfl, hsz, hP, hX, hD0, hZ0⟩ := hv
  have hx := B.exec
  have hb := B.bytes
  have hr := B.returns
  have hts := atoms_spec (ws := wsX9_fewest) B.pre
  have hown : s.vm.findClass RX9 = some m.cls := findClass_of_methodNamed B.named
  subst hsz
  have hD := hD0.self (sz := s.heap.size)
  have hZ := ZX.up hP hZ0
  generalize hAe : va_A [(p0, .inr (6, [v1, v2, v3, v4, .ref p5, v6, .ref p7, v8, v9, .ref p10, v11])), (p7, .inr (0, [.int 268435455, v12, v13, v14, v15, v16, v17, v18, v19, v20, v21, v22])), (p10, .inr (5, [.ref p5, .int 0, .int 0, .ref p23, .ref p24, .ref p25, .int 0, .ref p26, .ref p27, .ref p28, .ref p29, .int 0, .int (-1), v30, .ref p31])), (p26, .inl (k 0, 1024, .inl (fun _ => 0))), (p23, .inl (k 0, 1500, .inl (fun _ => 0))), (p27, .inl (k 0, 1500, .inl f32)), (p29, .inl (k 0, 1500, .inl (fun _ => 0))), (p24, .inl (k 0, 1500, .inl (fun _ => 0))), (p25, .inl (k 0, 1500, .inl f33)), (p28, .inl (k 0, 1500, .inl (fun _ => 0))), (p5, .inr (2, [.int 1, v34, v35, .int 0, .int 1, v36, v37, .int 0, v38, v39, v40, v41, .ref p42, v43])), (p31, .inl (k 0, 1641, .inl (fun _ => 0))), (p42, .inr (4, [v44, v45, v46, v47, .int 0]))] s.heap.size = A at hD hZ ⊢
  have hA : ∀ q : Nat, s.heap.size ≤ q → A q := fun q h => by rw [← hAe]; exact Or.inr h
  have hS : va_S A s.heap s.heap [] := va_S.rf
  have hP : va_P G vwCl [(p0, .inr (6, [v1, v2, v3, v4, .ref p5, v6, .ref p7, v8, v9, .ref p10, v11])), (p7, .inr (0, [.int 268435455, v12, v13, v14, v15, v16, v17, v18, v19, v20, v21, v22])), (p10, .inr (5, [.ref p5, .int 0, .int 0, .ref p23, .ref p24, .ref p25, .int 0, .ref p26, .ref p27, .ref p28, .ref p29, .int 0, .int (-1), v30, .ref p31])), (p26, .inl (k 0, 1024, .inl (fun _ => 0))), (p23, .inl (k 0, 1500, .inl (fun _ => 0))), (p27, .inl (k 0, 1500, .inl f32)), (p29, .inl (k 0, 1500, .inl (fun _ => 0))), (p24, .inl (k 0, 1500, .inl (fun _ => 0))), (p25, .inl (k 0, 1500, .inl f33)), (p28, .inl (k 0, 1500, .inl (fun _ => 0))), (p5, .inr (2, [.int 1, v34, v35, .int 0, .int 1, v36, v37, .int 0, v38, v39, v40, v41, .ref p42, v43])), (p31, .inl (k 0, 1641, .inl (fun _ => 0))), (p42, .inr (4, [v44, v45, v46, v47, .int 0]))] s.heap := hP
  have hl := lv_entry ([.ref p0, .int 1]) (n := 3) (Nat.le_of_ble_eq_true rfl)
  rw [lg_entry_eq]
  generalize (lg_sl ([.ref p0, .int 1]) ++ List.replicate (3 - (lg_sl ([.ref p0, .int 1])).length) Slot.unset).toArray = ls at hl ⊢
  have hl : lv_has ls 3 [(0, .ref p0), (1, .int 1)] := hl
  have h0w := hts (.fieldLink RX9 56 "RopeTown" "search" "LRopeTown$Search;") (by decide +kernel)
  have h1w : ∀ w ∈ wsX90, w ∈ wsX9_fewest := by decide +kernel
  have h2w := hts (.fieldLink RX9 23 "RopeTown" "plan" "LRopeTown$Plan;") (by decide +kernel)
  have h3w := hts (.fieldLink RX9 42 "RopeTown" "book" "LRopeTown$Book;") (by decide +kernel)
  have h4w : ∀ w ∈ wsX10, w ∈ wsX9_fewest := by decide +kernel
  have h5w := hts (.initialized RX6) (by decide +kernel)
  have h6w := hts (.instanceMethod yX6_explore) (by decide +kernel)
  have h7w := hts (.selects RX6 yX6_explore yX6_explore) (by decide +kernel)
  have h8w := hts (.instanceMethod yX6_leastTillServed) (by decide +kernel)
  have h9w := hts (.selects RX6 yX6_leastTillServed yX6_leastTillServed) (by decide +kernel)
  refine lv_iload_n hx hb dX9_fewest_0 rfl (lv_at hl 1 rfl) ?_
  refine lv_if_eq (tgt := 19) hx hb dX9_fewest_1 (by decide) (fun q => absurd (q) (by decide +kernel)) (fun _ => ?_)
  refine lv_iload_n hx hb dX9_fewest_4 rfl (lv_at hl 1 rfl) ?_
  refine lv_iconst (v := 1) hx hb dX9_fewest_5 (by decide +kernel) ?_
  refine lv_icmp_eq (tgt := 19) hx hb dX9_fewest_6 (by decide) (fun _ => ?_) (fun q => absurd (by decide +kernel) (q))
  refine lv_aload_n hx hb dX9_fewest_19 rfl (lv_at hl 0 rfl) ?_
  refine va_get (D := G) (ci := 6) (v := .ref p10) (C := RX9) (T := TX9) (N := 11) (ref := RX9) hx hb hts h1w hown hX.1 hP 0 rfl rfl 9 (by decide) h0w (fun _ h9 => h9) rfl dX9_fewest_20 ?_
  refine lv_aload_n hx hb dX9_fewest_23 rfl (lv_at hl 0 rfl) ?_
  refine va_get (D := G) (ci := 6) (v := .ref p5) (C := RX9) (T := TX9) (N := 11) (ref := RX9) hx hb hts h1w hown hX.1 hP 0 rfl rfl 4 (by decide) h2w (fun _ h9 => h9) rfl dX9_fewest_24 ?_
  refine lv_aload_n hx hb dX9_fewest_27 rfl (lv_at hl 0 rfl) ?_
  refine va_get (D := G) (ci := 6) (v := .ref p7) (C := RX9) (T := TX9) (N := 11) (ref := RX9) hx hb hts h1w hown hX.1 hP 0 rfl rfl 6 (by decide) h3w (fun _ h9 => h9) rfl dX9_fewest_28 ?_
  refine va_getN (D := G) (ci := 0) (v := .int 268435455) (C := RX1) (T := TX1) (N := 12) (ref := RX1) (host := RX9) hx hb hts h4w hown hX.1 hP 1 rfl rfl 0 (by decide) (nf_37 hX.2.2.1) (fun _ h9 => h9) rfl dX9_fewest_31 ?_
  refine lv_iload_n hx hb dX9_fewest_34 rfl (lv_at hl 1 rfl) ?_
  refine lv_iconst (v := 1) hx hb dX9_fewest_35 (by decide +kernel) ?_
  refine lv_icmp_ne (tgt := 43) hx hb dX9_fewest_36 (by decide) (fun q => absurd (by decide +kernel) (q)) (fun _ => ?_)
  refine lv_iconst (v := 1) hx hb dX9_fewest_39 (by decide +kernel) ?_
  refine lv_goto (tgt := 44) hx hb dX9_fewest_40 (by decide) ?_
  refine cz_i (wr := [(p0, .inr (6, [v1, v2, v3, v4, .ref p5, v6, .ref p7, v8, v9, .ref p10, v11])), (p7, .inr (0, [.int 268435455, v12, v13, v14, v15, v16, v17, v18, v19, v20, v21, v22]))]) (va_runVN (As := [.ref p5, .int 268435455, .int 1]) (rest := []) ⟨hx, hb, hml, hown, hts⟩ (cX6_explore_1 l G k p10 p5 p23 p24 p25 p26 p27 p28 p29 v30 p31 f32 f33 v34 v35 v36 v37 v38 v39 v40 v41 p42 v43 v44 v45 v46 v47 s.heap.size) ⟨va_cnB 3 hts gX9_fewest_X6_explore_n246 rfl rfl rfl (nm_46 hX.2.2.1) h5w (by decide +kernel) ⟨Nat.le_of_ble_eq_true rfl, Nat.le_of_ble_eq_true rfl⟩, h6w, h7w⟩ (cz_preV hZ hS hX hP hD [2, 3, 4, 5, 6, 7, 8, 9, 10, 11, 12] rfl rfl (ci := 5) (q0 := 2) rfl rfl) rfl rfl hl.1 rfl (lv_room (Nat.le_of_ble_eq_true rfl)) dX9_fewest_44 ⟨Nat.le_of_ble_eq_true rfl, Nat.le_of_ble_eq_true rfl⟩) hP hD hS hA [2, 3, 4, 5, 6, 7, 8, 9, 10, 11, 12] [0, 1] rfl rfl (by decide) (by decide) (fun r u H locs hp hP hD hS => ?_)
  have hp : r = 1 := hp
  subst hp
  refine lv_istore_n (lv' := [(2, .int 1), (0, .ref p0), (1, .int 1)]) hx hb dX9_fewest_47 rfl hl (by decide) rfl (fun ls hl => ?_)
  refine lv_iload_n hx hb dX9_fewest_48 rfl (lv_at hl 0 rfl) ?_
  refine lv_if_eq (tgt := 62) hx hb dX9_fewest_49 (by decide) (fun q => absurd (q) (by decide +kernel)) (fun _ => ?_)
  refine lv_aload_n hx hb dX9_fewest_52 rfl (lv_at hl 1 rfl) ?_
  refine va_get (D := G) (ci := 6) (v := .ref p10) (C := RX9) (T := TX9) (N := 11) (ref := RX9) hx hb hts h1w hown hX.1 hP 0 rfl rfl 9 (by decide) h0w (fun _ h9 => h9) rfl dX9_fewest_53 ?_
  refine cz_i (wr := [(p0, .inr (6, [v1, v2, v3, v4, .ref p5, v6, .ref p7, v8, v9, .ref p10, v11])), (p7, .inr (0, [.int 268435455, v12, v13, v14, v15, v16, v17, v18, v19, v20, v21, v22])), (p27, .inl (k 0, 1500, .inl (upd (upd f32 (0 : Int32).toNatClampNeg (-1)) (1 : Int32).toNatClampNeg (-1)))), (p25, .inl (k 0, 1500, .inl (upd (upd f33 (0 : Int32).toNatClampNeg (-1)) (1 : Int32).toNatClampNeg 0))), (p28, .inl (k 0, 1500, .inl (upd (upd (upd (upd (fun _ => 0) (0 : Int32).toNatClampNeg 0) (0 : Int32).toNatClampNeg 0) (0 : Int32).toNatClampNeg 1) (0 : Int32).toNatClampNeg 1))), (p29, .inl (k 0, 1500, .inl (upd (upd (upd (upd (upd (upd (fun _ => 0) (0 : Int32).toNatClampNeg 0) (0 : Int32).toNatClampNeg 0) (0 : Int32).toNatClampNeg 0) (1 : Int32).toNatClampNeg 0) (1 : Int32).toNatClampNeg 0) (1 : Int32).toNatClampNeg 0))), (p31, .inl (k 0, 1641, .inl (upd (upd (fun _ => 0) (0 : Int32).toNatClampNeg 3) (0 : Int32).toNatClampNeg 15))), (p42, .inr (4, [v44, v45, v46, v47, .int 0])), (p26, .inl (k 0, 1024, .inl (upd (upd (fun _ => (-1)) (455 : Int32).toNatClampNeg 0) (519 : Int32).toNatClampNeg 1)))]) (va_runVN (As := []) (rest := []) ⟨hx, hb, hml, hown, hts⟩ (cX6_leastTillServed_1 l G k p10 p5 (.int 1) (.int 0) p23 p24 (.ref p25) (.ref p26) (.ref p27) (.ref p28) (.ref p29) (.int 0) (.int 1) v30 (.ref p31) (.int 1) v34 v35 (.int 0) (.int 1) v36 v37 v38 v39 v40 v41 (.ref p42) v43 H.size) ⟨va_cnB 0 hts gX9_fewest_X6_leastTillServed_n250 rfl rfl rfl (nm_59 hX.2.2.1) h5w (by decide +kernel) ⟨Nat.le_of_ble_eq_true rfl, Nat.le_of_ble_eq_true rfl⟩, h8w, h9w⟩ (cz_preV hZ hS hX hP hD [9, 12, 8, 10] rfl rfl (ci := 5) (q0 := 9) rfl rfl) rfl rfl hl.1 rfl (lv_room (Nat.le_of_ble_eq_true rfl)) dX9_fewest_56 ⟨Nat.le_of_ble_eq_true rfl, Nat.le_of_ble_eq_true rfl⟩) hP hD hS hA [9, 12, 8, 10] [0, 1, 2, 3, 4, 5, 6, 7, 11] rfl rfl (by decide) (by decide) (fun r u H locs hp hP hD hS => ?_)
  have hp : r = 0 := hp
  subst hp
  refine lv_goto (tgt := 64) hx hb dX9_fewest_59 (by decide) ?_
  have hP9 := hP.sub (ws' := [(p0, .inr (6, [v1, v2, v3, v4, .ref p5, v6, .ref p7, v8, v9, .ref p10, v11])), (p7, .inr (0, [.int 268435455, v12, v13, v14, v15, v16, v17, v18, v19, v20, v21, v22])), (p27, .inl (k 0, 1500, .inl (upd (upd f32 (0 : Int32).toNatClampNeg (-1)) (1 : Int32).toNatClampNeg (-1)))), (p25, .inl (k 0, 1500, .inl (upd (upd f33 (0 : Int32).toNatClampNeg (-1)) (1 : Int32).toNatClampNeg 0))), (p28, .inl (k 0, 1500, .inl (upd (upd (upd (upd (fun _ => 0) (0 : Int32).toNatClampNeg 0) (0 : Int32).toNatClampNeg 0) (0 : Int32).toNatClampNeg 1) (0 : Int32).toNatClampNeg 1))), (p29, .inl (k 0, 1500, .inl (upd (upd (upd (upd (upd (upd (fun _ => 0) (0 : Int32).toNatClampNeg 0) (0 : Int32).toNatClampNeg 0) (0 : Int32).toNatClampNeg 0) (1 : Int32).toNatClampNeg 0) (1 : Int32).toNatClampNeg 0) (1 : Int32).toNatClampNeg 0))), (p31, .inl (k 0, 1641, .inl (upd (upd (fun _ => 0) (0 : Int32).toNatClampNeg 3) (0 : Int32).toNatClampNeg 15))), (p42, .inr (4, [v44, v45, v46, v47, .int 0])), (p26, .inl (k 0, 1024, .inl (upd (upd (fun _ => (-1)) (455 : Int32).toNatClampNeg 0) (519 : Int32).toNatClampNeg 1))), (p10, .inr (5, [.ref p5, .int 1, .int 0, .ref p23, .ref p24, .ref p25, .int 2, .ref p26, .ref p27, .ref p28, .ref p29, .int 0, .int 1, v30, .ref p31])), (p23, .inl (k 0, 1500, .inl (upd (upd (fun _ => 0) (0 : Int32).toNatClampNeg 268435455) (1 : Int32).toNatClampNeg 536870911))), (p24, .inl (k 0, 1500, .inl (upd (upd (fun _ => 0) (0 : Int32).toNatClampNeg 0) (1 : Int32).toNatClampNeg 1))), (p5, .inr (2, [.int 1, v34, v35, .int 0, .int 1, v36, v37, .int 0, v38, v39, v40, v41, .ref p42, v43]))]) [0, 1, 2, 3, 4, 5, 6, 7, 8, 9, 10, 11, 12] rfl
  have hD9 := hD.sub (ws' := [(p0, .inr (6, [v1, v2, v3, v4, .ref p5, v6, .ref p7, v8, v9, .ref p10, v11])), (p7, .inr (0, [.int 268435455, v12, v13, v14, v15, v16, v17, v18, v19, v20, v21, v22])), (p27, .inl (k 0, 1500, .inl (upd (upd f32 (0 : Int32).toNatClampNeg (-1)) (1 : Int32).toNatClampNeg (-1)))), (p25, .inl (k 0, 1500, .inl (upd (upd f33 (0 : Int32).toNatClampNeg (-1)) (1 : Int32).toNatClampNeg 0))), (p28, .inl (k 0, 1500, .inl (upd (upd (upd (upd (fun _ => 0) (0 : Int32).toNatClampNeg 0) (0 : Int32).toNatClampNeg 0) (0 : Int32).toNatClampNeg 1) (0 : Int32).toNatClampNeg 1))), (p29, .inl (k 0, 1500, .inl (upd (upd (upd (upd (upd (upd (fun _ => 0) (0 : Int32).toNatClampNeg 0) (0 : Int32).toNatClampNeg 0) (0 : Int32).toNatClampNeg 0) (1 : Int32).toNatClampNeg 0) (1 : Int32).toNatClampNeg 0) (1 : Int32).toNatClampNeg 0))), (p31, .inl (k 0, 1641, .inl (upd (upd (fun _ => 0) (0 : Int32).toNatClampNeg 3) (0 : Int32).toNatClampNeg 15))), (p42, .inr (4, [v44, v45, v46, v47, .int 0])), (p26, .inl (k 0, 1024, .inl (upd (upd (fun _ => (-1)) (455 : Int32).toNatClampNeg 0) (519 : Int32).toNatClampNeg 1))), (p10, .inr (5, [.ref p5, .int 1, .int 0, .ref p23, .ref p24, .ref p25, .int 2, .ref p26, .ref p27, .ref p28, .ref p29, .int 0, .int 1, v30, .ref p31])), (p23, .inl (k 0, 1500, .inl (upd (upd (fun _ => 0) (0 : Int32).toNatClampNeg 268435455) (1 : Int32).toNatClampNeg 536870911))), (p24, .inl (k 0, 1500, .inl (upd (upd (fun _ => 0) (0 : Int32).toNatClampNeg 0) (1 : Int32).toNatClampNeg 1))), (p5, .inr (2, [.int 1, v34, v35, .int 0, .int 1, v36, v37, .int 0, v38, v39, v40, v41, .ref p42, v43]))]) [0, 1, 2, 3, 4, 5, 6, 7, 8, 9, 10, 11, 12] (by decide) rfl
  exact W.iret (v := 0) hx hb hr (fun t ht hW => ⟨⟨0, (), rfl, rfl, by rw [ht]; exact hP9, hD9⟩, hS.F ht⟩) hS.2.2 dX9_fewest_64

set_option maxHeartbeats 4000000 in
set_option maxRecDepth 100000 in
theorem cX3_thingsWithAims_0 (l : Launch) (G : va_G) (k : Nat → ClassId) (p0 : Nat) (v1 : Value) (v2 : Value) (v3 : Value) (v4 : Value) (v5 : Value) (v6 : Value) (v7 : Value) (v8 : Value) (v9 : Value) (v10 : Value) (v11 : Value) (v12 : Value) (v13 : Value) (sz : Nat) : CMi l G k yX3_thingsWithAims wsX3_thingsWithAims ({ frames := 0, cells := 0, slots := 0, locals := 0 }) [.ref p0] sz [(p0, .inr (2, [v1, v2, v3, v4, v5, v6, v7, .int 0, v8, v9, v10, v11, v12, v13]))] (fun r (u : Unit) => r = 0) (fun (u : Unit) => [(p0, .inr (2, [v1, v2, v3, v4, v5, v6, v7, .int 0, v8, v9, v10, v11, v12, v13]))]) := by
  refine Met.ofW (cc := cX3_thingsWithAims) (maxL := 3) (ret := (some .int)) (by decide) rfl ?_
  intro p e s m args below meth c s₁ B hml hv
  obtain ⟨rfl, hsz, hP, hX, hD0, hZ0⟩ := hv
  have hx := B.exec
  have hb := B.bytes
  have hr := B.returns
  have hts := atoms_spec (ws := wsX3_thingsWithAims) B.pre
  have hown : s.vm.findClass RX3 = some m.cls := findClass_of_methodNamed B.named
  subst hsz
  have hD := hD0.self (sz := s.heap.size)
  have hZ := ZX.up hP hZ0
  generalize hAe : va_A [(p0, .inr (2, [v1, v2, v3, v4, v5, v6, v7, .int 0, v8, v9, v10, v11, v12, v13]))] s.heap.size = A at hD hZ ⊢
  have hA : ∀ q : Nat, s.heap.size ≤ q → A q := fun q h => by rw [← hAe]; exact Or.inr h
  have hS : va_S A s.heap s.heap [] := va_S.rf
  have hP : va_P G vwCl [(p0, .inr (2, [v1, v2, v3, v4, v5, v6, v7, .int 0, v8, v9, v10, v11, v12, v13]))] s.heap := hP
  have hl := lv_entry ([.ref p0]) (n := 3) (Nat.le_of_ble_eq_true rfl)
  rw [lg_entry_eq]
  generalize (lg_sl ([.ref p0]) ++ List.replicate (3 - (lg_sl ([.ref p0])).length) Slot.unset).toArray = ls at hl ⊢
  have hl : lv_has ls 3 [(0, .ref p0)] := hl
  have h0w := hts (.fieldLink RX3 59 "RopeTown$Plan" "things" "I") (by decide +kernel)
  have h1w : ∀ w ∈ wsX30, w ∈ wsX3_thingsWithAims := by decide +kernel
  refine lv_iconst (v := 0) hx hb dX3_thingsWithAims_0 (by decide +kernel) ?_
  refine lv_istore_n (lv' := [(1, .int 0), (0, .ref p0)]) hx hb dX3_thingsWithAims_1 rfl hl (by decide) rfl (fun ls hl => ?_)
  refine lv_iconst (v := 0) hx hb dX3_thingsWithAims_2 (by decide +kernel) ?_
  refine lv_istore_n (lv' := [(2, .int 0), (1, .int 0), (0, .ref p0)]) hx hb dX3_thingsWithAims_3 rfl hl (by decide) rfl (fun ls hl => ?_)
  refine lv_iload_n hx hb dX3_thingsWithAims_4 rfl (lv_at hl 0 rfl) ?_
  refine lv_aload_n hx hb dX3_thingsWithAims_5 rfl (lv_at hl 2 rfl) ?_
  refine va_get (D := G) (ci := 2) (v := .int 0) (C := RX3) (T := TX3) (N := 14) (ref := RX3) hx hb hts h1w hown hX.1 hP 0 rfl rfl 7 (by decide) h0w (fun _ h9 => h9) rfl dX3_thingsWithAims_6 ?_
  refine lv_icmp_ge (tgt := 38) hx hb dX3_thingsWithAims_9 (by decide) (fun _ => ?_) (fun q => absurd (by decide +kernel) (q))
  refine lv_iload_n hx hb dX3_thingsWithAims_38 rfl (lv_at hl 1 rfl) ?_
  have hP9 := hP.sub (ws' := [(p0, .inr (2, [v1, v2, v3, v4, v5, v6, v7, .int 0, v8, v9, v10, v11, v12, v13]))]) [0] rfl
  have hD9 := hD.sub (ws' := [(p0, .inr (2, [v1, v2, v3, v4, v5, v6, v7, .int 0, v8, v9, v10, v11, v12, v13]))]) [0] (by decide) rfl
  exact W.iret (v := 0) hx hb hr (fun t ht hW => ⟨⟨0, (), rfl, rfl, by rw [ht]; exact hP9, hD9⟩, hS.F ht⟩) hS.2.2 dX3_thingsWithAims_39

set_option maxHeartbeats 4000000 in
set_option maxRecDepth 100000 in
theorem cX9_day_0 (l : Launch) (G : va_G) (k : Nat → ClassId) (p0 : Nat) (i1 : Int32) (v2 : Value) (v3 : Value) (v4 : Value) (v5 : Value) (p6 : Nat) (v7 : Value) (p8 : Nat) (v9 : Value) (v10 : Value) (v11 : Value) (v12 : Value) (v13 : Value) (v14 : Value) (v15 : Value) (v16 : Value) (v17 : Value) (v18 : Value) (v19 : Value) (v20 : Value) (v21 : Value) (v22 : Value) (p23 : Nat) (v24 : Value) (v25 : Value) (v26 : Value) (v27 : Value) (v28 : Value) (v29 : Value) (v30 : Value) (v31 : Value) (v32 : Value) (v33 : Value) (v34 : Value) (v35 : Value) (v36 : Value) (sz : Nat) (hi1 : i1 < 0) : CMi l G k yX9_day wsX9_day ({ frames := 1, cells := 0, slots := 0, locals := 22 }) [.ref p0, .int i1] sz [(p0, .inr (6, [v2, v3, v4, v5, .ref p6, v7, .ref p8, v9, v10, v11, v12])), (p8, .inr (0, [v13, v14, v15, v16, .int 0, v17, v18, v19, v20, v21, v22, .ref p23])), (p6, .inr (2, [v24, v25, v26, v27, v28, v29, v30, .int 0, v31, v32, v33, v34, v35, v36])), (p23, .inl (k 0, 3, .inl (fun _ => 0)))] (fun r (u : Unit) => r = (-1)) (fun (u : Unit) => [(p0, .inr (6, [v2, v3, v4, v5, .ref p6, v7, .ref p8, v9, v10, v11, v12])), (p8, .inr (0, [v13, v14, v15, v16, .int 0, v17, v18, v19, v20, v21, v22, .ref p23])), (p23, .inl (k 0, 3, .inl (upd (fun _ => 0) (2 : Int32).toNatClampNeg 1))), (p6, .inr (2, [v24, v25, v26, v27, v28, v29, v30, .int 0, v31, v32, v33, v34, v35, v36]))]) := by
  refine Met.ofW (cc := cX9_day) (maxL := 2) (ret := (some .int)) (by decide) rfl ?_
  intro p e s m args below meth c s₁ B hml hv
  obtain ⟨rfl, hsz, hP, hX, hD0, hZ0⟩ := hv
  have hx := B.exec
  have hb := B.bytes
  have hr := B.returns
  have hts := atoms_spec (ws := wsX9_day) B.pre
  have hown : s.vm.findClass RX9 = some m.cls := findClass_of_methodNamed B.named
  subst hsz
  have hD := hD0.self (sz := s.heap.size)
  have hZ := ZX.up hP hZ0
  generalize hAe : va_A [(p0, .inr (6, [v2, v3, v4, v5, .ref p6, v7, .ref p8, v9, v10, v11, v12])), (p8, .inr (0, [v13, v14, v15, v16, .int 0, v17, v18, v19, v20, v21, v22, .ref p23])), (p6, .inr (2, [v24, v25, v26, v27, v28, v29, v30, .int 0, v31, v32, v33, v34, v35, v36])), (p23, .inl (k 0, 3, .inl (fun _ => 0)))] s.heap.size = A at hD hZ ⊢
  have hA : ∀ q : Nat, s.heap.size ≤ q → A q := fun q h => by rw [← hAe]; exact Or.inr h
  have hS : va_S A s.heap s.heap [] := va_S.rf
  have hP : va_P G vwCl [(p0, .inr (6, [v2, v3, v4, v5, .ref p6, v7, .ref p8, v9, v10, v11, v12])), (p8, .inr (0, [v13, v14, v15, v16, .int 0, v17, v18, v19, v20, v21, v22, .ref p23])), (p6, .inr (2, [v24, v25, v26, v27, v28, v29, v30, .int 0, v31, v32, v33, v34, v35, v36])), (p23, .inl (k 0, 3, .inl (fun _ => 0)))] s.heap := hP
  have hl := lv_entry ([.ref p0, .int i1]) (n := 2) (Nat.le_of_ble_eq_true rfl)
  rw [lg_entry_eq]
  generalize (lg_sl ([.ref p0, .int i1]) ++ List.replicate (2 - (lg_sl ([.ref p0, .int i1])).length) Slot.unset).toArray = ls at hl ⊢
  have hl : lv_has ls 2 [(0, .ref p0), (1, .int i1)] := hl
  have h0w := hts (.fieldLink RX9 42 "RopeTown" "book" "LRopeTown$Book;") (by decide +kernel)
  have h1w : ∀ w ∈ wsX90, w ∈ wsX9_day := by decide +kernel
  have h2w : ∀ w ∈ wsX10, w ∈ wsX9_day := by decide +kernel
  have h3w := hts (.fieldLink RX9 23 "RopeTown" "plan" "LRopeTown$Plan;") (by decide +kernel)
  have h4w := hts (.initialized RX3) (by decide +kernel)
  have h5w := hts (.instanceMethod yX3_thingsWithAims) (by decide +kernel)
  have h6w := hts (.selects RX3 yX3_thingsWithAims yX3_thingsWithAims) (by decide +kernel)
  refine lv_aload_n hx hb dX9_day_0 rfl (lv_at hl 0 rfl) ?_
  refine va_get (D := G) (ci := 6) (v := .ref p8) (C := RX9) (T := TX9) (N := 11) (ref := RX9) hx hb hts h1w hown hX.1 hP 0 rfl rfl 6 (by decide) h0w (fun _ h9 => h9) rfl dX9_day_1 ?_
  refine va_getN (D := G) (ci := 0) (v := .int 0) (C := RX1) (T := TX1) (N := 12) (ref := RX1) (host := RX9) hx hb hts h2w hown hX.1 hP 1 rfl rfl 4 (by decide) (nf_41 hX.2.2.1) (fun _ h9 => h9) rfl dX9_day_4 ?_
  refine lv_bipush (v := 6) hx hb dX9_day_7 (by decide +kernel) ?_
  refine lv_icmp_ge (tgt := 26) hx hb dX9_day_9 (by decide) (fun q => absurd (q) (by decide +kernel)) (fun _ => ?_)
  refine lv_iload_n hx hb dX9_day_12 rfl (lv_at hl 1 rfl) ?_
  refine lv_aload_n hx hb dX9_day_13 rfl (lv_at hl 0 rfl) ?_
  refine va_get (D := G) (ci := 6) (v := .ref p6) (C := RX9) (T := TX9) (N := 11) (ref := RX9) hx hb hts h1w hown hX.1 hP 0 rfl rfl 4 (by decide) h3w (fun _ h9 => h9) rfl dX9_day_14 ?_
  refine cz_i (wr := [(p0, .inr (6, [v2, v3, v4, v5, .ref p6, v7, .ref p8, v9, v10, v11, v12])), (p8, .inr (0, [v13, v14, v15, v16, .int 0, v17, v18, v19, v20, v21, v22, .ref p23])), (p23, .inl (k 0, 3, .inl (fun _ => 0)))]) (va_runVN (As := []) (rest := [.int i1]) ⟨hx, hb, hml, hown, hts⟩ (cX3_thingsWithAims_0 l G k p6 v24 v25 v26 v27 v28 v29 v30 v31 v32 v33 v34 v35 v36 s.heap.size) ⟨va_cnB 0 hts gX9_day_X3_thingsWithAims_n275 rfl rfl rfl (nm_26 hX.2.2.1) h4w (by decide +kernel) ⟨Nat.le_of_ble_eq_true rfl, Nat.le_of_ble_eq_true rfl⟩, h5w, h6w⟩ (cz_preV hZ hS hX hP hD [2] rfl rfl (ci := 2) (q0 := 2) rfl rfl) rfl rfl hl.1 rfl (lv_room (Nat.le_of_ble_eq_true rfl)) dX9_day_17 ⟨Nat.le_of_ble_eq_true rfl, Nat.le_of_ble_eq_true rfl⟩) hP hD hS hA [2] [0, 1, 3] rfl rfl (by decide) (by decide) (fun r u H locs hp hP hD hS => ?_)
  have hp : r = 0 := hp
  subst hp
  refine lv_iconst (v := (-1)) hx hb dX9_day_20 (by decide +kernel) ?_
  refine lv_ixor hx hb dX9_day_21 ?_
  refine cz_ti (w := (-1)) (by decide +kernel) ?_
  refine lv_iand hx hb dX9_day_22 ?_
  refine cz_ti (w := i1) (z_and i1) ?_
  refine lv_if_eq (tgt := 41) hx hb dX9_day_23 (by decide) (fun q_1 => absurd q_1 (zl_ne hi1 (by decide))) (fun _ => ?_)
  refine lv_aload_n hx hb dX9_day_26 rfl (lv_at hl 0 rfl) ?_
  refine va_get (D := G) (ci := 6) (v := .ref p8) (C := RX9) (T := TX9) (N := 11) (ref := RX9) hx hb hts h1w hown hX.1 hP 0 rfl rfl 6 (by decide) h0w (fun _ h9 => h9) rfl dX9_day_27 ?_
  refine va_getN (D := G) (ci := 0) (v := .ref p23) (C := RX1) (T := TX1) (N := 12) (ref := RX1) (host := RX9) hx hb hts h2w hown hX.1 hP 1 rfl rfl 11 (by decide) (nf_47 hX.2.2.1) (fun _ h9 => h9) rfl dX9_day_30 ?_
  refine lv_iconst (v := 2) hx hb dX9_day_33 (by decide +kernel) ?_
  refine lv_dup2_11 hx hb dX9_day_34 rfl rfl ?_
  refine va_iald hx hb hX.1 hP 2 0 rfl rfl (by unfold vp_in; decide +kernel) dX9_day_35 ?_
  refine cz_ti (w := 0) (by rfl) ?_
  refine lv_iconst (v := 1) hx hb dX9_day_36 (by decide +kernel) ?_
  refine lv_iadd hx hb dX9_day_37 ?_
  refine cz_ti (w := 1) (by decide +kernel) ?_
  refine va_iast hx hb hX.1 hP hD hS 2 0 rfl rfl (by unfold vp_in; decide +kernel) dX9_day_38 (fun H locs hP hD hS => ?_)
  refine lv_iconst (v := (-1)) hx hb dX9_day_39 (by decide +kernel) ?_
  have hP9 := hP.sub (ws' := [(p0, .inr (6, [v2, v3, v4, v5, .ref p6, v7, .ref p8, v9, v10, v11, v12])), (p8, .inr (0, [v13, v14, v15, v16, .int 0, v17, v18, v19, v20, v21, v22, .ref p23])), (p23, .inl (k 0, 3, .inl (upd (fun _ => 0) (2 : Int32).toNatClampNeg 1))), (p6, .inr (2, [v24, v25, v26, v27, v28, v29, v30, .int 0, v31, v32, v33, v34, v35, v36]))]) [0, 1, 2, 3] rfl
  have hD9 := hD.sub (ws' := [(p0, .inr (6, [v2, v3, v4, v5, .ref p6, v7, .ref p8, v9, v10, v11, v12])), (p8, .inr (0, [v13, v14, v15, v16, .int 0, v17, v18, v19, v20, v21, v22, .ref p23])), (p23, .inl (k 0, 3, .inl (upd (fun _ => 0) (2 : Int32).toNatClampNeg 1))), (p6, .inr (2, [v24, v25, v26, v27, v28, v29, v30, .int 0, v31, v32, v33, v34, v35, v36]))]) [0, 1, 2, 3] (by decide) rfl
  exact W.iret (v := (-1)) hx hb hr (fun t ht hW => ⟨⟨(-1), (), rfl, rfl, by rw [ht]; exact hP9, hD9⟩, hS.F ht⟩) hS.2.2 dX9_day_40

set_option maxHeartbeats 4000000 in
set_option maxRecDepth 100000 in
theorem cX9_day_1 (l : Launch) (G : va_G) (k : Nat → ClassId) (p0 : Nat) (v1 : Value) (v2 : Value) (v3 : Value) (v4 : Value) (p5 : Nat) (v6 : Value) (p7 : Nat) (v8 : Value) (v9 : Value) (v10 : Value) (v11 : Value) (v12 : Value) (v13 : Value) (v14 : Value) (v15 : Value) (v16 : Value) (v17 : Value) (v18 : Value) (v19 : Value) (v20 : Value) (p21 : Nat) (v22 : Value) (v23 : Value) (v24 : Value) (v25 : Value) (v26 : Value) (v27 : Value) (v28 : Value) (v29 : Value) (v30 : Value) (v31 : Value) (v32 : Value) (v33 : Value) (v34 : Value) (v35 : Value) (f36 : Nat → Int32) (sz : Nat) : CMi l G k yX9_day wsX9_day ({ frames := 1, cells := 0, slots := 0, locals := 22 }) [.ref p0, .int 0] sz [(p0, .inr (6, [v1, v2, v3, v4, .ref p5, v6, .ref p7, v8, v9, v10, v11])), (p7, .inr (0, [v12, v13, v14, v15, .int 0, v16, v17, v18, v19, v20, .ref p21, v22])), (p5, .inr (2, [v23, v24, v25, v26, v27, v28, v29, .int 0, v30, v31, v32, v33, v34, v35])), (p21, .inl (k 0, 6, .inl f36))] (fun r (u : Unit) => r = 1) (fun (u : Unit) => [(p0, .inr (6, [v1, v2, v3, v4, .ref p5, v6, .ref p7, v8, v9, v10, v11])), (p7, .inr (0, [v12, v13, v14, v15, .int 1, v16, v17, v18, v19, v20, .ref p21, v22])), (p21, .inl (k 0, 6, .inl (upd f36 (0 : Int32).toNatClampNeg 0))), (p5, .inr (2, [v23, v24, v25, v26, v27, v28, v29, .int 0, v30, v31, v32, v33, v34, v35]))]) := by
  refine Met.ofW (cc := cX9_day) (maxL := 2) (ret := (some .int)) (by decide) rfl ?_
  intro p e s m args below meth c s₁ B hml hv
  obtain ⟨rfl, hsz, hP, hX, hD0, hZ0⟩ := hv
  have hx := B.exec
  have hb := B.bytes
  have hr := B.returns
  have hts := atoms_spec (ws := wsX9_day) B.pre
  have hown : s.vm.findClass RX9 = some m.cls := findClass_of_methodNamed B.named
  subst hsz
  have hD := hD0.self (sz := s.heap.size)
  have hZ := ZX.up hP hZ0
  generalize hAe : va_A [(p0, .inr (6, [v1, v2, v3, v4, .ref p5, v6, .ref p7, v8, v9, v10, v11])), (p7, .inr (0, [v12, v13, v14, v15, .int 0, v16, v17, v18, v19, v20, .ref p21, v22])), (p5, .inr (2, [v23, v24, v25, v26, v27, v28, v29, .int 0, v30, v31, v32, v33, v34, v35])), (p21, .inl (k 0, 6, .inl f36))] s.heap.size = A at hD hZ ⊢
  have hA : ∀ q : Nat, s.heap.size ≤ q → A q := fun q h => by rw [← hAe]; exact Or.inr h
  have hS : va_S A s.heap s.heap [] := va_S.rf
  have hP : va_P G vwCl [(p0, .inr (6, [v1, v2, v3, v4, .ref p5, v6, .ref p7, v8, v9, v10, v11])), (p7, .inr (0, [v12, v13, v14, v15, .int 0, v16, v17, v18, v19, v20, .ref p21, v22])), (p5, .inr (2, [v23, v24, v25, v26, v27, v28, v29, .int 0, v30, v31, v32, v33, v34, v35])), (p21, .inl (k 0, 6, .inl f36))] s.heap := hP
  have hl := lv_entry ([.ref p0, .int 0]) (n := 2) (Nat.le_of_ble_eq_true rfl)
  rw [lg_entry_eq]
  generalize (lg_sl ([.ref p0, .int 0]) ++ List.replicate (2 - (lg_sl ([.ref p0, .int 0])).length) Slot.unset).toArray = ls at hl ⊢
  have hl : lv_has ls 2 [(0, .ref p0), (1, .int 0)] := hl
  have h0w := hts (.fieldLink RX9 42 "RopeTown" "book" "LRopeTown$Book;") (by decide +kernel)
  have h1w : ∀ w ∈ wsX90, w ∈ wsX9_day := by decide +kernel
  have h2w : ∀ w ∈ wsX10, w ∈ wsX9_day := by decide +kernel
  have h3w := hts (.fieldLink RX9 23 "RopeTown" "plan" "LRopeTown$Plan;") (by decide +kernel)
  have h4w := hts (.initialized RX3) (by decide +kernel)
  have h5w := hts (.instanceMethod yX3_thingsWithAims) (by decide +kernel)
  have h6w := hts (.selects RX3 yX3_thingsWithAims yX3_thingsWithAims) (by decide +kernel)
  refine lv_aload_n hx hb dX9_day_0 rfl (lv_at hl 0 rfl) ?_
  refine va_get (D := G) (ci := 6) (v := .ref p7) (C := RX9) (T := TX9) (N := 11) (ref := RX9) hx hb hts h1w hown hX.1 hP 0 rfl rfl 6 (by decide) h0w (fun _ h9 => h9) rfl dX9_day_1 ?_
  refine va_getN (D := G) (ci := 0) (v := .int 0) (C := RX1) (T := TX1) (N := 12) (ref := RX1) (host := RX9) hx hb hts h2w hown hX.1 hP 1 rfl rfl 4 (by decide) (nf_41 hX.2.2.1) (fun _ h9 => h9) rfl dX9_day_4 ?_
  refine lv_bipush (v := 6) hx hb dX9_day_7 (by decide +kernel) ?_
  refine lv_icmp_ge (tgt := 26) hx hb dX9_day_9 (by decide) (fun q => absurd (q) (by decide +kernel)) (fun _ => ?_)
  refine lv_iload_n hx hb dX9_day_12 rfl (lv_at hl 1 rfl) ?_
  refine lv_aload_n hx hb dX9_day_13 rfl (lv_at hl 0 rfl) ?_
  refine va_get (D := G) (ci := 6) (v := .ref p5) (C := RX9) (T := TX9) (N := 11) (ref := RX9) hx hb hts h1w hown hX.1 hP 0 rfl rfl 4 (by decide) h3w (fun _ h9 => h9) rfl dX9_day_14 ?_
  refine cz_i (wr := [(p0, .inr (6, [v1, v2, v3, v4, .ref p5, v6, .ref p7, v8, v9, v10, v11])), (p7, .inr (0, [v12, v13, v14, v15, .int 0, v16, v17, v18, v19, v20, .ref p21, v22])), (p21, .inl (k 0, 6, .inl f36))]) (va_runVN (As := []) (rest := [.int 0]) ⟨hx, hb, hml, hown, hts⟩ (cX3_thingsWithAims_0 l G k p5 v23 v24 v25 v26 v27 v28 v29 v30 v31 v32 v33 v34 v35 s.heap.size) ⟨va_cnB 0 hts gX9_day_X3_thingsWithAims_n275 rfl rfl rfl (nm_26 hX.2.2.1) h4w (by decide +kernel) ⟨Nat.le_of_ble_eq_true rfl, Nat.le_of_ble_eq_true rfl⟩, h5w, h6w⟩ (cz_preV hZ hS hX hP hD [2] rfl rfl (ci := 2) (q0 := 2) rfl rfl) rfl rfl hl.1 rfl (lv_room (Nat.le_of_ble_eq_true rfl)) dX9_day_17 ⟨Nat.le_of_ble_eq_true rfl, Nat.le_of_ble_eq_true rfl⟩) hP hD hS hA [2] [0, 1, 3] rfl rfl (by decide) (by decide) (fun r u H locs hp hP hD hS => ?_)
  have hp : r = 0 := hp
  subst hp
  refine lv_iconst (v := (-1)) hx hb dX9_day_20 (by decide +kernel) ?_
  refine lv_ixor hx hb dX9_day_21 ?_
  refine cz_ti (w := (-1)) (by decide +kernel) ?_
  refine lv_iand hx hb dX9_day_22 ?_
  refine cz_ti (w := 0) (by decide +kernel) ?_
  refine lv_if_eq (tgt := 41) hx hb dX9_day_23 (by decide) (fun _ => ?_) (fun q => absurd (by decide +kernel) (q))
  refine lv_aload_n hx hb dX9_day_41 rfl (lv_at hl 0 rfl) ?_
  refine va_get (D := G) (ci := 6) (v := .ref p7) (C := RX9) (T := TX9) (N := 11) (ref := RX9) hx hb hts h1w hown hX.1 hP 0 rfl rfl 6 (by decide) h0w (fun _ h9 => h9) rfl dX9_day_42 ?_
  refine va_getN (D := G) (ci := 0) (v := .ref p21) (C := RX1) (T := TX1) (N := 12) (ref := RX1) (host := RX9) hx hb hts h2w hown hX.1 hP 1 rfl rfl 10 (by decide) (nf_46 hX.2.2.1) (fun _ h9 => h9) rfl dX9_day_45 ?_
  refine lv_aload_n hx hb dX9_day_48 rfl (lv_at hl 0 rfl) ?_
  refine va_get (D := G) (ci := 6) (v := .ref p7) (C := RX9) (T := TX9) (N := 11) (ref := RX9) hx hb hts h1w hown hX.1 hP 0 rfl rfl 6 (by decide) h0w (fun _ h9 => h9) rfl dX9_day_49 ?_
  refine va_getN (D := G) (ci := 0) (v := .int 0) (C := RX1) (T := TX1) (N := 12) (ref := RX1) (host := RX9) hx hb hts h2w hown hX.1 hP 1 rfl rfl 4 (by decide) (nf_41 hX.2.2.1) (fun _ h9 => h9) rfl dX9_day_52 ?_
  refine lv_iload_n hx hb dX9_day_55 rfl (lv_at hl 1 rfl) ?_
  refine va_iast hx hb hX.1 hP hD hS 2 0 rfl rfl (by unfold vp_in; decide +kernel) dX9_day_56 (fun H locs hP hD hS => ?_)
  refine lv_aload_n hx hb dX9_day_57 rfl (lv_at hl 0 rfl) ?_
  refine va_get (D := G) (ci := 6) (v := .ref p7) (C := RX9) (T := TX9) (N := 11) (ref := RX9) hx hb hts h1w hown hX.1 hP 0 rfl rfl 6 (by decide) h0w (fun _ h9 => h9) rfl dX9_day_58 ?_
  refine lv_dup hx hb dX9_day_61 rfl ?_
  refine va_getN (D := G) (ci := 0) (v := .int 0) (C := RX1) (T := TX1) (N := 12) (ref := RX1) (host := RX9) hx hb hts h2w hown hX.1 hP 1 rfl rfl 4 (by decide) (nf_41 hX.2.2.1) (fun _ h9 => h9) rfl dX9_day_62 ?_
  refine lv_iconst (v := 1) hx hb dX9_day_65 (by decide +kernel) ?_
  refine lv_iadd hx hb dX9_day_66 ?_
  refine cz_ti (w := 1) (by decide +kernel) ?_
  refine va_putN (D := G) (ci := 0) (v := .int 1) (ty := .int) (C := RX1) (T := TX1) (N := 12) (ref := RX1) (host := RX9) hx hb hts h2w tyX1 tyX1_ok nmX1 hown hX.1 hP hD hS 1 rfl rfl 4 (by decide) (nf_41 hX.2.2.1) (fun _ h9 => h9) rfl (by decide +kernel) rfl rfl (Nat.le_of_ble_eq_true rfl) dX9_day_67 (fun H locs hP hD hS => ?_)
  refine lv_aload_n hx hb dX9_day_70 rfl (lv_at hl 0 rfl) ?_
  refine va_get (D := G) (ci := 6) (v := .ref p7) (C := RX9) (T := TX9) (N := 11) (ref := RX9) hx hb hts h1w hown hX.1 hP 0 rfl rfl 6 (by decide) h0w (fun _ h9 => h9) rfl dX9_day_71 ?_
  refine va_getN (D := G) (ci := 0) (v := .int 1) (C := RX1) (T := TX1) (N := 12) (ref := RX1) (host := RX9) hx hb hts h2w hown hX.1 hP 1 rfl rfl 4 (by decide) (nf_41 hX.2.2.1) (fun _ h9 => h9) rfl dX9_day_74 ?_
  have hP9 := hP.sub (ws' := [(p0, .inr (6, [v1, v2, v3, v4, .ref p5, v6, .ref p7, v8, v9, v10, v11])), (p7, .inr (0, [v12, v13, v14, v15, .int 1, v16, v17, v18, v19, v20, .ref p21, v22])), (p21, .inl (k 0, 6, .inl (upd f36 (0 : Int32).toNatClampNeg 0))), (p5, .inr (2, [v23, v24, v25, v26, v27, v28, v29, .int 0, v30, v31, v32, v33, v34, v35]))]) [0, 1, 2, 3] rfl
  have hD9 := hD.sub (ws' := [(p0, .inr (6, [v1, v2, v3, v4, .ref p5, v6, .ref p7, v8, v9, v10, v11])), (p7, .inr (0, [v12, v13, v14, v15, .int 1, v16, v17, v18, v19, v20, .ref p21, v22])), (p21, .inl (k 0, 6, .inl (upd f36 (0 : Int32).toNatClampNeg 0))), (p5, .inr (2, [v23, v24, v25, v26, v27, v28, v29, .int 0, v30, v31, v32, v33, v34, v35]))]) [0, 1, 2, 3] (by decide) rfl
  exact W.iret (v := 1) hx hb hr (fun t ht hW => ⟨⟨1, (), rfl, rfl, by rw [ht]; exact hP9, hD9⟩, hS.F ht⟩) hS.2.2 dX9_day_77

set_option maxHeartbeats 4000000 in
set_option maxRecDepth 100000 in
theorem cX9_day_2 (l : Launch) (G : va_G) (k : Nat → ClassId) (p0 : Nat) (i1 : Int32) (v2 : Value) (v3 : Value) (v4 : Value) (v5 : Value) (p6 : Nat) (v7 : Value) (p8 : Nat) (v9 : Value) (v10 : Value) (v11 : Value) (v12 : Value) (v13 : Value) (v14 : Value) (v15 : Value) (v16 : Value) (v17 : Value) (v18 : Value) (v19 : Value) (v20 : Value) (v21 : Value) (v22 : Value) (p23 : Nat) (v24 : Value) (v25 : Value) (v26 : Value) (v27 : Value) (v28 : Value) (v29 : Value) (v30 : Value) (v31 : Value) (v32 : Value) (v33 : Value) (v34 : Value) (v35 : Value) (v36 : Value) (sz : Nat) (hi1 : 0 < i1) : CMi l G k yX9_day wsX9_day ({ frames := 1, cells := 0, slots := 0, locals := 22 }) [.ref p0, .int i1] sz [(p0, .inr (6, [v2, v3, v4, v5, .ref p6, v7, .ref p8, v9, v10, v11, v12])), (p8, .inr (0, [v13, v14, v15, v16, .int 0, v17, v18, v19, v20, v21, v22, .ref p23])), (p6, .inr (2, [v24, v25, v26, v27, v28, v29, v30, .int 0, v31, v32, v33, v34, v35, v36])), (p23, .inl (k 0, 3, .inl (fun _ => 0)))] (fun r (u : Unit) => r = (-1)) (fun (u : Unit) => [(p0, .inr (6, [v2, v3, v4, v5, .ref p6, v7, .ref p8, v9, v10, v11, v12])), (p8, .inr (0, [v13, v14, v15, v16, .int 0, v17, v18, v19, v20, v21, v22, .ref p23])), (p23, .inl (k 0, 3, .inl (upd (fun _ => 0) (2 : Int32).toNatClampNeg 1))), (p6, .inr (2, [v24, v25, v26, v27, v28, v29, v30, .int 0, v31, v32, v33, v34, v35, v36]))]) := by
  refine Met.ofW (cc := cX9_day) (maxL := 2) (ret := (some .int)) (by decide) rfl ?_
  intro p e s m args below meth c s₁ B hml hv
  obtain ⟨rfl, hsz, hP, hX, hD0, hZ0⟩ := hv
  have hx := B.exec
  have hb := B.bytes
  have hr := B.returns
  have hts := atoms_spec (ws := wsX9_day) B.pre
  have hown : s.vm.findClass RX9 = some m.cls := findClass_of_methodNamed B.named
  subst hsz
  have hD := hD0.self (sz := s.heap.size)
  have hZ := ZX.up hP hZ0
  generalize hAe : va_A [(p0, .inr (6, [v2, v3, v4, v5, .ref p6, v7, .ref p8, v9, v10, v11, v12])), (p8, .inr (0, [v13, v14, v15, v16, .int 0, v17, v18, v19, v20, v21, v22, .ref p23])), (p6, .inr (2, [v24, v25, v26, v27, v28, v29, v30, .int 0, v31, v32, v33, v34, v35, v36])), (p23, .inl (k 0, 3, .inl (fun _ => 0)))] s.heap.size = A at hD hZ ⊢
  have hA : ∀ q : Nat, s.heap.size ≤ q → A q := fun q h => by rw [← hAe]; exact Or.inr h
  have hS : va_S A s.heap s.heap [] := va_S.rf
  have hP : va_P G vwCl [(p0, .inr (6, [v2, v3, v4, v5, .ref p6, v7, .ref p8, v9, v10, v11, v12])), (p8, .inr (0, [v13, v14, v15, v16, .int 0, v17, v18, v19, v20, v21, v22, .ref p23])), (p6, .inr (2, [v24, v25, v26, v27, v28, v29, v30, .int 0, v31, v32, v33, v34, v35, v36])), (p23, .inl (k 0, 3, .inl (fun _ => 0)))] s.heap := hP
  have hl := lv_entry ([.ref p0, .int i1]) (n := 2) (Nat.le_of_ble_eq_true rfl)
  rw [lg_entry_eq]
  generalize (lg_sl ([.ref p0, .int i1]) ++ List.replicate (2 - (lg_sl ([.ref p0, .int i1])).length) Slot.unset).toArray = ls at hl ⊢
  have hl : lv_has ls 2 [(0, .ref p0), (1, .int i1)] := hl
  have h0w := hts (.fieldLink RX9 42 "RopeTown" "book" "LRopeTown$Book;") (by decide +kernel)
  have h1w : ∀ w ∈ wsX90, w ∈ wsX9_day := by decide +kernel
  have h2w : ∀ w ∈ wsX10, w ∈ wsX9_day := by decide +kernel
  have h3w := hts (.fieldLink RX9 23 "RopeTown" "plan" "LRopeTown$Plan;") (by decide +kernel)
  have h4w := hts (.initialized RX3) (by decide +kernel)
  have h5w := hts (.instanceMethod yX3_thingsWithAims) (by decide +kernel)
  have h6w := hts (.selects RX3 yX3_thingsWithAims yX3_thingsWithAims) (by decide +kernel)
  refine lv_aload_n hx hb dX9_day_0 rfl (lv_at hl 0 rfl) ?_
  refine va_get (D := G) (ci := 6) (v := .ref p8) (C := RX9) (T := TX9) (N := 11) (ref := RX9) hx hb hts h1w hown hX.1 hP 0 rfl rfl 6 (by decide) h0w (fun _ h9 => h9) rfl dX9_day_1 ?_
  refine va_getN (D := G) (ci := 0) (v := .int 0) (C := RX1) (T := TX1) (N := 12) (ref := RX1) (host := RX9) hx hb hts h2w hown hX.1 hP 1 rfl rfl 4 (by decide) (nf_41 hX.2.2.1) (fun _ h9 => h9) rfl dX9_day_4 ?_
  refine lv_bipush (v := 6) hx hb dX9_day_7 (by decide +kernel) ?_
  refine lv_icmp_ge (tgt := 26) hx hb dX9_day_9 (by decide) (fun q => absurd (q) (by decide +kernel)) (fun _ => ?_)
  refine lv_iload_n hx hb dX9_day_12 rfl (lv_at hl 1 rfl) ?_
  refine lv_aload_n hx hb dX9_day_13 rfl (lv_at hl 0 rfl) ?_
  refine va_get (D := G) (ci := 6) (v := .ref p6) (C := RX9) (T := TX9) (N := 11) (ref := RX9) hx hb hts h1w hown hX.1 hP 0 rfl rfl 4 (by decide) h3w (fun _ h9 => h9) rfl dX9_day_14 ?_
  refine cz_i (wr := [(p0, .inr (6, [v2, v3, v4, v5, .ref p6, v7, .ref p8, v9, v10, v11, v12])), (p8, .inr (0, [v13, v14, v15, v16, .int 0, v17, v18, v19, v20, v21, v22, .ref p23])), (p23, .inl (k 0, 3, .inl (fun _ => 0)))]) (va_runVN (As := []) (rest := [.int i1]) ⟨hx, hb, hml, hown, hts⟩ (cX3_thingsWithAims_0 l G k p6 v24 v25 v26 v27 v28 v29 v30 v31 v32 v33 v34 v35 v36 s.heap.size) ⟨va_cnB 0 hts gX9_day_X3_thingsWithAims_n275 rfl rfl rfl (nm_26 hX.2.2.1) h4w (by decide +kernel) ⟨Nat.le_of_ble_eq_true rfl, Nat.le_of_ble_eq_true rfl⟩, h5w, h6w⟩ (cz_preV hZ hS hX hP hD [2] rfl rfl (ci := 2) (q0 := 2) rfl rfl) rfl rfl hl.1 rfl (lv_room (Nat.le_of_ble_eq_true rfl)) dX9_day_17 ⟨Nat.le_of_ble_eq_true rfl, Nat.le_of_ble_eq_true rfl⟩) hP hD hS hA [2] [0, 1, 3] rfl rfl (by decide) (by decide) (fun r u H locs hp hP hD hS => ?_)
  have hp : r = 0 := hp
  subst hp
  refine lv_iconst (v := (-1)) hx hb dX9_day_20 (by decide +kernel) ?_
  refine lv_ixor hx hb dX9_day_21 ?_
  refine cz_ti (w := (-1)) (by decide +kernel) ?_
  refine lv_iand hx hb dX9_day_22 ?_
  refine cz_ti (w := i1) (z_and i1) ?_
  refine lv_if_eq (tgt := 41) hx hb dX9_day_23 (by decide) (fun q_1 => absurd q_1 (zg_ne hi1 (by decide))) (fun _ => ?_)
  refine lv_aload_n hx hb dX9_day_26 rfl (lv_at hl 0 rfl) ?_
  refine va_get (D := G) (ci := 6) (v := .ref p8) (C := RX9) (T := TX9) (N := 11) (ref := RX9) hx hb hts h1w hown hX.1 hP 0 rfl rfl 6 (by decide) h0w (fun _ h9 => h9) rfl dX9_day_27 ?_
  refine va_getN (D := G) (ci := 0) (v := .ref p23) (C := RX1) (T := TX1) (N := 12) (ref := RX1) (host := RX9) hx hb hts h2w hown hX.1 hP 1 rfl rfl 11 (by decide) (nf_47 hX.2.2.1) (fun _ h9 => h9) rfl dX9_day_30 ?_
  refine lv_iconst (v := 2) hx hb dX9_day_33 (by decide +kernel) ?_
  refine lv_dup2_11 hx hb dX9_day_34 rfl rfl ?_
  refine va_iald hx hb hX.1 hP 2 0 rfl rfl (by unfold vp_in; decide +kernel) dX9_day_35 ?_
  refine cz_ti (w := 0) (by rfl) ?_
  refine lv_iconst (v := 1) hx hb dX9_day_36 (by decide +kernel) ?_
  refine lv_iadd hx hb dX9_day_37 ?_
  refine cz_ti (w := 1) (by decide +kernel) ?_
  refine va_iast hx hb hX.1 hP hD hS 2 0 rfl rfl (by unfold vp_in; decide +kernel) dX9_day_38 (fun H locs hP hD hS => ?_)
  refine lv_iconst (v := (-1)) hx hb dX9_day_39 (by decide +kernel) ?_
  have hP9 := hP.sub (ws' := [(p0, .inr (6, [v2, v3, v4, v5, .ref p6, v7, .ref p8, v9, v10, v11, v12])), (p8, .inr (0, [v13, v14, v15, v16, .int 0, v17, v18, v19, v20, v21, v22, .ref p23])), (p23, .inl (k 0, 3, .inl (upd (fun _ => 0) (2 : Int32).toNatClampNeg 1))), (p6, .inr (2, [v24, v25, v26, v27, v28, v29, v30, .int 0, v31, v32, v33, v34, v35, v36]))]) [0, 1, 2, 3] rfl
  have hD9 := hD.sub (ws' := [(p0, .inr (6, [v2, v3, v4, v5, .ref p6, v7, .ref p8, v9, v10, v11, v12])), (p8, .inr (0, [v13, v14, v15, v16, .int 0, v17, v18, v19, v20, v21, v22, .ref p23])), (p23, .inl (k 0, 3, .inl (upd (fun _ => 0) (2 : Int32).toNatClampNeg 1))), (p6, .inr (2, [v24, v25, v26, v27, v28, v29, v30, .int 0, v31, v32, v33, v34, v35, v36]))]) [0, 1, 2, 3] (by decide) rfl
  exact W.iret (v := (-1)) hx hb hr (fun t ht hW => ⟨⟨(-1), (), rfl, rfl, by rw [ht]; exact hP9, hD9⟩, hS.F ht⟩) hS.2.2 dX9_day_40

set_option maxHeartbeats 4000000 in
set_option maxRecDepth 100000 in
theorem cX3_stones_0 (l : Launch) (G : va_G) (k : Nat → ClassId) (p0 : Nat) (v1 : Value) (v2 : Value) (v3 : Value) (v4 : Value) (v5 : Value) (v6 : Value) (v7 : Value) (v8 : Value) (v9 : Value) (v10 : Value) (v11 : Value) (v12 : Value) (v13 : Value) (sz : Nat) : CMi l G k yX3_stones wsX3_stones ({ frames := 0, cells := 0, slots := 0, locals := 0 }) [.ref p0] sz [(p0, .inr (2, [v1, v2, v3, v4, v5, v6, v7, .int 0, v8, v9, v10, v11, v12, v13]))] (fun r (u : Unit) => r = 0) (fun (u : Unit) => [(p0, .inr (2, [v1, v2, v3, v4, v5, v6, v7, .int 0, v8, v9, v10, v11, v12, v13]))]) := by
  refine Met.ofW (cc := cX3_stones) (maxL := 3) (ret := (some .int)) (by decide) rfl ?_
  intro p e s m args below meth c s₁ B hml hv
  obtain ⟨rfl, hsz, hP, hX, hD0, hZ0⟩ := hv
  have hx := B.exec
  have hb := B.bytes
  have hr := B.returns
  have hts := atoms_spec (ws := wsX3_stones) B.pre
  have hown : s.vm.findClass RX3 = some m.cls := findClass_of_methodNamed B.named
  subst hsz
  have hD := hD0.self (sz := s.heap.size)
  have hZ := ZX.up hP hZ0
  generalize hAe : va_A [(p0, .inr (2, [v1, v2, v3, v4, v5, v6, v7, .int 0, v8, v9, v10, v11, v12, v13]))] s.heap.size = A at hD hZ ⊢
  have hA : ∀ q : Nat, s.heap.size ≤ q → A q := fun q h => by rw [← hAe]; exact Or.inr h
  have hS : va_S A s.heap s.heap [] := va_S.rf
  have hP : va_P G vwCl [(p0, .inr (2, [v1, v2, v3, v4, v5, v6, v7, .int 0, v8, v9, v10, v11, v12, v13]))] s.heap := hP
  have hl := lv_entry ([.ref p0]) (n := 3) (Nat.le_of_ble_eq_true rfl)
  rw [lg_entry_eq]
  generalize (lg_sl ([.ref p0]) ++ List.replicate (3 - (lg_sl ([.ref p0])).length) Slot.unset).toArray = ls at hl ⊢
  have hl : lv_has ls 3 [(0, .ref p0)] := hl
  have h0w := hts (.fieldLink RX3 59 "RopeTown$Plan" "things" "I") (by decide +kernel)
  have h1w : ∀ w ∈ wsX30, w ∈ wsX3_stones := by decide +kernel
  refine lv_iconst (v := 0) hx hb dX3_stones_0 (by decide +kernel) ?_
  refine lv_istore_n (lv' := [(1, .int 0), (0, .ref p0)]) hx hb dX3_stones_1 rfl hl (by decide) rfl (fun ls hl => ?_)
  refine lv_iconst (v := 0) hx hb dX3_stones_2 (by decide +kernel) ?_
  refine lv_istore_n (lv' := [(2, .int 0), (1, .int 0), (0, .ref p0)]) hx hb dX3_stones_3 rfl hl (by decide) rfl (fun ls hl => ?_)
  refine lv_iload_n hx hb dX3_stones_4 rfl (lv_at hl 0 rfl) ?_
  refine lv_aload_n hx hb dX3_stones_5 rfl (lv_at hl 2 rfl) ?_
  refine va_get (D := G) (ci := 2) (v := .int 0) (C := RX3) (T := TX3) (N := 14) (ref := RX3) hx hb hts h1w hown hX.1 hP 0 rfl rfl 7 (by decide) h0w (fun _ h9 => h9) rfl dX3_stones_6 ?_
  refine lv_icmp_ge (tgt := 36) hx hb dX3_stones_9 (by decide) (fun _ => ?_) (fun q => absurd (by decide +kernel) (q))
  refine lv_iload_n hx hb dX3_stones_36 rfl (lv_at hl 1 rfl) ?_
  have hP9 := hP.sub (ws' := [(p0, .inr (2, [v1, v2, v3, v4, v5, v6, v7, .int 0, v8, v9, v10, v11, v12, v13]))]) [0] rfl
  have hD9 := hD.sub (ws' := [(p0, .inr (2, [v1, v2, v3, v4, v5, v6, v7, .int 0, v8, v9, v10, v11, v12, v13]))]) [0] (by decide) rfl
  exact W.iret (v := 0) hx hb hr (fun t ht hW => ⟨⟨0, (), rfl, rfl, by rw [ht]; exact hP9, hD9⟩, hS.F ht⟩) hS.2.2 dX3_stones_37

set_option maxHeartbeats 4000000 in
set_option maxRecDepth 100000 in
theorem cX3_firstStones_0 (l : Launch) (G : va_G) (k : Nat → ClassId) (p0 : Nat) (v1 : Value) (v2 : Value) (v3 : Value) (v4 : Value) (v5 : Value) (v6 : Value) (v7 : Value) (v8 : Value) (v9 : Value) (v10 : Value) (v11 : Value) (v12 : Value) (v13 : Value) (sz : Nat) : CMi l G k yX3_firstStones wsX3_firstStones ({ frames := 0, cells := 0, slots := 0, locals := 0 }) [.ref p0, .int 0] sz [(p0, .inr (2, [v1, v2, v3, v4, v5, v6, v7, .int 0, v8, v9, v10, v11, v12, v13]))] (fun r (u : Unit) => r = 0) (fun (u : Unit) => [(p0, .inr (2, [v1, v2, v3, v4, v5, v6, v7, .int 0, v8, v9, v10, v11, v12, v13]))]) := by
  refine Met.ofW (cc := cX3_firstStones) (maxL := 5) (ret := (some .int)) (by decide) rfl ?_
  intro p e s m args below meth c s₁ B hml hv
  obtain ⟨rfl, hsz, hP, hX, hD0, hZ0⟩ := hv
  have hx := B.exec
  have hb := B.bytes
  have hr := B.returns
  have hts := atoms_spec (ws := wsX3_firstStones) B.pre
  have hown : s.vm.findClass RX3 = some m.cls := findClass_of_methodNamed B.named
  subst hsz
  have hD := hD0.self (sz := s.heap.size)
  have hZ := ZX.up hP hZ0
  generalize hAe : va_A [(p0, .inr (2, [v1, v2, v3, v4, v5, v6, v7, .int 0, v8, v9, v10, v11, v12, v13]))] s.heap.size = A at hD hZ ⊢
  have hA : ∀ q : Nat, s.heap.size ≤ q → A q := fun q h => by rw [← hAe]; exact Or.inr h
  have hS : va_S A s.heap s.heap [] := va_S.rf
  have hP : va_P G vwCl [(p0, .inr (2, [v1, v2, v3, v4, v5, v6, v7, .int 0, v8, v9, v10, v11, v12, v13]))] s.heap := hP
  have hl := lv_entry ([.ref p0, .int 0]) (n := 5) (Nat.le_of_ble_eq_true rfl)
  rw [lg_entry_eq]
  generalize (lg_sl ([.ref p0, .int 0]) ++ List.replicate (5 - (lg_sl ([.ref p0, .int 0])).length) Slot.unset).toArray = ls at hl ⊢
  have hl : lv_has ls 5 [(0, .ref p0), (1, .int 0)] := hl
  have h0w := hts (.fieldLink RX3 59 "RopeTown$Plan" "things" "I") (by decide +kernel)
  have h1w : ∀ w ∈ wsX30, w ∈ wsX3_firstStones := by decide +kernel
  refine lv_iconst (v := 0) hx hb dX3_firstStones_0 (by decide +kernel) ?_
  refine lv_istore_n (lv' := [(2, .int 0), (0, .ref p0), (1, .int 0)]) hx hb dX3_firstStones_1 rfl hl (by decide) rfl (fun ls hl => ?_)
  refine lv_iconst (v := 0) hx hb dX3_firstStones_2 (by decide +kernel) ?_
  refine lv_istore_n (lv' := [(3, .int 0), (2, .int 0), (0, .ref p0), (1, .int 0)]) hx hb dX3_firstStones_3 rfl hl (by decide) rfl (fun ls hl => ?_)
  refine lv_iconst (v := 0) hx hb dX3_firstStones_4 (by decide +kernel) ?_
  refine lv_istore (lv' := [(4, .int 0), (3, .int 0), (2, .int 0), (0, .ref p0), (1, .int 0)]) hx hb dX3_firstStones_5 hl (by decide) rfl (fun ls hl => ?_)
  refine lv_iload hx hb dX3_firstStones_7 (lv_at hl 0 rfl) ?_
  refine lv_aload_n hx hb dX3_firstStones_9 rfl (lv_at hl 3 rfl) ?_
  refine va_get (D := G) (ci := 2) (v := .int 0) (C := RX3) (T := TX3) (N := 14) (ref := RX3) hx hb hts h1w hown hX.1 hP 0 rfl rfl 7 (by decide) h0w (fun _ h9 => h9) rfl dX3_firstStones_10 ?_
  refine lv_icmp_ge (tgt := 48) hx hb dX3_firstStones_13 (by decide) (fun _ => ?_) (fun q => absurd (by decide +kernel) (q))
  refine lv_iload_n hx hb dX3_firstStones_48 rfl (lv_at hl 2 rfl) ?_
  have hP9 := hP.sub (ws' := [(p0, .inr (2, [v1, v2, v3, v4, v5, v6, v7, .int 0, v8, v9, v10, v11, v12, v13]))]) [0] rfl
  have hD9 := hD.sub (ws' := [(p0, .inr (2, [v1, v2, v3, v4, v5, v6, v7, .int 0, v8, v9, v10, v11, v12, v13]))]) [0] (by decide) rfl
  exact W.iret (v := 0) hx hb hr (fun t ht hW => ⟨⟨0, (), rfl, rfl, by rw [ht]; exact hP9, hD9⟩, hS.F ht⟩) hS.2.2 dX3_firstStones_49

set_option maxHeartbeats 4000000 in
set_option maxRecDepth 100000 in
theorem cX9_firstFailingDay_0 (l : Launch) (G : va_G) (k : Nat → ClassId) (p0 : Nat) (v1 : Value) (v2 : Value) (v3 : Value) (v4 : Value) (p5 : Nat) (v6 : Value) (p7 : Nat) (v8 : Value) (v9 : Value) (v10 : Value) (v11 : Value) (v12 : Value) (v13 : Value) (v14 : Value) (v15 : Value) (v16 : Value) (v17 : Value) (v18 : Value) (v19 : Value) (v20 : Value) (v21 : Value) (v22 : Value) (v23 : Value) (v24 : Value) (v25 : Value) (v26 : Value) (v27 : Value) (v28 : Value) (v29 : Value) (v30 : Value) (v31 : Value) (v32 : Value) (v33 : Value) (v34 : Value) (v35 : Value) (sz : Nat) : CMi l G k yX9_firstFailingDay wsX9_firstFailingDay ({ frames := 1, cells := 0, slots := 0, locals := 24 }) [.ref p0, .int 0] sz [(p0, .inr (6, [v1, v2, v3, v4, .ref p5, v6, .ref p7, v8, v9, v10, v11])), (p5, .inr (2, [v12, v13, v14, v15, v16, v17, v18, .int 0, v19, v20, v21, v22, v23, v24])), (p7, .inr (0, [v25, v26, v27, v28, .int 0, v29, v30, v31, v32, v33, v34, v35]))] (fun r (u : Unit) => r = (-1)) (fun (u : Unit) => [(p0, .inr (6, [v1, v2, v3, v4, .ref p5, v6, .ref p7, v8, v9, v10, v11])), (p7, .inr (0, [v25, v26, v27, v28, .int 0, v29, v30, v31, v32, v33, v34, v35])), (p5, .inr (2, [v12, v13, v14, v15, v16, v17, v18, .int 0, v19, v20, v21, v22, v23, v24]))]) := by
  refine Met.ofW (cc := cX9_firstFailingDay) (maxL := 5) (ret := (some .int)) (by decide) rfl ?_
  intro p e s m args below meth c s₁ B hml hv
  obtain ⟨rfl, hsz, hP, hX, hD0, hZ0⟩ := hv
  have hx := B.exec
  have hb := B.bytes
  have hr := B.returns
  have hts := atoms_spec (ws := wsX9_firstFailingDay) B.pre
  have hown : s.vm.findClass RX9 = some m.cls := findClass_of_methodNamed B.named
  subst hsz
  have hD := hD0.self (sz := s.heap.size)
  have hZ := ZX.up hP hZ0
  generalize hAe : va_A [(p0, .inr (6, [v1, v2, v3, v4, .ref p5, v6, .ref p7, v8, v9, v10, v11])), (p5, .inr (2, [v12, v13, v14, v15, v16, v17, v18, .int 0, v19, v20, v21, v22, v23, v24])), (p7, .inr (0, [v25, v26, v27, v28, .int 0, v29, v30, v31, v32, v33, v34, v35]))] s.heap.size = A at hD hZ ⊢
  have hA : ∀ q : Nat, s.heap.size ≤ q → A q := fun q h => by rw [← hAe]; exact Or.inr h
  have hS : va_S A s.heap s.heap [] := va_S.rf
  have hP : va_P G vwCl [(p0, .inr (6, [v1, v2, v3, v4, .ref p5, v6, .ref p7, v8, v9, v10, v11])), (p5, .inr (2, [v12, v13, v14, v15, v16, v17, v18, .int 0, v19, v20, v21, v22, v23, v24])), (p7, .inr (0, [v25, v26, v27, v28, .int 0, v29, v30, v31, v32, v33, v34, v35]))] s.heap := hP
  have hl := lv_entry ([.ref p0, .int 0]) (n := 5) (Nat.le_of_ble_eq_true rfl)
  rw [lg_entry_eq]
  generalize (lg_sl ([.ref p0, .int 0]) ++ List.replicate (5 - (lg_sl ([.ref p0, .int 0])).length) Slot.unset).toArray = ls at hl ⊢
  have hl : lv_has ls 5 [(0, .ref p0), (1, .int 0)] := hl
  have h0w := hts (.fieldLink RX9 23 "RopeTown" "plan" "LRopeTown$Plan;") (by decide +kernel)
  have h1w : ∀ w ∈ wsX90, w ∈ wsX9_firstFailingDay := by decide +kernel
  have h2w := hts (.initialized RX3) (by decide +kernel)
  have h3w := hts (.instanceMethod yX3_firstStones) (by decide +kernel)
  have h4w := hts (.selects RX3 yX3_firstStones yX3_firstStones) (by decide +kernel)
  have h5w := hts (.fieldLink RX9 42 "RopeTown" "book" "LRopeTown$Book;") (by decide +kernel)
  have h6w : ∀ w ∈ wsX10, w ∈ wsX9_firstFailingDay := by decide +kernel
  refine lv_aload_n hx hb dX9_firstFailingDay_0 rfl (lv_at hl 0 rfl) ?_
  refine va_get (D := G) (ci := 6) (v := .ref p5) (C := RX9) (T := TX9) (N := 11) (ref := RX9) hx hb hts h1w hown hX.1 hP 0 rfl rfl 4 (by decide) h0w (fun _ h9 => h9) rfl dX9_firstFailingDay_1 ?_
  refine lv_iload_n hx hb dX9_firstFailingDay_4 rfl (lv_at hl 1 rfl) ?_
  refine cz_i (wr := [(p0, .inr (6, [v1, v2, v3, v4, .ref p5, v6, .ref p7, v8, v9, v10, v11])), (p7, .inr (0, [v25, v26, v27, v28, .int 0, v29, v30, v31, v32, v33, v34, v35]))]) (va_runVN (As := [.int 0]) (rest := []) ⟨hx, hb, hml, hown, hts⟩ (cX3_firstStones_0 l G k p5 v12 v13 v14 v15 v16 v17 v18 v19 v20 v21 v22 v23 v24 s.heap.size) ⟨va_cnB 1 hts gX9_firstFailingDay_X3_firstStones_n289 rfl rfl rfl (nm_67 hX.2.2.1) h2w (by decide +kernel) ⟨Nat.le_of_ble_eq_true rfl, Nat.le_of_ble_eq_true rfl⟩, h3w, h4w⟩ (cz_preV hZ hS hX hP hD [1] rfl rfl (ci := 2) (q0 := 1) rfl rfl) rfl rfl hl.1 rfl (lv_room (Nat.le_of_ble_eq_true rfl)) dX9_firstFailingDay_5 ⟨Nat.le_of_ble_eq_true rfl, Nat.le_of_ble_eq_true rfl⟩) hP hD hS hA [1] [0, 2] rfl rfl (by decide) (by decide) (fun r u H locs hp hP hD hS => ?_)
  have hp : r = 0 := hp
  subst hp
  refine lv_istore_n (lv' := [(2, .int 0), (0, .ref p0), (1, .int 0)]) hx hb dX9_firstFailingDay_8 rfl hl (by decide) rfl (fun ls hl => ?_)
  refine lv_iconst (v := 0) hx hb dX9_firstFailingDay_9 (by decide +kernel) ?_
  refine lv_istore_n (lv' := [(3, .int 0), (2, .int 0), (0, .ref p0), (1, .int 0)]) hx hb dX9_firstFailingDay_10 rfl hl (by decide) rfl (fun ls hl => ?_)
  refine lv_iload_n hx hb dX9_firstFailingDay_11 rfl (lv_at hl 0 rfl) ?_
  refine lv_aload_n hx hb dX9_firstFailingDay_12 rfl (lv_at hl 2 rfl) ?_
  refine va_get (D := G) (ci := 6) (v := .ref p7) (C := RX9) (T := TX9) (N := 11) (ref := RX9) hx hb hts h1w hown hX.1 hP 0 rfl rfl 6 (by decide) h5w (fun _ h9 => h9) rfl dX9_firstFailingDay_13 ?_
  refine va_getN (D := G) (ci := 0) (v := .int 0) (C := RX1) (T := TX1) (N := 12) (ref := RX1) (host := RX9) hx hb hts h6w hown hX.1 hP 1 rfl rfl 4 (by decide) (nf_41 hX.2.2.1) (fun _ h9 => h9) rfl dX9_firstFailingDay_16 ?_
  refine lv_icmp_ge (tgt := 86) hx hb dX9_firstFailingDay_19 (by decide) (fun _ => ?_) (fun q => absurd (by decide +kernel) (q))
  refine lv_iconst (v := (-1)) hx hb dX9_firstFailingDay_86 (by decide +kernel) ?_
  have hP9 := hP.sub (ws' := [(p0, .inr (6, [v1, v2, v3, v4, .ref p5, v6, .ref p7, v8, v9, v10, v11])), (p7, .inr (0, [v25, v26, v27, v28, .int 0, v29, v30, v31, v32, v33, v34, v35])), (p5, .inr (2, [v12, v13, v14, v15, v16, v17, v18, .int 0, v19, v20, v21, v22, v23, v24]))]) [0, 1, 2] rfl
  have hD9 := hD.sub (ws' := [(p0, .inr (6, [v1, v2, v3, v4, .ref p5, v6, .ref p7, v8, v9, v10, v11])), (p7, .inr (0, [v25, v26, v27, v28, .int 0, v29, v30, v31, v32, v33, v34, v35])), (p5, .inr (2, [v12, v13, v14, v15, v16, v17, v18, .int 0, v19, v20, v21, v22, v23, v24]))]) [0, 1, 2] (by decide) rfl
  exact W.iret (v := (-1)) hx hb hr (fun t ht hW => ⟨⟨(-1), (), rfl, rfl, by rw [ht]; exact hP9, hD9⟩, hS.F ht⟩) hS.2.2 dX9_firstFailingDay_87

