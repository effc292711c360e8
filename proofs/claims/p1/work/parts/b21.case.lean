set_option maxHeartbeats 4000000 in
set_option maxRecDepth 100000 in
theorem law_8_4 {p : Program} {l : Launch} {e : Env} {s : State} {m : MethodId} {below : List Frame} {meth : Method} {c : Code} {G : va_G} {k : Nat → ClassId} {b : Nat} {xs : Nat → Int32} {H : Heap} {locs : List Loc} {ls : Array Slot} {b0 : Nat} {n0 : Nat} {o : Nat} {v3 : Value} {v4 : Value} {v5 : Value} {v6 : Value} {b50 : Nat} {v8 : Value} {b51 : Nat} {v10 : Value} {v11 : Value} {v12 : Value} {v13 : Value} {v14 : Value} {v15 : Value} {v16 : Value} {v17 : Value} {v18 : Value} {v19 : Value} {v20 : Value} {v21 : Value} {v22 : Value} {v23 : Value} {b30 : Nat} {v25 : Value} {v26 : Value} {v27 : Value} {v28 : Value} {v29 : Value} {v30 : Value} {v31 : Value} {v32 : Value} {v33 : Value} {v34 : Value} {v35 : Value} {v36 : Value} {v37 : Value} {v38 : Value} {v39 : Value} {v40 : Value} {n36 : Nat} {v42 : Value} {v43 : Value} {v44 : Value} {v45 : Value} {v46 : Value} {v47 : Value} {v48 : Value} {n8 : Nat} {v50 : Value} {v51 : Value} {v52 : Value} {v53 : Value} {v54 : Value} {v55 : Value} {v56 : Value} {v57 : Value} {v58 : Value} {v59 : Value} {v60 : Value} {v61 : Value} {v62 : Value} {v63 : Value} {v64 : Value} {v65 : Value} {v66 : Value} {v67 : Value} {v68 : Value} {v69 : Value} {v70 : Value} {v71 : Value} {v72 : Value} {v73 : Value} {v74 : Value} {v75 : Value} {v76 : Value} {v77 : Value} {v78 : Value} {v79 : Value} {v80 : Value} {v81 : Value} {v82 : Value} {v83 : Value} {v84 : Value} {v85 : Value} {v86 : Value} {v87 : Value} {v88 : Value} {v89 : Value} {v90 : Value} {v91 : Value} {v92 : Value} {v93 : Value} {v94 : Value} {v95 : Value} {v96 : Value} {v97 : Value} {v98 : Value} {v99 : Value} {v100 : Value} {v101 : Value} {v102 : Value} {v103 : Value} {v104 : Value} {v105 : Value} {v106 : Value} {v107 : Value} (C0 : lw_At p s m meth c b 6 xs) (htr : l.stackTraces = false) (hX : KX G k s) (hT9 : TX s) (hZ : ZX k (fun q : Nat => s.heap.size ≤ q) s s.heap) (e1 : xs 1 = 0) (e2 : xs 2 = 1) (hP : va_P G vwCl [(b0, .inr (6, [v3, v4, v5, v6, .ref b50, v8, .ref b51, v10, v11, v12, v13])), (b51, .inr (0, [.int 268435455, v14, v15, v16, v17, v18, v19, v20, v21, v22, v23, .ref b30])), (b50, .inr (2, [.int 1, v25, v26, v27, v28, v29, v30, v31, v32, v33, v34, v35, v36, v37])), (b30, .inl (k 0, 3, .inl (fun _ => 0))), (n0, .inr (7, (v38 :: v39 :: v40 :: .ref n36 :: v42 :: v43 :: v44 :: v45 :: v46 :: v47 :: v48 :: .ref n8 :: v50 :: v51 :: v52 :: v53 :: v54 :: v55 :: v56 :: v57 :: v58 :: v59 :: v60 :: v61 :: v62 :: v63 :: v64 :: v65 :: .int 0 :: v66 :: v67 :: v68 :: v69 :: v70 :: v71 :: v72 :: v73 :: v74 :: v75 :: v76 :: v77 :: v78 :: v79 :: v80 :: v81 :: v82 :: v83 :: v84 :: v85 :: v86 :: v87 :: v88 :: v89 :: v90 :: v91 :: v92 :: v93 :: v94 :: v95 :: v96 :: v97 :: v98 :: v99 :: v100 :: v101 :: v102 :: v103 :: v104 :: v105 :: v106 :: v107 :: []))), (n36, .inl (k 0, 14, .inl (upd (upd (upd (upd (upd (upd (upd (fun _ => 0) (0 : Int32).toNatClampNeg 1) (1 : Int32).toNatClampNeg 0) (2 : Int32).toNatClampNeg 99) (3 : Int32).toNatClampNeg 0) (4 : Int32).toNatClampNeg 1) (5 : Int32).toNatClampNeg 20) (6 : Int32).toNatClampNeg 0))), (n8, .inl (k 0, 3, .inl (fun _ => 0)))] H) (hD : va_D (fun q : Nat => s.heap.size ≤ q) [(b0, .inr (6, [v3, v4, v5, v6, .ref b50, v8, .ref b51, v10, v11, v12, v13])), (b51, .inr (0, [.int 268435455, v14, v15, v16, v17, v18, v19, v20, v21, v22, v23, .ref b30])), (b50, .inr (2, [.int 1, v25, v26, v27, v28, v29, v30, v31, v32, v33, v34, v35, v36, v37])), (b30, .inl (k 0, 3, .inl (fun _ => 0))), (n0, .inr (7, (v38 :: v39 :: v40 :: .ref n36 :: v42 :: v43 :: v44 :: v45 :: v46 :: v47 :: v48 :: .ref n8 :: v50 :: v51 :: v52 :: v53 :: v54 :: v55 :: v56 :: v57 :: v58 :: v59 :: v60 :: v61 :: v62 :: v63 :: v64 :: v65 :: .int 0 :: v66 :: v67 :: v68 :: v69 :: v70 :: v71 :: v72 :: v73 :: v74 :: v75 :: v76 :: v77 :: v78 :: v79 :: v80 :: v81 :: v82 :: v83 :: v84 :: v85 :: v86 :: v87 :: v88 :: v89 :: v90 :: v91 :: v92 :: v93 :: v94 :: v95 :: v96 :: v97 :: v98 :: v99 :: v100 :: v101 :: v102 :: v103 :: v104 :: v105 :: v106 :: v107 :: []))), (n36, .inl (k 0, 14, .inl (upd (upd (upd (upd (upd (upd (upd (fun _ => 0) (0 : Int32).toNatClampNeg 1) (1 : Int32).toNatClampNeg 0) (2 : Int32).toNatClampNeg 99) (3 : Int32).toNatClampNeg 0) (4 : Int32).toNatClampNeg 1) (5 : Int32).toNatClampNeg 20) (6 : Int32).toNatClampNeg 0))), (n8, .inl (k 0, 3, .inl (fun _ => 0)))]) (hS : va_S (fun q : Nat => s.heap.size ≤ q) s.heap H locs) (hl : lv_has ls 7 [(4, .int 0), (0, .ref b), (1, .ref b0), (2, .ref n0), (3, .ref o)]) : W p l e room_1 s m #[Value.ref b] below meth c H locs 92 31361 (lw_Z below #[Value.ref b] s) (F0 m 536 ls []) := by
  obtain ⟨hx, hb, hr, hml, hown, hts0, hXs, hbl, hlocks, hgv⟩ := C0
  have hts := fun w h => hts0 w (wsL_law_in w h)
  obtain ⟨A, hAe⟩ : ∃ z : Nat → Prop, z = (fun q : Nat => s.heap.size ≤ q) := ⟨_, rfl⟩
  have hA : ∀ q : Nat, s.heap.size ≤ q → A q := fun q h => by rw [hAe]; exact h
  have hbA : ¬ A b := by rw [hAe]; exact Nat.not_le.mpr hbl
  have hfA : ∀ {locs : List Loc}, (∀ q ∈ locs, A q.base) → ∀ q ∈ locs, s.heap.size ≤ q.base := fun h q hq => by have h9 := h q hq; rw [hAe] at h9; exact h9
  rw [← hAe] at hZ hD hS
  refine lv_aload_n hx hb dL_law_536 rfl (lv_at hl 2 rfl) ?_
  refine lv_aload_n hx hb dL_law_537 rfl (lv_at hl 1 rfl) ?_
  refine lv_iload hx hb dL_law_538 (lv_at hl 0 rfl) ?_
  refine lv_iconst (v := 1) hx hb dL_law_540 (by decide +kernel) ?_
  refine lv_iadd hx hb dL_law_541 ?_
  refine cz_ti (w := 1) (by decide +kernel) ?_
  refine va_sld hx hb hXs hbl hbA hS (by unfold vp_in; decide +kernel) dL_law_542 ?_
  refine cz_ti (w := 0) (show xs ((1 : Int32).toNatClampNeg) = 0 from e1) ?_
  refine lv_aload_n hx hb dL_law_543 rfl (lv_at hl 1 rfl) ?_
  refine lv_iload hx hb dL_law_544 (lv_at hl 0 rfl) ?_
  refine lv_iconst (v := 2) hx hb dL_law_546 (by decide +kernel) ?_
  refine lv_iadd hx hb dL_law_547 ?_
  refine cz_ti (w := 2) (by decide +kernel) ?_
  refine va_sld hx hb hXs hbl hbA hS (by unfold vp_in; decide +kernel) dL_law_548 ?_
  refine cz_ti (w := 1) (show xs ((2 : Int32).toNatClampNeg) = 1 from e2) ?_
  refine cz_i (wr := [(n0, .inr (7, (v38 :: v39 :: v40 :: .ref n36 :: v42 :: v43 :: v44 :: v45 :: v46 :: v47 :: v48 :: .ref n8 :: v50 :: v51 :: v52 :: v53 :: v54 :: v55 :: v56 :: v57 :: v58 :: v59 :: v60 :: v61 :: v62 :: v63 :: v64 :: v65 :: .int 0 :: v66 :: v67 :: v68 :: v69 :: v70 :: v71 :: v72 :: v73 :: v74 :: v75 :: v76 :: v77 :: v78 :: v79 :: v80 :: v81 :: v82 :: v83 :: v84 :: v85 :: v86 :: v87 :: v88 :: v89 :: v90 :: v91 :: v92 :: v93 :: v94 :: v95 :: v96 :: v97 :: v98 :: v99 :: v100 :: v101 :: v102 :: v103 :: v104 :: v105 :: v106 :: v107 :: []))), (n36, .inl (k 0, 14, .inl (upd (upd (upd (upd (upd (upd (upd (fun _ => 0) (0 : Int32).toNatClampNeg 1) (1 : Int32).toNatClampNeg 0) (2 : Int32).toNatClampNeg 99) (3 : Int32).toNatClampNeg 0) (4 : Int32).toNatClampNeg 1) (5 : Int32).toNatClampNeg 20) (6 : Int32).toNatClampNeg 0))), (n8, .inl (k 0, 3, .inl (fun _ => 0)))]) (va_runV (As := [.int 0, .int 1]) (rest := []) ⟨hx, hb, hml, hown, hts⟩ (cX9_ride_4 l G k b0 v3 v4 v5 v6 b50 v8 b51 v10 v11 v12 v13 v14 v15 v16 v17 v18 v19 v20 v21 v22 v23 b30 v25 v26 v27 v28 v29 v30 v31 v32 v33 v34 v35 v36 v37 H.size) (cwV 2 hts gL_law_X9_ride rfl rfl rfl (by decide +kernel) ⟨Nat.le_of_ble_eq_true rfl, Nat.le_of_ble_eq_true rfl⟩) (cz_preV hZ hS hX hP hD [0, 1, 2, 3] rfl rfl (ci := 6) (q0 := 0) rfl rfl) rfl rfl hl.1 rfl (lv_room (Nat.le_of_ble_eq_true rfl)) dL_law_549 ⟨Nat.le_of_ble_eq_true rfl, Nat.le_of_ble_eq_true rfl⟩) hP hD hS hA [0, 1, 2, 3] [4, 5, 6] rfl rfl (by decide) (by decide) (fun r u H locs hp hP hD hS => ?_)
  have hp : r = 3 := hp
  subst hp
  refine lv_aload_n hx hb dL_law_552 rfl (lv_at hl 3 rfl) ?_
  refine lv_aload_n hx hb dL_law_553 rfl (lv_at hl 1 rfl) ?_
  refine lv_iload hx hb dL_law_554 (lv_at hl 0 rfl) ?_
  refine lv_iconst (v := 1) hx hb dL_law_556 (by decide +kernel) ?_
  refine lv_iadd hx hb dL_law_557 ?_
  refine cz_ti (w := 1) (by decide +kernel) ?_
  refine va_sld hx hb hXs hbl hbA hS (by unfold vp_in; decide +kernel) dL_law_558 ?_
  refine cz_ti (w := 0) (show xs ((1 : Int32).toNatClampNeg) = 0 from e1) ?_
  refine lv_aload_n hx hb dL_law_559 rfl (lv_at hl 1 rfl) ?_
  refine lv_iload hx hb dL_law_560 (lv_at hl 0 rfl) ?_
  refine lv_iconst (v := 2) hx hb dL_law_562 (by decide +kernel) ?_
  refine lv_iadd hx hb dL_law_563 ?_
  refine cz_ti (w := 2) (by decide +kernel) ?_
  refine va_sld hx hb hXs hbl hbA hS (by unfold vp_in; decide +kernel) dL_law_564 ?_
  refine cz_ti (w := 1) (show xs ((2 : Int32).toNatClampNeg) = 1 from e2) ?_
  refine cz_i (wr := [(b50, .inr (2, [.int 1, v25, v26, v27, v28, v29, v30, v31, v32, v33, v34, v35, v36, v37])), (b0, .inr (6, [v3, v4, v5, v6, .ref b50, v8, .ref b51, v10, v11, v12, v13])), (b51, .inr (0, [.int 268435455, v14, v15, v16, v17, v18, v19, v20, v21, v22, v23, .ref b30])), (b30, .inl (k 0, 3, .inl (upd (fun _ => 0) (1 : Int32).toNatClampNeg 1)))]) (va_runV (As := [.int 0, .int 1]) (rest := [.int 3]) ⟨hx, hb, hml, hown, hts⟩ (cX10_ride_4 l G k n0 v38 v39 v40 n36 v42 v43 v44 v45 v46 v47 v48 n8 v50 v51 v52 v53 v54 v55 v56 v57 v58 v59 v60 v61 v62 v63 v64 v65 v66 v67 v68 v69 v70 v71 v72 v73 v74 v75 v76 v77 v78 v79 v80 v81 v82 v83 v84 v85 v86 v87 v88 v89 v90 v91 v92 v93 v94 v95 v96 v97 v98 v99 v100 v101 v102 v103 v104 v105 v106 v107 H.size) (cwV 2 hts gL_law_X10_ride rfl rfl rfl (by decide +kernel) ⟨Nat.le_of_ble_eq_true rfl, Nat.le_of_ble_eq_true rfl⟩) (cz_preV hZ hS hX hP hD [0, 1, 2] rfl rfl (ci := 7) (q0 := 0) rfl rfl) rfl rfl hl.1 rfl (lv_room (Nat.le_of_ble_eq_true rfl)) dL_law_565 ⟨Nat.le_of_ble_eq_true rfl, Nat.le_of_ble_eq_true rfl⟩) hP hD hS hA [0, 1, 2] [3, 4, 5, 6] rfl rfl (by decide) (by decide) (fun r u H locs hp hP hD hS => ?_)
  have hp : r = 3 := hp
  subst hp
  refine lv_icmp_eq (tgt := 1002) hx hb dL_law_568 (by decide) (fun _ => ?_) (fun q => absurd (by decide +kernel) (q))
  refine lv_iinc (v := 6) (lv' := [(4, .int 6), (0, .ref b), (1, .ref b0), (2, .ref n0), (3, .ref o)]) hx hb dL_law_1002 hl (k := 0) rfl (by decide +kernel) (by decide) rfl (fun ls hl => ?_)
  refine lv_goto (tgt := 23) hx hb dL_law_1005 (by decide) ?_
  refine lv_iload hx hb dL_law_23 (lv_at hl 0 rfl) ?_
  refine lv_aload_n hx hb dL_law_25 rfl (lv_at hl 1 rfl) ?_
  refine va_slen hx hb hXs hbl hbA hS dL_law_26 ?_
  refine cz_ti (w := 6) (by decide +kernel) ?_
  refine lv_bipush (v := 6) hx hb dL_law_27 (by decide +kernel) ?_
  refine lv_isub hx hb dL_law_29 ?_
  refine cz_ti (w := 0) (by decide +kernel) ?_
  refine lv_icmp_gt (tgt := 1008) hx hb dL_law_30 (by decide) (fun _ => ?_) (fun q => absurd (by decide +kernel) (q))
  refine lv_iconst (v := 1) hx hb dL_law_1008 (by decide +kernel) ?_
  refine va_forget (hfA hS.2.2) ?_
  refine W.widen (k := 600002) (n := 7302232) (Nat.le_of_ble_eq_true rfl) (Nat.le_of_ble_eq_true rfl) ?_
  exact lw_ret hx hb hr hlocks dL_law_1009

set_option maxHeartbeats 4000000 in
set_option maxRecDepth 100000 in
theorem law_8_5 {p : Program} {l : Launch} {e : Env} {s : State} {m : MethodId} {below : List Frame} {meth : Method} {c : Code} {G : va_G} {k : Nat → ClassId} {b : Nat} {xs : Nat → Int32} {H : Heap} {locs : List Loc} {ls : Array Slot} {b0 : Nat} {n0 : Nat} {o : Nat} {v3 : Value} {v4 : Value} {v5 : Value} {v6 : Value} {b50 : Nat} {v8 : Value} {b51 : Nat} {v10 : Value} {v11 : Value} {v12 : Value} {v13 : Value} {v14 : Value} {v15 : Value} {v16 : Value} {v17 : Value} {v18 : Value} {v19 : Value} {v20 : Value} {v21 : Value} {v22 : Value} {v23 : Value} {b30 : Nat} {v25 : Value} {v26 : Value} {v27 : Value} {v28 : Value} {v29 : Value} {v30 : Value} {v31 : Value} {v32 : Value} {v33 : Value} {v34 : Value} {v35 : Value} {v36 : Value} {v37 : Value} {v38 : Value} {v39 : Value} {v40 : Value} {n36 : Nat} {v42 : Value} {v43 : Value} {v44 : Value} {v45 : Value} {v46 : Value} {v47 : Value} {v48 : Value} {n8 : Nat} {v50 : Value} {v51 : Value} {v52 : Value} {v53 : Value} {v54 : Value} {v55 : Value} {v56 : Value} {v57 : Value} {v58 : Value} {v59 : Value} {v60 : Value} {v61 : Value} {v62 : Value} {v63 : Value} {v64 : Value} {v65 : Value} {v66 : Value} {v67 : Value} {v68 : Value} {v69 : Value} {v70 : Value} {v71 : Value} {v72 : Value} {v73 : Value} {v74 : Value} {v75 : Value} {v76 : Value} {v77 : Value} {v78 : Value} {v79 : Value} {v80 : Value} {v81 : Value} {v82 : Value} {v83 : Value} {v84 : Value} {v85 : Value} {v86 : Value} {v87 : Value} {v88 : Value} {v89 : Value} {v90 : Value} {v91 : Value} {v92 : Value} {v93 : Value} {v94 : Value} {v95 : Value} {v96 : Value} {v97 : Value} {v98 : Value} {v99 : Value} {v100 : Value} {v101 : Value} {v102 : Value} {v103 : Value} {v104 : Value} {v105 : Value} {v106 : Value} {v107 : Value} (C0 : lw_At p s m meth c b 6 xs) (htr : l.stackTraces = false) (hX : KX G k s) (hT9 : TX s) (hZ : ZX k (fun q : Nat => s.heap.size ≤ q) s s.heap) (e1 : xs 1 = 0) (e2 : xs 2 = 2) (hP : va_P G vwCl [(b0, .inr (6, [v3, v4, v5, v6, .ref b50, v8, .ref b51, v10, v11, v12, v13])), (b51, .inr (0, [.int 268435455, v14, v15, v16, v17, v18, v19, v20, v21, v22, v23, .ref b30])), (b50, .inr (2, [.int 1, v25, v26, v27, v28, v29, v30, v31, v32, v33, v34, v35, v36, v37])), (b30, .inl (k 0, 3, .inl (fun _ => 0))), (n0, .inr (7, (v38 :: v39 :: v40 :: .ref n36 :: v42 :: v43 :: v44 :: v45 :: v46 :: v47 :: v48 :: .ref n8 :: v50 :: v51 :: v52 :: v53 :: v54 :: v55 :: v56 :: v57 :: v58 :: v59 :: v60 :: v61 :: v62 :: v63 :: v64 :: v65 :: .int 0 :: v66 :: v67 :: v68 :: v69 :: v70 :: v71 :: v72 :: v73 :: v74 :: v75 :: v76 :: v77 :: v78 :: v79 :: v80 :: v81 :: v82 :: v83 :: v84 :: v85 :: v86 :: v87 :: v88 :: v89 :: v90 :: v91 :: v92 :: v93 :: v94 :: v95 :: v96 :: v97 :: v98 :: v99 :: v100 :: v101 :: v102 :: v103 :: v104 :: v105 :: v106 :: v107 :: []))), (n36, .inl (k 0, 14, .inl (upd (upd (upd (upd (upd (upd (upd (fun _ => 0) (0 : Int32).toNatClampNeg 1) (1 : Int32).toNatClampNeg 0) (2 : Int32).toNatClampNeg 99) (3 : Int32).toNatClampNeg 0) (4 : Int32).toNatClampNeg 1) (5 : Int32).toNatClampNeg 20) (6 : Int32).toNatClampNeg 0))), (n8, .inl (k 0, 3, .inl (fun _ => 0)))] H) (hD : va_D (fun q : Nat => s.heap.size ≤ q) [(b0, .inr (6, [v3, v4, v5, v6, .ref b50, v8, .ref b51, v10, v11, v12, v13])), (b51, .inr (0, [.int 268435455, v14, v15, v16, v17, v18, v19, v20, v21, v22, v23, .ref b30])), (b50, .inr (2, [.int 1, v25, v26, v27, v28, v29, v30, v31, v32, v33, v34, v35, v36, v37])), (b30, .inl (k 0, 3, .inl (fun _ => 0))), (n0, .inr (7, (v38 :: v39 :: v40 :: .ref n36 :: v42 :: v43 :: v44 :: v45 :: v46 :: v47 :: v48 :: .ref n8 :: v50 :: v51 :: v52 :: v53 :: v54 :: v55 :: v56 :: v57 :: v58 :: v59 :: v60 :: v61 :: v62 :: v63 :: v64 :: v65 :: .int 0 :: v66 :: v67 :: v68 :: v69 :: v70 :: v71 :: v72 :: v73 :: v74 :: v75 :: v76 :: v77 :: v78 :: v79 :: v80 :: v81 :: v82 :: v83 :: v84 :: v85 :: v86 :: v87 :: v88 :: v89 :: v90 :: v91 :: v92 :: v93 :: v94 :: v95 :: v96 :: v97 :: v98 :: v99 :: v100 :: v101 :: v102 :: v103 :: v104 :: v105 :: v106 :: v107 :: []))), (n36, .inl (k 0, 14, .inl (upd (upd (upd (upd (upd (upd (upd (fun _ => 0) (0 : Int32).toNatClampNeg 1) (1 : Int32).toNatClampNeg 0) (2 : Int32).toNatClampNeg 99) (3 : Int32).toNatClampNeg 0) (4 : Int32).toNatClampNeg 1) (5 : Int32).toNatClampNeg 20) (6 : Int32).toNatClampNeg 0))), (n8, .inl (k 0, 3, .inl (fun _ => 0)))]) (hS : va_S (fun q : Nat => s.heap.size ≤ q) s.heap H locs) (hl : lv_has ls 7 [(4, .int 0), (0, .ref b), (1, .ref b0), (2, .ref n0), (3, .ref o)]) : W p l e room_1 s m #[Value.ref b] below meth c H locs 92 31361 (lw_Z below #[Value.ref b] s) (F0 m 536 ls []) := by
  obtain ⟨hx, hb, hr, hml, hown, hts0, hXs, hbl, hlocks, hgv⟩ := C0
  have hts := fun w h => hts0 w (wsL_law_in w h)
  obtain ⟨A, hAe⟩ : ∃ z : Nat → Prop, z = (fun q : Nat => s.heap.size ≤ q) := ⟨_, rfl⟩
  have hA : ∀ q : Nat, s.heap.size ≤ q → A q := fun q h => by rw [hAe]; exact h
  have hbA : ¬ A b := by rw [hAe]; exact Nat.not_le.mpr hbl
  have hfA : ∀ {locs : List Loc}, (∀ q ∈ locs, A q.base) → ∀ q ∈ locs, s.heap.size ≤ q.base := fun h q hq => by have h9 := h q hq; rw [hAe] at h9; exact h9
  rw [← hAe] at hZ hD hS
  refine lv_aload_n hx hb dL_law_536 rfl (lv_at hl 2 rfl) ?_
  refine lv_aload_n hx hb dL_law_537 rfl (lv_at hl 1 rfl) ?_
  refine lv_iload hx hb dL_law_538 (lv_at hl 0 rfl) ?_
  refine lv_iconst (v := 1) hx hb dL_law_540 (by decide +kernel) ?_
  refine lv_iadd hx hb dL_law_541 ?_
  refine cz_ti (w := 1) (by decide +kernel) ?_
  refine va_sld hx hb hXs hbl hbA hS (by unfold vp_in; decide +kernel) dL_law_542 ?_
  refine cz_ti (w := 0) (show xs ((1 : Int32).toNatClampNeg) = 0 from e1) ?_
  refine lv_aload_n hx hb dL_law_543 rfl (lv_at hl 1 rfl) ?_
  refine lv_iload hx hb dL_law_544 (lv_at hl 0 rfl) ?_
  refine lv_iconst (v := 2) hx hb dL_law_546 (by decide +kernel) ?_
  refine lv_iadd hx hb dL_law_547 ?_
  refine cz_ti (w := 2) (by decide +kernel) ?_
  refine va_sld hx hb hXs hbl hbA hS (by unfold vp_in; decide +kernel) dL_law_548 ?_
  refine cz_ti (w := 2) (show xs ((2 : Int32).toNatClampNeg) = 2 from e2) ?_
  refine cz_i (wr := [(n0, .inr (7, (v38 :: v39 :: v40 :: .ref n36 :: v42 :: v43 :: v44 :: v45 :: v46 :: v47 :: v48 :: .ref n8 :: v50 :: v51 :: v52 :: v53 :: v54 :: v55 :: v56 :: v57 :: v58 :: v59 :: v60 :: v61 :: v62 :: v63 :: v64 :: v65 :: .int 0 :: v66 :: v67 :: v68 :: v69 :: v70 :: v71 :: v72 :: v73 :: v74 :: v75 :: v76 :: v77 :: v78 :: v79 :: v80 :: v81 :: v82 :: v83 :: v84 :: v85 :: v86 :: v87 :: v88 :: v89 :: v90 :: v91 :: v92 :: v93 :: v94 :: v95 :: v96 :: v97 :: v98 :: v99 :: v100 :: v101 :: v102 :: v103 :: v104 :: v105 :: v106 :: v107 :: []))), (n36, .inl (k 0, 14, .inl (upd (upd (upd (upd (upd (upd (upd (fun _ => 0) (0 : Int32).toNatClampNeg 1) (1 : Int32).toNatClampNeg 0) (2 : Int32).toNatClampNeg 99) (3 : Int32).toNatClampNeg 0) (4 : Int32).toNatClampNeg 1) (5 : Int32).toNatClampNeg 20) (6 : Int32).toNatClampNeg 0))), (n8, .inl (k 0, 3, .inl (fun _ => 0)))]) (va_runV (As := [.int 0, .int 2]) (rest := []) ⟨hx, hb, hml, hown, hts⟩ (cX9_ride_5 l G k b0 v3 v4 v5 v6 b50 v8 b51 v10 v11 v12 v13 v14 v15 v16 v17 v18 v19 v20 v21 v22 v23 b30 v25 v26 v27 v28 v29 v30 v31 v32 v33 v34 v35 v36 v37 H.size) (cwV 2 hts gL_law_X9_ride rfl rfl rfl (by decide +kernel) ⟨Nat.le_of_ble_eq_true rfl, Nat.le_of_ble_eq_true rfl⟩) (cz_preV hZ hS hX hP hD [0, 1, 2, 3] rfl rfl (ci := 6) (q0 := 0) rfl rfl) rfl rfl hl.1 rfl (lv_room (Nat.le_of_ble_eq_true rfl)) dL_law_549 ⟨Nat.le_of_ble_eq_true rfl, Nat.le_of_ble_eq_true rfl⟩) hP hD hS hA [0, 1, 2, 3] [4, 5, 6] rfl rfl (by decide) (by decide) (fun r u H locs hp hP hD hS => ?_)
  have hp : r = 3 := hp
  subst hp
  refine lv_aload_n hx hb dL_law_552 rfl (lv_at hl 3 rfl) ?_
  refine lv_aload_n hx hb dL_law_553 rfl (lv_at hl 1 rfl) ?_
  refine lv_iload hx hb dL_law_554 (lv_at hl 0 rfl) ?_
  refine lv_iconst (v := 1) hx hb dL_law_556 (by decide +kernel) ?_
  refine lv_iadd hx hb dL_law_557 ?_
  refine cz_ti (w := 1) (by decide +kernel) ?_
  refine va_sld hx hb hXs hbl hbA hS (by unfold vp_in; decide +kernel) dL_law_558 ?_
  refine cz_ti (w := 0) (show xs ((1 : Int32).toNatClampNeg) = 0 from e1) ?_
  refine lv_aload_n hx hb dL_law_559 rfl (lv_at hl 1 rfl) ?_
  refine lv_iload hx hb dL_law_560 (lv_at hl 0 rfl) ?_
  refine lv_iconst (v := 2) hx hb dL_law_562 (by decide +kernel) ?_
  refine lv_iadd hx hb dL_law_563 ?_
  refine cz_ti (w := 2) (by decide +kernel) ?_
  refine va_sld hx hb hXs hbl hbA hS (by unfold vp_in; decide +kernel) dL_law_564 ?_
  refine cz_ti (w := 2) (show xs ((2 : Int32).toNatClampNeg) = 2 from e2) ?_
  refine cz_i (wr := [(b50, .inr (2, [.int 1, v25, v26, v27, v28, v29, v30, v31, v32, v33, v34, v35, v36, v37])), (b0, .inr (6, [v3, v4, v5, v6, .ref b50, v8, .ref b51, v10, v11, v12, v13])), (b51, .inr (0, [.int 268435455, v14, v15, v16, v17, v18, v19, v20, v21, v22, v23, .ref b30])), (b30, .inl (k 0, 3, .inl (upd (fun _ => 0) (1 : Int32).toNatClampNeg 1)))]) (va_runV (As := [.int 0, .int 2]) (rest := [.int 3]) ⟨hx, hb, hml, hown, hts⟩ (cX10_ride_5 l G k n0 v38 v39 v40 n36 v42 v43 v44 v45 v46 v47 v48 n8 v50 v51 v52 v53 v54 v55 v56 v57 v58 v59 v60 v61 v62 v63 v64 v65 v66 v67 v68 v69 v70 v71 v72 v73 v74 v75 v76 v77 v78 v79 v80 v81 v82 v83 v84 v85 v86 v87 v88 v89 v90 v91 v92 v93 v94 v95 v96 v97 v98 v99 v100 v101 v102 v103 v104 v105 v106 v107 H.size) (cwV 2 hts gL_law_X10_ride rfl rfl rfl (by decide +kernel) ⟨Nat.le_of_ble_eq_true rfl, Nat.le_of_ble_eq_true rfl⟩) (cz_preV hZ hS hX hP hD [0, 1, 2] rfl rfl (ci := 7) (q0 := 0) rfl rfl) rfl rfl hl.1 rfl (lv_room (Nat.le_of_ble_eq_true rfl)) dL_law_565 ⟨Nat.le_of_ble_eq_true rfl, Nat.le_of_ble_eq_true rfl⟩) hP hD hS hA [0, 1, 2] [3, 4, 5, 6] rfl rfl (by decide) (by decide) (fun r u H locs hp hP hD hS => ?_)
  have hp : r = 3 := hp
  subst hp
  refine lv_icmp_eq (tgt := 1002) hx hb dL_law_568 (by decide) (fun _ => ?_) (fun q => absurd (by decide +kernel) (q))
  refine lv_iinc (v := 6) (lv' := [(4, .int 6), (0, .ref b), (1, .ref b0), (2, .ref n0), (3, .ref o)]) hx hb dL_law_1002 hl (k := 0) rfl (by decide +kernel) (by decide) rfl (fun ls hl => ?_)
  refine lv_goto (tgt := 23) hx hb dL_law_1005 (by decide) ?_
  refine lv_iload hx hb dL_law_23 (lv_at hl 0 rfl) ?_
  refine lv_aload_n hx hb dL_law_25 rfl (lv_at hl 1 rfl) ?_
  refine va_slen hx hb hXs hbl hbA hS dL_law_26 ?_
  refine cz_ti (w := 6) (by decide +kernel) ?_
  refine lv_bipush (v := 6) hx hb dL_law_27 (by decide +kernel) ?_
  refine lv_isub hx hb dL_law_29 ?_
  refine cz_ti (w := 0) (by decide +kernel) ?_
  refine lv_icmp_gt (tgt := 1008) hx hb dL_law_30 (by decide) (fun _ => ?_) (fun q => absurd (by decide +kernel) (q))
  refine lv_iconst (v := 1) hx hb dL_law_1008 (by decide +kernel) ?_
  refine va_forget (hfA hS.2.2) ?_
  refine W.widen (k := 600002) (n := 7302232) (Nat.le_of_ble_eq_true rfl) (Nat.le_of_ble_eq_true rfl) ?_
  exact lw_ret hx hb hr hlocks dL_law_1009

set_option maxHeartbeats 4000000 in
set_option maxRecDepth 100000 in
theorem law_8_6 {p : Program} {l : Launch} {e : Env} {s : State} {m : MethodId} {below : List Frame} {meth : Method} {c : Code} {G : va_G} {k : Nat → ClassId} {b : Nat} {xs : Nat → Int32} {H : Heap} {locs : List Loc} {ls : Array Slot} {b0 : Nat} {n0 : Nat} {o : Nat} {v3 : Value} {v4 : Value} {v5 : Value} {v6 : Value} {b50 : Nat} {v8 : Value} {b51 : Nat} {v10 : Value} {v11 : Value} {v12 : Value} {v13 : Value} {v14 : Value} {v15 : Value} {v16 : Value} {v17 : Value} {v18 : Value} {v19 : Value} {v20 : Value} {v21 : Value} {v22 : Value} {v23 : Value} {b30 : Nat} {v25 : Value} {v26 : Value} {v27 : Value} {v28 : Value} {v29 : Value} {v30 : Value} {v31 : Value} {v32 : Value} {v33 : Value} {v34 : Value} {v35 : Value} {v36 : Value} {v37 : Value} {v38 : Value} {v39 : Value} {v40 : Value} {n36 : Nat} {v42 : Value} {v43 : Value} {v44 : Value} {v45 : Value} {v46 : Value} {v47 : Value} {v48 : Value} {n8 : Nat} {v50 : Value} {v51 : Value} {v52 : Value} {v53 : Value} {v54 : Value} {v55 : Value} {v56 : Value} {v57 : Value} {v58 : Value} {v59 : Value} {v60 : Value} {v61 : Value} {v62 : Value} {v63 : Value} {v64 : Value} {v65 : Value} {v66 : Value} {v67 : Value} {v68 : Value} {v69 : Value} {v70 : Value} {v71 : Value} {v72 : Value} {v73 : Value} {v74 : Value} {v75 : Value} {v76 : Value} {v77 : Value} {v78 : Value} {v79 : Value} {v80 : Value} {v81 : Value} {v82 : Value} {v83 : Value} {v84 : Value} {v85 : Value} {v86 : Value} {v87 : Value} {v88 : Value} {v89 : Value} {v90 : Value} {v91 : Value} {v92 : Value} {v93 : Value} {v94 : Value} {v95 : Value} {v96 : Value} {v97 : Value} {v98 : Value} {v99 : Value} {v100 : Value} {v101 : Value} {v102 : Value} {v103 : Value} {v104 : Value} {v105 : Value} {v106 : Value} {v107 : Value} {v108 : Value} {w : Int32} (C0 : lw_At p s m meth c b 6 xs) (htr : l.stackTraces = false) (hX : KX G k s) (hT9 : TX s) (hZ : ZX k (fun q : Nat => s.heap.size ≤ q) s s.heap) (e1 : xs 1 = 0) (e2 : xs 2 = w) (hw : 2 < w) (hP : va_P G vwCl [(b0, .inr (6, [v3, v4, v5, v6, .ref b50, v8, .ref b51, v10, v11, v12, v13])), (b51, .inr (0, [.int 268435455, v14, v15, v16, v17, v18, v19, v20, v21, v22, v23, .ref b30])), (b50, .inr (2, [.int 1, v25, v26, v27, v28, v29, v30, v31, v32, v33, v34, v35, v36, v37])), (b30, .inl (k 0, 3, .inl (fun _ => 0))), (n0, .inr (7, (v38 :: v39 :: v40 :: .ref n36 :: v42 :: v43 :: v44 :: v45 :: v46 :: v47 :: v48 :: .ref n8 :: v50 :: v51 :: v52 :: v53 :: v54 :: v55 :: v56 :: v57 :: v58 :: v59 :: v60 :: v61 :: v62 :: v63 :: v64 :: v65 :: v66 :: v67 :: v68 :: v69 :: v70 :: v71 :: v72 :: v73 :: v74 :: v75 :: v76 :: v77 :: v78 :: v79 :: v80 :: v81 :: v82 :: v83 :: v84 :: v85 :: v86 :: v87 :: v88 :: v89 :: v90 :: v91 :: v92 :: v93 :: v94 :: v95 :: v96 :: v97 :: v98 :: v99 :: v100 :: v101 :: v102 :: v103 :: v104 :: v105 :: v106 :: v107 :: v108 :: []))), (n36, .inl (k 0, 14, .inl (upd (upd (upd (upd (upd (upd (upd (fun _ => 0) (0 : Int32).toNatClampNeg 1) (1 : Int32).toNatClampNeg 0) (2 : Int32).toNatClampNeg 99) (3 : Int32).toNatClampNeg 0) (4 : Int32).toNatClampNeg 1) (5 : Int32).toNatClampNeg 20) (6 : Int32).toNatClampNeg 0))), (n8, .inl (k 0, 3, .inl (fun _ => 0)))] H) (hD : va_D (fun q : Nat => s.heap.size ≤ q) [(b0, .inr (6, [v3, v4, v5, v6, .ref b50, v8, .ref b51, v10, v11, v12, v13])), (b51, .inr (0, [.int 268435455, v14, v15, v16, v17, v18, v19, v20, v21, v22, v23, .ref b30])), (b50, .inr (2, [.int 1, v25, v26, v27, v28, v29, v30, v31, v32, v33, v34, v35, v36, v37])), (b30, .inl (k 0, 3, .inl (fun _ => 0))), (n0, .inr (7, (v38 :: v39 :: v40 :: .ref n36 :: v42 :: v43 :: v44 :: v45 :: v46 :: v47 :: v48 :: .ref n8 :: v50 :: v51 :: v52 :: v53 :: v54 :: v55 :: v56 :: v57 :: v58 :: v59 :: v60 :: v61 :: v62 :: v63 :: v64 :: v65 :: v66 :: v67 :: v68 :: v69 :: v70 :: v71 :: v72 :: v73 :: v74 :: v75 :: v76 :: v77 :: v78 :: v79 :: v80 :: v81 :: v82 :: v83 :: v84 :: v85 :: v86 :: v87 :: v88 :: v89 :: v90 :: v91 :: v92 :: v93 :: v94 :: v95 :: v96 :: v97 :: v98 :: v99 :: v100 :: v101 :: v102 :: v103 :: v104 :: v105 :: v106 :: v107 :: v108 :: []))), (n36, .inl (k 0, 14, .inl (upd (upd (upd (upd (upd (upd (upd (fun _ => 0) (0 : Int32).toNatClampNeg 1) (1 : Int32).toNatClampNeg 0) (2 : Int32).toNatClampNeg 99) (3 : Int32).toNatClampNeg 0) (4 : Int32).toNatClampNeg 1) (5 : Int32).toNatClampNeg 20) (6 : Int32).toNatClampNeg 0))), (n8, .inl (k 0, 3, .inl (fun _ => 0)))]) (hS : va_S (fun q : Nat => s.heap.size ≤ q) s.heap H locs) (hl : lv_has ls 7 [(4, .int 0), (0, .ref b), (1, .ref b0), (2, .ref n0), (3, .ref o)]) : W p l e room_1 s m #[Value.ref b] below meth c H locs 92 31361 (lw_Z below #[Value.ref b] s) (F0 m 536 ls []) := by
  obtain ⟨hx, hb, hr, hml, hown, hts0, hXs, hbl, hlocks, hgv⟩ := C0
  have hts := fun w h => hts0 w (wsL_law_in w h)
  obtain ⟨A, hAe⟩ : ∃ z : Nat → Prop, z = (fun q : Nat => s.heap.size ≤ q) := ⟨_, rfl⟩
  have hA : ∀ q : Nat, s.heap.size ≤ q → A q := fun q h => by rw [hAe]; exact h
  have hbA : ¬ A b := by rw [hAe]; exact Nat.not_le.mpr hbl
  have hfA : ∀ {locs : List Loc}, (∀ q ∈ locs, A q.base) → ∀ q ∈ locs, s.heap.size ≤ q.base := fun h q hq => by have h9 := h q hq; rw [hAe] at h9; exact h9
  rw [← hAe] at hZ hD hS
  refine lv_aload_n hx hb dL_law_536 rfl (lv_at hl 2 rfl) ?_
  refine lv_aload_n hx hb dL_law_537 rfl (lv_at hl 1 rfl) ?_
  refine lv_iload hx hb dL_law_538 (lv_at hl 0 rfl) ?_
  refine lv_iconst (v := 1) hx hb dL_law_540 (by decide +kernel) ?_
  refine lv_iadd hx hb dL_law_541 ?_
  refine cz_ti (w := 1) (by decide +kernel) ?_
  refine va_sld hx hb hXs hbl hbA hS (by unfold vp_in; decide +kernel) dL_law_542 ?_
  refine cz_ti (w := 0) (show xs ((1 : Int32).toNatClampNeg) = 0 from e1) ?_
  refine lv_aload_n hx hb dL_law_543 rfl (lv_at hl 1 rfl) ?_
  refine lv_iload hx hb dL_law_544 (lv_at hl 0 rfl) ?_
  refine lv_iconst (v := 2) hx hb dL_law_546 (by decide +kernel) ?_
  refine lv_iadd hx hb dL_law_547 ?_
  refine cz_ti (w := 2) (by decide +kernel) ?_
  refine va_sld hx hb hXs hbl hbA hS (by unfold vp_in; decide +kernel) dL_law_548 ?_
  refine cz_ti (w := w) (show xs ((2 : Int32).toNatClampNeg) = w from e2) ?_
  refine cz_i (wr := [(n0, .inr (7, (v38 :: v39 :: v40 :: .ref n36 :: v42 :: v43 :: v44 :: v45 :: v46 :: v47 :: v48 :: .ref n8 :: v50 :: v51 :: v52 :: v53 :: v54 :: v55 :: v56 :: v57 :: v58 :: v59 :: v60 :: v61 :: v62 :: v63 :: v64 :: v65 :: v66 :: v67 :: v68 :: v69 :: v70 :: v71 :: v72 :: v73 :: v74 :: v75 :: v76 :: v77 :: v78 :: v79 :: v80 :: v81 :: v82 :: v83 :: v84 :: v85 :: v86 :: v87 :: v88 :: v89 :: v90 :: v91 :: v92 :: v93 :: v94 :: v95 :: v96 :: v97 :: v98 :: v99 :: v100 :: v101 :: v102 :: v103 :: v104 :: v105 :: v106 :: v107 :: v108 :: []))), (n36, .inl (k 0, 14, .inl (upd (upd (upd (upd (upd (upd (upd (fun _ => 0) (0 : Int32).toNatClampNeg 1) (1 : Int32).toNatClampNeg 0) (2 : Int32).toNatClampNeg 99) (3 : Int32).toNatClampNeg 0) (4 : Int32).toNatClampNeg 1) (5 : Int32).toNatClampNeg 20) (6 : Int32).toNatClampNeg 0))), (n8, .inl (k 0, 3, .inl (fun _ => 0)))]) (va_runV (As := [.int 0, .int w]) (rest := []) ⟨hx, hb, hml, hown, hts⟩ (cX9_ride_6 l G k b0 w v3 v4 v5 v6 b50 v8 b51 v10 v11 v12 v13 v14 v15 v16 v17 v18 v19 v20 v21 v22 v23 b30 v25 v26 v27 v28 v29 v30 v31 v32 v33 v34 v35 v36 v37 H.size hw) (cwV 2 hts gL_law_X9_ride rfl rfl rfl (by decide +kernel) ⟨Nat.le_of_ble_eq_true rfl, Nat.le_of_ble_eq_true rfl⟩) (cz_preV hZ hS hX hP hD [0, 1, 2, 3] rfl rfl (ci := 6) (q0 := 0) rfl rfl) rfl rfl hl.1 rfl (lv_room (Nat.le_of_ble_eq_true rfl)) dL_law_549 ⟨Nat.le_of_ble_eq_true rfl, Nat.le_of_ble_eq_true rfl⟩) hP hD hS hA [0, 1, 2, 3] [4, 5, 6] rfl rfl (by decide) (by decide) (fun r u H locs hp hP hD hS => ?_)
  have hp : r = 1 := hp
  subst hp
  refine lv_aload_n hx hb dL_law_552 rfl (lv_at hl 3 rfl) ?_
  refine lv_aload_n hx hb dL_law_553 rfl (lv_at hl 1 rfl) ?_
  refine lv_iload hx hb dL_law_554 (lv_at hl 0 rfl) ?_
  refine lv_iconst (v := 1) hx hb dL_law_556 (by decide +kernel) ?_
  refine lv_iadd hx hb dL_law_557 ?_
  refine cz_ti (w := 1) (by decide +kernel) ?_
  refine va_sld hx hb hXs hbl hbA hS (by unfold vp_in; decide +kernel) dL_law_558 ?_
  refine cz_ti (w := 0) (show xs ((1 : Int32).toNatClampNeg) = 0 from e1) ?_
  refine lv_aload_n hx hb dL_law_559 rfl (lv_at hl 1 rfl) ?_
  refine lv_iload hx hb dL_law_560 (lv_at hl 0 rfl) ?_
  refine lv_iconst (v := 2) hx hb dL_law_562 (by decide +kernel) ?_
  refine lv_iadd hx hb dL_law_563 ?_
  refine cz_ti (w := 2) (by decide +kernel) ?_
  refine va_sld hx hb hXs hbl hbA hS (by unfold vp_in; decide +kernel) dL_law_564 ?_
  refine cz_ti (w := w) (show xs ((2 : Int32).toNatClampNeg) = w from e2) ?_
  refine cz_i (wr := [(b50, .inr (2, [.int 1, v25, v26, v27, v28, v29, v30, v31, v32, v33, v34, v35, v36, v37])), (b0, .inr (6, [v3, v4, v5, v6, .ref b50, v8, .ref b51, v10, v11, v12, v13])), (b51, .inr (0, [.int 268435455, v14, v15, v16, v17, v18, v19, v20, v21, v22, v23, .ref b30])), (b30, .inl (k 0, 3, .inl (upd (fun _ => 0) (1 : Int32).toNatClampNeg 1)))]) (va_runV (As := [.int 0, .int w]) (rest := [.int 1]) ⟨hx, hb, hml, hown, hts⟩ (cX10_ride_6 l G k n0 w v38 v39 v40 n36 v42 v43 v44 v45 v46 v47 v48 n8 v50 v51 v52 v53 v54 v55 v56 v57 v58 v59 v60 v61 v62 v63 v64 v65 v66 v67 v68 v69 v70 v71 v72 v73 v74 v75 v76 v77 v78 v79 v80 v81 v82 v83 v84 v85 v86 v87 v88 v89 v90 v91 v92 v93 v94 v95 v96 v97 v98 v99 v100 v101 v102 v103 v104 v105 v106 v107 v108 H.size hw) (cwV 2 hts gL_law_X10_ride rfl rfl rfl (by decide +kernel) ⟨Nat.le_of_ble_eq_true rfl, Nat.le_of_ble_eq_true rfl⟩) (cz_preV hZ hS hX hP hD [0, 1, 2] rfl rfl (ci := 7) (q0 := 0) rfl rfl) rfl rfl hl.1 rfl (lv_room (Nat.le_of_ble_eq_true rfl)) dL_law_565 ⟨Nat.le_of_ble_eq_true rfl, Nat.le_of_ble_eq_true rfl⟩) hP hD hS hA [0, 1, 2] [3, 4, 5, 6] rfl rfl (by decide) (by decide) (fun r u H locs hp hP hD hS => ?_)
  have hp : r = 1 := hp
  subst hp
  refine lv_icmp_eq (tgt := 1002) hx hb dL_law_568 (by decide) (fun _ => ?_) (fun q => absurd (by decide +kernel) (q))
  refine lv_iinc (v := 6) (lv' := [(4, .int 6), (0, .ref b), (1, .ref b0), (2, .ref n0), (3, .ref o)]) hx hb dL_law_1002 hl (k := 0) rfl (by decide +kernel) (by decide) rfl (fun ls hl => ?_)
  refine lv_goto (tgt := 23) hx hb dL_law_1005 (by decide) ?_
  refine lv_iload hx hb dL_law_23 (lv_at hl 0 rfl) ?_
  refine lv_aload_n hx hb dL_law_25 rfl (lv_at hl 1 rfl) ?_
  refine va_slen hx hb hXs hbl hbA hS dL_law_26 ?_
  refine cz_ti (w := 6) (by decide +kernel) ?_
  refine lv_bipush (v := 6) hx hb dL_law_27 (by decide +kernel) ?_
  refine lv_isub hx hb dL_law_29 ?_
  refine cz_ti (w := 0) (by decide +kernel) ?_
  refine lv_icmp_gt (tgt := 1008) hx hb dL_law_30 (by decide) (fun _ => ?_) (fun q => absurd (by decide +kernel) (q))
  refine lv_iconst (v := 1) hx hb dL_law_1008 (by decide +kernel) ?_
  refine va_forget (hfA hS.2.2) ?_
  refine W.widen (k := 600002) (n := 7302232) (Nat.le_of_ble_eq_true rfl) (Nat.le_of_ble_eq_true rfl) ?_
  exact lw_ret hx hb hr hlocks dL_law_1009

set_option maxHeartbeats 4000000 in
set_option maxRecDepth 100000 in
theorem law_8_7 {p : Program} {l : Launch} {e : Env} {s : State} {m : MethodId} {below : List Frame} {meth : Method} {c : Code} {G : va_G} {k : Nat → ClassId} {b : Nat} {xs : Nat → Int32} {H : Heap} {locs : List Loc} {ls : Array Slot} {b0 : Nat} {n0 : Nat} {o : Nat} {v3 : Value} {v4 : Value} {v5 : Value} {v6 : Value} {b50 : Nat} {v8 : Value} {b51 : Nat} {v10 : Value} {v11 : Value} {v12 : Value} {v13 : Value} {v14 : Value} {v15 : Value} {v16 : Value} {v17 : Value} {v18 : Value} {v19 : Value} {v20 : Value} {v21 : Value} {v22 : Value} {v23 : Value} {b30 : Nat} {v25 : Value} {v26 : Value} {v27 : Value} {v28 : Value} {v29 : Value} {v30 : Value} {v31 : Value} {v32 : Value} {v33 : Value} {v34 : Value} {v35 : Value} {v36 : Value} {v37 : Value} {v38 : Value} {v39 : Value} {v40 : Value} {n36 : Nat} {v42 : Value} {v43 : Value} {v44 : Value} {v45 : Value} {v46 : Value} {v47 : Value} {v48 : Value} {n8 : Nat} {v50 : Value} {v51 : Value} {v52 : Value} {v53 : Value} {v54 : Value} {v55 : Value} {v56 : Value} {v57 : Value} {v58 : Value} {v59 : Value} {v60 : Value} {v61 : Value} {v62 : Value} {v63 : Value} {v64 : Value} {v65 : Value} {v66 : Value} {v67 : Value} {v68 : Value} {v69 : Value} {v70 : Value} {v71 : Value} {v72 : Value} {v73 : Value} {v74 : Value} {v75 : Value} {v76 : Value} {v77 : Value} {v78 : Value} {v79 : Value} {v80 : Value} {v81 : Value} {v82 : Value} {v83 : Value} {v84 : Value} {v85 : Value} {v86 : Value} {v87 : Value} {v88 : Value} {v89 : Value} {v90 : Value} {v91 : Value} {v92 : Value} {v93 : Value} {v94 : Value} {v95 : Value} {v96 : Value} {v97 : Value} {v98 : Value} {v99 : Value} {v100 : Value} {v101 : Value} {v102 : Value} {v103 : Value} {v104 : Value} {v105 : Value} {v106 : Value} {v107 : Value} {v108 : Value} {w : Int32} (C0 : lw_At p s m meth c b 6 xs) (htr : l.stackTraces = false) (hX : KX G k s) (hT9 : TX s) (hZ : ZX k (fun q : Nat => s.heap.size ≤ q) s s.heap) (e1 : xs 1 = 1) (e2 : xs 2 = w) (hw : w < 0) (hP : va_P G vwCl [(b0, .inr (6, [v3, v4, v5, v6, .ref b50, v8, .ref b51, v10, v11, v12, v13])), (b51, .inr (0, [.int 268435455, v14, v15, v16, v17, v18, v19, v20, v21, v22, v23, .ref b30])), (b50, .inr (2, [.int 1, v25, v26, v27, v28, v29, v30, v31, v32, v33, v34, v35, v36, v37])), (b30, .inl (k 0, 3, .inl (fun _ => 0))), (n0, .inr (7, (v38 :: v39 :: v40 :: .ref n36 :: v42 :: v43 :: v44 :: v45 :: v46 :: v47 :: v48 :: .ref n8 :: v50 :: v51 :: v52 :: v53 :: v54 :: v55 :: v56 :: v57 :: v58 :: v59 :: v60 :: v61 :: v62 :: v63 :: v64 :: v65 :: v66 :: v67 :: v68 :: v69 :: v70 :: v71 :: v72 :: v73 :: v74 :: v75 :: v76 :: v77 :: v78 :: v79 :: v80 :: v81 :: v82 :: v83 :: v84 :: v85 :: v86 :: v87 :: v88 :: v89 :: v90 :: v91 :: v92 :: v93 :: v94 :: v95 :: v96 :: v97 :: v98 :: v99 :: v100 :: v101 :: v102 :: v103 :: v104 :: v105 :: v106 :: v107 :: v108 :: []))), (n36, .inl (k 0, 14, .inl (upd (upd (upd (upd (upd (upd (upd (fun _ => 0) (0 : Int32).toNatClampNeg 1) (1 : Int32).toNatClampNeg 0) (2 : Int32).toNatClampNeg 99) (3 : Int32).toNatClampNeg 0) (4 : Int32).toNatClampNeg 1) (5 : Int32).toNatClampNeg 20) (6 : Int32).toNatClampNeg 0))), (n8, .inl (k 0, 3, .inl (fun _ => 0)))] H) (hD : va_D (fun q : Nat => s.heap.size ≤ q) [(b0, .inr (6, [v3, v4, v5, v6, .ref b50, v8, .ref b51, v10, v11, v12, v13])), (b51, .inr (0, [.int 268435455, v14, v15, v16, v17, v18, v19, v20, v21, v22, v23, .ref b30])), (b50, .inr (2, [.int 1, v25, v26, v27, v28, v29, v30, v31, v32, v33, v34, v35, v36, v37])), (b30, .inl (k 0, 3, .inl (fun _ => 0))), (n0, .inr (7, (v38 :: v39 :: v40 :: .ref n36 :: v42 :: v43 :: v44 :: v45 :: v46 :: v47 :: v48 :: .ref n8 :: v50 :: v51 :: v52 :: v53 :: v54 :: v55 :: v56 :: v57 :: v58 :: v59 :: v60 :: v61 :: v62 :: v63 :: v64 :: v65 :: v66 :: v67 :: v68 :: v69 :: v70 :: v71 :: v72 :: v73 :: v74 :: v75 :: v76 :: v77 :: v78 :: v79 :: v80 :: v81 :: v82 :: v83 :: v84 :: v85 :: v86 :: v87 :: v88 :: v89 :: v90 :: v91 :: v92 :: v93 :: v94 :: v95 :: v96 :: v97 :: v98 :: v99 :: v100 :: v101 :: v102 :: v103 :: v104 :: v105 :: v106 :: v107 :: v108 :: []))), (n36, .inl (k 0, 14, .inl (upd (upd (upd (upd (upd (upd (upd (fun _ => 0) (0 : Int32).toNatClampNeg 1) (1 : Int32).toNatClampNeg 0) (2 : Int32).toNatClampNeg 99) (3 : Int32).toNatClampNeg 0) (4 : Int32).toNatClampNeg 1) (5 : Int32).toNatClampNeg 20) (6 : Int32).toNatClampNeg 0))), (n8, .inl (k 0, 3, .inl (fun _ => 0)))]) (hS : va_S (fun q : Nat => s.heap.size ≤ q) s.heap H locs) (hl : lv_has ls 7 [(4, .int 0), (0, .ref b), (1, .ref b0), (2, .ref n0), (3, .ref o)]) : W p l e room_1 s m #[Value.ref b] below meth c H locs 92 31361 (lw_Z below #[Value.ref b] s) (F0 m 536 ls []) := by
  obtain ⟨hx, hb, hr, hml, hown, hts0, hXs, hbl, hlocks, hgv⟩ := C0
  have hts := fun w h => hts0 w (wsL_law_in w h)
  obtain ⟨A, hAe⟩ : ∃ z : Nat → Prop, z = (fun q : Nat => s.heap.size ≤ q) := ⟨_, rfl⟩
  have hA : ∀ q : Nat, s.heap.size ≤ q → A q := fun q h => by rw [hAe]; exact h
  have hbA : ¬ A b := by rw [hAe]; exact Nat.not_le.mpr hbl
  have hfA : ∀ {locs : List Loc}, (∀ q ∈ locs, A q.base) → ∀ q ∈ locs, s.heap.size ≤ q.base := fun h q hq => by have h9 := h q hq; rw [hAe] at h9; exact h9
  rw [← hAe] at hZ hD hS
  refine lv_aload_n hx hb dL_law_536 rfl (lv_at hl 2 rfl) ?_
  refine lv_aload_n hx hb dL_law_537 rfl (lv_at hl 1 rfl) ?_
  refine lv_iload hx hb dL_law_538 (lv_at hl 0 rfl) ?_
  refine lv_iconst (v := 1) hx hb dL_law_540 (by decide +kernel) ?_
  refine lv_iadd hx hb dL_law_541 ?_
  refine cz_ti (w := 1) (by decide +kernel) ?_
  refine va_sld hx hb hXs hbl hbA hS (by unfold vp_in; decide +kernel) dL_law_542 ?_
  refine cz_ti (w := 1) (show xs ((1 : Int32).toNatClampNeg) = 1 from e1) ?_
  refine lv_aload_n hx hb dL_law_543 rfl (lv_at hl 1 rfl) ?_
  refine lv_iload hx hb dL_law_544 (lv_at hl 0 rfl) ?_
  refine lv_iconst (v := 2) hx hb dL_law_546 (by decide +kernel) ?_
  refine lv_iadd hx hb dL_law_547 ?_
  refine cz_ti (w := 2) (by decide +kernel) ?_
  refine va_sld hx hb hXs hbl hbA hS (by unfold vp_in; decide +kernel) dL_law_548 ?_
  refine cz_ti (w := w) (show xs ((2 : Int32).toNatClampNeg) = w from e2) ?_
  refine cz_i (wr := [(n0, .inr (7, (v38 :: v39 :: v40 :: .ref n36 :: v42 :: v43 :: v44 :: v45 :: v46 :: v47 :: v48 :: .ref n8 :: v50 :: v51 :: v52 :: v53 :: v54 :: v55 :: v56 :: v57 :: v58 :: v59 :: v60 :: v61 :: v62 :: v63 :: v64 :: v65 :: v66 :: v67 :: v68 :: v69 :: v70 :: v71 :: v72 :: v73 :: v74 :: v75 :: v76 :: v77 :: v78 :: v79 :: v80 :: v81 :: v82 :: v83 :: v84 :: v85 :: v86 :: v87 :: v88 :: v89 :: v90 :: v91 :: v92 :: v93 :: v94 :: v95 :: v96 :: v97 :: v98 :: v99 :: v100 :: v101 :: v102 :: v103 :: v104 :: v105 :: v106 :: v107 :: v108 :: []))), (n36, .inl (k 0, 14, .inl (upd (upd (upd (upd (upd (upd (upd (fun _ => 0) (0 : Int32).toNatClampNeg 1) (1 : Int32).toNatClampNeg 0) (2 : Int32).toNatClampNeg 99) (3 : Int32).toNatClampNeg 0) (4 : Int32).toNatClampNeg 1) (5 : Int32).toNatClampNeg 20) (6 : Int32).toNatClampNeg 0))), (n8, .inl (k 0, 3, .inl (fun _ => 0)))]) (va_runV (As := [.int 1, .int w]) (rest := []) ⟨hx, hb, hml, hown, hts⟩ (cX9_ride_7 l G k b0 w v3 v4 v5 v6 b50 v8 b51 v10 v11 v12 v13 v14 v15 v16 v17 v18 v19 v20 v21 v22 v23 b30 v25 v26 v27 v28 v29 v30 v31 v32 v33 v34 v35 v36 v37 H.size hw) (cwV 2 hts gL_law_X9_ride rfl rfl rfl (by decide +kernel) ⟨Nat.le_of_ble_eq_true rfl, Nat.le_of_ble_eq_true rfl⟩) (cz_preV hZ hS hX hP hD [0, 1, 2, 3] rfl rfl (ci := 6) (q0 := 0) rfl rfl) rfl rfl hl.1 rfl (lv_room (Nat.le_of_ble_eq_true rfl)) dL_law_549 ⟨Nat.le_of_ble_eq_true rfl, Nat.le_of_ble_eq_true rfl⟩) hP hD hS hA [0, 1, 2, 3] [4, 5, 6] rfl rfl (by decide) (by decide) (fun r u H locs hp hP hD hS => ?_)
  have hp : r = 1 := hp
  subst hp
  refine lv_aload_n hx hb dL_law_552 rfl (lv_at hl 3 rfl) ?_
  refine lv_aload_n hx hb dL_law_553 rfl (lv_at hl 1 rfl) ?_
  refine lv_iload hx hb dL_law_554 (lv_at hl 0 rfl) ?_
  refine lv_iconst (v := 1) hx hb dL_law_556 (by decide +kernel) ?_
  refine lv_iadd hx hb dL_law_557 ?_
  refine cz_ti (w := 1) (by decide +kernel) ?_
  refine va_sld hx hb hXs hbl hbA hS (by unfold vp_in; decide +kernel) dL_law_558 ?_
  refine cz_ti (w := 1) (show xs ((1 : Int32).toNatClampNeg) = 1 from e1) ?_
  refine lv_aload_n hx hb dL_law_559 rfl (lv_at hl 1 rfl) ?_
  refine lv_iload hx hb dL_law_560 (lv_at hl 0 rfl) ?_
  refine lv_iconst (v := 2) hx hb dL_law_562 (by decide +kernel) ?_
  refine lv_iadd hx hb dL_law_563 ?_
  refine cz_ti (w := 2) (by decide +kernel) ?_
  refine va_sld hx hb hXs hbl hbA hS (by unfold vp_in; decide +kernel) dL_law_564 ?_
  refine cz_ti (w := w) (show xs ((2 : Int32).toNatClampNeg) = w from e2) ?_
  refine cz_i (wr := [(b50, .inr (2, [.int 1, v25, v26, v27, v28, v29, v30, v31, v32, v33, v34, v35, v36, v37])), (b0, .inr (6, [v3, v4, v5, v6, .ref b50, v8, .ref b51, v10, v11, v12, v13])), (b51, .inr (0, [.int 268435455, v14, v15, v16, v17, v18, v19, v20, v21, v22, v23, .ref b30])), (b30, .inl (k 0, 3, .inl (upd (fun _ => 0) (1 : Int32).toNatClampNeg 1)))]) (va_runV (As := [.int 1, .int w]) (rest := [.int 1]) ⟨hx, hb, hml, hown, hts⟩ (cX10_ride_7 l G k n0 w v38 v39 v40 n36 v42 v43 v44 v45 v46 v47 v48 n8 v50 v51 v52 v53 v54 v55 v56 v57 v58 v59 v60 v61 v62 v63 v64 v65 v66 v67 v68 v69 v70 v71 v72 v73 v74 v75 v76 v77 v78 v79 v80 v81 v82 v83 v84 v85 v86 v87 v88 v89 v90 v91 v92 v93 v94 v95 v96 v97 v98 v99 v100 v101 v102 v103 v104 v105 v106 v107 v108 H.size hw) (cwV 2 hts gL_law_X10_ride rfl rfl rfl (by decide +kernel) ⟨Nat.le_of_ble_eq_true rfl, Nat.le_of_ble_eq_true rfl⟩) (cz_preV hZ hS hX hP hD [0, 1, 2] rfl rfl (ci := 7) (q0 := 0) rfl rfl) rfl rfl hl.1 rfl (lv_room (Nat.le_of_ble_eq_true rfl)) dL_law_565 ⟨Nat.le_of_ble_eq_true rfl, Nat.le_of_ble_eq_true rfl⟩) hP hD hS hA [0, 1, 2] [3, 4, 5, 6] rfl rfl (by decide) (by decide) (fun r u H locs hp hP hD hS => ?_)
  have hp : r = 1 := hp
  subst hp
  refine lv_icmp_eq (tgt := 1002) hx hb dL_law_568 (by decide) (fun _ => ?_) (fun q => absurd (by decide +kernel) (q))
  refine lv_iinc (v := 6) (lv' := [(4, .int 6), (0, .ref b), (1, .ref b0), (2, .ref n0), (3, .ref o)]) hx hb dL_law_1002 hl (k := 0) rfl (by decide +kernel) (by decide) rfl (fun ls hl => ?_)
  refine lv_goto (tgt := 23) hx hb dL_law_1005 (by decide) ?_
  refine lv_iload hx hb dL_law_23 (lv_at hl 0 rfl) ?_
  refine lv_aload_n hx hb dL_law_25 rfl (lv_at hl 1 rfl) ?_
  refine va_slen hx hb hXs hbl hbA hS dL_law_26 ?_
  refine cz_ti (w := 6) (by decide +kernel) ?_
  refine lv_bipush (v := 6) hx hb dL_law_27 (by decide +kernel) ?_
  refine lv_isub hx hb dL_law_29 ?_
  refine cz_ti (w := 0) (by decide +kernel) ?_
  refine lv_icmp_gt (tgt := 1008) hx hb dL_law_30 (by decide) (fun _ => ?_) (fun q => absurd (by decide +kernel) (q))
  refine lv_iconst (v := 1) hx hb dL_law_1008 (by decide +kernel) ?_
  refine va_forget (hfA hS.2.2) ?_
  refine W.widen (k := 600002) (n := 7302232) (Nat.le_of_ble_eq_true rfl) (Nat.le_of_ble_eq_true rfl) ?_
  exact lw_ret hx hb hr hlocks dL_law_1009

set_option maxHeartbeats 4000000 in
set_option maxRecDepth 100000 in
theorem law_8_8 {p : Program} {l : Launch} {e : Env} {s : State} {m : MethodId} {below : List Frame} {meth : Method} {c : Code} {G : va_G} {k : Nat → ClassId} {b : Nat} {xs : Nat → Int32} {H : Heap} {locs : List Loc} {ls : Array Slot} {b0 : Nat} {n0 : Nat} {o : Nat} {v3 : Value} {v4 : Value} {v5 : Value} {v6 : Value} {b50 : Nat} {v8 : Value} {b51 : Nat} {v10 : Value} {v11 : Value} {v12 : Value} {v13 : Value} {v14 : Value} {v15 : Value} {v16 : Value} {v17 : Value} {v18 : Value} {v19 : Value} {v20 : Value} {v21 : Value} {v22 : Value} {v23 : Value} {b30 : Nat} {v25 : Value} {v26 : Value} {v27 : Value} {v28 : Value} {v29 : Value} {v30 : Value} {b10 : Nat} {v32 : Value} {v33 : Value} {v34 : Value} {v35 : Value} {v36 : Value} {v37 : Value} {v38 : Value} {v39 : Value} {n36 : Nat} {v41 : Value} {v42 : Value} {v43 : Value} {v44 : Value} {v45 : Value} {v46 : Value} {v47 : Value} {n8 : Nat} {v49 : Value} {v50 : Value} {v51 : Value} {v52 : Value} {v53 : Value} {v54 : Value} {v55 : Value} {v56 : Value} {v57 : Value} {v58 : Value} {v59 : Value} {v60 : Value} {v61 : Value} {v62 : Value} {v63 : Value} {v64 : Value} {v65 : Value} {n10 : Nat} {v67 : Value} {v68 : Value} {v69 : Value} {v70 : Value} {v71 : Value} {v72 : Value} {n17 : Nat} {v74 : Value} {v75 : Value} {v76 : Value} {v77 : Value} {v78 : Value} {v79 : Value} {v80 : Value} {v81 : Value} {v82 : Value} {v83 : Value} {v84 : Value} {v85 : Value} {v86 : Value} {v87 : Value} {v88 : Value} {v89 : Value} {v90 : Value} {v91 : Value} {v92 : Value} {v93 : Value} {v94 : Value} {v95 : Value} {v96 : Value} {v97 : Value} {v98 : Value} {v99 : Value} {v100 : Value} {v101 : Value} {f102 : Nat → Int32} (C0 : lw_At p s m meth c b 6 xs) (htr : l.stackTraces = false) (hX : KX G k s) (hT9 : TX s) (hZ : ZX k (fun q : Nat => s.heap.size ≤ q) s s.heap) (e1 : xs 1 = 1) (e2 : xs 2 = 0) (hP : va_P G vwCl [(b0, .inr (6, [v3, v4, v5, v6, .ref b50, v8, .ref b51, v10, v11, v12, v13])), (b51, .inr (0, [.int 268435455, v14, v15, v16, v17, v18, v19, v20, v21, v22, v23, .ref b30])), (b50, .inr (2, [.int 1, v25, .int 99, .int 0, .int 1, .int 20, v26, .int 0, v27, v28, v29, v30, .ref b10, v32])), (b10, .inr (4, [v33, v34, v35, v36, .int 0])), (b30, .inl (k 0, 3, .inl (fun _ => 0))), (n0, .inr (7, (v37 :: v38 :: v39 :: .ref n36 :: v41 :: v42 :: v43 :: v44 :: v45 :: v46 :: v47 :: .ref n8 :: .int 0 :: .int 0 :: v49 :: v50 :: v51 :: v52 :: v53 :: v54 :: v55 :: v56 :: v57 :: v58 :: v59 :: v60 :: v61 :: v62 :: .int 0 :: v63 :: v64 :: v65 :: .ref n10 :: v67 :: v68 :: v69 :: v70 :: v71 :: v72 :: .ref n17 :: v74 :: .int 0 :: .int 0 :: .int 0 :: v75 :: v76 :: v77 :: v78 :: v79 :: v80 :: v81 :: v82 :: v83 :: v84 :: v85 :: v86 :: v87 :: v88 :: v89 :: v90 :: v91 :: v92 :: v93 :: v94 :: v95 :: v96 :: v97 :: v98 :: v99 :: v100 :: v101 :: []))), (n36, .inl (k 0, 14, .inl (upd (upd (upd (upd (upd (upd (upd (fun _ => 0) (0 : Int32).toNatClampNeg 1) (1 : Int32).toNatClampNeg 0) (2 : Int32).toNatClampNeg 99) (3 : Int32).toNatClampNeg 0) (4 : Int32).toNatClampNeg 1) (5 : Int32).toNatClampNeg 20) (6 : Int32).toNatClampNeg 0))), (n17, .inl (k 0, 7, .inl f102)), (n8, .inl (k 0, 3, .inl (fun _ => 0)))] H) (hD : va_D (fun q : Nat => s.heap.size ≤ q) [(b0, .inr (6, [v3, v4, v5, v6, .ref b50, v8, .ref b51, v10, v11, v12, v13])), (b51, .inr (0, [.int 268435455, v14, v15, v16, v17, v18, v19, v20, v21, v22, v23, .ref b30])), (b50, .inr (2, [.int 1, v25, .int 99, .int 0, .int 1, .int 20, v26, .int 0, v27, v28, v29, v30, .ref b10, v32])), (b10, .inr (4, [v33, v34, v35, v36, .int 0])), (b30, .inl (k 0, 3, .inl (fun _ => 0))), (n0, .inr (7, (v37 :: v38 :: v39 :: .ref n36 :: v41 :: v42 :: v43 :: v44 :: v45 :: v46 :: v47 :: .ref n8 :: .int 0 :: .int 0 :: v49 :: v50 :: v51 :: v52 :: v53 :: v54 :: v55 :: v56 :: v57 :: v58 :: v59 :: v60 :: v61 :: v62 :: .int 0 :: v63 :: v64 :: v65 :: .ref n10 :: v67 :: v68 :: v69 :: v70 :: v71 :: v72 :: .ref n17 :: v74 :: .int 0 :: .int 0 :: .int 0 :: v75 :: v76 :: v77 :: v78 :: v79 :: v80 :: v81 :: v82 :: v83 :: v84 :: v85 :: v86 :: v87 :: v88 :: v89 :: v90 :: v91 :: v92 :: v93 :: v94 :: v95 :: v96 :: v97 :: v98 :: v99 :: v100 :: v101 :: []))), (n36, .inl (k 0, 14, .inl (upd (upd (upd (upd (upd (upd (upd (fun _ => 0) (0 : Int32).toNatClampNeg 1) (1 : Int32).toNatClampNeg 0) (2 : Int32).toNatClampNeg 99) (3 : Int32).toNatClampNeg 0) (4 : Int32).toNatClampNeg 1) (5 : Int32).toNatClampNeg 20) (6 : Int32).toNatClampNeg 0))), (n17, .inl (k 0, 7, .inl f102)), (n8, .inl (k 0, 3, .inl (fun _ => 0)))]) (hS : va_S (fun q : Nat => s.heap.size ≤ q) s.heap H locs) (hl : lv_has ls 7 [(4, .int 0), (0, .ref b), (1, .ref b0), (2, .ref n0), (3, .ref o)]) : W p l e room_1 s m #[Value.ref b] below meth c H locs 92 31361 (lw_Z below #[Value.ref b] s) (F0 m 536 ls []) := by
  obtain ⟨hx, hb, hr, hml, hown, hts0, hXs, hbl, hlocks, hgv⟩ := C0
  have hts := fun w h => hts0 w (wsL_law_in w h)
  obtain ⟨A, hAe⟩ : ∃ z : Nat → Prop, z = (fun q : Nat => s.heap.size ≤ q) := ⟨_, rfl⟩
  have hA : ∀ q : Nat, s.heap.size ≤ q → A q := fun q h => by rw [hAe]; exact h
  have hbA : ¬ A b := by rw [hAe]; exact Nat.not_le.mpr hbl
  have hfA : ∀ {locs : List Loc}, (∀ q ∈ locs, A q.base) → ∀ q ∈ locs, s.heap.size ≤ q.base := fun h q hq => by have h9 := h q hq; rw [hAe] at h9; exact h9
  rw [← hAe] at hZ hD hS
  refine lv_aload_n hx hb dL_law_536 rfl (lv_at hl 2 rfl) ?_
  refine lv_aload_n hx hb dL_law_537 rfl (lv_at hl 1 rfl) ?_
  refine lv_iload hx hb dL_law_538 (lv_at hl 0 rfl) ?_
  refine lv_iconst (v := 1) hx hb dL_law_540 (by decide +kernel) ?_
  refine lv_iadd hx hb dL_law_541 ?_
  refine cz_ti (w := 1) (by decide +kernel) ?_
  refine va_sld hx hb hXs hbl hbA hS (by unfold vp_in; decide +kernel) dL_law_542 ?_
  refine cz_ti (w := 1) (show xs ((1 : Int32).toNatClampNeg) = 1 from e1) ?_
  refine lv_aload_n hx hb dL_law_543 rfl (lv_at hl 1 rfl) ?_
  refine lv_iload hx hb dL_law_544 (lv_at hl 0 rfl) ?_
  refine lv_iconst (v := 2) hx hb dL_law_546 (by decide +kernel) ?_
  refine lv_iadd hx hb dL_law_547 ?_
  refine cz_ti (w := 2) (by decide +kernel) ?_
  refine va_sld hx hb hXs hbl hbA hS (by unfold vp_in; decide +kernel) dL_law_548 ?_
  refine cz_ti (w := 0) (show xs ((2 : Int32).toNatClampNeg) = 0 from e2) ?_
  refine cz_i (wr := [(n0, .inr (7, (v37 :: v38 :: v39 :: .ref n36 :: v41 :: v42 :: v43 :: v44 :: v45 :: v46 :: v47 :: .ref n8 :: .int 0 :: .int 0 :: v49 :: v50 :: v51 :: v52 :: v53 :: v54 :: v55 :: v56 :: v57 :: v58 :: v59 :: v60 :: v61 :: v62 :: .int 0 :: v63 :: v64 :: v65 :: .ref n10 :: v67 :: v68 :: v69 :: v70 :: v71 :: v72 :: .ref n17 :: v74 :: .int 0 :: .int 0 :: .int 0 :: v75 :: v76 :: v77 :: v78 :: v79 :: v80 :: v81 :: v82 :: v83 :: v84 :: v85 :: v86 :: v87 :: v88 :: v89 :: v90 :: v91 :: v92 :: v93 :: v94 :: v95 :: v96 :: v97 :: v98 :: v99 :: v100 :: v101 :: []))), (n36, .inl (k 0, 14, .inl (upd (upd (upd (upd (upd (upd (upd (fun _ => 0) (0 : Int32).toNatClampNeg 1) (1 : Int32).toNatClampNeg 0) (2 : Int32).toNatClampNeg 99) (3 : Int32).toNatClampNeg 0) (4 : Int32).toNatClampNeg 1) (5 : Int32).toNatClampNeg 20) (6 : Int32).toNatClampNeg 0))), (n17, .inl (k 0, 7, .inl f102)), (n8, .inl (k 0, 3, .inl (fun _ => 0)))]) (va_runV (As := [.int 1, .int 0]) (rest := []) ⟨hx, hb, hml, hown, hts⟩ (cX9_ride_8 l G k b0 v3 v4 v5 v6 b50 v8 b51 v10 v11 v12 v13 v14 v15 v16 v17 v18 v19 v20 v21 v22 v23 b30 v25 v26 v27 v28 v29 v30 b10 v32 v33 v34 v35 v36 H.size) (cwV 2 hts gL_law_X9_ride rfl rfl rfl (by decide +kernel) ⟨Nat.le_of_ble_eq_true rfl, Nat.le_of_ble_eq_true rfl⟩) (cz_preV hZ hS hX hP hD [0, 1, 2, 3, 4] rfl rfl (ci := 6) (q0 := 0) rfl rfl) rfl rfl hl.1 rfl (lv_room (Nat.le_of_ble_eq_true rfl)) dL_law_549 ⟨Nat.le_of_ble_eq_true rfl, Nat.le_of_ble_eq_true rfl⟩) hP hD hS hA [0, 1, 2, 3, 4] [5, 6, 7, 8] rfl rfl (by decide) (by decide) (fun r u H locs hp hP hD hS => ?_)
  have hp : r = 6 := hp
  subst hp
  refine lv_aload_n hx hb dL_law_552 rfl (lv_at hl 3 rfl) ?_
  refine lv_aload_n hx hb dL_law_553 rfl (lv_at hl 1 rfl) ?_
  refine lv_iload hx hb dL_law_554 (lv_at hl 0 rfl) ?_
  refine lv_iconst (v := 1) hx hb dL_law_556 (by decide +kernel) ?_
  refine lv_iadd hx hb dL_law_557 ?_
  refine cz_ti (w := 1) (by decide +kernel) ?_
  refine va_sld hx hb hXs hbl hbA hS (by unfold vp_in; decide +kernel) dL_law_558 ?_
  refine cz_ti (w := 1) (show xs ((1 : Int32).toNatClampNeg) = 1 from e1) ?_
  refine lv_aload_n hx hb dL_law_559 rfl (lv_at hl 1 rfl) ?_
  refine lv_iload hx hb dL_law_560 (lv_at hl 0 rfl) ?_
  refine lv_iconst (v := 2) hx hb dL_law_562 (by decide +kernel) ?_
  refine lv_iadd hx hb dL_law_563 ?_
  refine cz_ti (w := 2) (by decide +kernel) ?_
  refine va_sld hx hb hXs hbl hbA hS (by unfold vp_in; decide +kernel) dL_law_564 ?_
  refine cz_ti (w := 0) (show xs ((2 : Int32).toNatClampNeg) = 0 from e2) ?_
  refine cz_i (wr := [(b10, .inr (4, [v33, v34, v35, v36, .int 0])), (b50, .inr (2, [.int 1, v25, .int 99, .int 0, .int 1, .int 20, v26, .int 0, v27, v28, v29, v30, .ref b10, v32])), (b0, .inr (6, [v3, v4, v5, v6, .ref b50, v8, .ref b51, v10, v11, v12, v13])), (b51, .inr (0, [.int 268435455, v14, v15, v16, v17, v18, v19, v20, v21, v22, v23, .ref b30])), (b30, .inl (k 0, 3, .inl (upd (fun _ => 0) (1 : Int32).toNatClampNeg 1)))]) (va_runV (As := [.int 1, .int 0]) (rest := [.int 6]) ⟨hx, hb, hml, hown, hts⟩ (cX10_ride_8 l G k n0 v37 v38 v39 n36 v41 v42 v43 v44 v45 v46 v47 n8 v49 v50 v51 v52 v53 v54 v55 v56 v57 v58 v59 v60 v61 v62 v63 v64 v65 n10 v67 v68 v69 v70 v71 v72 n17 v74 v75 v76 v77 v78 v79 v80 v81 v82 v83 v84 v85 v86 v87 v88 v89 v90 v91 v92 v93 v94 v95 v96 v97 v98 v99 v100 v101 f102 H.size) (cwV 2 hts gL_law_X10_ride rfl rfl rfl (by decide +kernel) ⟨Nat.le_of_ble_eq_true rfl, Nat.le_of_ble_eq_true rfl⟩) (cz_preV hZ hS hX hP hD [0, 1, 2, 3] rfl rfl (ci := 7) (q0 := 0) rfl rfl) rfl rfl hl.1 rfl (lv_room (Nat.le_of_ble_eq_true rfl)) dL_law_565 ⟨Nat.le_of_ble_eq_true rfl, Nat.le_of_ble_eq_true rfl⟩) hP hD hS hA [0, 1, 2, 3] [4, 5, 6, 7, 8] rfl rfl (by decide) (by decide) (fun r u H locs hp hP hD hS => ?_)
  have hp : r = 6 := hp
  subst hp
  refine lv_icmp_eq (tgt := 1002) hx hb dL_law_568 (by decide) (fun _ => ?_) (fun q => absurd (by decide +kernel) (q))
  refine lv_iinc (v := 6) (lv' := [(4, .int 6), (0, .ref b), (1, .ref b0), (2, .ref n0), (3, .ref o)]) hx hb dL_law_1002 hl (k := 0) rfl (by decide +kernel) (by decide) rfl (fun ls hl => ?_)
  refine lv_goto (tgt := 23) hx hb dL_law_1005 (by decide) ?_
  refine lv_iload hx hb dL_law_23 (lv_at hl 0 rfl) ?_
  refine lv_aload_n hx hb dL_law_25 rfl (lv_at hl 1 rfl) ?_
  refine va_slen hx hb hXs hbl hbA hS dL_law_26 ?_
  refine cz_ti (w := 6) (by decide +kernel) ?_
  refine lv_bipush (v := 6) hx hb dL_law_27 (by decide +kernel) ?_
  refine lv_isub hx hb dL_law_29 ?_
  refine cz_ti (w := 0) (by decide +kernel) ?_
  refine lv_icmp_gt (tgt := 1008) hx hb dL_law_30 (by decide) (fun _ => ?_) (fun q => absurd (by decide +kernel) (q))
  refine lv_iconst (v := 1) hx hb dL_law_1008 (by decide +kernel) ?_
  refine va_forget (hfA hS.2.2) ?_
  refine W.widen (k := 600002) (n := 7302232) (Nat.le_of_ble_eq_true rfl) (Nat.le_of_ble_eq_true rfl) ?_
  exact lw_ret hx hb hr hlocks dL_law_1009

