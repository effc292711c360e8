set_option maxHeartbeats 4000000 in
set_option maxRecDepth 100000 in
theorem law_15_0 {p : Program} {l : Launch} {e : Env} {s : State} {m : MethodId} {below : List Frame} {meth : Method} {c : Code} {G : va_G} {k : Nat → ClassId} {b : Nat} {xs : Nat → Int32} {H : Heap} {locs : List Loc} {ls : Array Slot} {b0 : Nat} {n0 : Nat} {o : Nat} {v3 : Value} {v4 : Value} {v5 : Value} {v6 : Value} {b50 : Nat} {v8 : Value} {v9 : Value} {v10 : Value} {v11 : Value} {v12 : Value} {v13 : Value} {v14 : Value} {v15 : Value} {v16 : Value} {v17 : Value} {v18 : Value} {v19 : Value} {v20 : Value} {v21 : Value} {v22 : Value} {v23 : Value} {v24 : Value} {v25 : Value} {v26 : Value} {v27 : Value} {v28 : Value} {v29 : Value} {v30 : Value} {v31 : Value} {v32 : Value} {v33 : Value} {v34 : Value} {v35 : Value} {v36 : Value} {v37 : Value} {v38 : Value} {v39 : Value} {v40 : Value} {v41 : Value} {v42 : Value} {v43 : Value} {v44 : Value} {v45 : Value} {v46 : Value} {v47 : Value} {v48 : Value} {v49 : Value} {v50 : Value} {v51 : Value} {v52 : Value} {v53 : Value} {v54 : Value} {v55 : Value} {v56 : Value} {v57 : Value} {v58 : Value} {v59 : Value} {v60 : Value} {v61 : Value} {v62 : Value} {v63 : Value} {v64 : Value} {v65 : Value} {v66 : Value} {v67 : Value} {v68 : Value} {v69 : Value} {v70 : Value} {v71 : Value} {v72 : Value} {v73 : Value} {v74 : Value} {v75 : Value} {v76 : Value} {v77 : Value} {v78 : Value} {v79 : Value} {v80 : Value} {v81 : Value} {v82 : Value} {v83 : Value} {v84 : Value} {v85 : Value} {v86 : Value} {v87 : Value} {v88 : Value} {v89 : Value} {v90 : Value} {v91 : Value} {v92 : Value} {v93 : Value} {v94 : Value} {v95 : Value} {v96 : Value} {t : Int32} (C0 : lw_At p s m meth c b 6 xs) (htr : l.stackTraces = false) (hX : KX G k s) (hT9 : TX s) (hZ : ZX k (fun q : Nat => s.heap.size ≤ q) s s.heap) (e1 : xs 1 = t) (ht : t < 0) (hP : va_P G vwCl [(b0, .inr (6, [v3, v4, v5, v6, .ref b50, v8, v9, v10, v11, v12, v13])), (b50, .inr (2, [v14, v15, v16, v17, v18, v19, v20, v21, v22, v23, v24, v25, v26, v27])), (n0, .inr (7, (v28 :: v29 :: .int 0 :: v30 :: v31 :: v32 :: v33 :: v34 :: v35 :: v36 :: v37 :: v38 :: .int 0 :: v39 :: v40 :: v41 :: v42 :: v43 :: v44 :: v45 :: v46 :: v47 :: v48 :: v49 :: v50 :: v51 :: v52 :: v53 :: v54 :: v55 :: v56 :: v57 :: v58 :: v59 :: v60 :: v61 :: v62 :: v63 :: v64 :: v65 :: v66 :: v67 :: v68 :: v69 :: v70 :: v71 :: v72 :: v73 :: v74 :: v75 :: v76 :: v77 :: v78 :: v79 :: v80 :: v81 :: v82 :: v83 :: v84 :: v85 :: v86 :: v87 :: v88 :: v89 :: v90 :: v91 :: v92 :: v93 :: v94 :: v95 :: v96 :: [])))] H) (hD : va_D (fun q : Nat => s.heap.size ≤ q) [(b0, .inr (6, [v3, v4, v5, v6, .ref b50, v8, v9, v10, v11, v12, v13])), (b50, .inr (2, [v14, v15, v16, v17, v18, v19, v20, v21, v22, v23, v24, v25, v26, v27])), (n0, .inr (7, (v28 :: v29 :: .int 0 :: v30 :: v31 :: v32 :: v33 :: v34 :: v35 :: v36 :: v37 :: v38 :: .int 0 :: v39 :: v40 :: v41 :: v42 :: v43 :: v44 :: v45 :: v46 :: v47 :: v48 :: v49 :: v50 :: v51 :: v52 :: v53 :: v54 :: v55 :: v56 :: v57 :: v58 :: v59 :: v60 :: v61 :: v62 :: v63 :: v64 :: v65 :: v66 :: v67 :: v68 :: v69 :: v70 :: v71 :: v72 :: v73 :: v74 :: v75 :: v76 :: v77 :: v78 :: v79 :: v80 :: v81 :: v82 :: v83 :: v84 :: v85 :: v86 :: v87 :: v88 :: v89 :: v90 :: v91 :: v92 :: v93 :: v94 :: v95 :: v96 :: [])))]) (hS : va_S (fun q : Nat => s.heap.size ≤ q) s.heap H locs) (hl : lv_has ls 7 [(4, .int 0), (0, .ref b), (1, .ref b0), (2, .ref n0), (3, .ref o)]) : W p l e room_1 s m #[Value.ref b] below meth c H locs 92 31361 (lw_Z below #[Value.ref b] s) (F0 m 773 ls []) := by
  obtain ⟨hx, hb, hr, hml, hown, hts0, hXs, hbl, hlocks, hgv⟩ := C0
  have hts := fun w h => hts0 w (wsL_law_in w h)
  obtain ⟨A, hAe⟩ : ∃ z : Nat → Prop, z = (fun q : Nat => s.heap.size ≤ q) := ⟨_, rfl⟩
  have hA : ∀ q : Nat, s.heap.size ≤ q → A q := fun q h => by rw [hAe]; exact h
  have hbA : ¬ A b := by rw [hAe]; exact Nat.not_le.mpr hbl
  have hfA : ∀ {locs : List Loc}, (∀ q ∈ locs, A q.base) → ∀ q ∈ locs, s.heap.size ≤ q.base := fun h q hq => by have h9 := h q hq; rw [hAe] at h9; exact h9
  rw [← hAe] at hZ hD hS
  refine lv_aload_n hx hb dL_law_773 rfl (lv_at hl 2 rfl) ?_
  refine lv_aload_n hx hb dL_law_774 rfl (lv_at hl 1 rfl) ?_
  refine lv_iload hx hb dL_law_775 (lv_at hl 0 rfl) ?_
  refine lv_iconst (v := 1) hx hb dL_law_777 (by decide +kernel) ?_
  refine lv_iadd hx hb dL_law_778 ?_
  refine cz_ti (w := 1) (by decide +kernel) ?_
  refine va_sld hx hb hXs hbl hbA hS (by unfold vp_in; decide +kernel) dL_law_779 ?_
  refine cz_ti (w := t) (show xs ((1 : Int32).toNatClampNeg) = t from e1) ?_
  refine lv_aload_n hx hb dL_law_780 rfl (lv_at hl 4 rfl) ?_
  refine cz_i (wr := [(n0, .inr (7, (v28 :: v29 :: .int 0 :: v30 :: v31 :: v32 :: v33 :: v34 :: v35 :: v36 :: v37 :: v38 :: .int 0 :: v39 :: v40 :: v41 :: v42 :: v43 :: v44 :: v45 :: v46 :: v47 :: v48 :: v49 :: v50 :: v51 :: v52 :: v53 :: v54 :: v55 :: v56 :: v57 :: v58 :: v59 :: v60 :: v61 :: v62 :: v63 :: v64 :: v65 :: v66 :: v67 :: v68 :: v69 :: v70 :: v71 :: v72 :: v73 :: v74 :: v75 :: v76 :: v77 :: v78 :: v79 :: v80 :: v81 :: v82 :: v83 :: v84 :: v85 :: v86 :: v87 :: v88 :: v89 :: v90 :: v91 :: v92 :: v93 :: v94 :: v95 :: v96 :: [])))]) (vx_runSW (As := [.ref b0, .int t, .ref o]) (rest := []) ⟨hx, hb, hml, hown, hts⟩ (xL_reach_0 l htr G k b0 t o v3 v4 v5 v6 b50 v8 v9 v10 v11 v12 v13 v14 v15 v16 v17 v18 v19 v20 v21 v22 v23 v24 v25 v26 v27 H.size ht) (vx_cwSW 3 hts gL_law_L_reach rfl rfl rfl (by decide +kernel) ⟨Nat.le_of_ble_eq_true rfl, Nat.le_of_ble_eq_true rfl⟩) (cz_preST hT9 hZ hS hX hP hD [0, 1] rfl rfl) rfl rfl hl.1 rfl (lv_room (Nat.le_of_ble_eq_true rfl)) dL_law_781 ⟨Nat.le_of_ble_eq_true rfl, Nat.le_of_ble_eq_true rfl⟩) hP hD hS hA [0, 1] [2] rfl rfl (by decide) (by decide) (fun r u H locs hp hP hD hS => ?_)
  have hp : r = 1 := hp
  subst hp
  refine W.widen (k := 93) (n := 31367) (Nat.le_of_ble_eq_true rfl) (Nat.le_of_ble_eq_true rfl) ?_
  refine lv_istore (lv' := [(5, .int 1), (4, .int 0), (0, .ref b), (1, .ref b0), (2, .ref n0), (3, .ref o)]) hx hb dL_law_784 hl (by decide) rfl (fun ls hl => ?_)
  refine lv_aload_n hx hb dL_law_786 rfl (lv_at hl 4 rfl) ?_
  refine lv_aload_n hx hb dL_law_787 rfl (lv_at hl 2 rfl) ?_
  refine lv_iload hx hb dL_law_788 (lv_at hl 1 rfl) ?_
  refine lv_iconst (v := 1) hx hb dL_law_790 (by decide +kernel) ?_
  refine lv_iadd hx hb dL_law_791 ?_
  refine cz_ti (w := 1) (by decide +kernel) ?_
  refine va_sld hx hb hXs hbl hbA hS (by unfold vp_in; decide +kernel) dL_law_792 ?_
  refine cz_ti (w := t) (show xs ((1 : Int32).toNatClampNeg) = t from e1) ?_
  refine cz_i (wr := []) (va_runV (As := [.int t]) (rest := []) ⟨hx, hb, hml, hown, hts⟩ (cX10_reach_0 l G k n0 t v28 v29 (.int 0) v30 v31 v32 v33 v34 v35 v36 v37 v38 v39 v40 v41 v42 v43 v44 v45 v46 v47 v48 v49 v50 v51 v52 v53 v54 v55 v56 v57 v58 v59 v60 v61 v62 v63 v64 v65 v66 v67 v68 v69 v70 v71 v72 v73 v74 v75 v76 v77 v78 v79 v80 v81 v82 v83 v84 v85 v86 v87 v88 v89 v90 v91 v92 v93 v94 v95 v96 H.size ht) (cwV 1 hts gL_law_X10_reach rfl rfl rfl (by decide +kernel) ⟨Nat.le_of_ble_eq_true rfl, Nat.le_of_ble_eq_true rfl⟩) (cz_preV hZ hS hX hP hD [0] rfl rfl (ci := 7) (q0 := 0) rfl rfl) rfl rfl hl.1 rfl (lv_room (Nat.le_of_ble_eq_true rfl)) dL_law_793 ⟨Nat.le_of_ble_eq_true rfl, Nat.le_of_ble_eq_true rfl⟩) hP hD hS hA [0] [] rfl rfl (by decide) (by decide) (fun r u H locs hp hP hD hS => ?_)
  have hp : r = 0 := hp
  subst hp
  refine lv_istore (lv' := [(6, .int 0), (5, .int 1), (4, .int 0), (0, .ref b), (1, .ref b0), (2, .ref n0), (3, .ref o)]) hx hb dL_law_796 hl (by decide) rfl (fun ls hl => ?_)
  refine lv_aload_n hx hb dL_law_798 rfl (lv_at hl 5 rfl) ?_
  refine cz_i (wr := []) (va_runV (As := []) (rest := []) ⟨hx, hb, hml, hown, hts⟩ (cX10_thrown_0 l G k n0 v28 v29 v30 v31 v32 v33 v34 v35 v36 v37 v38 (.int 0) v39 v40 v41 v42 v43 v44 v45 v46 v47 v48 v49 v50 v51 v52 v53 v54 v55 v56 v57 v58 v59 v60 v61 v62 v63 v64 v65 v66 v67 v68 v69 v70 v71 v72 v73 v74 v75 v76 v77 v78 v79 v80 v81 v82 v83 v84 v85 v86 v87 v88 v89 v90 v91 v92 v93 v94 v95 v96 H.size) (cwV 0 hts gL_law_X10_thrown rfl rfl rfl (by decide +kernel) ⟨Nat.le_of_ble_eq_true rfl, Nat.le_of_ble_eq_true rfl⟩) (cz_preV hZ hS hX hP hD [0] rfl rfl (ci := 7) (q0 := 0) rfl rfl) rfl rfl hl.1 rfl (lv_room (Nat.le_of_ble_eq_true rfl)) dL_law_799 ⟨Nat.le_of_ble_eq_true rfl, Nat.le_of_ble_eq_true rfl⟩) hP hD hS hA [0] [] rfl rfl (by decide) (by decide) (fun r u H locs hp hP hD hS => ?_)
  have hp : r = 1 := hp
  subst hp
  refine lv_iload hx hb dL_law_802 (lv_at hl 1 rfl) ?_
  refine lv_icmp_eq (tgt := 809) hx hb dL_law_804 (by decide) (fun _ => ?_) (fun q => absurd (by decide +kernel) (q))
  refine lv_iload hx hb dL_law_809 (lv_at hl 1 rfl) ?_
  refine lv_if_ne (tgt := 826) hx hb dL_law_811 (by decide) (fun _ => ?_) (fun q => absurd (q) (by decide +kernel))
  refine lv_goto (tgt := 1002) hx hb dL_law_826 (by decide) ?_
  refine lv_iinc (v := 6) (lv' := [(4, .int 6), (6, .int 0), (5, .int 1), (0, .ref b), (1, .ref b0), (2, .ref n0), (3, .ref o)]) hx hb dL_law_1002 hl (k := 2) rfl (by decide +kernel) (by decide) rfl (fun ls hl => ?_)
  refine lv_goto (tgt := 23) hx hb dL_law_1005 (by decide) ?_
  refine lv_iload hx hb dL_law_23 (lv_at hl 0 rfl) ?_
  refine lv_aload_n hx hb dL_law_25 rfl (lv_at hl 3 rfl) ?_
  refine va_slen hx hb hXs hbl hbA hS dL_law_26 ?_
  refine cz_ti (w := 6) (by decide +kernel) ?_
  refine lv_bipush (v := 6) hx hb dL_law_27 (by decide +kernel) ?_
  refine lv_isub hx hb dL_law_29 ?_
  refine cz_ti (w := 0) (by decide +kernel) ?_
  refine lv_icmp_gt (tgt := 1008) hx hb dL_law_30 (by decide) (fun _ => ?_) (fun q => absurd (by decide +kernel) (q))
  refine lv_iconst (v := 1) hx hb dL_law_1008 (by decide +kernel) ?_
  refine va_forget (hfA hS.2.2) ?_
  refine W.widen (k := 600002) (n := 7302232) (Nat.le_of_ble_eq_true rfl) (Nat.le_of_ble_eq_true rfl) ?_
  exact lw_ret hx hb hr hlocks dL_law_1009

set_option maxHeartbeats 4000000 in
set_option maxRecDepth 100000 in
theorem law_15_1 {p : Program} {l : Launch} {e : Env} {s : State} {m : MethodId} {below : List Frame} {meth : Method} {c : Code} {G : va_G} {k : Nat → ClassId} {b : Nat} {xs : Nat → Int32} {H : Heap} {locs : List Loc} {ls : Array Slot} {b0 : Nat} {n0 : Nat} {o : Nat} {v3 : Value} {v4 : Value} {v5 : Value} {v6 : Value} {b50 : Nat} {v8 : Value} {v9 : Value} {v10 : Value} {v11 : Value} {v12 : Value} {v13 : Value} {v14 : Value} {v15 : Value} {v16 : Value} {v17 : Value} {v18 : Value} {v19 : Value} {v20 : Value} {v21 : Value} {v22 : Value} {v23 : Value} {v24 : Value} {v25 : Value} {v26 : Value} {v27 : Value} {v28 : Value} {v29 : Value} {v30 : Value} {v31 : Value} {v32 : Value} {v33 : Value} {v34 : Value} {v35 : Value} {v36 : Value} {v37 : Value} {v38 : Value} {v39 : Value} {v40 : Value} {v41 : Value} {v42 : Value} {v43 : Value} {v44 : Value} {v45 : Value} {v46 : Value} {v47 : Value} {v48 : Value} {v49 : Value} {v50 : Value} {v51 : Value} {v52 : Value} {v53 : Value} {v54 : Value} {v55 : Value} {v56 : Value} {v57 : Value} {v58 : Value} {v59 : Value} {v60 : Value} {v61 : Value} {v62 : Value} {v63 : Value} {v64 : Value} {v65 : Value} {v66 : Value} {v67 : Value} {v68 : Value} {v69 : Value} {v70 : Value} {v71 : Value} {v72 : Value} {v73 : Value} {v74 : Value} {v75 : Value} {v76 : Value} {v77 : Value} {v78 : Value} {v79 : Value} {v80 : Value} {v81 : Value} {v82 : Value} {v83 : Value} {v84 : Value} {v85 : Value} {v86 : Value} {v87 : Value} {v88 : Value} {v89 : Value} {v90 : Value} {v91 : Value} {v92 : Value} {v93 : Value} {v94 : Value} {v95 : Value} (C0 : lw_At p s m meth c b 6 xs) (htr : l.stackTraces = false) (hX : KX G k s) (hT9 : TX s) (hZ : ZX k (fun q : Nat => s.heap.size ≤ q) s s.heap) (e1 : xs 1 = 0) (hP : va_P G vwCl [(b0, .inr (6, [v3, v4, v5, v6, .ref b50, v8, v9, v10, v11, v12, v13])), (b50, .inr (2, [v14, v15, v16, v17, v18, v19, v20, .int 0, v21, v22, v23, v24, v25, v26])), (n0, .inr (7, (v27 :: v28 :: .int 0 :: v29 :: v30 :: v31 :: v32 :: v33 :: v34 :: v35 :: v36 :: v37 :: .int 0 :: v38 :: v39 :: v40 :: v41 :: v42 :: v43 :: v44 :: v45 :: v46 :: v47 :: v48 :: v49 :: v50 :: v51 :: v52 :: v53 :: v54 :: v55 :: v56 :: v57 :: v58 :: v59 :: v60 :: v61 :: v62 :: v63 :: v64 :: v65 :: v66 :: v67 :: v68 :: v69 :: v70 :: v71 :: v72 :: v73 :: v74 :: v75 :: v76 :: v77 :: v78 :: v79 :: v80 :: v81 :: v82 :: v83 :: v84 :: v85 :: v86 :: v87 :: v88 :: v89 :: v90 :: v91 :: v92 :: v93 :: v94 :: v95 :: [])))] H) (hD : va_D (fun q : Nat => s.heap.size ≤ q) [(b0, .inr (6, [v3, v4, v5, v6, .ref b50, v8, v9, v10, v11, v12, v13])), (b50, .inr (2, [v14, v15, v16, v17, v18, v19, v20, .int 0, v21, v22, v23, v24, v25, v26])), (n0, .inr (7, (v27 :: v28 :: .int 0 :: v29 :: v30 :: v31 :: v32 :: v33 :: v34 :: v35 :: v36 :: v37 :: .int 0 :: v38 :: v39 :: v40 :: v41 :: v42 :: v43 :: v44 :: v45 :: v46 :: v47 :: v48 :: v49 :: v50 :: v51 :: v52 :: v53 :: v54 :: v55 :: v56 :: v57 :: v58 :: v59 :: v60 :: v61 :: v62 :: v63 :: v64 :: v65 :: v66 :: v67 :: v68 :: v69 :: v70 :: v71 :: v72 :: v73 :: v74 :: v75 :: v76 :: v77 :: v78 :: v79 :: v80 :: v81 :: v82 :: v83 :: v84 :: v85 :: v86 :: v87 :: v88 :: v89 :: v90 :: v91 :: v92 :: v93 :: v94 :: v95 :: [])))]) (hS : va_S (fun q : Nat => s.heap.size ≤ q) s.heap H locs) (hl : lv_has ls 7 [(4, .int 0), (0, .ref b), (1, .ref b0), (2, .ref n0), (3, .ref o)]) : W p l e room_1 s m #[Value.ref b] below meth c H locs 92 31361 (lw_Z below #[Value.ref b] s) (F0 m 773 ls []) := by
  obtain ⟨hx, hb, hr, hml, hown, hts0, hXs, hbl, hlocks, hgv⟩ := C0
  have hts := fun w h => hts0 w (wsL_law_in w h)
  obtain ⟨A, hAe⟩ : ∃ z : Nat → Prop, z = (fun q : Nat => s.heap.size ≤ q) := ⟨_, rfl⟩
  have hA : ∀ q : Nat, s.heap.size ≤ q → A q := fun q h => by rw [hAe]; exact h
  have hbA : ¬ A b := by rw [hAe]; exact Nat.not_le.mpr hbl
  have hfA : ∀ {locs : List Loc}, (∀ q ∈ locs, A q.base) → ∀ q ∈ locs, s.heap.size ≤ q.base := fun h q hq => by have h9 := h q hq; rw [hAe] at h9; exact h9
  rw [← hAe] at hZ hD hS
  refine lv_aload_n hx hb dL_law_773 rfl (lv_at hl 2 rfl) ?_
  refine lv_aload_n hx hb dL_law_774 rfl (lv_at hl 1 rfl) ?_
  refine lv_iload hx hb dL_law_775 (lv_at hl 0 rfl) ?_
  refine lv_iconst (v := 1) hx hb dL_law_777 (by decide +kernel) ?_
  refine lv_iadd hx hb dL_law_778 ?_
  refine cz_ti (w := 1) (by decide +kernel) ?_
  refine va_sld hx hb hXs hbl hbA hS (by unfold vp_in; decide +kernel) dL_law_779 ?_
  refine cz_ti (w := 0) (show xs ((1 : Int32).toNatClampNeg) = 0 from e1) ?_
  refine lv_aload_n hx hb dL_law_780 rfl (lv_at hl 4 rfl) ?_
  refine cz_i (wr := [(n0, .inr (7, (v27 :: v28 :: .int 0 :: v29 :: v30 :: v31 :: v32 :: v33 :: v34 :: v35 :: v36 :: v37 :: .int 0 :: v38 :: v39 :: v40 :: v41 :: v42 :: v43 :: v44 :: v45 :: v46 :: v47 :: v48 :: v49 :: v50 :: v51 :: v52 :: v53 :: v54 :: v55 :: v56 :: v57 :: v58 :: v59 :: v60 :: v61 :: v62 :: v63 :: v64 :: v65 :: v66 :: v67 :: v68 :: v69 :: v70 :: v71 :: v72 :: v73 :: v74 :: v75 :: v76 :: v77 :: v78 :: v79 :: v80 :: v81 :: v82 :: v83 :: v84 :: v85 :: v86 :: v87 :: v88 :: v89 :: v90 :: v91 :: v92 :: v93 :: v94 :: v95 :: [])))]) (vx_runSW (As := [.ref b0, .int 0, .ref o]) (rest := []) ⟨hx, hb, hml, hown, hts⟩ (xL_reach_1 l htr G k b0 o v3 v4 v5 v6 b50 v8 v9 v10 v11 v12 v13 v14 v15 v16 v17 v18 v19 v20 v21 v22 v23 v24 v25 v26 H.size) (vx_cwSW 3 hts gL_law_L_reach rfl rfl rfl (by decide +kernel) ⟨Nat.le_of_ble_eq_true rfl, Nat.le_of_ble_eq_true rfl⟩) (cz_preST hT9 hZ hS hX hP hD [0, 1] rfl rfl) rfl rfl hl.1 rfl (lv_room (Nat.le_of_ble_eq_true rfl)) dL_law_781 ⟨Nat.le_of_ble_eq_true rfl, Nat.le_of_ble_eq_true rfl⟩) hP hD hS hA [0, 1] [2] rfl rfl (by decide) (by decide) (fun r u H locs hp hP hD hS => ?_)
  have hp : r = 1 := hp
  subst hp
  refine W.widen (k := 93) (n := 31367) (Nat.le_of_ble_eq_true rfl) (Nat.le_of_ble_eq_true rfl) ?_
  refine lv_istore (lv' := [(5, .int 1), (4, .int 0), (0, .ref b), (1, .ref b0), (2, .ref n0), (3, .ref o)]) hx hb dL_law_784 hl (by decide) rfl (fun ls hl => ?_)
  refine lv_aload_n hx hb dL_law_786 rfl (lv_at hl 4 rfl) ?_
  refine lv_aload_n hx hb dL_law_787 rfl (lv_at hl 2 rfl) ?_
  refine lv_iload hx hb dL_law_788 (lv_at hl 1 rfl) ?_
  refine lv_iconst (v := 1) hx hb dL_law_790 (by decide +kernel) ?_
  refine lv_iadd hx hb dL_law_791 ?_
  refine cz_ti (w := 1) (by decide +kernel) ?_
  refine va_sld hx hb hXs hbl hbA hS (by unfold vp_in; decide +kernel) dL_law_792 ?_
  refine cz_ti (w := 0) (show xs ((1 : Int32).toNatClampNeg) = 0 from e1) ?_
  refine cz_i (wr := []) (va_runV (As := [.int 0]) (rest := []) ⟨hx, hb, hml, hown, hts⟩ (cX10_reach_1 l G k n0 v27 v28 (.int 0) v29 v30 v31 v32 v33 v34 v35 v36 v37 v38 v39 v40 v41 v42 v43 v44 v45 v46 v47 v48 v49 v50 v51 v52 v53 v54 v55 v56 v57 v58 v59 v60 v61 v62 v63 v64 v65 v66 v67 v68 v69 v70 v71 v72 v73 v74 v75 v76 v77 v78 v79 v80 v81 v82 v83 v84 v85 v86 v87 v88 v89 v90 v91 v92 v93 v94 v95 H.size) (cwV 1 hts gL_law_X10_reach rfl rfl rfl (by decide +kernel) ⟨Nat.le_of_ble_eq_true rfl, Nat.le_of_ble_eq_true rfl⟩) (cz_preV hZ hS hX hP hD [0] rfl rfl (ci := 7) (q0 := 0) rfl rfl) rfl rfl hl.1 rfl (lv_room (Nat.le_of_ble_eq_true rfl)) dL_law_793 ⟨Nat.le_of_ble_eq_true rfl, Nat.le_of_ble_eq_true rfl⟩) hP hD hS hA [0] [] rfl rfl (by decide) (by decide) (fun r u H locs hp hP hD hS => ?_)
  have hp : r = 0 := hp
  subst hp
  refine lv_istore (lv' := [(6, .int 0), (5, .int 1), (4, .int 0), (0, .ref b), (1, .ref b0), (2, .ref n0), (3, .ref o)]) hx hb dL_law_796 hl (by decide) rfl (fun ls hl => ?_)
  refine lv_aload_n hx hb dL_law_798 rfl (lv_at hl 5 rfl) ?_
  refine cz_i (wr := []) (va_runV (As := []) (rest := []) ⟨hx, hb, hml, hown, hts⟩ (cX10_thrown_0 l G k n0 v27 v28 v29 v30 v31 v32 v33 v34 v35 v36 v37 (.int 0) v38 v39 v40 v41 v42 v43 v44 v45 v46 v47 v48 v49 v50 v51 v52 v53 v54 v55 v56 v57 v58 v59 v60 v61 v62 v63 v64 v65 v66 v67 v68 v69 v70 v71 v72 v73 v74 v75 v76 v77 v78 v79 v80 v81 v82 v83 v84 v85 v86 v87 v88 v89 v90 v91 v92 v93 v94 v95 H.size) (cwV 0 hts gL_law_X10_thrown rfl rfl rfl (by decide +kernel) ⟨Nat.le_of_ble_eq_true rfl, Nat.le_of_ble_eq_true rfl⟩) (cz_preV hZ hS hX hP hD [0] rfl rfl (ci := 7) (q0 := 0) rfl rfl) rfl rfl hl.1 rfl (lv_room (Nat.le_of_ble_eq_true rfl)) dL_law_799 ⟨Nat.le_of_ble_eq_true rfl, Nat.le_of_ble_eq_true rfl⟩) hP hD hS hA [0] [] rfl rfl (by decide) (by decide) (fun r u H locs hp hP hD hS => ?_)
  have hp : r = 1 := hp
  subst hp
  refine lv_iload hx hb dL_law_802 (lv_at hl 1 rfl) ?_
  refine lv_icmp_eq (tgt := 809) hx hb dL_law_804 (by decide) (fun _ => ?_) (fun q => absurd (by decide +kernel) (q))
  refine lv_iload hx hb dL_law_809 (lv_at hl 1 rfl) ?_
  refine lv_if_ne (tgt := 826) hx hb dL_law_811 (by decide) (fun _ => ?_) (fun q => absurd (q) (by decide +kernel))
  refine lv_goto (tgt := 1002) hx hb dL_law_826 (by decide) ?_
  refine lv_iinc (v := 6) (lv' := [(4, .int 6), (6, .int 0), (5, .int 1), (0, .ref b), (1, .ref b0), (2, .ref n0), (3, .ref o)]) hx hb dL_law_1002 hl (k := 2) rfl (by decide +kernel) (by decide) rfl (fun ls hl => ?_)
  refine lv_goto (tgt := 23) hx hb dL_law_1005 (by decide) ?_
  refine lv_iload hx hb dL_law_23 (lv_at hl 0 rfl) ?_
  refine lv_aload_n hx hb dL_law_25 rfl (lv_at hl 3 rfl) ?_
  refine va_slen hx hb hXs hbl hbA hS dL_law_26 ?_
  refine cz_ti (w := 6) (by decide +kernel) ?_
  refine lv_bipush (v := 6) hx hb dL_law_27 (by decide +kernel) ?_
  refine lv_isub hx hb dL_law_29 ?_
  refine cz_ti (w := 0) (by decide +kernel) ?_
  refine lv_icmp_gt (tgt := 1008) hx hb dL_law_30 (by decide) (fun _ => ?_) (fun q => absurd (by decide +kernel) (q))
  refine lv_iconst (v := 1) hx hb dL_law_1008 (by decide +kernel) ?_
  refine va_forget (hfA hS.2.2) ?_
  refine W.widen (k := 600002) (n := 7302232) (Nat.le_of_ble_eq_true rfl) (Nat.le_of_ble_eq_true rfl) ?_
  exact lw_ret hx hb hr hlocks dL_law_1009

set_option maxHeartbeats 4000000 in
set_option maxRecDepth 100000 in
theorem law_15_2 {p : Program} {l : Launch} {e : Env} {s : State} {m : MethodId} {below : List Frame} {meth : Method} {c : Code} {G : va_G} {k : Nat → ClassId} {b : Nat} {xs : Nat → Int32} {H : Heap} {locs : List Loc} {ls : Array Slot} {b0 : Nat} {n0 : Nat} {o : Nat} {v3 : Value} {v4 : Value} {v5 : Value} {v6 : Value} {b50 : Nat} {v8 : Value} {v9 : Value} {v10 : Value} {v11 : Value} {v12 : Value} {v13 : Value} {v14 : Value} {v15 : Value} {v16 : Value} {v17 : Value} {v18 : Value} {v19 : Value} {v20 : Value} {v21 : Value} {v22 : Value} {v23 : Value} {v24 : Value} {v25 : Value} {v26 : Value} {v27 : Value} {v28 : Value} {v29 : Value} {v30 : Value} {v31 : Value} {v32 : Value} {v33 : Value} {v34 : Value} {v35 : Value} {v36 : Value} {v37 : Value} {v38 : Value} {v39 : Value} {v40 : Value} {v41 : Value} {v42 : Value} {v43 : Value} {v44 : Value} {v45 : Value} {v46 : Value} {v47 : Value} {v48 : Value} {v49 : Value} {v50 : Value} {v51 : Value} {v52 : Value} {v53 : Value} {v54 : Value} {v55 : Value} {v56 : Value} {v57 : Value} {v58 : Value} {v59 : Value} {v60 : Value} {v61 : Value} {v62 : Value} {v63 : Value} {v64 : Value} {v65 : Value} {v66 : Value} {v67 : Value} {v68 : Value} {v69 : Value} {v70 : Value} {v71 : Value} {v72 : Value} {v73 : Value} {v74 : Value} {v75 : Value} {v76 : Value} {v77 : Value} {v78 : Value} {v79 : Value} {v80 : Value} {v81 : Value} {v82 : Value} {v83 : Value} {v84 : Value} {v85 : Value} {v86 : Value} {v87 : Value} {v88 : Value} {v89 : Value} {v90 : Value} {v91 : Value} {v92 : Value} {v93 : Value} {v94 : Value} {v95 : Value} {t : Int32} (C0 : lw_At p s m meth c b 6 xs) (htr : l.stackTraces = false) (hX : KX G k s) (hT9 : TX s) (hZ : ZX k (fun q : Nat => s.heap.size ≤ q) s s.heap) (e1 : xs 1 = t) (ht : 0 < t) (hP : va_P G vwCl [(b0, .inr (6, [v3, v4, v5, v6, .ref b50, v8, v9, v10, v11, v12, v13])), (b50, .inr (2, [v14, v15, v16, v17, v18, v19, v20, .int 0, v21, v22, v23, v24, v25, v26])), (n0, .inr (7, (v27 :: v28 :: .int 0 :: v29 :: v30 :: v31 :: v32 :: v33 :: v34 :: v35 :: v36 :: v37 :: .int 0 :: v38 :: v39 :: v40 :: v41 :: v42 :: v43 :: v44 :: v45 :: v46 :: v47 :: v48 :: v49 :: v50 :: v51 :: v52 :: v53 :: v54 :: v55 :: v56 :: v57 :: v58 :: v59 :: v60 :: v61 :: v62 :: v63 :: v64 :: v65 :: v66 :: v67 :: v68 :: v69 :: v70 :: v71 :: v72 :: v73 :: v74 :: v75 :: v76 :: v77 :: v78 :: v79 :: v80 :: v81 :: v82 :: v83 :: v84 :: v85 :: v86 :: v87 :: v88 :: v89 :: v90 :: v91 :: v92 :: v93 :: v94 :: v95 :: [])))] H) (hD : va_D (fun q : Nat => s.heap.size ≤ q) [(b0, .inr (6, [v3, v4, v5, v6, .ref b50, v8, v9, v10, v11, v12, v13])), (b50, .inr (2, [v14, v15, v16, v17, v18, v19, v20, .int 0, v21, v22, v23, v24, v25, v26])), (n0, .inr (7, (v27 :: v28 :: .int 0 :: v29 :: v30 :: v31 :: v32 :: v33 :: v34 :: v35 :: v36 :: v37 :: .int 0 :: v38 :: v39 :: v40 :: v41 :: v42 :: v43 :: v44 :: v45 :: v46 :: v47 :: v48 :: v49 :: v50 :: v51 :: v52 :: v53 :: v54 :: v55 :: v56 :: v57 :: v58 :: v59 :: v60 :: v61 :: v62 :: v63 :: v64 :: v65 :: v66 :: v67 :: v68 :: v69 :: v70 :: v71 :: v72 :: v73 :: v74 :: v75 :: v76 :: v77 :: v78 :: v79 :: v80 :: v81 :: v82 :: v83 :: v84 :: v85 :: v86 :: v87 :: v88 :: v89 :: v90 :: v91 :: v92 :: v93 :: v94 :: v95 :: [])))]) (hS : va_S (fun q : Nat => s.heap.size ≤ q) s.heap H locs) (hl : lv_has ls 7 [(4, .int 0), (0, .ref b), (1, .ref b0), (2, .ref n0), (3, .ref o)]) : W p l e room_1 s m #[Value.ref b] below meth c H locs 92 31361 (lw_Z below #[Value.ref b] s) (F0 m 773 ls []) := by
  obtain ⟨hx, hb, hr, hml, hown, hts0, hXs, hbl, hlocks, hgv⟩ := C0
  have hts := fun w h => hts0 w (wsL_law_in w h)
  obtain ⟨A, hAe⟩ : ∃ z : Nat → Prop, z = (fun q : Nat => s.heap.size ≤ q) := ⟨_, rfl⟩
  have hA : ∀ q : Nat, s.heap.size ≤ q → A q := fun q h => by rw [hAe]; exact h
  have hbA : ¬ A b := by rw [hAe]; exact Nat.not_le.mpr hbl
  have hfA : ∀ {locs : List Loc}, (∀ q ∈ locs, A q.base) → ∀ q ∈ locs, s.heap.size ≤ q.base := fun h q hq => by have h9 := h q hq; rw [hAe] at h9; exact h9
  rw [← hAe] at hZ hD hS
  refine lv_aload_n hx hb dL_law_773 rfl (lv_at hl 2 rfl) ?_
  refine lv_aload_n hx hb dL_law_774 rfl (lv_at hl 1 rfl) ?_
  refine lv_iload hx hb dL_law_775 (lv_at hl 0 rfl) ?_
  refine lv_iconst (v := 1) hx hb dL_law_777 (by decide +kernel) ?_
  refine lv_iadd hx hb dL_law_778 ?_
  refine cz_ti (w := 1) (by decide +kernel) ?_
  refine va_sld hx hb hXs hbl hbA hS (by unfold vp_in; decide +kernel) dL_law_779 ?_
  refine cz_ti (w := t) (show xs ((1 : Int32).toNatClampNeg) = t from e1) ?_
  refine lv_aload_n hx hb dL_law_780 rfl (lv_at hl 4 rfl) ?_
  refine cz_i (wr := [(n0, .inr (7, (v27 :: v28 :: .int 0 :: v29 :: v30 :: v31 :: v32 :: v33 :: v34 :: v35 :: v36 :: v37 :: .int 0 :: v38 :: v39 :: v40 :: v41 :: v42 :: v43 :: v44 :: v45 :: v46 :: v47 :: v48 :: v49 :: v50 :: v51 :: v52 :: v53 :: v54 :: v55 :: v56 :: v57 :: v58 :: v59 :: v60 :: v61 :: v62 :: v63 :: v64 :: v65 :: v66 :: v67 :: v68 :: v69 :: v70 :: v71 :: v72 :: v73 :: v74 :: v75 :: v76 :: v77 :: v78 :: v79 :: v80 :: v81 :: v82 :: v83 :: v84 :: v85 :: v86 :: v87 :: v88 :: v89 :: v90 :: v91 :: v92 :: v93 :: v94 :: v95 :: [])))]) (vx_runSW (As := [.ref b0, .int t, .ref o]) (rest := []) ⟨hx, hb, hml, hown, hts⟩ (xL_reach_2 l htr G k b0 t o v3 v4 v5 v6 b50 v8 v9 v10 v11 v12 v13 v14 v15 v16 v17 v18 v19 v20 v21 v22 v23 v24 v25 v26 H.size ht) (vx_cwSW 3 hts gL_law_L_reach rfl rfl rfl (by decide +kernel) ⟨Nat.le_of_ble_eq_true rfl, Nat.le_of_ble_eq_true rfl⟩) (cz_preST hT9 hZ hS hX hP hD [0, 1] rfl rfl) rfl rfl hl.1 rfl (lv_room (Nat.le_of_ble_eq_true rfl)) dL_law_781 ⟨Nat.le_of_ble_eq_true rfl, Nat.le_of_ble_eq_true rfl⟩) hP hD hS hA [0, 1] [2] rfl rfl (by decide) (by decide) (fun r u H locs hp hP hD hS => ?_)
  have hp : r = 1 := hp
  subst hp
  refine W.widen (k := 93) (n := 31367) (Nat.le_of_ble_eq_true rfl) (Nat.le_of_ble_eq_true rfl) ?_
  refine lv_istore (lv' := [(5, .int 1), (4, .int 0), (0, .ref b), (1, .ref b0), (2, .ref n0), (3, .ref o)]) hx hb dL_law_784 hl (by decide) rfl (fun ls hl => ?_)
  refine lv_aload_n hx hb dL_law_786 rfl (lv_at hl 4 rfl) ?_
  refine lv_aload_n hx hb dL_law_787 rfl (lv_at hl 2 rfl) ?_
  refine lv_iload hx hb dL_law_788 (lv_at hl 1 rfl) ?_
  refine lv_iconst (v := 1) hx hb dL_law_790 (by decide +kernel) ?_
  refine lv_iadd hx hb dL_law_791 ?_
  refine cz_ti (w := 1) (by decide +kernel) ?_
  refine va_sld hx hb hXs hbl hbA hS (by unfold vp_in; decide +kernel) dL_law_792 ?_
  refine cz_ti (w := t) (show xs ((1 : Int32).toNatClampNeg) = t from e1) ?_
  refine cz_i (wr := []) (va_runV (As := [.int t]) (rest := []) ⟨hx, hb, hml, hown, hts⟩ (cX10_reach_2 l G k n0 t v27 v28 (.int 0) v29 v30 v31 v32 v33 v34 v35 v36 v37 v38 v39 v40 v41 v42 v43 v44 v45 v46 v47 v48 v49 v50 v51 v52 v53 v54 v55 v56 v57 v58 v59 v60 v61 v62 v63 v64 v65 v66 v67 v68 v69 v70 v71 v72 v73 v74 v75 v76 v77 v78 v79 v80 v81 v82 v83 v84 v85 v86 v87 v88 v89 v90 v91 v92 v93 v94 v95 H.size ht) (cwV 1 hts gL_law_X10_reach rfl rfl rfl (by decide +kernel) ⟨Nat.le_of_ble_eq_true rfl, Nat.le_of_ble_eq_true rfl⟩) (cz_preV hZ hS hX hP hD [0] rfl rfl (ci := 7) (q0 := 0) rfl rfl) rfl rfl hl.1 rfl (lv_room (Nat.le_of_ble_eq_true rfl)) dL_law_793 ⟨Nat.le_of_ble_eq_true rfl, Nat.le_of_ble_eq_true rfl⟩) hP hD hS hA [0] [] rfl rfl (by decide) (by decide) (fun r u H locs hp hP hD hS => ?_)
  have hp : r = 0 := hp
  subst hp
  refine lv_istore (lv' := [(6, .int 0), (5, .int 1), (4, .int 0), (0, .ref b), (1, .ref b0), (2, .ref n0), (3, .ref o)]) hx hb dL_law_796 hl (by decide) rfl (fun ls hl => ?_)
  refine lv_aload_n hx hb dL_law_798 rfl (lv_at hl 5 rfl) ?_
  refine cz_i (wr := []) (va_runV (As := []) (rest := []) ⟨hx, hb, hml, hown, hts⟩ (cX10_thrown_0 l G k n0 v27 v28 v29 v30 v31 v32 v33 v34 v35 v36 v37 (.int 0) v38 v39 v40 v41 v42 v43 v44 v45 v46 v47 v48 v49 v50 v51 v52 v53 v54 v55 v56 v57 v58 v59 v60 v61 v62 v63 v64 v65 v66 v67 v68 v69 v70 v71 v72 v73 v74 v75 v76 v77 v78 v79 v80 v81 v82 v83 v84 v85 v86 v87 v88 v89 v90 v91 v92 v93 v94 v95 H.size) (cwV 0 hts gL_law_X10_thrown rfl rfl rfl (by decide +kernel) ⟨Nat.le_of_ble_eq_true rfl, Nat.le_of_ble_eq_true rfl⟩) (cz_preV hZ hS hX hP hD [0] rfl rfl (ci := 7) (q0 := 0) rfl rfl) rfl rfl hl.1 rfl (lv_room (Nat.le_of_ble_eq_true rfl)) dL_law_799 ⟨Nat.le_of_ble_eq_true rfl, Nat.le_of_ble_eq_true rfl⟩) hP hD hS hA [0] [] rfl rfl (by decide) (by decide) (fun r u H locs hp hP hD hS => ?_)
  have hp : r = 1 := hp
  subst hp
  refine lv_iload hx hb dL_law_802 (lv_at hl 1 rfl) ?_
  refine lv_icmp_eq (tgt := 809) hx hb dL_law_804 (by decide) (fun _ => ?_) (fun q => absurd (by decide +kernel) (q))
  refine lv_iload hx hb dL_law_809 (lv_at hl 1 rfl) ?_
  refine lv_if_ne (tgt := 826) hx hb dL_law_811 (by decide) (fun _ => ?_) (fun q => absurd (q) (by decide +kernel))
  refine lv_goto (tgt := 1002) hx hb dL_law_826 (by decide) ?_
  refine lv_iinc (v := 6) (lv' := [(4, .int 6), (6, .int 0), (5, .int 1), (0, .ref b), (1, .ref b0), (2, .ref n0), (3, .ref o)]) hx hb dL_law_1002 hl (k := 2) rfl (by decide +kernel) (by decide) rfl (fun ls hl => ?_)
  refine lv_goto (tgt := 23) hx hb dL_law_1005 (by decide) ?_
  refine lv_iload hx hb dL_law_23 (lv_at hl 0 rfl) ?_
  refine lv_aload_n hx hb dL_law_25 rfl (lv_at hl 3 rfl) ?_
  refine va_slen hx hb hXs hbl hbA hS dL_law_26 ?_
  refine cz_ti (w := 6) (by decide +kernel) ?_
  refine lv_bipush (v := 6) hx hb dL_law_27 (by decide +kernel) ?_
  refine lv_isub hx hb dL_law_29 ?_
  refine cz_ti (w := 0) (by decide +kernel) ?_
  refine lv_icmp_gt (tgt := 1008) hx hb dL_law_30 (by decide) (fun _ => ?_) (fun q => absurd (by decide +kernel) (q))
  refine lv_iconst (v := 1) hx hb dL_law_1008 (by decide +kernel) ?_
  refine va_forget (hfA hS.2.2) ?_
  refine W.widen (k := 600002) (n := 7302232) (Nat.le_of_ble_eq_true rfl) (Nat.le_of_ble_eq_true rfl) ?_
  exact lw_ret hx hb hr hlocks dL_law_1009

set_option maxHeartbeats 4000000 in
set_option maxRecDepth 100000 in
theorem law_16_0 {p : Program} {l : Launch} {e : Env} {s : State} {m : MethodId} {below : List Frame} {meth : Method} {c : Code} {G : va_G} {k : Nat → ClassId} {b : Nat} {xs : Nat → Int32} {H : Heap} {locs : List Loc} {ls : Array Slot} {b0 : Nat} {n0 : Nat} {o : Nat} {v3 : Value} {v4 : Value} {v5 : Value} {v6 : Value} {b50 : Nat} {v8 : Value} {v9 : Value} {v10 : Value} {v11 : Value} {v12 : Value} {v13 : Value} {v14 : Value} {v15 : Value} {v16 : Value} {v17 : Value} {v18 : Value} {v19 : Value} {v20 : Value} {v21 : Value} {v22 : Value} {v23 : Value} {v24 : Value} {v25 : Value} {v26 : Value} {v27 : Value} {v28 : Value} {v29 : Value} {v30 : Value} {v31 : Value} {v32 : Value} {v33 : Value} {v34 : Value} {v35 : Value} {v36 : Value} {v37 : Value} {v38 : Value} {v39 : Value} {v40 : Value} {v41 : Value} {v42 : Value} {v43 : Value} {v44 : Value} {v45 : Value} {v46 : Value} {v47 : Value} {v48 : Value} {v49 : Value} {v50 : Value} {v51 : Value} {v52 : Value} {v53 : Value} {v54 : Value} {v55 : Value} {v56 : Value} {v57 : Value} {v58 : Value} {v59 : Value} {v60 : Value} {v61 : Value} {v62 : Value} {v63 : Value} {v64 : Value} {v65 : Value} {v66 : Value} {v67 : Value} {v68 : Value} {v69 : Value} {v70 : Value} {v71 : Value} {v72 : Value} {v73 : Value} {v74 : Value} {v75 : Value} {v76 : Value} {v77 : Value} {v78 : Value} {v79 : Value} {v80 : Value} {v81 : Value} {v82 : Value} {v83 : Value} {v84 : Value} {v85 : Value} {v86 : Value} {v87 : Value} {v88 : Value} {v89 : Value} {v90 : Value} {v91 : Value} {v92 : Value} {v93 : Value} {v94 : Value} {v95 : Value} {v96 : Value} {t : Int32} {d : Int32} (C0 : lw_At p s m meth c b 6 xs) (htr : l.stackTraces = false) (hX : KX G k s) (hT9 : TX s) (hZ : ZX k (fun q : Nat => s.heap.size ≤ q) s s.heap) (e1 : xs 1 = t) (ht : t < 0) (e2 : xs 2 = d) (hP : va_P G vwCl [(b0, .inr (6, [v3, v4, v5, v6, .ref b50, v8, v9, v10, v11, v12, v13])), (b50, .inr (2, [v14, v15, v16, v17, v18, v19, v20, v21, v22, v23, v24, v25, v26, v27])), (n0, .inr (7, (v28 :: v29 :: .int 0 :: v30 :: v31 :: v32 :: v33 :: v34 :: v35 :: v36 :: v37 :: v38 :: .int 0 :: v39 :: v40 :: v41 :: v42 :: v43 :: v44 :: v45 :: v46 :: v47 :: v48 :: v49 :: v50 :: v51 :: v52 :: v53 :: v54 :: v55 :: v56 :: v57 :: v58 :: v59 :: v60 :: v61 :: v62 :: v63 :: v64 :: v65 :: v66 :: v67 :: v68 :: v69 :: v70 :: v71 :: v72 :: v73 :: v74 :: v75 :: v76 :: v77 :: v78 :: v79 :: v80 :: v81 :: v82 :: v83 :: v84 :: v85 :: v86 :: v87 :: v88 :: v89 :: v90 :: v91 :: v92 :: v93 :: v94 :: v95 :: v96 :: [])))] H) (hD : va_D (fun q : Nat => s.heap.size ≤ q) [(b0, .inr (6, [v3, v4, v5, v6, .ref b50, v8, v9, v10, v11, v12, v13])), (b50, .inr (2, [v14, v15, v16, v17, v18, v19, v20, v21, v22, v23, v24, v25, v26, v27])), (n0, .inr (7, (v28 :: v29 :: .int 0 :: v30 :: v31 :: v32 :: v33 :: v34 :: v35 :: v36 :: v37 :: v38 :: .int 0 :: v39 :: v40 :: v41 :: v42 :: v43 :: v44 :: v45 :: v46 :: v47 :: v48 :: v49 :: v50 :: v51 :: v52 :: v53 :: v54 :: v55 :: v56 :: v57 :: v58 :: v59 :: v60 :: v61 :: v62 :: v63 :: v64 :: v65 :: v66 :: v67 :: v68 :: v69 :: v70 :: v71 :: v72 :: v73 :: v74 :: v75 :: v76 :: v77 :: v78 :: v79 :: v80 :: v81 :: v82 :: v83 :: v84 :: v85 :: v86 :: v87 :: v88 :: v89 :: v90 :: v91 :: v92 :: v93 :: v94 :: v95 :: v96 :: [])))]) (hS : va_S (fun q : Nat => s.heap.size ≤ q) s.heap H locs) (hl : lv_has ls 7 [(4, .int 0), (0, .ref b), (1, .ref b0), (2, .ref n0), (3, .ref o)]) : W p l e room_1 s m #[Value.ref b] below meth c H locs 92 31361 (lw_Z below #[Value.ref b] s) (F0 m 829 ls []) := by
  obtain ⟨hx, hb, hr, hml, hown, hts0, hXs, hbl, hlocks, hgv⟩ := C0
  have hts := fun w h => hts0 w (wsL_law_in w h)
  obtain ⟨A, hAe⟩ : ∃ z : Nat → Prop, z = (fun q : Nat => s.heap.size ≤ q) := ⟨_, rfl⟩
  have hA : ∀ q : Nat, s.heap.size ≤ q → A q := fun q h => by rw [hAe]; exact h
  have hbA : ¬ A b := by rw [hAe]; exact Nat.not_le.mpr hbl
  have hfA : ∀ {locs : List Loc}, (∀ q ∈ locs, A q.base) → ∀ q ∈ locs, s.heap.size ≤ q.base := fun h q hq => by have h9 := h q hq; rw [hAe] at h9; exact h9
  rw [← hAe] at hZ hD hS
  refine lv_aload_n hx hb dL_law_829 rfl (lv_at hl 2 rfl) ?_
  refine lv_aload_n hx hb dL_law_830 rfl (lv_at hl 1 rfl) ?_
  refine lv_iload hx hb dL_law_831 (lv_at hl 0 rfl) ?_
  refine lv_iconst (v := 1) hx hb dL_law_833 (by decide +kernel) ?_
  refine lv_iadd hx hb dL_law_834 ?_
  refine cz_ti (w := 1) (by decide +kernel) ?_
  refine va_sld hx hb hXs hbl hbA hS (by unfold vp_in; decide +kernel) dL_law_835 ?_
  refine cz_ti (w := t) (show xs ((1 : Int32).toNatClampNeg) = t from e1) ?_
  refine lv_aload_n hx hb dL_law_836 rfl (lv_at hl 1 rfl) ?_
  refine lv_iload hx hb dL_law_837 (lv_at hl 0 rfl) ?_
  refine lv_iconst (v := 2) hx hb dL_law_839 (by decide +kernel) ?_
  refine lv_iadd hx hb dL_law_840 ?_
  refine cz_ti (w := 2) (by decide +kernel) ?_
  refine va_sld hx hb hXs hbl hbA hS (by unfold vp_in; decide +kernel) dL_law_841 ?_
  refine cz_ti (w := d) (show xs ((2 : Int32).toNatClampNeg) = d from e2) ?_
  refine lv_aload_n hx hb dL_law_842 rfl (lv_at hl 4 rfl) ?_
  refine cz_i (wr := [(n0, .inr (7, (v28 :: v29 :: .int 0 :: v30 :: v31 :: v32 :: v33 :: v34 :: v35 :: v36 :: v37 :: v38 :: .int 0 :: v39 :: v40 :: v41 :: v42 :: v43 :: v44 :: v45 :: v46 :: v47 :: v48 :: v49 :: v50 :: v51 :: v52 :: v53 :: v54 :: v55 :: v56 :: v57 :: v58 :: v59 :: v60 :: v61 :: v62 :: v63 :: v64 :: v65 :: v66 :: v67 :: v68 :: v69 :: v70 :: v71 :: v72 :: v73 :: v74 :: v75 :: v76 :: v77 :: v78 :: v79 :: v80 :: v81 :: v82 :: v83 :: v84 :: v85 :: v86 :: v87 :: v88 :: v89 :: v90 :: v91 :: v92 :: v93 :: v94 :: v95 :: v96 :: [])))]) (vx_runSW (As := [.ref b0, .int t, .int d, .ref o]) (rest := []) ⟨hx, hb, hml, hown, hts⟩ (xL_bars_0 l htr G k b0 t d o v3 v4 v5 v6 b50 v8 v9 v10 v11 v12 v13 v14 v15 v16 v17 v18 v19 v20 v21 v22 v23 v24 v25 v26 v27 H.size ht) (vx_cwSW 4 hts gL_law_L_bars rfl rfl rfl (by decide +kernel) ⟨Nat.le_of_ble_eq_true rfl, Nat.le_of_ble_eq_true rfl⟩) (cz_preST hT9 hZ hS hX hP hD [0, 1] rfl rfl) rfl rfl hl.1 rfl (lv_room (Nat.le_of_ble_eq_true rfl)) dL_law_843 ⟨Nat.le_of_ble_eq_true rfl, Nat.le_of_ble_eq_true rfl⟩) hP hD hS hA [0, 1] [2] rfl rfl (by decide) (by decide) (fun r u H locs hp hP hD hS => ?_)
  have hp : r = 1 := hp
  subst hp
  refine W.widen (k := 93) (n := 31367) (Nat.le_of_ble_eq_true rfl) (Nat.le_of_ble_eq_true rfl) ?_
  refine lv_istore (lv' := [(5, .int 1), (4, .int 0), (0, .ref b), (1, .ref b0), (2, .ref n0), (3, .ref o)]) hx hb dL_law_846 hl (by decide) rfl (fun ls hl => ?_)
  refine lv_aload_n hx hb dL_law_848 rfl (lv_at hl 4 rfl) ?_
  refine lv_aload_n hx hb dL_law_849 rfl (lv_at hl 2 rfl) ?_
  refine lv_iload hx hb dL_law_850 (lv_at hl 1 rfl) ?_
  refine lv_iconst (v := 1) hx hb dL_law_852 (by decide +kernel) ?_
  refine lv_iadd hx hb dL_law_853 ?_
  refine cz_ti (w := 1) (by decide +kernel) ?_
  refine va_sld hx hb hXs hbl hbA hS (by unfold vp_in; decide +kernel) dL_law_854 ?_
  refine cz_ti (w := t) (show xs ((1 : Int32).toNatClampNeg) = t from e1) ?_
  refine lv_aload_n hx hb dL_law_855 rfl (lv_at hl 2 rfl) ?_
  refine lv_iload hx hb dL_law_856 (lv_at hl 1 rfl) ?_
  refine lv_iconst (v := 2) hx hb dL_law_858 (by decide +kernel) ?_
  refine lv_iadd hx hb dL_law_859 ?_
  refine cz_ti (w := 2) (by decide +kernel) ?_
  refine va_sld hx hb hXs hbl hbA hS (by unfold vp_in; decide +kernel) dL_law_860 ?_
  refine cz_ti (w := d) (show xs ((2 : Int32).toNatClampNeg) = d from e2) ?_
  refine cz_i (wr := []) (va_runV (As := [.int t, .int d]) (rest := []) ⟨hx, hb, hml, hown, hts⟩ (cX10_bars_0 l G k n0 t d v28 v29 (.int 0) v30 v31 v32 v33 v34 v35 v36 v37 v38 v39 v40 v41 v42 v43 v44 v45 v46 v47 v48 v49 v50 v51 v52 v53 v54 v55 v56 v57 v58 v59 v60 v61 v62 v63 v64 v65 v66 v67 v68 v69 v70 v71 v72 v73 v74 v75 v76 v77 v78 v79 v80 v81 v82 v83 v84 v85 v86 v87 v88 v89 v90 v91 v92 v93 v94 v95 v96 H.size ht) (cwV 2 hts gL_law_X10_bars rfl rfl rfl (by decide +kernel) ⟨Nat.le_of_ble_eq_true rfl, Nat.le_of_ble_eq_true rfl⟩) (cz_preV hZ hS hX hP hD [0] rfl rfl (ci := 7) (q0 := 0) rfl rfl) rfl rfl hl.1 rfl (lv_room (Nat.le_of_ble_eq_true rfl)) dL_law_861 ⟨Nat.le_of_ble_eq_true rfl, Nat.le_of_ble_eq_true rfl⟩) hP hD hS hA [0] [] rfl rfl (by decide) (by decide) (fun r u H locs hp hP hD hS => ?_)
  have hp : r = 0 := hp
  subst hp
  refine lv_istore (lv' := [(6, .int 0), (5, .int 1), (4, .int 0), (0, .ref b), (1, .ref b0), (2, .ref n0), (3, .ref o)]) hx hb dL_law_864 hl (by decide) rfl (fun ls hl => ?_)
  refine lv_aload_n hx hb dL_law_866 rfl (lv_at hl 5 rfl) ?_
  refine cz_i (wr := []) (va_runV (As := []) (rest := []) ⟨hx, hb, hml, hown, hts⟩ (cX10_thrown_0 l G k n0 v28 v29 v30 v31 v32 v33 v34 v35 v36 v37 v38 (.int 0) v39 v40 v41 v42 v43 v44 v45 v46 v47 v48 v49 v50 v51 v52 v53 v54 v55 v56 v57 v58 v59 v60 v61 v62 v63 v64 v65 v66 v67 v68 v69 v70 v71 v72 v73 v74 v75 v76 v77 v78 v79 v80 v81 v82 v83 v84 v85 v86 v87 v88 v89 v90 v91 v92 v93 v94 v95 v96 H.size) (cwV 0 hts gL_law_X10_thrown rfl rfl rfl (by decide +kernel) ⟨Nat.le_of_ble_eq_true rfl, Nat.le_of_ble_eq_true rfl⟩) (cz_preV hZ hS hX hP hD [0] rfl rfl (ci := 7) (q0 := 0) rfl rfl) rfl rfl hl.1 rfl (lv_room (Nat.le_of_ble_eq_true rfl)) dL_law_867 ⟨Nat.le_of_ble_eq_true rfl, Nat.le_of_ble_eq_true rfl⟩) hP hD hS hA [0] [] rfl rfl (by decide) (by decide) (fun r u H locs hp hP hD hS => ?_)
  have hp : r = 1 := hp
  subst hp
  refine lv_iload hx hb dL_law_870 (lv_at hl 1 rfl) ?_
  refine lv_icmp_eq (tgt := 877) hx hb dL_law_872 (by decide) (fun _ => ?_) (fun q => absurd (by decide +kernel) (q))
  refine lv_iload hx hb dL_law_877 (lv_at hl 1 rfl) ?_
  refine lv_if_ne (tgt := 894) hx hb dL_law_879 (by decide) (fun _ => ?_) (fun q => absurd (q) (by decide +kernel))
  refine lv_goto (tgt := 1002) hx hb dL_law_894 (by decide) ?_
  refine lv_iinc (v := 6) (lv' := [(4, .int 6), (6, .int 0), (5, .int 1), (0, .ref b), (1, .ref b0), (2, .ref n0), (3, .ref o)]) hx hb dL_law_1002 hl (k := 2) rfl (by decide +kernel) (by decide) rfl (fun ls hl => ?_)
  refine lv_goto (tgt := 23) hx hb dL_law_1005 (by decide) ?_
  refine lv_iload hx hb dL_law_23 (lv_at hl 0 rfl) ?_
  refine lv_aload_n hx hb dL_law_25 rfl (lv_at hl 3 rfl) ?_
  refine va_slen hx hb hXs hbl hbA hS dL_law_26 ?_
  refine cz_ti (w := 6) (by decide +kernel) ?_
  refine lv_bipush (v := 6) hx hb dL_law_27 (by decide +kernel) ?_
  refine lv_isub hx hb dL_law_29 ?_
  refine cz_ti (w := 0) (by decide +kernel) ?_
  refine lv_icmp_gt (tgt := 1008) hx hb dL_law_30 (by decide) (fun _ => ?_) (fun q => absurd (by decide +kernel) (q))
  refine lv_iconst (v := 1) hx hb dL_law_1008 (by decide +kernel) ?_
  refine va_forget (hfA hS.2.2) ?_
  refine W.widen (k := 600002) (n := 7302232) (Nat.le_of_ble_eq_true rfl) (Nat.le_of_ble_eq_true rfl) ?_
  exact lw_ret hx hb hr hlocks dL_law_1009

set_option maxHeartbeats 4000000 in
set_option maxRecDepth 100000 in
theorem law_16_1 {p : Program} {l : Launch} {e : Env} {s : State} {m : MethodId} {below : List Frame} {meth : Method} {c : Code} {G : va_G} {k : Nat → ClassId} {b : Nat} {xs : Nat → Int32} {H : Heap} {locs : List Loc} {ls : Array Slot} {b0 : Nat} {n0 : Nat} {o : Nat} {v3 : Value} {v4 : Value} {v5 : Value} {v6 : Value} {b50 : Nat} {v8 : Value} {v9 : Value} {v10 : Value} {v11 : Value} {v12 : Value} {v13 : Value} {v14 : Value} {v15 : Value} {v16 : Value} {v17 : Value} {v18 : Value} {v19 : Value} {v20 : Value} {v21 : Value} {v22 : Value} {v23 : Value} {v24 : Value} {v25 : Value} {v26 : Value} {v27 : Value} {v28 : Value} {v29 : Value} {v30 : Value} {v31 : Value} {v32 : Value} {v33 : Value} {v34 : Value} {v35 : Value} {v36 : Value} {v37 : Value} {v38 : Value} {v39 : Value} {v40 : Value} {v41 : Value} {v42 : Value} {v43 : Value} {v44 : Value} {v45 : Value} {v46 : Value} {v47 : Value} {v48 : Value} {v49 : Value} {v50 : Value} {v51 : Value} {v52 : Value} {v53 : Value} {v54 : Value} {v55 : Value} {v56 : Value} {v57 : Value} {v58 : Value} {v59 : Value} {v60 : Value} {v61 : Value} {v62 : Value} {v63 : Value} {v64 : Value} {v65 : Value} {v66 : Value} {v67 : Value} {v68 : Value} {v69 : Value} {v70 : Value} {v71 : Value} {v72 : Value} {v73 : Value} {v74 : Value} {v75 : Value} {v76 : Value} {v77 : Value} {v78 : Value} {v79 : Value} {v80 : Value} {v81 : Value} {v82 : Value} {v83 : Value} {v84 : Value} {v85 : Value} {v86 : Value} {v87 : Value} {v88 : Value} {v89 : Value} {v90 : Value} {v91 : Value} {v92 : Value} {v93 : Value} {v94 : Value} {v95 : Value} {d : Int32} (C0 : lw_At p s m meth c b 6 xs) (htr : l.stackTraces = false) (hX : KX G k s) (hT9 : TX s) (hZ : ZX k (fun q : Nat => s.heap.size ≤ q) s s.heap) (e1 : xs 1 = 0) (e2 : xs 2 = d) (hP : va_P G vwCl [(b0, .inr (6, [v3, v4, v5, v6, .ref b50, v8, v9, v10, v11, v12, v13])), (b50, .inr (2, [v14, v15, v16, v17, v18, v19, v20, .int 0, v21, v22, v23, v24, v25, v26])), (n0, .inr (7, (v27 :: v28 :: .int 0 :: v29 :: v30 :: v31 :: v32 :: v33 :: v34 :: v35 :: v36 :: v37 :: .int 0 :: v38 :: v39 :: v40 :: v41 :: v42 :: v43 :: v44 :: v45 :: v46 :: v47 :: v48 :: v49 :: v50 :: v51 :: v52 :: v53 :: v54 :: v55 :: v56 :: v57 :: v58 :: v59 :: v60 :: v61 :: v62 :: v63 :: v64 :: v65 :: v66 :: v67 :: v68 :: v69 :: v70 :: v71 :: v72 :: v73 :: v74 :: v75 :: v76 :: v77 :: v78 :: v79 :: v80 :: v81 :: v82 :: v83 :: v84 :: v85 :: v86 :: v87 :: v88 :: v89 :: v90 :: v91 :: v92 :: v93 :: v94 :: v95 :: [])))] H) (hD : va_D (fun q : Nat => s.heap.size ≤ q) [(b0, .inr (6, [v3, v4, v5, v6, .ref b50, v8, v9, v10, v11, v12, v13])), (b50, .inr (2, [v14, v15, v16, v17, v18, v19, v20, .int 0, v21, v22, v23, v24, v25, v26])), (n0, .inr (7, (v27 :: v28 :: .int 0 :: v29 :: v30 :: v31 :: v32 :: v33 :: v34 :: v35 :: v36 :: v37 :: .int 0 :: v38 :: v39 :: v40 :: v41 :: v42 :: v43 :: v44 :: v45 :: v46 :: v47 :: v48 :: v49 :: v50 :: v51 :: v52 :: v53 :: v54 :: v55 :: v56 :: v57 :: v58 :: v59 :: v60 :: v61 :: v62 :: v63 :: v64 :: v65 :: v66 :: v67 :: v68 :: v69 :: v70 :: v71 :: v72 :: v73 :: v74 :: v75 :: v76 :: v77 :: v78 :: v79 :: v80 :: v81 :: v82 :: v83 :: v84 :: v85 :: v86 :: v87 :: v88 :: v89 :: v90 :: v91 :: v92 :: v93 :: v94 :: v95 :: [])))]) (hS : va_S (fun q : Nat => s.heap.size ≤ q) s.heap H locs) (hl : lv_has ls 7 [(4, .int 0), (0, .ref b), (1, .ref b0), (2, .ref n0), (3, .ref o)]) : W p l e room_1 s m #[Value.ref b] below meth c H locs 92 31361 (lw_Z below #[Value.ref b] s) (F0 m 829 ls []) := by
  obtain ⟨hx, hb, hr, hml, hown, hts0, hXs, hbl, hlocks, hgv⟩ := C0
  have hts := fun w h => hts0 w (wsL_law_in w h)
  obtain ⟨A, hAe⟩ : ∃ z : Nat → Prop, z = (fun q : Nat => s.heap.size ≤ q) := ⟨_, rfl⟩
  have hA : ∀ q : Nat, s.heap.size ≤ q → A q := fun q h => by rw [hAe]; exact h
  have hbA : ¬ A b := by rw [hAe]; exact Nat.not_le.mpr hbl
  have hfA : ∀ {locs : List Loc}, (∀ q ∈ locs, A q.base) → ∀ q ∈ locs, s.heap.size ≤ q.base := fun h q hq => by have h9 := h q hq; rw [hAe] at h9; exact h9
  rw [← hAe] at hZ hD hS
  refine lv_aload_n hx hb dL_law_829 rfl (lv_at hl 2 rfl) ?_
  refine lv_aload_n hx hb dL_law_830 rfl (lv_at hl 1 rfl) ?_
  refine lv_iload hx hb dL_law_831 (lv_at hl 0 rfl) ?_
  refine lv_iconst (v := 1) hx hb dL_law_833 (by decide +kernel) ?_
  refine lv_iadd hx hb dL_law_834 ?_
  refine cz_ti (w := 1) (by decide +kernel) ?_
  refine va_sld hx hb hXs hbl hbA hS (by unfold vp_in; decide +kernel) dL_law_835 ?_
  refine cz_ti (w := 0) (show xs ((1 : Int32).toNatClampNeg) = 0 from e1) ?_
  refine lv_aload_n hx hb dL_law_836 rfl (lv_at hl 1 rfl) ?_
  refine lv_iload hx hb dL_law_837 (lv_at hl 0 rfl) ?_
  refine lv_iconst (v := 2) hx hb dL_law_839 (by decide +kernel) ?_
  refine lv_iadd hx hb dL_law_840 ?_
  refine cz_ti (w := 2) (by decide +kernel) ?_
  refine va_sld hx hb hXs hbl hbA hS (by unfold vp_in; decide +kernel) dL_law_841 ?_
  refine cz_ti (w := d) (show xs ((2 : Int32).toNatClampNeg) = d from e2) ?_
  refine lv_aload_n hx hb dL_law_842 rfl (lv_at hl 4 rfl) ?_
  refine cz_i (wr := [(n0, .inr (7, (v27 :: v28 :: .int 0 :: v29 :: v30 :: v31 :: v32 :: v33 :: v34 :: v35 :: v36 :: v37 :: .int 0 :: v38 :: v39 :: v40 :: v41 :: v42 :: v43 :: v44 :: v45 :: v46 :: v47 :: v48 :: v49 :: v50 :: v51 :: v52 :: v53 :: v54 :: v55 :: v56 :: v57 :: v58 :: v59 :: v60 :: v61 :: v62 :: v63 :: v64 :: v65 :: v66 :: v67 :: v68 :: v69 :: v70 :: v71 :: v72 :: v73 :: v74 :: v75 :: v76 :: v77 :: v78 :: v79 :: v80 :: v81 :: v82 :: v83 :: v84 :: v85 :: v86 :: v87 :: v88 :: v89 :: v90 :: v91 :: v92 :: v93 :: v94 :: v95 :: [])))]) (vx_runSW (As := [.ref b0, .int 0, .int d, .ref o]) (rest := []) ⟨hx, hb, hml, hown, hts⟩ (xL_bars_1 l htr G k b0 d o v3 v4 v5 v6 b50 v8 v9 v10 v11 v12 v13 v14 v15 v16 v17 v18 v19 v20 v21 v22 v23 v24 v25 v26 H.size) (vx_cwSW 4 hts gL_law_L_bars rfl rfl rfl (by decide +kernel) ⟨Nat.le_of_ble_eq_true rfl, Nat.le_of_ble_eq_true rfl⟩) (cz_preST hT9 hZ hS hX hP hD [0, 1] rfl rfl) rfl rfl hl.1 rfl (lv_room (Nat.le_of_ble_eq_true rfl)) dL_law_843 ⟨Nat.le_of_ble_eq_true rfl, Nat.le_of_ble_eq_true rfl⟩) hP hD hS hA [0, 1] [2] rfl rfl (by decide) (by decide) (fun r u H locs hp hP hD hS => ?_)
  have hp : r = 1 := hp
  subst hp
  refine W.widen (k := 93) (n := 31367) (Nat.le_of_ble_eq_true rfl) (Nat.le_of_ble_eq_true rfl) ?_
  refine lv_istore (lv' := [(5, .int 1), (4, .int 0), (0, .ref b), (1, .ref b0), (2, .ref n0), (3, .ref o)]) hx hb dL_law_846 hl (by decide) rfl (fun ls hl => ?_)
  refine lv_aload_n hx hb dL_law_848 rfl (lv_at hl 4 rfl) ?_
  refine lv_aload_n hx hb dL_law_849 rfl (lv_at hl 2 rfl) ?_
  refine lv_iload hx hb dL_law_850 (lv_at hl 1 rfl) ?_
  refine lv_iconst (v := 1) hx hb dL_law_852 (by decide +kernel) ?_
  refine lv_iadd hx hb dL_law_853 ?_
  refine cz_ti (w := 1) (by decide +kernel) ?_
  refine va_sld hx hb hXs hbl hbA hS (by unfold vp_in; decide +kernel) dL_law_854 ?_
  refine cz_ti (w := 0) (show xs ((1 : Int32).toNatClampNeg) = 0 from e1) ?_
  refine lv_aload_n hx hb dL_law_855 rfl (lv_at hl 2 rfl) ?_
  refine lv_iload hx hb dL_law_856 (lv_at hl 1 rfl) ?_
  refine lv_iconst (v := 2) hx hb dL_law_858 (by decide +kernel) ?_
  refine lv_iadd hx hb dL_law_859 ?_
  refine cz_ti (w := 2) (by decide +kernel) ?_
  refine va_sld hx hb hXs hbl hbA hS (by unfold vp_in; decide +kernel) dL_law_860 ?_
  refine cz_ti (w := d) (show xs ((2 : Int32).toNatClampNeg) = d from e2) ?_
  refine cz_i (wr := []) (va_runV (As := [.int 0, .int d]) (rest := []) ⟨hx, hb, hml, hown, hts⟩ (cX10_bars_1 l G k n0 d v27 v28 (.int 0) v29 v30 v31 v32 v33 v34 v35 v36 v37 v38 v39 v40 v41 v42 v43 v44 v45 v46 v47 v48 v49 v50 v51 v52 v53 v54 v55 v56 v57 v58 v59 v60 v61 v62 v63 v64 v65 v66 v67 v68 v69 v70 v71 v72 v73 v74 v75 v76 v77 v78 v79 v80 v81 v82 v83 v84 v85 v86 v87 v88 v89 v90 v91 v92 v93 v94 v95 H.size) (cwV 2 hts gL_law_X10_bars rfl rfl rfl (by decide +kernel) ⟨Nat.le_of_ble_eq_true rfl, Nat.le_of_ble_eq_true rfl⟩) (cz_preV hZ hS hX hP hD [0] rfl rfl (ci := 7) (q0 := 0) rfl rfl) rfl rfl hl.1 rfl (lv_room (Nat.le_of_ble_eq_true rfl)) dL_law_861 ⟨Nat.le_of_ble_eq_true rfl, Nat.le_of_ble_eq_true rfl⟩) hP hD hS hA [0] [] rfl rfl (by decide) (by decide) (fun r u H locs hp hP hD hS => ?_)
  have hp : r = 0 := hp
  subst hp
  refine lv_istore (lv' := [(6, .int 0), (5, .int 1), (4, .int 0), (0, .ref b), (1, .ref b0), (2, .ref n0), (3, .ref o)]) hx hb dL_law_864 hl (by decide) rfl (fun ls hl => ?_)
  refine lv_aload_n hx hb dL_law_866 rfl (lv_at hl 5 rfl) ?_
  refine cz_i (wr := []) (va_runV (As := []) (rest := []) ⟨hx, hb, hml, hown, hts⟩ (cX10_thrown_0 l G k n0 v27 v28 v29 v30 v31 v32 v33 v34 v35 v36 v37 (.int 0) v38 v39 v40 v41 v42 v43 v44 v45 v46 v47 v48 v49 v50 v51 v52 v53 v54 v55 v56 v57 v58 v59 v60 v61 v62 v63 v64 v65 v66 v67 v68 v69 v70 v71 v72 v73 v74 v75 v76 v77 v78 v79 v80 v81 v82 v83 v84 v85 v86 v87 v88 v89 v90 v91 v92 v93 v94 v95 H.size) (cwV 0 hts gL_law_X10_thrown rfl rfl rfl (by decide +kernel) ⟨Nat.le_of_ble_eq_true rfl, Nat.le_of_ble_eq_true rfl⟩) (cz_preV hZ hS hX hP hD [0] rfl rfl (ci := 7) (q0 := 0) rfl rfl) rfl rfl hl.1 rfl (lv_room (Nat.le_of_ble_eq_true rfl)) dL_law_867 ⟨Nat.le_of_ble_eq_true rfl, Nat.le_of_ble_eq_true rfl⟩) hP hD hS hA [0] [] rfl rfl (by decide) (by decide) (fun r u H locs hp hP hD hS => ?_)
  have hp : r = 1 := hp
  subst hp
  refine lv_iload hx hb dL_law_870 (lv_at hl 1 rfl) ?_
  refine lv_icmp_eq (tgt := 877) hx hb dL_law_872 (by decide) (fun _ => ?_) (fun q => absurd (by decide +kernel) (q))
  refine lv_iload hx hb dL_law_877 (lv_at hl 1 rfl) ?_
  refine lv_if_ne (tgt := 894) hx hb dL_law_879 (by decide) (fun _ => ?_) (fun q => absurd (q) (by decide +kernel))
  refine lv_goto (tgt := 1002) hx hb dL_law_894 (by decide) ?_
  refine lv_iinc (v := 6) (lv' := [(4, .int 6), (6, .int 0), (5, .int 1), (0, .ref b), (1, .ref b0), (2, .ref n0), (3, .ref o)]) hx hb dL_law_1002 hl (k := 2) rfl (by decide +kernel) (by decide) rfl (fun ls hl => ?_)
  refine lv_goto (tgt := 23) hx hb dL_law_1005 (by decide) ?_
  refine lv_iload hx hb dL_law_23 (lv_at hl 0 rfl) ?_
  refine lv_aload_n hx hb dL_law_25 rfl (lv_at hl 3 rfl) ?_
  refine va_slen hx hb hXs hbl hbA hS dL_law_26 ?_
  refine cz_ti (w := 6) (by decide +kernel) ?_
  refine lv_bipush (v := 6) hx hb dL_law_27 (by decide +kernel) ?_
  refine lv_isub hx hb dL_law_29 ?_
  refine cz_ti (w := 0) (by decide +kernel) ?_
  refine lv_icmp_gt (tgt := 1008) hx hb dL_law_30 (by decide) (fun _ => ?_) (fun q => absurd (by decide +kernel) (q))
  refine lv_iconst (v := 1) hx hb dL_law_1008 (by decide +kernel) ?_
  refine va_forget (hfA hS.2.2) ?_
  refine W.widen (k := 600002) (n := 7302232) (Nat.le_of_ble_eq_true rfl) (Nat.le_of_ble_eq_true rfl) ?_
  exact lw_ret hx hb hr hlocks dL_law_1009

