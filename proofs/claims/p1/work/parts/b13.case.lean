set_option maxHeartbeats 4000000 in
set_option maxRecDepth 100000 in
theorem law_3_10 {p : Program} {l : Launch} {e : Env} {s : State} {m : MethodId} {below : List Frame} {meth : Method} {c : Code} {G : va_G} {k : Nat → ClassId} {b : Nat} {xs : Nat → Int32} {H : Heap} {locs : List Loc} {ls : Array Slot} {b0 : Nat} {n0 : Nat} {o : Nat} {v3 : Value} {v4 : Value} {v5 : Value} {v6 : Value} {v7 : Value} {v8 : Value} {b51 : Nat} {v10 : Value} {v11 : Value} {v12 : Value} {v13 : Value} {v14 : Value} {v15 : Value} {v16 : Value} {v17 : Value} {v18 : Value} {v19 : Value} {v20 : Value} {v21 : Value} {v22 : Value} {v23 : Value} {v24 : Value} {v25 : Value} {v26 : Value} {v27 : Value} {v28 : Value} {v29 : Value} {v30 : Value} {v31 : Value} {v32 : Value} {v33 : Value} {v34 : Value} {v35 : Value} {v36 : Value} {v37 : Value} {v38 : Value} {v39 : Value} {v40 : Value} {v41 : Value} {v42 : Value} {v43 : Value} {v44 : Value} {v45 : Value} {v46 : Value} {v47 : Value} {v48 : Value} {v49 : Value} {v50 : Value} {v51 : Value} {v52 : Value} {v53 : Value} {v54 : Value} {v55 : Value} {v56 : Value} {v57 : Value} {v58 : Value} {v59 : Value} {v60 : Value} {v61 : Value} {v62 : Value} {v63 : Value} {v64 : Value} {v65 : Value} {v66 : Value} {v67 : Value} {v68 : Value} {v69 : Value} {v70 : Value} {v71 : Value} {v72 : Value} {v73 : Value} {v74 : Value} {v75 : Value} {v76 : Value} {v77 : Value} {v78 : Value} {v79 : Value} {v80 : Value} {v81 : Value} {v82 : Value} {v83 : Value} {v84 : Value} {v85 : Value} {v86 : Value} {v87 : Value} {v88 : Value} {v89 : Value} {v90 : Value} {v91 : Value} {v92 : Value} {v93 : Value} (C0 : lw_At p s m meth c b 6 xs) (htr : l.stackTraces = false) (hX : KX G k s) (hT9 : TX s) (hZ : ZX k (fun q : Nat => s.heap.size ≤ q) s s.heap) (e1 : xs 1 = 9) (hP : va_P G vwCl [(b0, .inr (6, [v3, v4, v5, v6, v7, v8, .ref b51, v10, v11, v12, v13])), (b51, .inr (0, [v14, .int 0, v15, v16, v17, v18, v19, v20, v21, v22, v23, v24])), (o, .inl (k 2, 1, .inr (.inl (fun _ => 0)))), (n0, .inr (7, (v25 :: v26 :: .int 0 :: v27 :: v28 :: v29 :: v30 :: v31 :: v32 :: v33 :: v34 :: v35 :: v36 :: v37 :: v38 :: v39 :: v40 :: v41 :: v42 :: v43 :: v44 :: v45 :: v46 :: v47 :: v48 :: v49 :: v50 :: v51 :: v52 :: .int 0 :: v53 :: v54 :: v55 :: v56 :: v57 :: v58 :: v59 :: v60 :: v61 :: v62 :: v63 :: v64 :: v65 :: v66 :: v67 :: v68 :: v69 :: v70 :: v71 :: v72 :: v73 :: v74 :: v75 :: v76 :: v77 :: v78 :: v79 :: v80 :: v81 :: v82 :: v83 :: v84 :: v85 :: v86 :: v87 :: v88 :: v89 :: v90 :: v91 :: v92 :: v93 :: [])))] H) (hD : va_D (fun q : Nat => s.heap.size ≤ q) [(b0, .inr (6, [v3, v4, v5, v6, v7, v8, .ref b51, v10, v11, v12, v13])), (b51, .inr (0, [v14, .int 0, v15, v16, v17, v18, v19, v20, v21, v22, v23, v24])), (o, .inl (k 2, 1, .inr (.inl (fun _ => 0)))), (n0, .inr (7, (v25 :: v26 :: .int 0 :: v27 :: v28 :: v29 :: v30 :: v31 :: v32 :: v33 :: v34 :: v35 :: v36 :: v37 :: v38 :: v39 :: v40 :: v41 :: v42 :: v43 :: v44 :: v45 :: v46 :: v47 :: v48 :: v49 :: v50 :: v51 :: v52 :: .int 0 :: v53 :: v54 :: v55 :: v56 :: v57 :: v58 :: v59 :: v60 :: v61 :: v62 :: v63 :: v64 :: v65 :: v66 :: v67 :: v68 :: v69 :: v70 :: v71 :: v72 :: v73 :: v74 :: v75 :: v76 :: v77 :: v78 :: v79 :: v80 :: v81 :: v82 :: v83 :: v84 :: v85 :: v86 :: v87 :: v88 :: v89 :: v90 :: v91 :: v92 :: v93 :: [])))]) (hS : va_S (fun q : Nat => s.heap.size ≤ q) s.heap H locs) (hl : lv_has ls 7 [(4, .int 0), (0, .ref b), (1, .ref b0), (2, .ref n0), (3, .ref o)]) : W p l e room_1 s m #[Value.ref b] below meth c H locs 92 31361 (lw_Z below #[Value.ref b] s) (F0 m 282 ls []) := by
  obtain ⟨hx, hb, hr, hml, hown, hts0, hXs, hbl, hlocks, hgv⟩ := C0
  have hts := fun w h => hts0 w (wsL_law_in w h)
  obtain ⟨A, hAe⟩ : ∃ z : Nat → Prop, z = (fun q : Nat => s.heap.size ≤ q) := ⟨_, rfl⟩
  have hA : ∀ q : Nat, s.heap.size ≤ q → A q := fun q h => by rw [hAe]; exact h
  have hbA : ¬ A b := by rw [hAe]; exact Nat.not_le.mpr hbl
  have hfA : ∀ {locs : List Loc}, (∀ q ∈ locs, A q.base) → ∀ q ∈ locs, s.heap.size ≤ q.base := fun h q hq => by have h9 := h q hq; rw [hAe] at h9; exact h9
  rw [← hAe] at hZ hD hS
  refine lv_aload_n hx hb dL_law_282 rfl (lv_at hl 2 rfl) ?_
  refine lv_aload_n hx hb dL_law_283 rfl (lv_at hl 1 rfl) ?_
  refine lv_iload hx hb dL_law_284 (lv_at hl 0 rfl) ?_
  refine lv_iconst (v := 1) hx hb dL_law_286 (by decide +kernel) ?_
  refine lv_iadd hx hb dL_law_287 ?_
  refine cz_ti (w := 1) (by decide +kernel) ?_
  refine va_sld hx hb hXs hbl hbA hS (by unfold vp_in; decide +kernel) dL_law_288 ?_
  refine cz_ti (w := 9) (show xs ((1 : Int32).toNatClampNeg) = 9 from e1) ?_
  refine lv_aload_n hx hb dL_law_289 rfl (lv_at hl 4 rfl) ?_
  refine cz_i (wr := [(n0, .inr (7, (v25 :: v26 :: .int 0 :: v27 :: v28 :: v29 :: v30 :: v31 :: v32 :: v33 :: v34 :: v35 :: v36 :: v37 :: v38 :: v39 :: v40 :: v41 :: v42 :: v43 :: v44 :: v45 :: v46 :: v47 :: v48 :: v49 :: v50 :: v51 :: v52 :: .int 0 :: v53 :: v54 :: v55 :: v56 :: v57 :: v58 :: v59 :: v60 :: v61 :: v62 :: v63 :: v64 :: v65 :: v66 :: v67 :: v68 :: v69 :: v70 :: v71 :: v72 :: v73 :: v74 :: v75 :: v76 :: v77 :: v78 :: v79 :: v80 :: v81 :: v82 :: v83 :: v84 :: v85 :: v86 :: v87 :: v88 :: v89 :: v90 :: v91 :: v92 :: v93 :: [])))]) (vx_runSW (As := [.ref b0, .int 9, .ref o]) (rest := []) ⟨hx, hb, hml, hown, hts⟩ (cL_count_10 l G k b0 o v3 v4 v5 v6 v7 v8 b51 v10 v11 v12 v13 v14 v15 v16 v17 v18 v19 v20 v21 v22 v23 v24 (fun _ => 0) H.size) (vx_cwSW 3 hts gL_law_L_count rfl rfl rfl (by decide +kernel) ⟨Nat.le_of_ble_eq_true rfl, Nat.le_of_ble_eq_true rfl⟩) (cz_preS hZ hS hX hP hD [0, 1, 2] rfl rfl) rfl rfl hl.1 rfl (lv_room (Nat.le_of_ble_eq_true rfl)) dL_law_290 ⟨Nat.le_of_ble_eq_true rfl, Nat.le_of_ble_eq_true rfl⟩) hP hD hS hA [0, 1, 2] [3] rfl rfl (by decide) (by decide) (fun r u H locs hp hP hD hS => ?_)
  have hp : r = 0 := hp
  subst hp
  refine lv_istore (lv' := [(5, .int 0), (4, .int 0), (0, .ref b), (1, .ref b0), (2, .ref n0), (3, .ref o)]) hx hb dL_law_293 hl (by decide) rfl (fun ls hl => ?_)
  refine lv_aload_n hx hb dL_law_295 rfl (lv_at hl 4 rfl) ?_
  refine lv_aload_n hx hb dL_law_296 rfl (lv_at hl 2 rfl) ?_
  refine lv_iload hx hb dL_law_297 (lv_at hl 1 rfl) ?_
  refine lv_iconst (v := 1) hx hb dL_law_299 (by decide +kernel) ?_
  refine lv_iadd hx hb dL_law_300 ?_
  refine cz_ti (w := 1) (by decide +kernel) ?_
  refine va_sld hx hb hXs hbl hbA hS (by unfold vp_in; decide +kernel) dL_law_301 ?_
  refine cz_ti (w := 9) (show xs ((1 : Int32).toNatClampNeg) = 9 from e1) ?_
  refine cz_i (wr := [(o, .inl (k 2, 1, .inr (.inl (vp_updL (fun _ => 0) (0 : Int32).toNatClampNeg 0)))), (b0, .inr (6, [v3, v4, v5, v6, v7, v8, .ref b51, v10, v11, v12, v13])), (b51, .inr (0, [v14, .int 0, v15, v16, v17, v18, v19, v20, v21, v22, v23, v24]))]) (va_runV (As := [.int 9]) (rest := []) ⟨hx, hb, hml, hown, hts⟩ (cX10_count_10 l G k n0 v25 v26 (.int 0) v27 v28 v29 v30 v31 v32 v33 v34 v35 v36 v37 v38 v39 v40 v41 v42 v43 v44 v45 v46 v47 v48 v49 v50 v51 v52 v53 v54 v55 v56 v57 v58 v59 v60 v61 v62 v63 v64 v65 v66 v67 v68 v69 v70 v71 v72 v73 v74 v75 v76 v77 v78 v79 v80 v81 v82 v83 v84 v85 v86 v87 v88 v89 v90 v91 v92 v93 H.size) (cwV 1 hts gL_law_X10_count rfl rfl rfl (by decide +kernel) ⟨Nat.le_of_ble_eq_true rfl, Nat.le_of_ble_eq_true rfl⟩) (cz_preV hZ hS hX hP hD [0] rfl rfl (ci := 7) (q0 := 0) rfl rfl) rfl rfl hl.1 rfl (lv_room (Nat.le_of_ble_eq_true rfl)) dL_law_302 ⟨Nat.le_of_ble_eq_true rfl, Nat.le_of_ble_eq_true rfl⟩) hP hD hS hA [0] [1, 2, 3] rfl rfl (by decide) (by decide) (fun r u H locs hp hP hD hS => ?_)
  have hp : r = 0 := hp
  subst hp
  refine lv_istore (lv' := [(6, .int 0), (5, .int 0), (4, .int 0), (0, .ref b), (1, .ref b0), (2, .ref n0), (3, .ref o)]) hx hb dL_law_305 hl (by decide) rfl (fun ls hl => ?_)
  refine lv_aload_n hx hb dL_law_307 rfl (lv_at hl 5 rfl) ?_
  refine cz_i (wr := [(o, .inl (k 2, 1, .inr (.inl (vp_updL (fun _ => 0) (0 : Int32).toNatClampNeg 0)))), (b0, .inr (6, [v3, v4, v5, v6, v7, v8, .ref b51, v10, v11, v12, v13])), (b51, .inr (0, [v14, .int 0, v15, v16, v17, v18, v19, v20, v21, v22, v23, v24]))]) (va_runV (As := []) (rest := []) ⟨hx, hb, hml, hown, hts⟩ (cX10_thrown_1 l G k n0 v25 v26 v27 v28 v29 v30 v31 v32 v33 v34 v35 v36 v37 v38 v39 v40 v41 v42 v43 v44 v45 v46 v47 v48 v49 v50 v51 v52 (.int 0) v53 v54 v55 v56 v57 v58 v59 v60 v61 v62 v63 v64 v65 v66 v67 v68 v69 v70 v71 v72 v73 v74 v75 v76 v77 v78 v79 v80 v81 v82 v83 v84 v85 v86 v87 v88 v89 v90 v91 v92 v93 H.size) (cwV 0 hts gL_law_X10_thrown rfl rfl rfl (by decide +kernel) ⟨Nat.le_of_ble_eq_true rfl, Nat.le_of_ble_eq_true rfl⟩) (cz_preV hZ hS hX hP hD [3] rfl rfl (ci := 7) (q0 := 3) rfl rfl) rfl rfl hl.1 rfl (lv_room (Nat.le_of_ble_eq_true rfl)) dL_law_308 ⟨Nat.le_of_ble_eq_true rfl, Nat.le_of_ble_eq_true rfl⟩) hP hD hS hA [3] [0, 1, 2] rfl rfl (by decide) (by decide) (fun r u H locs hp hP hD hS => ?_)
  have hp : r = 0 := hp
  subst hp
  refine lv_iload hx hb dL_law_311 (lv_at hl 1 rfl) ?_
  refine lv_icmp_eq (tgt := 318) hx hb dL_law_313 (by decide) (fun _ => ?_) (fun q => absurd (by decide +kernel) (q))
  refine lv_iload hx hb dL_law_318 (lv_at hl 1 rfl) ?_
  refine lv_if_ne (tgt := 335) hx hb dL_law_320 (by decide) (fun q => absurd (by decide +kernel) (q)) (fun _ => ?_)
  refine lv_aload_n hx hb dL_law_323 rfl (lv_at hl 6 rfl) ?_
  refine lv_iconst (v := 0) hx hb dL_law_324 (by decide +kernel) ?_
  refine va_lald hx hb hX.1 hP 0 2 rfl rfl (by unfold vp_in; decide +kernel) dL_law_325 ?_
  refine cz_tl (w := 0) (by rfl) ?_
  refine lv_iload hx hb dL_law_326 (lv_at hl 0 rfl) ?_
  refine lv_i2l (v := 0) hx hb dL_law_328 (by decide +kernel) ?_
  refine W.lcmp hx hb dL_law_329 ?_
  refine cz_ti (w := 0) (by decide +kernel) ?_
  refine lv_if_eq (tgt := 335) hx hb dL_law_330 (by decide) (fun _ => ?_) (fun q => absurd (by decide +kernel) (q))
  refine lv_goto (tgt := 1002) hx hb dL_law_335 (by decide) ?_
  refine lv_iinc (v := 6) (lv' := [(4, .int 6), (6, .int 0), (5, .int 0), (0, .ref b), (1, .ref b0), (2, .ref n0), (3, .ref o)]) hx hb dL_law_1002 hl (k := 2) rfl (by decide +kernel) (by decide) rfl (fun ls hl => ?_)
  refine lv_goto (tgt := 23) hx hb dL_law_1005 (by decide) ?_
  refine lv_iload hx hb dL_law_23 (lv_at hl 0 rfl) ?_
  refine lv_aload_n hx hb dL_law_25 rfl (lv_at hl 3 rfl) ?_
  refine va_slen hx hb hXs hbl hbA hS dL_law_26 ?_
  refine cz_ti (w := 6) (by decide +kernel) ?_
  refine lv_bipush (v := 6) hx hb dL_law_27 (by decide +kernel) ?_
  refine lv_isub hx hb dL_law_29 ?_
  refine cz_ti (w := 0) (by decide +kernel) ?_
  refine lv_icmp_gt (tgt := 1008) hx hb dL_law_30 (by decide) (fun _ => ?_) (fun q => absurd (by decide +kernel) (q))
  refine lv_iconst (v := 1) hx hb dL_law_1008 (by decide +kernel) ?_
  refine va_forget (hfA hS.2.2) ?_
  refine W.widen (k := 600002) (n := 7302232) (Nat.le_of_ble_eq_true rfl) (Nat.le_of_ble_eq_true rfl) ?_
  exact lw_ret hx hb hr hlocks dL_law_1009

set_option maxHeartbeats 4000000 in
set_option maxRecDepth 100000 in
theorem law_3_11 {p : Program} {l : Launch} {e : Env} {s : State} {m : MethodId} {below : List Frame} {meth : Method} {c : Code} {G : va_G} {k : Nat → ClassId} {b : Nat} {xs : Nat → Int32} {H : Heap} {locs : List Loc} {ls : Array Slot} {b0 : Nat} {n0 : Nat} {o : Nat} {v3 : Value} {v4 : Value} {v5 : Value} {v6 : Value} {v7 : Value} {v8 : Value} {b51 : Nat} {v10 : Value} {v11 : Value} {v12 : Value} {v13 : Value} {v14 : Value} {v15 : Value} {v16 : Value} {v17 : Value} {v18 : Value} {v19 : Value} {v20 : Value} {v21 : Value} {v22 : Value} {v23 : Value} {v24 : Value} {v25 : Value} {v26 : Value} {v27 : Value} {v28 : Value} {v29 : Value} {v30 : Value} {v31 : Value} {v32 : Value} {v33 : Value} {v34 : Value} {v35 : Value} {v36 : Value} {v37 : Value} {v38 : Value} {v39 : Value} {v40 : Value} {v41 : Value} {v42 : Value} {v43 : Value} {v44 : Value} {v45 : Value} {v46 : Value} {v47 : Value} {v48 : Value} {v49 : Value} {v50 : Value} {v51 : Value} {v52 : Value} {v53 : Value} {v54 : Value} {v55 : Value} {v56 : Value} {v57 : Value} {v58 : Value} {v59 : Value} {v60 : Value} {v61 : Value} {v62 : Value} {v63 : Value} {v64 : Value} {v65 : Value} {v66 : Value} {v67 : Value} {v68 : Value} {v69 : Value} {v70 : Value} {v71 : Value} {v72 : Value} {v73 : Value} {v74 : Value} {v75 : Value} {v76 : Value} {v77 : Value} {v78 : Value} {v79 : Value} {v80 : Value} {v81 : Value} {v82 : Value} {v83 : Value} {v84 : Value} {v85 : Value} {v86 : Value} {v87 : Value} {v88 : Value} {v89 : Value} {v90 : Value} {v91 : Value} {v92 : Value} {v93 : Value} (C0 : lw_At p s m meth c b 6 xs) (htr : l.stackTraces = false) (hX : KX G k s) (hT9 : TX s) (hZ : ZX k (fun q : Nat => s.heap.size ≤ q) s s.heap) (e1 : xs 1 = 10) (hP : va_P G vwCl [(b0, .inr (6, [v3, v4, v5, v6, v7, v8, .ref b51, v10, v11, v12, v13])), (b51, .inr (0, [v14, v15, .int 0, v16, v17, v18, v19, v20, v21, v22, v23, v24])), (o, .inl (k 2, 1, .inr (.inl (fun _ => 0)))), (n0, .inr (7, (v25 :: v26 :: .int 0 :: v27 :: v28 :: v29 :: v30 :: v31 :: v32 :: v33 :: v34 :: v35 :: v36 :: v37 :: v38 :: v39 :: v40 :: v41 :: v42 :: v43 :: v44 :: v45 :: v46 :: v47 :: v48 :: v49 :: v50 :: v51 :: v52 :: .int 0 :: v53 :: v54 :: v55 :: v56 :: v57 :: v58 :: v59 :: v60 :: v61 :: v62 :: v63 :: v64 :: v65 :: v66 :: v67 :: v68 :: v69 :: v70 :: v71 :: v72 :: v73 :: v74 :: v75 :: v76 :: v77 :: v78 :: v79 :: v80 :: v81 :: v82 :: v83 :: v84 :: v85 :: v86 :: v87 :: v88 :: v89 :: v90 :: v91 :: v92 :: v93 :: [])))] H) (hD : va_D (fun q : Nat => s.heap.size ≤ q) [(b0, .inr (6, [v3, v4, v5, v6, v7, v8, .ref b51, v10, v11, v12, v13])), (b51, .inr (0, [v14, v15, .int 0, v16, v17, v18, v19, v20, v21, v22, v23, v24])), (o, .inl (k 2, 1, .inr (.inl (fun _ => 0)))), (n0, .inr (7, (v25 :: v26 :: .int 0 :: v27 :: v28 :: v29 :: v30 :: v31 :: v32 :: v33 :: v34 :: v35 :: v36 :: v37 :: v38 :: v39 :: v40 :: v41 :: v42 :: v43 :: v44 :: v45 :: v46 :: v47 :: v48 :: v49 :: v50 :: v51 :: v52 :: .int 0 :: v53 :: v54 :: v55 :: v56 :: v57 :: v58 :: v59 :: v60 :: v61 :: v62 :: v63 :: v64 :: v65 :: v66 :: v67 :: v68 :: v69 :: v70 :: v71 :: v72 :: v73 :: v74 :: v75 :: v76 :: v77 :: v78 :: v79 :: v80 :: v81 :: v82 :: v83 :: v84 :: v85 :: v86 :: v87 :: v88 :: v89 :: v90 :: v91 :: v92 :: v93 :: [])))]) (hS : va_S (fun q : Nat => s.heap.size ≤ q) s.heap H locs) (hl : lv_has ls 7 [(4, .int 0), (0, .ref b), (1, .ref b0), (2, .ref n0), (3, .ref o)]) : W p l e room_1 s m #[Value.ref b] below meth c H locs 92 31361 (lw_Z below #[Value.ref b] s) (F0 m 282 ls []) := by
  obtain ⟨hx, hb, hr, hml, hown, hts0, hXs, hbl, hlocks, hgv⟩ := C0
  have hts := fun w h => hts0 w (wsL_law_in w h)
  obtain ⟨A, hAe⟩ : ∃ z : Nat → Prop, z = (fun q : Nat => s.heap.size ≤ q) := ⟨_, rfl⟩
  have hA : ∀ q : Nat, s.heap.size ≤ q → A q := fun q h => by rw [hAe]; exact h
  have hbA : ¬ A b := by rw [hAe]; exact Nat.not_le.mpr hbl
  have hfA : ∀ {locs : List Loc}, (∀ q ∈ locs, A q.base) → ∀ q ∈ locs, s.heap.size ≤ q.base := fun h q hq => by have h9 := h q hq; rw [hAe] at h9; exact h9
  rw [← hAe] at hZ hD hS
  refine lv_aload_n hx hb dL_law_282 rfl (lv_at hl 2 rfl) ?_
  refine lv_aload_n hx hb dL_law_283 rfl (lv_at hl 1 rfl) ?_
  refine lv_iload hx hb dL_law_284 (lv_at hl 0 rfl) ?_
  refine lv_iconst (v := 1) hx hb dL_law_286 (by decide +kernel) ?_
  refine lv_iadd hx hb dL_law_287 ?_
  refine cz_ti (w := 1) (by decide +kernel) ?_
  refine va_sld hx hb hXs hbl hbA hS (by unfold vp_in; decide +kernel) dL_law_288 ?_
  refine cz_ti (w := 10) (show xs ((1 : Int32).toNatClampNeg) = 10 from e1) ?_
  refine lv_aload_n hx hb dL_law_289 rfl (lv_at hl 4 rfl) ?_
  refine cz_i (wr := [(n0, .inr (7, (v25 :: v26 :: .int 0 :: v27 :: v28 :: v29 :: v30 :: v31 :: v32 :: v33 :: v34 :: v35 :: v36 :: v37 :: v38 :: v39 :: v40 :: v41 :: v42 :: v43 :: v44 :: v45 :: v46 :: v47 :: v48 :: v49 :: v50 :: v51 :: v52 :: .int 0 :: v53 :: v54 :: v55 :: v56 :: v57 :: v58 :: v59 :: v60 :: v61 :: v62 :: v63 :: v64 :: v65 :: v66 :: v67 :: v68 :: v69 :: v70 :: v71 :: v72 :: v73 :: v74 :: v75 :: v76 :: v77 :: v78 :: v79 :: v80 :: v81 :: v82 :: v83 :: v84 :: v85 :: v86 :: v87 :: v88 :: v89 :: v90 :: v91 :: v92 :: v93 :: [])))]) (vx_runSW (As := [.ref b0, .int 10, .ref o]) (rest := []) ⟨hx, hb, hml, hown, hts⟩ (cL_count_11 l G k b0 o v3 v4 v5 v6 v7 v8 b51 v10 v11 v12 v13 v14 v15 v16 v17 v18 v19 v20 v21 v22 v23 v24 (fun _ => 0) H.size) (vx_cwSW 3 hts gL_law_L_count rfl rfl rfl (by decide +kernel) ⟨Nat.le_of_ble_eq_true rfl, Nat.le_of_ble_eq_true rfl⟩) (cz_preS hZ hS hX hP hD [0, 1, 2] rfl rfl) rfl rfl hl.1 rfl (lv_room (Nat.le_of_ble_eq_true rfl)) dL_law_290 ⟨Nat.le_of_ble_eq_true rfl, Nat.le_of_ble_eq_true rfl⟩) hP hD hS hA [0, 1, 2] [3] rfl rfl (by decide) (by decide) (fun r u H locs hp hP hD hS => ?_)
  have hp : r = 0 := hp
  subst hp
  refine lv_istore (lv' := [(5, .int 0), (4, .int 0), (0, .ref b), (1, .ref b0), (2, .ref n0), (3, .ref o)]) hx hb dL_law_293 hl (by decide) rfl (fun ls hl => ?_)
  refine lv_aload_n hx hb dL_law_295 rfl (lv_at hl 4 rfl) ?_
  refine lv_aload_n hx hb dL_law_296 rfl (lv_at hl 2 rfl) ?_
  refine lv_iload hx hb dL_law_297 (lv_at hl 1 rfl) ?_
  refine lv_iconst (v := 1) hx hb dL_law_299 (by decide +kernel) ?_
  refine lv_iadd hx hb dL_law_300 ?_
  refine cz_ti (w := 1) (by decide +kernel) ?_
  refine va_sld hx hb hXs hbl hbA hS (by unfold vp_in; decide +kernel) dL_law_301 ?_
  refine cz_ti (w := 10) (show xs ((1 : Int32).toNatClampNeg) = 10 from e1) ?_
  refine cz_i (wr := [(o, .inl (k 2, 1, .inr (.inl (vp_updL (fun _ => 0) (0 : Int32).toNatClampNeg 0)))), (b0, .inr (6, [v3, v4, v5, v6, v7, v8, .ref b51, v10, v11, v12, v13])), (b51, .inr (0, [v14, v15, .int 0, v16, v17, v18, v19, v20, v21, v22, v23, v24]))]) (va_runV (As := [.int 10]) (rest := []) ⟨hx, hb, hml, hown, hts⟩ (cX10_count_11 l G k n0 v25 v26 (.int 0) v27 v28 v29 v30 v31 v32 v33 v34 v35 v36 v37 v38 v39 v40 v41 v42 v43 v44 v45 v46 v47 v48 v49 v50 v51 v52 v53 v54 v55 v56 v57 v58 v59 v60 v61 v62 v63 v64 v65 v66 v67 v68 v69 v70 v71 v72 v73 v74 v75 v76 v77 v78 v79 v80 v81 v82 v83 v84 v85 v86 v87 v88 v89 v90 v91 v92 v93 H.size) (cwV 1 hts gL_law_X10_count rfl rfl rfl (by decide +kernel) ⟨Nat.le_of_ble_eq_true rfl, Nat.le_of_ble_eq_true rfl⟩) (cz_preV hZ hS hX hP hD [0] rfl rfl (ci := 7) (q0 := 0) rfl rfl) rfl rfl hl.1 rfl (lv_room (Nat.le_of_ble_eq_true rfl)) dL_law_302 ⟨Nat.le_of_ble_eq_true rfl, Nat.le_of_ble_eq_true rfl⟩) hP hD hS hA [0] [1, 2, 3] rfl rfl (by decide) (by decide) (fun r u H locs hp hP hD hS => ?_)
  have hp : r = 0 := hp
  subst hp
  refine lv_istore (lv' := [(6, .int 0), (5, .int 0), (4, .int 0), (0, .ref b), (1, .ref b0), (2, .ref n0), (3, .ref o)]) hx hb dL_law_305 hl (by decide) rfl (fun ls hl => ?_)
  refine lv_aload_n hx hb dL_law_307 rfl (lv_at hl 5 rfl) ?_
  refine cz_i (wr := [(o, .inl (k 2, 1, .inr (.inl (vp_updL (fun _ => 0) (0 : Int32).toNatClampNeg 0)))), (b0, .inr (6, [v3, v4, v5, v6, v7, v8, .ref b51, v10, v11, v12, v13])), (b51, .inr (0, [v14, v15, .int 0, v16, v17, v18, v19, v20, v21, v22, v23, v24]))]) (va_runV (As := []) (rest := []) ⟨hx, hb, hml, hown, hts⟩ (cX10_thrown_1 l G k n0 v25 v26 v27 v28 v29 v30 v31 v32 v33 v34 v35 v36 v37 v38 v39 v40 v41 v42 v43 v44 v45 v46 v47 v48 v49 v50 v51 v52 (.int 0) v53 v54 v55 v56 v57 v58 v59 v60 v61 v62 v63 v64 v65 v66 v67 v68 v69 v70 v71 v72 v73 v74 v75 v76 v77 v78 v79 v80 v81 v82 v83 v84 v85 v86 v87 v88 v89 v90 v91 v92 v93 H.size) (cwV 0 hts gL_law_X10_thrown rfl rfl rfl (by decide +kernel) ⟨Nat.le_of_ble_eq_true rfl, Nat.le_of_ble_eq_true rfl⟩) (cz_preV hZ hS hX hP hD [3] rfl rfl (ci := 7) (q0 := 3) rfl rfl) rfl rfl hl.1 rfl (lv_room (Nat.le_of_ble_eq_true rfl)) dL_law_308 ⟨Nat.le_of_ble_eq_true rfl, Nat.le_of_ble_eq_true rfl⟩) hP hD hS hA [3] [0, 1, 2] rfl rfl (by decide) (by decide) (fun r u H locs hp hP hD hS => ?_)
  have hp : r = 0 := hp
  subst hp
  refine lv_iload hx hb dL_law_311 (lv_at hl 1 rfl) ?_
  refine lv_icmp_eq (tgt := 318) hx hb dL_law_313 (by decide) (fun _ => ?_) (fun q => absurd (by decide +kernel) (q))
  refine lv_iload hx hb dL_law_318 (lv_at hl 1 rfl) ?_
  refine lv_if_ne (tgt := 335) hx hb dL_law_320 (by decide) (fun q => absurd (by decide +kernel) (q)) (fun _ => ?_)
  refine lv_aload_n hx hb dL_law_323 rfl (lv_at hl 6 rfl) ?_
  refine lv_iconst (v := 0) hx hb dL_law_324 (by decide +kernel) ?_
  refine va_lald hx hb hX.1 hP 0 2 rfl rfl (by unfold vp_in; decide +kernel) dL_law_325 ?_
  refine cz_tl (w := 0) (by rfl) ?_
  refine lv_iload hx hb dL_law_326 (lv_at hl 0 rfl) ?_
  refine lv_i2l (v := 0) hx hb dL_law_328 (by decide +kernel) ?_
  refine W.lcmp hx hb dL_law_329 ?_
  refine cz_ti (w := 0) (by decide +kernel) ?_
  refine lv_if_eq (tgt := 335) hx hb dL_law_330 (by decide) (fun _ => ?_) (fun q => absurd (by decide +kernel) (q))
  refine lv_goto (tgt := 1002) hx hb dL_law_335 (by decide) ?_
  refine lv_iinc (v := 6) (lv' := [(4, .int 6), (6, .int 0), (5, .int 0), (0, .ref b), (1, .ref b0), (2, .ref n0), (3, .ref o)]) hx hb dL_law_1002 hl (k := 2) rfl (by decide +kernel) (by decide) rfl (fun ls hl => ?_)
  refine lv_goto (tgt := 23) hx hb dL_law_1005 (by decide) ?_
  refine lv_iload hx hb dL_law_23 (lv_at hl 0 rfl) ?_
  refine lv_aload_n hx hb dL_law_25 rfl (lv_at hl 3 rfl) ?_
  refine va_slen hx hb hXs hbl hbA hS dL_law_26 ?_
  refine cz_ti (w := 6) (by decide +kernel) ?_
  refine lv_bipush (v := 6) hx hb dL_law_27 (by decide +kernel) ?_
  refine lv_isub hx hb dL_law_29 ?_
  refine cz_ti (w := 0) (by decide +kernel) ?_
  refine lv_icmp_gt (tgt := 1008) hx hb dL_law_30 (by decide) (fun _ => ?_) (fun q => absurd (by decide +kernel) (q))
  refine lv_iconst (v := 1) hx hb dL_law_1008 (by decide +kernel) ?_
  refine va_forget (hfA hS.2.2) ?_
  refine W.widen (k := 600002) (n := 7302232) (Nat.le_of_ble_eq_true rfl) (Nat.le_of_ble_eq_true rfl) ?_
  exact lw_ret hx hb hr hlocks dL_law_1009

set_option maxHeartbeats 4000000 in
set_option maxRecDepth 100000 in
theorem law_3_12 {p : Program} {l : Launch} {e : Env} {s : State} {m : MethodId} {below : List Frame} {meth : Method} {c : Code} {G : va_G} {k : Nat → ClassId} {b : Nat} {xs : Nat → Int32} {H : Heap} {locs : List Loc} {ls : Array Slot} {b0 : Nat} {n0 : Nat} {o : Nat} {v3 : Value} {v4 : Value} {v5 : Value} {v6 : Value} {v7 : Value} {v8 : Value} {b51 : Nat} {v10 : Value} {v11 : Value} {v12 : Value} {v13 : Value} {v14 : Value} {v15 : Value} {v16 : Value} {v17 : Value} {v18 : Value} {v19 : Value} {v20 : Value} {v21 : Value} {v22 : Value} {v23 : Value} {v24 : Value} {v25 : Value} {v26 : Value} {v27 : Value} {v28 : Value} {v29 : Value} {v30 : Value} {v31 : Value} {v32 : Value} {v33 : Value} {v34 : Value} {v35 : Value} {v36 : Value} {v37 : Value} {v38 : Value} {v39 : Value} {v40 : Value} {v41 : Value} {v42 : Value} {v43 : Value} {v44 : Value} {v45 : Value} {v46 : Value} {v47 : Value} {v48 : Value} {v49 : Value} {v50 : Value} {v51 : Value} {v52 : Value} {v53 : Value} {v54 : Value} {v55 : Value} {v56 : Value} {v57 : Value} {v58 : Value} {v59 : Value} {v60 : Value} {v61 : Value} {v62 : Value} {v63 : Value} {v64 : Value} {v65 : Value} {v66 : Value} {v67 : Value} {v68 : Value} {v69 : Value} {v70 : Value} {v71 : Value} {v72 : Value} {v73 : Value} {v74 : Value} {v75 : Value} {v76 : Value} {v77 : Value} {v78 : Value} {v79 : Value} {v80 : Value} {v81 : Value} {v82 : Value} {v83 : Value} {v84 : Value} {v85 : Value} {v86 : Value} {v87 : Value} {v88 : Value} {v89 : Value} {v90 : Value} {v91 : Value} {v92 : Value} {v93 : Value} (C0 : lw_At p s m meth c b 6 xs) (htr : l.stackTraces = false) (hX : KX G k s) (hT9 : TX s) (hZ : ZX k (fun q : Nat => s.heap.size ≤ q) s s.heap) (e1 : xs 1 = 11) (hP : va_P G vwCl [(b0, .inr (6, [v3, v4, v5, v6, v7, v8, .ref b51, v10, v11, v12, v13])), (b51, .inr (0, [v14, v15, v16, .int 0, v17, v18, v19, v20, v21, v22, v23, v24])), (o, .inl (k 2, 1, .inr (.inl (fun _ => 0)))), (n0, .inr (7, (v25 :: v26 :: .int 0 :: v27 :: v28 :: v29 :: v30 :: v31 :: v32 :: v33 :: v34 :: v35 :: v36 :: v37 :: v38 :: v39 :: v40 :: v41 :: v42 :: v43 :: v44 :: v45 :: v46 :: v47 :: v48 :: v49 :: v50 :: v51 :: v52 :: v53 :: .int 0 :: v54 :: v55 :: v56 :: v57 :: v58 :: v59 :: v60 :: v61 :: v62 :: v63 :: v64 :: v65 :: v66 :: v67 :: v68 :: v69 :: v70 :: v71 :: v72 :: v73 :: v74 :: v75 :: v76 :: v77 :: v78 :: v79 :: v80 :: v81 :: v82 :: v83 :: v84 :: v85 :: v86 :: v87 :: v88 :: v89 :: v90 :: v91 :: v92 :: v93 :: [])))] H) (hD : va_D (fun q : Nat => s.heap.size ≤ q) [(b0, .inr (6, [v3, v4, v5, v6, v7, v8, .ref b51, v10, v11, v12, v13])), (b51, .inr (0, [v14, v15, v16, .int 0, v17, v18, v19, v20, v21, v22, v23, v24])), (o, .inl (k 2, 1, .inr (.inl (fun _ => 0)))), (n0, .inr (7, (v25 :: v26 :: .int 0 :: v27 :: v28 :: v29 :: v30 :: v31 :: v32 :: v33 :: v34 :: v35 :: v36 :: v37 :: v38 :: v39 :: v40 :: v41 :: v42 :: v43 :: v44 :: v45 :: v46 :: v47 :: v48 :: v49 :: v50 :: v51 :: v52 :: v53 :: .int 0 :: v54 :: v55 :: v56 :: v57 :: v58 :: v59 :: v60 :: v61 :: v62 :: v63 :: v64 :: v65 :: v66 :: v67 :: v68 :: v69 :: v70 :: v71 :: v72 :: v73 :: v74 :: v75 :: v76 :: v77 :: v78 :: v79 :: v80 :: v81 :: v82 :: v83 :: v84 :: v85 :: v86 :: v87 :: v88 :: v89 :: v90 :: v91 :: v92 :: v93 :: [])))]) (hS : va_S (fun q : Nat => s.heap.size ≤ q) s.heap H locs) (hl : lv_has ls 7 [(4, .int 0), (0, .ref b), (1, .ref b0), (2, .ref n0), (3, .ref o)]) : W p l e room_1 s m #[Value.ref b] below meth c H locs 92 31361 (lw_Z below #[Value.ref b] s) (F0 m 282 ls []) := by
  obtain ⟨hx, hb, hr, hml, hown, hts0, hXs, hbl, hlocks, hgv⟩ := C0
  have hts := fun w h => hts0 w (wsL_law_in w h)
  obtain ⟨A, hAe⟩ : ∃ z : Nat → Prop, z = (fun q : Nat => s.heap.size ≤ q) := ⟨_, rfl⟩
  have hA : ∀ q : Nat, s.heap.size ≤ q → A q := fun q h => by rw [hAe]; exact h
  have hbA : ¬ A b := by rw [hAe]; exact Nat.not_le.mpr hbl
  have hfA : ∀ {locs : List Loc}, (∀ q ∈ locs, A q.base) → ∀ q ∈ locs, s.heap.size ≤ q.base := fun h q hq => by have h9 := h q hq; rw [hAe] at h9; exact h9
  rw [← hAe] at hZ hD hS
  refine lv_aload_n hx hb dL_law_282 rfl (lv_at hl 2 rfl) ?_
  refine lv_aload_n hx hb dL_law_283 rfl (lv_at hl 1 rfl) ?_
  refine lv_iload hx hb dL_law_284 (lv_at hl 0 rfl) ?_
  refine lv_iconst (v := 1) hx hb dL_law_286 (by decide +kernel) ?_
  refine lv_iadd hx hb dL_law_287 ?_
  refine cz_ti (w := 1) (by decide +kernel) ?_
  refine va_sld hx hb hXs hbl hbA hS (by unfold vp_in; decide +kernel) dL_law_288 ?_
  refine cz_ti (w := 11) (show xs ((1 : Int32).toNatClampNeg) = 11 from e1) ?_
  refine lv_aload_n hx hb dL_law_289 rfl (lv_at hl 4 rfl) ?_
  refine cz_i (wr := [(n0, .inr (7, (v25 :: v26 :: .int 0 :: v27 :: v28 :: v29 :: v30 :: v31 :: v32 :: v33 :: v34 :: v35 :: v36 :: v37 :: v38 :: v39 :: v40 :: v41 :: v42 :: v43 :: v44 :: v45 :: v46 :: v47 :: v48 :: v49 :: v50 :: v51 :: v52 :: v53 :: .int 0 :: v54 :: v55 :: v56 :: v57 :: v58 :: v59 :: v60 :: v61 :: v62 :: v63 :: v64 :: v65 :: v66 :: v67 :: v68 :: v69 :: v70 :: v71 :: v72 :: v73 :: v74 :: v75 :: v76 :: v77 :: v78 :: v79 :: v80 :: v81 :: v82 :: v83 :: v84 :: v85 :: v86 :: v87 :: v88 :: v89 :: v90 :: v91 :: v92 :: v93 :: [])))]) (vx_runSW (As := [.ref b0, .int 11, .ref o]) (rest := []) ⟨hx, hb, hml, hown, hts⟩ (cL_count_12 l G k b0 o v3 v4 v5 v6 v7 v8 b51 v10 v11 v12 v13 v14 v15 v16 v17 v18 v19 v20 v21 v22 v23 v24 (fun _ => 0) H.size) (vx_cwSW 3 hts gL_law_L_count rfl rfl rfl (by decide +kernel) ⟨Nat.le_of_ble_eq_true rfl, Nat.le_of_ble_eq_true rfl⟩) (cz_preS hZ hS hX hP hD [0, 1, 2] rfl rfl) rfl rfl hl.1 rfl (lv_room (Nat.le_of_ble_eq_true rfl)) dL_law_290 ⟨Nat.le_of_ble_eq_true rfl, Nat.le_of_ble_eq_true rfl⟩) hP hD hS hA [0, 1, 2] [3] rfl rfl (by decide) (by decide) (fun r u H locs hp hP hD hS => ?_)
  have hp : r = 0 := hp
  subst hp
  refine lv_istore (lv' := [(5, .int 0), (4, .int 0), (0, .ref b), (1, .ref b0), (2, .ref n0), (3, .ref o)]) hx hb dL_law_293 hl (by decide) rfl (fun ls hl => ?_)
  refine lv_aload_n hx hb dL_law_295 rfl (lv_at hl 4 rfl) ?_
  refine lv_aload_n hx hb dL_law_296 rfl (lv_at hl 2 rfl) ?_
  refine lv_iload hx hb dL_law_297 (lv_at hl 1 rfl) ?_
  refine lv_iconst (v := 1) hx hb dL_law_299 (by decide +kernel) ?_
  refine lv_iadd hx hb dL_law_300 ?_
  refine cz_ti (w := 1) (by decide +kernel) ?_
  refine va_sld hx hb hXs hbl hbA hS (by unfold vp_in; decide +kernel) dL_law_301 ?_
  refine cz_ti (w := 11) (show xs ((1 : Int32).toNatClampNeg) = 11 from e1) ?_
  refine cz_i (wr := [(o, .inl (k 2, 1, .inr (.inl (vp_updL (fun _ => 0) (0 : Int32).toNatClampNeg 0)))), (b0, .inr (6, [v3, v4, v5, v6, v7, v8, .ref b51, v10, v11, v12, v13])), (b51, .inr (0, [v14, v15, v16, .int 0, v17, v18, v19, v20, v21, v22, v23, v24]))]) (va_runV (As := [.int 11]) (rest := []) ⟨hx, hb, hml, hown, hts⟩ (cX10_count_12 l G k n0 v25 v26 (.int 0) v27 v28 v29 v30 v31 v32 v33 v34 v35 v36 v37 v38 v39 v40 v41 v42 v43 v44 v45 v46 v47 v48 v49 v50 v51 v52 v53 v54 v55 v56 v57 v58 v59 v60 v61 v62 v63 v64 v65 v66 v67 v68 v69 v70 v71 v72 v73 v74 v75 v76 v77 v78 v79 v80 v81 v82 v83 v84 v85 v86 v87 v88 v89 v90 v91 v92 v93 H.size) (cwV 1 hts gL_law_X10_count rfl rfl rfl (by decide +kernel) ⟨Nat.le_of_ble_eq_true rfl, Nat.le_of_ble_eq_true rfl⟩) (cz_preV hZ hS hX hP hD [0] rfl rfl (ci := 7) (q0 := 0) rfl rfl) rfl rfl hl.1 rfl (lv_room (Nat.le_of_ble_eq_true rfl)) dL_law_302 ⟨Nat.le_of_ble_eq_true rfl, Nat.le_of_ble_eq_true rfl⟩) hP hD hS hA [0] [1, 2, 3] rfl rfl (by decide) (by decide) (fun r u H locs hp hP hD hS => ?_)
  have hp : r = 0 := hp
  subst hp
  refine lv_istore (lv' := [(6, .int 0), (5, .int 0), (4, .int 0), (0, .ref b), (1, .ref b0), (2, .ref n0), (3, .ref o)]) hx hb dL_law_305 hl (by decide) rfl (fun ls hl => ?_)
  refine lv_aload_n hx hb dL_law_307 rfl (lv_at hl 5 rfl) ?_
  refine cz_i (wr := [(o, .inl (k 2, 1, .inr (.inl (vp_updL (fun _ => 0) (0 : Int32).toNatClampNeg 0)))), (b0, .inr (6, [v3, v4, v5, v6, v7, v8, .ref b51, v10, v11, v12, v13])), (b51, .inr (0, [v14, v15, v16, .int 0, v17, v18, v19, v20, v21, v22, v23, v24]))]) (va_runV (As := []) (rest := []) ⟨hx, hb, hml, hown, hts⟩ (cX10_thrown_1 l G k n0 v25 v26 v27 v28 v29 v30 v31 v32 v33 v34 v35 v36 v37 v38 v39 v40 v41 v42 v43 v44 v45 v46 v47 v48 v49 v50 v51 v52 v53 (.int 0) v54 v55 v56 v57 v58 v59 v60 v61 v62 v63 v64 v65 v66 v67 v68 v69 v70 v71 v72 v73 v74 v75 v76 v77 v78 v79 v80 v81 v82 v83 v84 v85 v86 v87 v88 v89 v90 v91 v92 v93 H.size) (cwV 0 hts gL_law_X10_thrown rfl rfl rfl (by decide +kernel) ⟨Nat.le_of_ble_eq_true rfl, Nat.le_of_ble_eq_true rfl⟩) (cz_preV hZ hS hX hP hD [3] rfl rfl (ci := 7) (q0 := 3) rfl rfl) rfl rfl hl.1 rfl (lv_room (Nat.le_of_ble_eq_true rfl)) dL_law_308 ⟨Nat.le_of_ble_eq_true rfl, Nat.le_of_ble_eq_true rfl⟩) hP hD hS hA [3] [0, 1, 2] rfl rfl (by decide) (by decide) (fun r u H locs hp hP hD hS => ?_)
  have hp : r = 0 := hp
  subst hp
  refine lv_iload hx hb dL_law_311 (lv_at hl 1 rfl) ?_
  refine lv_icmp_eq (tgt := 318) hx hb dL_law_313 (by decide) (fun _ => ?_) (fun q => absurd (by decide +kernel) (q))
  refine lv_iload hx hb dL_law_318 (lv_at hl 1 rfl) ?_
  refine lv_if_ne (tgt := 335) hx hb dL_law_320 (by decide) (fun q => absurd (by decide +kernel) (q)) (fun _ => ?_)
  refine lv_aload_n hx hb dL_law_323 rfl (lv_at hl 6 rfl) ?_
  refine lv_iconst (v := 0) hx hb dL_law_324 (by decide +kernel) ?_
  refine va_lald hx hb hX.1 hP 0 2 rfl rfl (by unfold vp_in; decide +kernel) dL_law_325 ?_
  refine cz_tl (w := 0) (by rfl) ?_
  refine lv_iload hx hb dL_law_326 (lv_at hl 0 rfl) ?_
  refine lv_i2l (v := 0) hx hb dL_law_328 (by decide +kernel) ?_
  refine W.lcmp hx hb dL_law_329 ?_
  refine cz_ti (w := 0) (by decide +kernel) ?_
  refine lv_if_eq (tgt := 335) hx hb dL_law_330 (by decide) (fun _ => ?_) (fun q => absurd (by decide +kernel) (q))
  refine lv_goto (tgt := 1002) hx hb dL_law_335 (by decide) ?_
  refine lv_iinc (v := 6) (lv' := [(4, .int 6), (6, .int 0), (5, .int 0), (0, .ref b), (1, .ref b0), (2, .ref n0), (3, .ref o)]) hx hb dL_law_1002 hl (k := 2) rfl (by decide +kernel) (by decide) rfl (fun ls hl => ?_)
  refine lv_goto (tgt := 23) hx hb dL_law_1005 (by decide) ?_
  refine lv_iload hx hb dL_law_23 (lv_at hl 0 rfl) ?_
  refine lv_aload_n hx hb dL_law_25 rfl (lv_at hl 3 rfl) ?_
  refine va_slen hx hb hXs hbl hbA hS dL_law_26 ?_
  refine cz_ti (w := 6) (by decide +kernel) ?_
  refine lv_bipush (v := 6) hx hb dL_law_27 (by decide +kernel) ?_
  refine lv_isub hx hb dL_law_29 ?_
  refine cz_ti (w := 0) (by decide +kernel) ?_
  refine lv_icmp_gt (tgt := 1008) hx hb dL_law_30 (by decide) (fun _ => ?_) (fun q => absurd (by decide +kernel) (q))
  refine lv_iconst (v := 1) hx hb dL_law_1008 (by decide +kernel) ?_
  refine va_forget (hfA hS.2.2) ?_
  refine W.widen (k := 600002) (n := 7302232) (Nat.le_of_ble_eq_true rfl) (Nat.le_of_ble_eq_true rfl) ?_
  exact lw_ret hx hb hr hlocks dL_law_1009

set_option maxHeartbeats 4000000 in
set_option maxRecDepth 100000 in
theorem law_3_13 {p : Program} {l : Launch} {e : Env} {s : State} {m : MethodId} {below : List Frame} {meth : Method} {c : Code} {G : va_G} {k : Nat → ClassId} {b : Nat} {xs : Nat → Int32} {H : Heap} {locs : List Loc} {ls : Array Slot} {b0 : Nat} {n0 : Nat} {o : Nat} {v3 : Value} {v4 : Value} {v5 : Value} {v6 : Value} {v7 : Value} {v8 : Value} {b51 : Nat} {v10 : Value} {v11 : Value} {v12 : Value} {v13 : Value} {v14 : Value} {v15 : Value} {v16 : Value} {v17 : Value} {v18 : Value} {v19 : Value} {v20 : Value} {v21 : Value} {v22 : Value} {v23 : Value} {v24 : Value} {v25 : Value} {v26 : Value} {v27 : Value} {v28 : Value} {v29 : Value} {v30 : Value} {v31 : Value} {v32 : Value} {v33 : Value} {v34 : Value} {v35 : Value} {v36 : Value} {v37 : Value} {v38 : Value} {v39 : Value} {v40 : Value} {v41 : Value} {v42 : Value} {v43 : Value} {v44 : Value} {v45 : Value} {v46 : Value} {v47 : Value} {v48 : Value} {v49 : Value} {v50 : Value} {v51 : Value} {v52 : Value} {v53 : Value} {v54 : Value} {v55 : Value} {v56 : Value} {v57 : Value} {v58 : Value} {v59 : Value} {v60 : Value} {v61 : Value} {v62 : Value} {v63 : Value} {v64 : Value} {v65 : Value} {v66 : Value} {v67 : Value} {v68 : Value} {v69 : Value} {v70 : Value} {v71 : Value} {v72 : Value} {v73 : Value} {v74 : Value} {v75 : Value} {v76 : Value} {v77 : Value} {v78 : Value} {v79 : Value} {v80 : Value} {v81 : Value} {v82 : Value} {v83 : Value} {v84 : Value} {v85 : Value} {v86 : Value} {v87 : Value} {v88 : Value} {v89 : Value} {v90 : Value} {v91 : Value} {v92 : Value} {v93 : Value} (C0 : lw_At p s m meth c b 6 xs) (htr : l.stackTraces = false) (hX : KX G k s) (hT9 : TX s) (hZ : ZX k (fun q : Nat => s.heap.size ≤ q) s s.heap) (e1 : xs 1 = 12) (hP : va_P G vwCl [(b0, .inr (6, [v3, v4, v5, v6, v7, v8, .ref b51, v10, v11, v12, v13])), (b51, .inr (0, [v14, v15, v16, v17, .int 0, v18, v19, v20, v21, v22, v23, v24])), (o, .inl (k 2, 1, .inr (.inl (fun _ => 0)))), (n0, .inr (7, (v25 :: v26 :: .int 0 :: v27 :: v28 :: v29 :: v30 :: v31 :: v32 :: v33 :: v34 :: v35 :: v36 :: v37 :: v38 :: v39 :: v40 :: v41 :: v42 :: v43 :: v44 :: v45 :: v46 :: v47 :: v48 :: v49 :: v50 :: v51 :: v52 :: v53 :: v54 :: .int 0 :: v55 :: v56 :: v57 :: v58 :: v59 :: v60 :: v61 :: v62 :: v63 :: v64 :: v65 :: v66 :: v67 :: v68 :: v69 :: v70 :: v71 :: v72 :: v73 :: v74 :: v75 :: v76 :: v77 :: v78 :: v79 :: v80 :: v81 :: v82 :: v83 :: v84 :: v85 :: v86 :: v87 :: v88 :: v89 :: v90 :: v91 :: v92 :: v93 :: [])))] H) (hD : va_D (fun q : Nat => s.heap.size ≤ q) [(b0, .inr (6, [v3, v4, v5, v6, v7, v8, .ref b51, v10, v11, v12, v13])), (b51, .inr (0, [v14, v15, v16, v17, .int 0, v18, v19, v20, v21, v22, v23, v24])), (o, .inl (k 2, 1, .inr (.inl (fun _ => 0)))), (n0, .inr (7, (v25 :: v26 :: .int 0 :: v27 :: v28 :: v29 :: v30 :: v31 :: v32 :: v33 :: v34 :: v35 :: v36 :: v37 :: v38 :: v39 :: v40 :: v41 :: v42 :: v43 :: v44 :: v45 :: v46 :: v47 :: v48 :: v49 :: v50 :: v51 :: v52 :: v53 :: v54 :: .int 0 :: v55 :: v56 :: v57 :: v58 :: v59 :: v60 :: v61 :: v62 :: v63 :: v64 :: v65 :: v66 :: v67 :: v68 :: v69 :: v70 :: v71 :: v72 :: v73 :: v74 :: v75 :: v76 :: v77 :: v78 :: v79 :: v80 :: v81 :: v82 :: v83 :: v84 :: v85 :: v86 :: v87 :: v88 :: v89 :: v90 :: v91 :: v92 :: v93 :: [])))]) (hS : va_S (fun q : Nat => s.heap.size ≤ q) s.heap H locs) (hl : lv_has ls 7 [(4, .int 0), (0, .ref b), (1, .ref b0), (2, .ref n0), (3, .ref o)]) : W p l e room_1 s m #[Value.ref b] below meth c H locs 92 31361 (lw_Z below #[Value.ref b] s) (F0 m 282 ls []) := by
  obtain ⟨hx, hb, hr, hml, hown, hts0, hXs, hbl, hlocks, hgv⟩ := C0
  have hts := fun w h => hts0 w (wsL_law_in w h)
  obtain ⟨A, hAe⟩ : ∃ z : Nat → Prop, z = (fun q : Nat => s.heap.size ≤ q) := ⟨_, rfl⟩
  have hA : ∀ q : Nat, s.heap.size ≤ q → A q := fun q h => by rw [hAe]; exact h
  have hbA : ¬ A b := by rw [hAe]; exact Nat.not_le.mpr hbl
  have hfA : ∀ {locs : List Loc}, (∀ q ∈ locs, A q.base) → ∀ q ∈ locs, s.heap.size ≤ q.base := fun h q hq => by have h9 := h q hq; rw [hAe] at h9; exact h9
  rw [← hAe] at hZ hD hS
  refine lv_aload_n hx hb dL_law_282 rfl (lv_at hl 2 rfl) ?_
  refine lv_aload_n hx hb dL_law_283 rfl (lv_at hl 1 rfl) ?_
  refine lv_iload hx hb dL_law_284 (lv_at hl 0 rfl) ?_
  refine lv_iconst (v := 1) hx hb dL_law_286 (by decide +kernel) ?_
  refine lv_iadd hx hb dL_law_287 ?_
  refine cz_ti (w := 1) (by decide +kernel) ?_
  refine va_sld hx hb hXs hbl hbA hS (by unfold vp_in; decide +kernel) dL_law_288 ?_
  refine cz_ti (w := 12) (show xs ((1 : Int32).toNatClampNeg) = 12 from e1) ?_
  refine lv_aload_n hx hb dL_law_289 rfl (lv_at hl 4 rfl) ?_
  refine cz_i (wr := [(n0, .inr (7, (v25 :: v26 :: .int 0 :: v27 :: v28 :: v29 :: v30 :: v31 :: v32 :: v33 :: v34 :: v35 :: v36 :: v37 :: v38 :: v39 :: v40 :: v41 :: v42 :: v43 :: v44 :: v45 :: v46 :: v47 :: v48 :: v49 :: v50 :: v51 :: v52 :: v53 :: v54 :: .int 0 :: v55 :: v56 :: v57 :: v58 :: v59 :: v60 :: v61 :: v62 :: v63 :: v64 :: v65 :: v66 :: v67 :: v68 :: v69 :: v70 :: v71 :: v72 :: v73 :: v74 :: v75 :: v76 :: v77 :: v78 :: v79 :: v80 :: v81 :: v82 :: v83 :: v84 :: v85 :: v86 :: v87 :: v88 :: v89 :: v90 :: v91 :: v92 :: v93 :: [])))]) (vx_runSW (As := [.ref b0, .int 12, .ref o]) (rest := []) ⟨hx, hb, hml, hown, hts⟩ (cL_count_13 l G k b0 o v3 v4 v5 v6 v7 v8 b51 v10 v11 v12 v13 v14 v15 v16 v17 v18 v19 v20 v21 v22 v23 v24 (fun _ => 0) H.size) (vx_cwSW 3 hts gL_law_L_count rfl rfl rfl (by decide +kernel) ⟨Nat.le_of_ble_eq_true rfl, Nat.le_of_ble_eq_true rfl⟩) (cz_preS hZ hS hX hP hD [0, 1, 2] rfl rfl) rfl rfl hl.1 rfl (lv_room (Nat.le_of_ble_eq_true rfl)) dL_law_290 ⟨Nat.le_of_ble_eq_true rfl, Nat.le_of_ble_eq_true rfl⟩) hP hD hS hA [0, 1, 2] [3] rfl rfl (by decide) (by decide) (fun r u H locs hp hP hD hS => ?_)
  have hp : r = 0 := hp
  subst hp
  refine lv_istore (lv' := [(5, .int 0), (4, .int 0), (0, .ref b), (1, .ref b0), (2, .ref n0), (3, .ref o)]) hx hb dL_law_293 hl (by decide) rfl (fun ls hl => ?_)
  refine lv_aload_n hx hb dL_law_295 rfl (lv_at hl 4 rfl) ?_
  refine lv_aload_n hx hb dL_law_296 rfl (lv_at hl 2 rfl) ?_
  refine lv_iload hx hb dL_law_297 (lv_at hl 1 rfl) ?_
  refine lv_iconst (v := 1) hx hb dL_law_299 (by decide +kernel) ?_
  refine lv_iadd hx hb dL_law_300 ?_
  refine cz_ti (w := 1) (by decide +kernel) ?_
  refine va_sld hx hb hXs hbl hbA hS (by unfold vp_in; decide +kernel) dL_law_301 ?_
  refine cz_ti (w := 12) (show xs ((1 : Int32).toNatClampNeg) = 12 from e1) ?_
  refine cz_i (wr := [(o, .inl (k 2, 1, .inr (.inl (vp_updL (fun _ => 0) (0 : Int32).toNatClampNeg 0)))), (b0, .inr (6, [v3, v4, v5, v6, v7, v8, .ref b51, v10, v11, v12, v13])), (b51, .inr (0, [v14, v15, v16, v17, .int 0, v18, v19, v20, v21, v22, v23, v24]))]) (va_runV (As := [.int 12]) (rest := []) ⟨hx, hb, hml, hown, hts⟩ (cX10_count_13 l G k n0 v25 v26 (.int 0) v27 v28 v29 v30 v31 v32 v33 v34 v35 v36 v37 v38 v39 v40 v41 v42 v43 v44 v45 v46 v47 v48 v49 v50 v51 v52 v53 v54 v55 v56 v57 v58 v59 v60 v61 v62 v63 v64 v65 v66 v67 v68 v69 v70 v71 v72 v73 v74 v75 v76 v77 v78 v79 v80 v81 v82 v83 v84 v85 v86 v87 v88 v89 v90 v91 v92 v93 H.size) (cwV 1 hts gL_law_X10_count rfl rfl rfl (by decide +kernel) ⟨Nat.le_of_ble_eq_true rfl, Nat.le_of_ble_eq_true rfl⟩) (cz_preV hZ hS hX hP hD [0] rfl rfl (ci := 7) (q0 := 0) rfl rfl) rfl rfl hl.1 rfl (lv_room (Nat.le_of_ble_eq_true rfl)) dL_law_302 ⟨Nat.le_of_ble_eq_true rfl, Nat.le_of_ble_eq_true rfl⟩) hP hD hS hA [0] [1, 2, 3] rfl rfl (by decide) (by decide) (fun r u H locs hp hP hD hS => ?_)
  have hp : r = 0 := hp
  subst hp
  refine lv_istore (lv' := [(6, .int 0), (5, .int 0), (4, .int 0), (0, .ref b), (1, .ref b0), (2, .ref n0), (3, .ref o)]) hx hb dL_law_305 hl (by decide) rfl (fun ls hl => ?_)
  refine lv_aload_n hx hb dL_law_307 rfl (lv_at hl 5 rfl) ?_
  refine cz_i (wr := [(o, .inl (k 2, 1, .inr (.inl (vp_updL (fun _ => 0) (0 : Int32).toNatClampNeg 0)))), (b0, .inr (6, [v3, v4, v5, v6, v7, v8, .ref b51, v10, v11, v12, v13])), (b51, .inr (0, [v14, v15, v16, v17, .int 0, v18, v19, v20, v21, v22, v23, v24]))]) (va_runV (As := []) (rest := []) ⟨hx, hb, hml, hown, hts⟩ (cX10_thrown_1 l G k n0 v25 v26 v27 v28 v29 v30 v31 v32 v33 v34 v35 v36 v37 v38 v39 v40 v41 v42 v43 v44 v45 v46 v47 v48 v49 v50 v51 v52 v53 v54 (.int 0) v55 v56 v57 v58 v59 v60 v61 v62 v63 v64 v65 v66 v67 v68 v69 v70 v71 v72 v73 v74 v75 v76 v77 v78 v79 v80 v81 v82 v83 v84 v85 v86 v87 v88 v89 v90 v91 v92 v93 H.size) (cwV 0 hts gL_law_X10_thrown rfl rfl rfl (by decide +kernel) ⟨Nat.le_of_ble_eq_true rfl, Nat.le_of_ble_eq_true rfl⟩) (cz_preV hZ hS hX hP hD [3] rfl rfl (ci := 7) (q0 := 3) rfl rfl) rfl rfl hl.1 rfl (lv_room (Nat.le_of_ble_eq_true rfl)) dL_law_308 ⟨Nat.le_of_ble_eq_true rfl, Nat.le_of_ble_eq_true rfl⟩) hP hD hS hA [3] [0, 1, 2] rfl rfl (by decide) (by decide) (fun r u H locs hp hP hD hS => ?_)
  have hp : r = 0 := hp
  subst hp
  refine lv_iload hx hb dL_law_311 (lv_at hl 1 rfl) ?_
  refine lv_icmp_eq (tgt := 318) hx hb dL_law_313 (by decide) (fun _ => ?_) (fun q => absurd (by decide +kernel) (q))
  refine lv_iload hx hb dL_law_318 (lv_at hl 1 rfl) ?_
  refine lv_if_ne (tgt := 335) hx hb dL_law_320 (by decide) (fun q => absurd (by decide +kernel) (q)) (fun _ => ?_)
  refine lv_aload_n hx hb dL_law_323 rfl (lv_at hl 6 rfl) ?_
  refine lv_iconst (v := 0) hx hb dL_law_324 (by decide +kernel) ?_
  refine va_lald hx hb hX.1 hP 0 2 rfl rfl (by unfold vp_in; decide +kernel) dL_law_325 ?_
  refine cz_tl (w := 0) (by rfl) ?_
  refine lv_iload hx hb dL_law_326 (lv_at hl 0 rfl) ?_
  refine lv_i2l (v := 0) hx hb dL_law_328 (by decide +kernel) ?_
  refine W.lcmp hx hb dL_law_329 ?_
  refine cz_ti (w := 0) (by decide +kernel) ?_
  refine lv_if_eq (tgt := 335) hx hb dL_law_330 (by decide) (fun _ => ?_) (fun q => absurd (by decide +kernel) (q))
  refine lv_goto (tgt := 1002) hx hb dL_law_335 (by decide) ?_
  refine lv_iinc (v := 6) (lv' := [(4, .int 6), (6, .int 0), (5, .int 0), (0, .ref b), (1, .ref b0), (2, .ref n0), (3, .ref o)]) hx hb dL_law_1002 hl (k := 2) rfl (by decide +kernel) (by decide) rfl (fun ls hl => ?_)
  refine lv_goto (tgt := 23) hx hb dL_law_1005 (by decide) ?_
  refine lv_iload hx hb dL_law_23 (lv_at hl 0 rfl) ?_
  refine lv_aload_n hx hb dL_law_25 rfl (lv_at hl 3 rfl) ?_
  refine va_slen hx hb hXs hbl hbA hS dL_law_26 ?_
  refine cz_ti (w := 6) (by decide +kernel) ?_
  refine lv_bipush (v := 6) hx hb dL_law_27 (by decide +kernel) ?_
  refine lv_isub hx hb dL_law_29 ?_
  refine cz_ti (w := 0) (by decide +kernel) ?_
  refine lv_icmp_gt (tgt := 1008) hx hb dL_law_30 (by decide) (fun _ => ?_) (fun q => absurd (by decide +kernel) (q))
  refine lv_iconst (v := 1) hx hb dL_law_1008 (by decide +kernel) ?_
  refine va_forget (hfA hS.2.2) ?_
  refine W.widen (k := 600002) (n := 7302232) (Nat.le_of_ble_eq_true rfl) (Nat.le_of_ble_eq_true rfl) ?_
  exact lw_ret hx hb hr hlocks dL_law_1009

set_option maxHeartbeats 4000000 in
set_option maxRecDepth 100000 in
theorem law_3_14 {p : Program} {l : Launch} {e : Env} {s : State} {m : MethodId} {below : List Frame} {meth : Method} {c : Code} {G : va_G} {k : Nat → ClassId} {b : Nat} {xs : Nat → Int32} {H : Heap} {locs : List Loc} {ls : Array Slot} {b0 : Nat} {n0 : Nat} {o : Nat} {v3 : Value} {v4 : Value} {v5 : Value} {v6 : Value} {v7 : Value} {v8 : Value} {v9 : Value} {v10 : Value} {v11 : Value} {v12 : Value} {v13 : Value} {v14 : Value} {v15 : Value} {v16 : Value} {v17 : Value} {v18 : Value} {v19 : Value} {v20 : Value} {v21 : Value} {v22 : Value} {v23 : Value} {v24 : Value} {v25 : Value} {v26 : Value} {v27 : Value} {v28 : Value} {v29 : Value} {v30 : Value} {v31 : Value} {v32 : Value} {v33 : Value} {v34 : Value} {v35 : Value} {v36 : Value} {v37 : Value} {v38 : Value} {v39 : Value} {v40 : Value} {v41 : Value} {v42 : Value} {v43 : Value} {v44 : Value} {v45 : Value} {v46 : Value} {v47 : Value} {v48 : Value} {v49 : Value} {v50 : Value} {v51 : Value} {v52 : Value} {v53 : Value} {v54 : Value} {v55 : Value} {v56 : Value} {v57 : Value} {v58 : Value} {v59 : Value} {v60 : Value} {v61 : Value} {v62 : Value} {v63 : Value} {v64 : Value} {v65 : Value} {v66 : Value} {v67 : Value} {v68 : Value} {v69 : Value} {v70 : Value} {v71 : Value} {v72 : Value} {v73 : Value} {v74 : Value} {v75 : Value} {v76 : Value} {v77 : Value} {v78 : Value} {v79 : Value} {v80 : Value} {v81 : Value} (C0 : lw_At p s m meth c b 6 xs) (htr : l.stackTraces = false) (hX : KX G k s) (hT9 : TX s) (hZ : ZX k (fun q : Nat => s.heap.size ≤ q) s s.heap) (e1 : xs 1 = 13) (hP : va_P G vwCl [(b0, .inr (6, [v3, .int 0, v4, v5, v6, v7, v8, v9, v10, v11, v12])), (o, .inl (k 2, 1, .inr (.inl (fun _ => 0)))), (n0, .inr (7, (v13 :: v14 :: .int 0 :: v15 :: v16 :: v17 :: v18 :: v19 :: v20 :: v21 :: v22 :: v23 :: v24 :: v25 :: v26 :: v27 :: v28 :: .int 0 :: v29 :: v30 :: v31 :: v32 :: v33 :: v34 :: v35 :: v36 :: v37 :: v38 :: v39 :: v40 :: v41 :: v42 :: v43 :: v44 :: v45 :: v46 :: v47 :: v48 :: v49 :: v50 :: v51 :: v52 :: v53 :: v54 :: v55 :: v56 :: v57 :: v58 :: v59 :: v60 :: v61 :: v62 :: v63 :: v64 :: v65 :: v66 :: v67 :: v68 :: v69 :: v70 :: v71 :: v72 :: v73 :: v74 :: v75 :: v76 :: v77 :: v78 :: v79 :: v80 :: v81 :: [])))] H) (hD : va_D (fun q : Nat => s.heap.size ≤ q) [(b0, .inr (6, [v3, .int 0, v4, v5, v6, v7, v8, v9, v10, v11, v12])), (o, .inl (k 2, 1, .inr (.inl (fun _ => 0)))), (n0, .inr (7, (v13 :: v14 :: .int 0 :: v15 :: v16 :: v17 :: v18 :: v19 :: v20 :: v21 :: v22 :: v23 :: v24 :: v25 :: v26 :: v27 :: v28 :: .int 0 :: v29 :: v30 :: v31 :: v32 :: v33 :: v34 :: v35 :: v36 :: v37 :: v38 :: v39 :: v40 :: v41 :: v42 :: v43 :: v44 :: v45 :: v46 :: v47 :: v48 :: v49 :: v50 :: v51 :: v52 :: v53 :: v54 :: v55 :: v56 :: v57 :: v58 :: v59 :: v60 :: v61 :: v62 :: v63 :: v64 :: v65 :: v66 :: v67 :: v68 :: v69 :: v70 :: v71 :: v72 :: v73 :: v74 :: v75 :: v76 :: v77 :: v78 :: v79 :: v80 :: v81 :: [])))]) (hS : va_S (fun q : Nat => s.heap.size ≤ q) s.heap H locs) (hl : lv_has ls 7 [(4, .int 0), (0, .ref b), (1, .ref b0), (2, .ref n0), (3, .ref o)]) : W p l e room_1 s m #[Value.ref b] below meth c H locs 92 31361 (lw_Z below #[Value.ref b] s) (F0 m 282 ls []) := by
  obtain ⟨hx, hb, hr, hml, hown, hts0, hXs, hbl, hlocks, hgv⟩ := C0
  have hts := fun w h => hts0 w (wsL_law_in w h)
  obtain ⟨A, hAe⟩ : ∃ z : Nat → Prop, z = (fun q : Nat => s.heap.size ≤ q) := ⟨_, rfl⟩
  have hA : ∀ q : Nat, s.heap.size ≤ q → A q := fun q h => by rw [hAe]; exact h
  have hbA : ¬ A b := by rw [hAe]; exact Nat.not_le.mpr hbl
  have hfA : ∀ {locs : List Loc}, (∀ q ∈ locs, A q.base) → ∀ q ∈ locs, s.heap.size ≤ q.base := fun h q hq => by have h9 := h q hq; rw [hAe] at h9; exact h9
  rw [← hAe] at hZ hD hS
  refine lv_aload_n hx hb dL_law_282 rfl (lv_at hl 2 rfl) ?_
  refine lv_aload_n hx hb dL_law_283 rfl (lv_at hl 1 rfl) ?_
  refine lv_iload hx hb dL_law_284 (lv_at hl 0 rfl) ?_
  refine lv_iconst (v := 1) hx hb dL_law_286 (by decide +kernel) ?_
  refine lv_iadd hx hb dL_law_287 ?_
  refine cz_ti (w := 1) (by decide +kernel) ?_
  refine va_sld hx hb hXs hbl hbA hS (by unfold vp_in; decide +kernel) dL_law_288 ?_
  refine cz_ti (w := 13) (show xs ((1 : Int32).toNatClampNeg) = 13 from e1) ?_
  refine lv_aload_n hx hb dL_law_289 rfl (lv_at hl 4 rfl) ?_
  refine cz_i (wr := [(n0, .inr (7, (v13 :: v14 :: .int 0 :: v15 :: v16 :: v17 :: v18 :: v19 :: v20 :: v21 :: v22 :: v23 :: v24 :: v25 :: v26 :: v27 :: v28 :: .int 0 :: v29 :: v30 :: v31 :: v32 :: v33 :: v34 :: v35 :: v36 :: v37 :: v38 :: v39 :: v40 :: v41 :: v42 :: v43 :: v44 :: v45 :: v46 :: v47 :: v48 :: v49 :: v50 :: v51 :: v52 :: v53 :: v54 :: v55 :: v56 :: v57 :: v58 :: v59 :: v60 :: v61 :: v62 :: v63 :: v64 :: v65 :: v66 :: v67 :: v68 :: v69 :: v70 :: v71 :: v72 :: v73 :: v74 :: v75 :: v76 :: v77 :: v78 :: v79 :: v80 :: v81 :: [])))]) (vx_runSW (As := [.ref b0, .int 13, .ref o]) (rest := []) ⟨hx, hb, hml, hown, hts⟩ (cL_count_14 l G k b0 o v3 v4 v5 v6 v7 v8 v9 v10 v11 v12 (fun _ => 0) H.size) (vx_cwSW 3 hts gL_law_L_count rfl rfl rfl (by decide +kernel) ⟨Nat.le_of_ble_eq_true rfl, Nat.le_of_ble_eq_true rfl⟩) (cz_preS hZ hS hX hP hD [0, 1] rfl rfl) rfl rfl hl.1 rfl (lv_room (Nat.le_of_ble_eq_true rfl)) dL_law_290 ⟨Nat.le_of_ble_eq_true rfl, Nat.le_of_ble_eq_true rfl⟩) hP hD hS hA [0, 1] [2] rfl rfl (by decide) (by decide) (fun r u H locs hp hP hD hS => ?_)
  have hp : r = 0 := hp
  subst hp
  refine lv_istore (lv' := [(5, .int 0), (4, .int 0), (0, .ref b), (1, .ref b0), (2, .ref n0), (3, .ref o)]) hx hb dL_law_293 hl (by decide) rfl (fun ls hl => ?_)
  refine lv_aload_n hx hb dL_law_295 rfl (lv_at hl 4 rfl) ?_
  refine lv_aload_n hx hb dL_law_296 rfl (lv_at hl 2 rfl) ?_
  refine lv_iload hx hb dL_law_297 (lv_at hl 1 rfl) ?_
  refine lv_iconst (v := 1) hx hb dL_law_299 (by decide +kernel) ?_
  refine lv_iadd hx hb dL_law_300 ?_
  refine cz_ti (w := 1) (by decide +kernel) ?_
  refine va_sld hx hb hXs hbl hbA hS (by unfold vp_in; decide +kernel) dL_law_301 ?_
  refine cz_ti (w := 13) (show xs ((1 : Int32).toNatClampNeg) = 13 from e1) ?_
  refine cz_i (wr := [(o, .inl (k 2, 1, .inr (.inl (vp_updL (fun _ => 0) (0 : Int32).toNatClampNeg 0)))), (b0, .inr (6, [v3, .int 0, v4, v5, v6, v7, v8, v9, v10, v11, v12]))]) (va_runV (As := [.int 13]) (rest := []) ⟨hx, hb, hml, hown, hts⟩ (cX10_count_14 l G k n0 v13 v14 (.int 0) v15 v16 v17 v18 v19 v20 v21 v22 v23 v24 v25 v26 v27 v28 v29 v30 v31 v32 v33 v34 v35 v36 v37 v38 v39 v40 v41 v42 v43 v44 v45 v46 v47 v48 v49 v50 v51 v52 v53 v54 v55 v56 v57 v58 v59 v60 v61 v62 v63 v64 v65 v66 v67 v68 v69 v70 v71 v72 v73 v74 v75 v76 v77 v78 v79 v80 v81 H.size) (cwV 1 hts gL_law_X10_count rfl rfl rfl (by decide +kernel) ⟨Nat.le_of_ble_eq_true rfl, Nat.le_of_ble_eq_true rfl⟩) (cz_preV hZ hS hX hP hD [0] rfl rfl (ci := 7) (q0 := 0) rfl rfl) rfl rfl hl.1 rfl (lv_room (Nat.le_of_ble_eq_true rfl)) dL_law_302 ⟨Nat.le_of_ble_eq_true rfl, Nat.le_of_ble_eq_true rfl⟩) hP hD hS hA [0] [1, 2] rfl rfl (by decide) (by decide) (fun r u H locs hp hP hD hS => ?_)
  have hp : r = 0 := hp
  subst hp
  refine lv_istore (lv' := [(6, .int 0), (5, .int 0), (4, .int 0), (0, .ref b), (1, .ref b0), (2, .ref n0), (3, .ref o)]) hx hb dL_law_305 hl (by decide) rfl (fun ls hl => ?_)
  refine lv_aload_n hx hb dL_law_307 rfl (lv_at hl 5 rfl) ?_
  refine cz_i (wr := [(o, .inl (k 2, 1, .inr (.inl (vp_updL (fun _ => 0) (0 : Int32).toNatClampNeg 0)))), (b0, .inr (6, [v3, .int 0, v4, v5, v6, v7, v8, v9, v10, v11, v12]))]) (va_runV (As := []) (rest := []) ⟨hx, hb, hml, hown, hts⟩ (cX10_thrown_1 l G k n0 v13 v14 v15 v16 v17 v18 v19 v20 v21 v22 v23 v24 v25 v26 v27 v28 (.int 0) v29 v30 v31 v32 v33 v34 v35 v36 v37 v38 v39 v40 v41 v42 v43 v44 v45 v46 v47 v48 v49 v50 v51 v52 v53 v54 v55 v56 v57 v58 v59 v60 v61 v62 v63 v64 v65 v66 v67 v68 v69 v70 v71 v72 v73 v74 v75 v76 v77 v78 v79 v80 v81 H.size) (cwV 0 hts gL_law_X10_thrown rfl rfl rfl (by decide +kernel) ⟨Nat.le_of_ble_eq_true rfl, Nat.le_of_ble_eq_true rfl⟩) (cz_preV hZ hS hX hP hD [2] rfl rfl (ci := 7) (q0 := 2) rfl rfl) rfl rfl hl.1 rfl (lv_room (Nat.le_of_ble_eq_true rfl)) dL_law_308 ⟨Nat.le_of_ble_eq_true rfl, Nat.le_of_ble_eq_true rfl⟩) hP hD hS hA [2] [0, 1] rfl rfl (by decide) (by decide) (fun r u H locs hp hP hD hS => ?_)
  have hp : r = 0 := hp
  subst hp
  refine lv_iload hx hb dL_law_311 (lv_at hl 1 rfl) ?_
  refine lv_icmp_eq (tgt := 318) hx hb dL_law_313 (by decide) (fun _ => ?_) (fun q => absurd (by decide +kernel) (q))
  refine lv_iload hx hb dL_law_318 (lv_at hl 1 rfl) ?_
  refine lv_if_ne (tgt := 335) hx hb dL_law_320 (by decide) (fun q => absurd (by decide +kernel) (q)) (fun _ => ?_)
  refine lv_aload_n hx hb dL_law_323 rfl (lv_at hl 6 rfl) ?_
  refine lv_iconst (v := 0) hx hb dL_law_324 (by decide +kernel) ?_
  refine va_lald hx hb hX.1 hP 0 2 rfl rfl (by unfold vp_in; decide +kernel) dL_law_325 ?_
  refine cz_tl (w := 0) (by rfl) ?_
  refine lv_iload hx hb dL_law_326 (lv_at hl 0 rfl) ?_
  refine lv_i2l (v := 0) hx hb dL_law_328 (by decide +kernel) ?_
  refine W.lcmp hx hb dL_law_329 ?_
  refine cz_ti (w := 0) (by decide +kernel) ?_
  refine lv_if_eq (tgt := 335) hx hb dL_law_330 (by decide) (fun _ => ?_) (fun q => absurd (by decide +kernel) (q))
  refine lv_goto (tgt := 1002) hx hb dL_law_335 (by decide) ?_
  refine lv_iinc (v := 6) (lv' := [(4, .int 6), (6, .int 0), (5, .int 0), (0, .ref b), (1, .ref b0), (2, .ref n0), (3, .ref o)]) hx hb dL_law_1002 hl (k := 2) rfl (by decide +kernel) (by decide) rfl (fun ls hl => ?_)
  refine lv_goto (tgt := 23) hx hb dL_law_1005 (by decide) ?_
  refine lv_iload hx hb dL_law_23 (lv_at hl 0 rfl) ?_
  refine lv_aload_n hx hb dL_law_25 rfl (lv_at hl 3 rfl) ?_
  refine va_slen hx hb hXs hbl hbA hS dL_law_26 ?_
  refine cz_ti (w := 6) (by decide +kernel) ?_
  refine lv_bipush (v := 6) hx hb dL_law_27 (by decide +kernel) ?_
  refine lv_isub hx hb dL_law_29 ?_
  refine cz_ti (w := 0) (by decide +kernel) ?_
  refine lv_icmp_gt (tgt := 1008) hx hb dL_law_30 (by decide) (fun _ => ?_) (fun q => absurd (by decide +kernel) (q))
  refine lv_iconst (v := 1) hx hb dL_law_1008 (by decide +kernel) ?_
  refine va_forget (hfA hS.2.2) ?_
  refine W.widen (k := 600002) (n := 7302232) (Nat.le_of_ble_eq_true rfl) (Nat.le_of_ble_eq_true rfl) ?_
  exact lw_ret hx hb hr hlocks dL_law_1009

