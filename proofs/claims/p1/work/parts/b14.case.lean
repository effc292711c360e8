set_option maxHeartbeats 4000000 in
set_option maxRecDepth 100000 in
theorem law_3_15 {p : Program} {l : Launch} {e : Env} {s : State} {m : MethodId} {below : List Frame} {meth : Method} {c : Code} {G : va_G} {k : Nat → ClassId} {b : Nat} {xs : Nat → Int32} {H : Heap} {locs : List Loc} {ls : Array Slot} {b0 : Nat} {n0 : Nat} {o : Nat} {v3 : Value} {v4 : Value} {v5 : Value} {v6 : Value} {v7 : Value} {v8 : Value} {b51 : Nat} {v10 : Value} {v11 : Value} {v12 : Value} {v13 : Value} {v14 : Value} {v15 : Value} {v16 : Value} {v17 : Value} {v18 : Value} {v19 : Value} {v20 : Value} {v21 : Value} {v22 : Value} {v23 : Value} {v24 : Value} {b30 : Nat} {v26 : Value} {v27 : Value} {v28 : Value} {v29 : Value} {v30 : Value} {v31 : Value} {v32 : Value} {v33 : Value} {v34 : Value} {v35 : Value} {n8 : Nat} {v37 : Value} {v38 : Value} {v39 : Value} {v40 : Value} {v41 : Value} {v42 : Value} {v43 : Value} {v44 : Value} {v45 : Value} {v46 : Value} {v47 : Value} {v48 : Value} {v49 : Value} {v50 : Value} {v51 : Value} {v52 : Value} {v53 : Value} {v54 : Value} {v55 : Value} {v56 : Value} {v57 : Value} {v58 : Value} {v59 : Value} {v60 : Value} {v61 : Value} {v62 : Value} {v63 : Value} {v64 : Value} {v65 : Value} {v66 : Value} {v67 : Value} {v68 : Value} {v69 : Value} {v70 : Value} {v71 : Value} {v72 : Value} {v73 : Value} {v74 : Value} {v75 : Value} {v76 : Value} {v77 : Value} {v78 : Value} {v79 : Value} {v80 : Value} {v81 : Value} {v82 : Value} {v83 : Value} {v84 : Value} {v85 : Value} {v86 : Value} {v87 : Value} {v88 : Value} {v89 : Value} {v90 : Value} {v91 : Value} {v92 : Value} {v93 : Value} {v94 : Value} {v95 : Value} (C0 : lw_At p s m meth c b 6 xs) (htr : l.stackTraces = false) (hX : KX G k s) (hT9 : TX s) (hZ : ZX k (fun q : Nat => s.heap.size ≤ q) s s.heap) (e1 : xs 1 = 14) (hP : va_P G vwCl [(b0, .inr (6, [v3, v4, v5, v6, v7, v8, .ref b51, v10, v11, v12, v13])), (b51, .inr (0, [v14, v15, v16, v17, v18, v19, v20, v21, v22, v23, v24, .ref b30])), (b30, .inl (k 0, 3, .inl (fun _ => 0))), (o, .inl (k 2, 1, .inr (.inl (fun _ => 0)))), (n0, .inr (7, (v26 :: v27 :: .int 0 :: v28 :: v29 :: v30 :: v31 :: v32 :: v33 :: v34 :: v35 :: .ref n8 :: v37 :: v38 :: v39 :: v40 :: v41 :: v42 :: v43 :: v44 :: v45 :: v46 :: v47 :: v48 :: v49 :: v50 :: v51 :: v52 :: v53 :: v54 :: v55 :: v56 :: v57 :: v58 :: v59 :: v60 :: v61 :: v62 :: v63 :: v64 :: v65 :: v66 :: v67 :: v68 :: v69 :: v70 :: v71 :: v72 :: v73 :: v74 :: v75 :: v76 :: v77 :: v78 :: v79 :: v80 :: v81 :: v82 :: v83 :: v84 :: v85 :: v86 :: v87 :: v88 :: v89 :: v90 :: v91 :: v92 :: v93 :: v94 :: v95 :: []))), (n8, .inl (k 0, 3, .inl (fun _ => 0)))] H) (hD : va_D (fun q : Nat => s.heap.size ≤ q) [(b0, .inr (6, [v3, v4, v5, v6, v7, v8, .ref b51, v10, v11, v12, v13])), (b51, .inr (0, [v14, v15, v16, v17, v18, v19, v20, v21, v22, v23, v24, .ref b30])), (b30, .inl (k 0, 3, .inl (fun _ => 0))), (o, .inl (k 2, 1, .inr (.inl (fun _ => 0)))), (n0, .inr (7, (v26 :: v27 :: .int 0 :: v28 :: v29 :: v30 :: v31 :: v32 :: v33 :: v34 :: v35 :: .ref n8 :: v37 :: v38 :: v39 :: v40 :: v41 :: v42 :: v43 :: v44 :: v45 :: v46 :: v47 :: v48 :: v49 :: v50 :: v51 :: v52 :: v53 :: v54 :: v55 :: v56 :: v57 :: v58 :: v59 :: v60 :: v61 :: v62 :: v63 :: v64 :: v65 :: v66 :: v67 :: v68 :: v69 :: v70 :: v71 :: v72 :: v73 :: v74 :: v75 :: v76 :: v77 :: v78 :: v79 :: v80 :: v81 :: v82 :: v83 :: v84 :: v85 :: v86 :: v87 :: v88 :: v89 :: v90 :: v91 :: v92 :: v93 :: v94 :: v95 :: []))), (n8, .inl (k 0, 3, .inl (fun _ => 0)))]) (hS : va_S (fun q : Nat => s.heap.size ≤ q) s.heap H locs) (hl : lv_has ls 7 [(4, .int 0), (0, .ref b), (1, .ref b0), (2, .ref n0), (3, .ref o)]) : W p l e room_1 s m #[Value.ref b] below meth c H locs 92 31361 (lw_Z below #[Value.ref b] s) (F0 m 282 ls []) := by
  obtain ⟨hx, hb, hr, hml, hown, hts0, hXs, hbl, hlocks, hgv⟩ := C0
  have hts := fun w h => hts0 w (wsL_law_in w h)
  obtain ⟨A, hAe⟩ : ∃ z : Nat → Prop, z = (fun q : Nat => s.heap.size ≤ q) := ⟨_, rfl⟩
  have hA : ∀ q : Nat, s.heap.size ≤ q → A q := fun q h => by rw [hAe]; exact h
  have hbA : ¬ A b := by rw [hAe]; exact Nat.not_le.mpr hbl
  have hfA : ∀ {locs : List Loc}, (∀ q ∈ locs, A q.base) → ∀ q ∈ locs, s.heap.size ≤ q.base := fun h q hq => by have h9 := h q hq; rw [hAe] at h9; exact h9
  rw [← hAe] at hZ hD hS
  refine lv_aload_n hx hb dL_law_282 rfl (lv_at hl 2 rfl) ?_
  refine lv_aload_n hx hb dL_law_283 rfl (lv_at hl 1 rfl) ?_
  refine lv_iload hx hb dL_law_284 (lv_at hl 0 rfl) ?_
  refine lv_iconst (v := 1) hx hb dL_law_286 (by decide +kernel) ?_
  refine lv_iadd hx hb dL_law_287 ?_
  refine cz_ti (w := 1) (by decide +kernel) ?_
  refine va_sld hx hb hXs hbl hbA hS (by unfold vp_in; decide +kernel) dL_law_288 ?_
  refine cz_ti (w := 14) (show xs ((1 : Int32).toNatClampNeg) = 14 from e1) ?_
  refine lv_aload_n hx hb dL_law_289 rfl (lv_at hl 4 rfl) ?_
  refine cz_i (wr := [(n0, .inr (7, (v26 :: v27 :: .int 0 :: v28 :: v29 :: v30 :: v31 :: v32 :: v33 :: v34 :: v35 :: .ref n8 :: v37 :: v38 :: v39 :: v40 :: v41 :: v42 :: v43 :: v44 :: v45 :: v46 :: v47 :: v48 :: v49 :: v50 :: v51 :: v52 :: v53 :: v54 :: v55 :: v56 :: v57 :: v58 :: v59 :: v60 :: v61 :: v62 :: v63 :: v64 :: v65 :: v66 :: v67 :: v68 :: v69 :: v70 :: v71 :: v72 :: v73 :: v74 :: v75 :: v76 :: v77 :: v78 :: v79 :: v80 :: v81 :: v82 :: v83 :: v84 :: v85 :: v86 :: v87 :: v88 :: v89 :: v90 :: v91 :: v92 :: v93 :: v94 :: v95 :: []))), (n8, .inl (k 0, 3, .inl (fun _ => 0)))]) (vx_runSW (As := [.ref b0, .int 14, .ref o]) (rest := []) ⟨hx, hb, hml, hown, hts⟩ (cL_count_15 l G k b0 o v3 v4 v5 v6 v7 v8 b51 v10 v11 v12 v13 v14 v15 v16 v17 v18 v19 v20 v21 v22 v23 v24 b30 (fun _ => 0) H.size) (vx_cwSW 3 hts gL_law_L_count rfl rfl rfl (by decide +kernel) ⟨Nat.le_of_ble_eq_true rfl, Nat.le_of_ble_eq_true rfl⟩) (cz_preS hZ hS hX hP hD [0, 1, 2, 3] rfl rfl) rfl rfl hl.1 rfl (lv_room (Nat.le_of_ble_eq_true rfl)) dL_law_290 ⟨Nat.le_of_ble_eq_true rfl, Nat.le_of_ble_eq_true rfl⟩) hP hD hS hA [0, 1, 2, 3] [4, 5] rfl rfl (by decide) (by decide) (fun r u H locs hp hP hD hS => ?_)
  have hp : r = 0 := hp
  subst hp
  refine lv_istore (lv' := [(5, .int 0), (4, .int 0), (0, .ref b), (1, .ref b0), (2, .ref n0), (3, .ref o)]) hx hb dL_law_293 hl (by decide) rfl (fun ls hl => ?_)
  refine lv_aload_n hx hb dL_law_295 rfl (lv_at hl 4 rfl) ?_
  refine lv_aload_n hx hb dL_law_296 rfl (lv_at hl 2 rfl) ?_
  refine lv_iload hx hb dL_law_297 (lv_at hl 1 rfl) ?_
  refine lv_iconst (v := 1) hx hb dL_law_299 (by decide +kernel) ?_
  refine lv_iadd hx hb dL_law_300 ?_
  refine cz_ti (w := 1) (by decide +kernel) ?_
  refine va_sld hx hb hXs hbl hbA hS (by unfold vp_in; decide +kernel) dL_law_301 ?_
  refine cz_ti (w := 14) (show xs ((1 : Int32).toNatClampNeg) = 14 from e1) ?_
  refine cz_i (wr := [(o, .inl (k 2, 1, .inr (.inl (vp_updL (fun _ => 0) (0 : Int32).toNatClampNeg 0)))), (b0, .inr (6, [v3, v4, v5, v6, v7, v8, .ref b51, v10, v11, v12, v13])), (b51, .inr (0, [v14, v15, v16, v17, v18, v19, v20, v21, v22, v23, v24, .ref b30])), (b30, .inl (k 0, 3, .inl (fun _ => 0)))]) (va_runV (As := [.int 14]) (rest := []) ⟨hx, hb, hml, hown, hts⟩ (cX10_count_15 l G k n0 v26 v27 (.int 0) v28 v29 v30 v31 v32 v33 v34 v35 n8 v37 v38 v39 v40 v41 v42 v43 v44 v45 v46 v47 v48 v49 v50 v51 v52 v53 v54 v55 v56 v57 v58 v59 v60 v61 v62 v63 v64 v65 v66 v67 v68 v69 v70 v71 v72 v73 v74 v75 v76 v77 v78 v79 v80 v81 v82 v83 v84 v85 v86 v87 v88 v89 v90 v91 v92 v93 v94 v95 H.size) (cwV 1 hts gL_law_X10_count rfl rfl rfl (by decide +kernel) ⟨Nat.le_of_ble_eq_true rfl, Nat.le_of_ble_eq_true rfl⟩) (cz_preV hZ hS hX hP hD [0, 1] rfl rfl (ci := 7) (q0 := 0) rfl rfl) rfl rfl hl.1 rfl (lv_room (Nat.le_of_ble_eq_true rfl)) dL_law_302 ⟨Nat.le_of_ble_eq_true rfl, Nat.le_of_ble_eq_true rfl⟩) hP hD hS hA [0, 1] [2, 3, 4, 5] rfl rfl (by decide) (by decide) (fun r u H locs hp hP hD hS => ?_)
  have hp : r = 0 := hp
  subst hp
  refine lv_istore (lv' := [(6, .int 0), (5, .int 0), (4, .int 0), (0, .ref b), (1, .ref b0), (2, .ref n0), (3, .ref o)]) hx hb dL_law_305 hl (by decide) rfl (fun ls hl => ?_)
  refine lv_aload_n hx hb dL_law_307 rfl (lv_at hl 5 rfl) ?_
  refine cz_i (wr := [(o, .inl (k 2, 1, .inr (.inl (vp_updL (fun _ => 0) (0 : Int32).toNatClampNeg 0)))), (b0, .inr (6, [v3, v4, v5, v6, v7, v8, .ref b51, v10, v11, v12, v13])), (b51, .inr (0, [v14, v15, v16, v17, v18, v19, v20, v21, v22, v23, v24, .ref b30])), (b30, .inl (k 0, 3, .inl (fun _ => 0))), (n8, .inl (k 0, 3, .inl (fun _ => 0)))]) (va_runV (As := []) (rest := []) ⟨hx, hb, hml, hown, hts⟩ (cX10_thrown_1 l G k n0 v26 v27 v28 v29 v30 v31 v32 v33 v34 v35 (.ref n8) v37 v38 v39 v40 v41 v42 v43 v44 v45 v46 v47 v48 v49 v50 v51 v52 v53 v54 v55 v56 v57 v58 v59 v60 v61 v62 v63 v64 v65 v66 v67 v68 v69 v70 v71 v72 v73 v74 v75 v76 v77 v78 v79 v80 v81 v82 v83 v84 v85 v86 v87 v88 v89 v90 v91 v92 v93 v94 v95 H.size) (cwV 0 hts gL_law_X10_thrown rfl rfl rfl (by decide +kernel) ⟨Nat.le_of_ble_eq_true rfl, Nat.le_of_ble_eq_true rfl⟩) (cz_preV hZ hS hX hP hD [4] rfl rfl (ci := 7) (q0 := 4) rfl rfl) rfl rfl hl.1 rfl (lv_room (Nat.le_of_ble_eq_true rfl)) dL_law_308 ⟨Nat.le_of_ble_eq_true rfl, Nat.le_of_ble_eq_true rfl⟩) hP hD hS hA [4] [0, 1, 2, 3, 5] rfl rfl (by decide) (by decide) (fun r u H locs hp hP hD hS => ?_)
  have hp : r = 0 := hp
  subst hp
  refine lv_iload hx hb dL_law_311 (lv_at hl 1 rfl) ?_
  refine lv_icmp_eq (tgt := 318) hx hb dL_law_313 (by decide) (fun _ => ?_) (fun q => absurd (by decide +kernel) (q))
  refine lv_iload hx hb dL_law_318 (lv_at hl 1 rfl) ?_
  refine lv_if_ne (tgt := 335) hx hb dL_law_320 (by decide) (fun q => absurd (by decide +kernel) (q)) (fun _ => ?_)
  refine lv_aload_n hx hb dL_law_323 rfl (lv_at hl 6 rfl) ?_
  refine lv_iconst (v := 0) hx hb dL_law_324 (by decide +kernel) ?_
  refine va_lald hx hb hX.1 hP 0 2 rfl rfl (by unfold vp_in; decide +kernel) dL_law_325 ?_
  refine cz_tl (w := 0) (by rfl) ?_
  refine lv_iload hx hb dL_law_326 (lv_at hl 0 rfl) ?_
  refine lv_i2l (v := 0) hx hb dL_law_328 (by decide +kernel) ?_
  refine W.lcmp hx hb dL_law_329 ?_
  refine cz_ti (w := 0) (by decide +kernel) ?_
  refine lv_if_eq (tgt := 335) hx hb dL_law_330 (by decide) (fun _ => ?_) (fun q => absurd (by decide +kernel) (q))
  refine lv_goto (tgt := 1002) hx hb dL_law_335 (by decide) ?_
  refine lv_iinc (v := 6) (lv' := [(4, .int 6), (6, .int 0), (5, .int 0), (0, .ref b), (1, .ref b0), (2, .ref n0), (3, .ref o)]) hx hb dL_law_1002 hl (k := 2) rfl (by decide +kernel) (by decide) rfl (fun ls hl => ?_)
  refine lv_goto (tgt := 23) hx hb dL_law_1005 (by decide) ?_
  refine lv_iload hx hb dL_law_23 (lv_at hl 0 rfl) ?_
  refine lv_aload_n hx hb dL_law_25 rfl (lv_at hl 3 rfl) ?_
  refine va_slen hx hb hXs hbl hbA hS dL_law_26 ?_
  refine cz_ti (w := 6) (by decide +kernel) ?_
  refine lv_bipush (v := 6) hx hb dL_law_27 (by decide +kernel) ?_
  refine lv_isub hx hb dL_law_29 ?_
  refine cz_ti (w := 0) (by decide +kernel) ?_
  refine lv_icmp_gt (tgt := 1008) hx hb dL_law_30 (by decide) (fun _ => ?_) (fun q => absurd (by decide +kernel) (q))
  refine lv_iconst (v := 1) hx hb dL_law_1008 (by decide +kernel) ?_
  refine va_forget (hfA hS.2.2) ?_
  refine W.widen (k := 600002) (n := 7302232) (Nat.le_of_ble_eq_true rfl) (Nat.le_of_ble_eq_true rfl) ?_
  exact lw_ret hx hb hr hlocks dL_law_1009

set_option maxHeartbeats 4000000 in
set_option maxRecDepth 100000 in
theorem law_3_16 {p : Program} {l : Launch} {e : Env} {s : State} {m : MethodId} {below : List Frame} {meth : Method} {c : Code} {G : va_G} {k : Nat → ClassId} {b : Nat} {xs : Nat → Int32} {H : Heap} {locs : List Loc} {ls : Array Slot} {b0 : Nat} {n0 : Nat} {o : Nat} {v3 : Value} {v4 : Value} {v5 : Value} {v6 : Value} {v7 : Value} {v8 : Value} {b51 : Nat} {v10 : Value} {v11 : Value} {v12 : Value} {v13 : Value} {v14 : Value} {v15 : Value} {v16 : Value} {v17 : Value} {v18 : Value} {v19 : Value} {v20 : Value} {v21 : Value} {v22 : Value} {v23 : Value} {v24 : Value} {b30 : Nat} {v26 : Value} {v27 : Value} {v28 : Value} {v29 : Value} {v30 : Value} {v31 : Value} {v32 : Value} {v33 : Value} {v34 : Value} {v35 : Value} {n8 : Nat} {v37 : Value} {v38 : Value} {v39 : Value} {v40 : Value} {v41 : Value} {v42 : Value} {v43 : Value} {v44 : Value} {v45 : Value} {v46 : Value} {v47 : Value} {v48 : Value} {v49 : Value} {v50 : Value} {v51 : Value} {v52 : Value} {v53 : Value} {v54 : Value} {v55 : Value} {v56 : Value} {v57 : Value} {v58 : Value} {v59 : Value} {v60 : Value} {v61 : Value} {v62 : Value} {v63 : Value} {v64 : Value} {v65 : Value} {v66 : Value} {v67 : Value} {v68 : Value} {v69 : Value} {v70 : Value} {v71 : Value} {v72 : Value} {v73 : Value} {v74 : Value} {v75 : Value} {v76 : Value} {v77 : Value} {v78 : Value} {v79 : Value} {v80 : Value} {v81 : Value} {v82 : Value} {v83 : Value} {v84 : Value} {v85 : Value} {v86 : Value} {v87 : Value} {v88 : Value} {v89 : Value} {v90 : Value} {v91 : Value} {v92 : Value} {v93 : Value} {v94 : Value} {v95 : Value} (C0 : lw_At p s m meth c b 6 xs) (htr : l.stackTraces = false) (hX : KX G k s) (hT9 : TX s) (hZ : ZX k (fun q : Nat => s.heap.size ≤ q) s s.heap) (e1 : xs 1 = 15) (hP : va_P G vwCl [(b0, .inr (6, [v3, v4, v5, v6, v7, v8, .ref b51, v10, v11, v12, v13])), (b51, .inr (0, [v14, v15, v16, v17, v18, v19, v20, v21, v22, v23, v24, .ref b30])), (b30, .inl (k 0, 3, .inl (fun _ => 0))), (o, .inl (k 2, 1, .inr (.inl (fun _ => 0)))), (n0, .inr (7, (v26 :: v27 :: .int 0 :: v28 :: v29 :: v30 :: v31 :: v32 :: v33 :: v34 :: v35 :: .ref n8 :: v37 :: v38 :: v39 :: v40 :: v41 :: v42 :: v43 :: v44 :: v45 :: v46 :: v47 :: v48 :: v49 :: v50 :: v51 :: v52 :: v53 :: v54 :: v55 :: v56 :: v57 :: v58 :: v59 :: v60 :: v61 :: v62 :: v63 :: v64 :: v65 :: v66 :: v67 :: v68 :: v69 :: v70 :: v71 :: v72 :: v73 :: v74 :: v75 :: v76 :: v77 :: v78 :: v79 :: v80 :: v81 :: v82 :: v83 :: v84 :: v85 :: v86 :: v87 :: v88 :: v89 :: v90 :: v91 :: v92 :: v93 :: v94 :: v95 :: []))), (n8, .inl (k 0, 3, .inl (fun _ => 0)))] H) (hD : va_D (fun q : Nat => s.heap.size ≤ q) [(b0, .inr (6, [v3, v4, v5, v6, v7, v8, .ref b51, v10, v11, v12, v13])), (b51, .inr (0, [v14, v15, v16, v17, v18, v19, v20, v21, v22, v23, v24, .ref b30])), (b30, .inl (k 0, 3, .inl (fun _ => 0))), (o, .inl (k 2, 1, .inr (.inl (fun _ => 0)))), (n0, .inr (7, (v26 :: v27 :: .int 0 :: v28 :: v29 :: v30 :: v31 :: v32 :: v33 :: v34 :: v35 :: .ref n8 :: v37 :: v38 :: v39 :: v40 :: v41 :: v42 :: v43 :: v44 :: v45 :: v46 :: v47 :: v48 :: v49 :: v50 :: v51 :: v52 :: v53 :: v54 :: v55 :: v56 :: v57 :: v58 :: v59 :: v60 :: v61 :: v62 :: v63 :: v64 :: v65 :: v66 :: v67 :: v68 :: v69 :: v70 :: v71 :: v72 :: v73 :: v74 :: v75 :: v76 :: v77 :: v78 :: v79 :: v80 :: v81 :: v82 :: v83 :: v84 :: v85 :: v86 :: v87 :: v88 :: v89 :: v90 :: v91 :: v92 :: v93 :: v94 :: v95 :: []))), (n8, .inl (k 0, 3, .inl (fun _ => 0)))]) (hS : va_S (fun q : Nat => s.heap.size ≤ q) s.heap H locs) (hl : lv_has ls 7 [(4, .int 0), (0, .ref b), (1, .ref b0), (2, .ref n0), (3, .ref o)]) : W p l e room_1 s m #[Value.ref b] below meth c H locs 92 31361 (lw_Z below #[Value.ref b] s) (F0 m 282 ls []) := by
  obtain ⟨hx, hb, hr, hml, hown, hts0, hXs, hbl, hlocks, hgv⟩ := C0
  have hts := fun w h => hts0 w (wsL_law_in w h)
  obtain ⟨A, hAe⟩ : ∃ z : Nat → Prop, z = (fun q : Nat => s.heap.size ≤ q) := ⟨_, rfl⟩
  have hA : ∀ q : Nat, s.heap.size ≤ q → A q := fun q h => by rw [hAe]; exact h
  have hbA : ¬ A b := by rw [hAe]; exact Nat.not_le.mpr hbl
  have hfA : ∀ {locs : List Loc}, (∀ q ∈ locs, A q.base) → ∀ q ∈ locs, s.heap.size ≤ q.base := fun h q hq => by have h9 := h q hq; rw [hAe] at h9; exact h9
  rw [← hAe] at hZ hD hS
  refine lv_aload_n hx hb dL_law_282 rfl (lv_at hl 2 rfl) ?_
  refine lv_aload_n hx hb dL_law_283 rfl (lv_at hl 1 rfl) ?_
  refine lv_iload hx hb dL_law_284 (lv_at hl 0 rfl) ?_
  refine lv_iconst (v := 1) hx hb dL_law_286 (by decide +kernel) ?_
  refine lv_iadd hx hb dL_law_287 ?_
  refine cz_ti (w := 1) (by decide +kernel) ?_
  refine va_sld hx hb hXs hbl hbA hS (by unfold vp_in; decide +kernel) dL_law_288 ?_
  refine cz_ti (w := 15) (show xs ((1 : Int32).toNatClampNeg) = 15 from e1) ?_
  refine lv_aload_n hx hb dL_law_289 rfl (lv_at hl 4 rfl) ?_
  refine cz_i (wr := [(n0, .inr (7, (v26 :: v27 :: .int 0 :: v28 :: v29 :: v30 :: v31 :: v32 :: v33 :: v34 :: v35 :: .ref n8 :: v37 :: v38 :: v39 :: v40 :: v41 :: v42 :: v43 :: v44 :: v45 :: v46 :: v47 :: v48 :: v49 :: v50 :: v51 :: v52 :: v53 :: v54 :: v55 :: v56 :: v57 :: v58 :: v59 :: v60 :: v61 :: v62 :: v63 :: v64 :: v65 :: v66 :: v67 :: v68 :: v69 :: v70 :: v71 :: v72 :: v73 :: v74 :: v75 :: v76 :: v77 :: v78 :: v79 :: v80 :: v81 :: v82 :: v83 :: v84 :: v85 :: v86 :: v87 :: v88 :: v89 :: v90 :: v91 :: v92 :: v93 :: v94 :: v95 :: []))), (n8, .inl (k 0, 3, .inl (fun _ => 0)))]) (vx_runSW (As := [.ref b0, .int 15, .ref o]) (rest := []) ⟨hx, hb, hml, hown, hts⟩ (cL_count_16 l G k b0 o v3 v4 v5 v6 v7 v8 b51 v10 v11 v12 v13 v14 v15 v16 v17 v18 v19 v20 v21 v22 v23 v24 b30 (fun _ => 0) H.size) (vx_cwSW 3 hts gL_law_L_count rfl rfl rfl (by decide +kernel) ⟨Nat.le_of_ble_eq_true rfl, Nat.le_of_ble_eq_true rfl⟩) (cz_preS hZ hS hX hP hD [0, 1, 2, 3] rfl rfl) rfl rfl hl.1 rfl (lv_room (Nat.le_of_ble_eq_true rfl)) dL_law_290 ⟨Nat.le_of_ble_eq_true rfl, Nat.le_of_ble_eq_true rfl⟩) hP hD hS hA [0, 1, 2, 3] [4, 5] rfl rfl (by decide) (by decide) (fun r u H locs hp hP hD hS => ?_)
  have hp : r = 0 := hp
  subst hp
  refine lv_istore (lv' := [(5, .int 0), (4, .int 0), (0, .ref b), (1, .ref b0), (2, .ref n0), (3, .ref o)]) hx hb dL_law_293 hl (by decide) rfl (fun ls hl => ?_)
  refine lv_aload_n hx hb dL_law_295 rfl (lv_at hl 4 rfl) ?_
  refine lv_aload_n hx hb dL_law_296 rfl (lv_at hl 2 rfl) ?_
  refine lv_iload hx hb dL_law_297 (lv_at hl 1 rfl) ?_
  refine lv_iconst (v := 1) hx hb dL_law_299 (by decide +kernel) ?_
  refine lv_iadd hx hb dL_law_300 ?_
  refine cz_ti (w := 1) (by decide +kernel) ?_
  refine va_sld hx hb hXs hbl hbA hS (by unfold vp_in; decide +kernel) dL_law_301 ?_
  refine cz_ti (w := 15) (show xs ((1 : Int32).toNatClampNeg) = 15 from e1) ?_
  refine cz_i (wr := [(o, .inl (k 2, 1, .inr (.inl (vp_updL (fun _ => 0) (0 : Int32).toNatClampNeg 0)))), (b0, .inr (6, [v3, v4, v5, v6, v7, v8, .ref b51, v10, v11, v12, v13])), (b51, .inr (0, [v14, v15, v16, v17, v18, v19, v20, v21, v22, v23, v24, .ref b30])), (b30, .inl (k 0, 3, .inl (fun _ => 0)))]) (va_runV (As := [.int 15]) (rest := []) ⟨hx, hb, hml, hown, hts⟩ (cX10_count_16 l G k n0 v26 v27 (.int 0) v28 v29 v30 v31 v32 v33 v34 v35 n8 v37 v38 v39 v40 v41 v42 v43 v44 v45 v46 v47 v48 v49 v50 v51 v52 v53 v54 v55 v56 v57 v58 v59 v60 v61 v62 v63 v64 v65 v66 v67 v68 v69 v70 v71 v72 v73 v74 v75 v76 v77 v78 v79 v80 v81 v82 v83 v84 v85 v86 v87 v88 v89 v90 v91 v92 v93 v94 v95 H.size) (cwV 1 hts gL_law_X10_count rfl rfl rfl (by decide +kernel) ⟨Nat.le_of_ble_eq_true rfl, Nat.le_of_ble_eq_true rfl⟩) (cz_preV hZ hS hX hP hD [0, 1] rfl rfl (ci := 7) (q0 := 0) rfl rfl) rfl rfl hl.1 rfl (lv_room (Nat.le_of_ble_eq_true rfl)) dL_law_302 ⟨Nat.le_of_ble_eq_true rfl, Nat.le_of_ble_eq_true rfl⟩) hP hD hS hA [0, 1] [2, 3, 4, 5] rfl rfl (by decide) (by decide) (fun r u H locs hp hP hD hS => ?_)
  have hp : r = 0 := hp
  subst hp
  refine lv_istore (lv' := [(6, .int 0), (5, .int 0), (4, .int 0), (0, .ref b), (1, .ref b0), (2, .ref n0), (3, .ref o)]) hx hb dL_law_305 hl (by decide) rfl (fun ls hl => ?_)
  refine lv_aload_n hx hb dL_law_307 rfl (lv_at hl 5 rfl) ?_
  refine cz_i (wr := [(o, .inl (k 2, 1, .inr (.inl (vp_updL (fun _ => 0) (0 : Int32).toNatClampNeg 0)))), (b0, .inr (6, [v3, v4, v5, v6, v7, v8, .ref b51, v10, v11, v12, v13])), (b51, .inr (0, [v14, v15, v16, v17, v18, v19, v20, v21, v22, v23, v24, .ref b30])), (b30, .inl (k 0, 3, .inl (fun _ => 0))), (n8, .inl (k 0, 3, .inl (fun _ => 0)))]) (va_runV (As := []) (rest := []) ⟨hx, hb, hml, hown, hts⟩ (cX10_thrown_1 l G k n0 v26 v27 v28 v29 v30 v31 v32 v33 v34 v35 (.ref n8) v37 v38 v39 v40 v41 v42 v43 v44 v45 v46 v47 v48 v49 v50 v51 v52 v53 v54 v55 v56 v57 v58 v59 v60 v61 v62 v63 v64 v65 v66 v67 v68 v69 v70 v71 v72 v73 v74 v75 v76 v77 v78 v79 v80 v81 v82 v83 v84 v85 v86 v87 v88 v89 v90 v91 v92 v93 v94 v95 H.size) (cwV 0 hts gL_law_X10_thrown rfl rfl rfl (by decide +kernel) ⟨Nat.le_of_ble_eq_true rfl, Nat.le_of_ble_eq_true rfl⟩) (cz_preV hZ hS hX hP hD [4] rfl rfl (ci := 7) (q0 := 4) rfl rfl) rfl rfl hl.1 rfl (lv_room (Nat.le_of_ble_eq_true rfl)) dL_law_308 ⟨Nat.le_of_ble_eq_true rfl, Nat.le_of_ble_eq_true rfl⟩) hP hD hS hA [4] [0, 1, 2, 3, 5] rfl rfl (by decide) (by decide) (fun r u H locs hp hP hD hS => ?_)
  have hp : r = 0 := hp
  subst hp
  refine lv_iload hx hb dL_law_311 (lv_at hl 1 rfl) ?_
  refine lv_icmp_eq (tgt := 318) hx hb dL_law_313 (by decide) (fun _ => ?_) (fun q => absurd (by decide +kernel) (q))
  refine lv_iload hx hb dL_law_318 (lv_at hl 1 rfl) ?_
  refine lv_if_ne (tgt := 335) hx hb dL_law_320 (by decide) (fun q => absurd (by decide +kernel) (q)) (fun _ => ?_)
  refine lv_aload_n hx hb dL_law_323 rfl (lv_at hl 6 rfl) ?_
  refine lv_iconst (v := 0) hx hb dL_law_324 (by decide +kernel) ?_
  refine va_lald hx hb hX.1 hP 0 2 rfl rfl (by unfold vp_in; decide +kernel) dL_law_325 ?_
  refine cz_tl (w := 0) (by rfl) ?_
  refine lv_iload hx hb dL_law_326 (lv_at hl 0 rfl) ?_
  refine lv_i2l (v := 0) hx hb dL_law_328 (by decide +kernel) ?_
  refine W.lcmp hx hb dL_law_329 ?_
  refine cz_ti (w := 0) (by decide +kernel) ?_
  refine lv_if_eq (tgt := 335) hx hb dL_law_330 (by decide) (fun _ => ?_) (fun q => absurd (by decide +kernel) (q))
  refine lv_goto (tgt := 1002) hx hb dL_law_335 (by decide) ?_
  refine lv_iinc (v := 6) (lv' := [(4, .int 6), (6, .int 0), (5, .int 0), (0, .ref b), (1, .ref b0), (2, .ref n0), (3, .ref o)]) hx hb dL_law_1002 hl (k := 2) rfl (by decide +kernel) (by decide) rfl (fun ls hl => ?_)
  refine lv_goto (tgt := 23) hx hb dL_law_1005 (by decide) ?_
  refine lv_iload hx hb dL_law_23 (lv_at hl 0 rfl) ?_
  refine lv_aload_n hx hb dL_law_25 rfl (lv_at hl 3 rfl) ?_
  refine va_slen hx hb hXs hbl hbA hS dL_law_26 ?_
  refine cz_ti (w := 6) (by decide +kernel) ?_
  refine lv_bipush (v := 6) hx hb dL_law_27 (by decide +kernel) ?_
  refine lv_isub hx hb dL_law_29 ?_
  refine cz_ti (w := 0) (by decide +kernel) ?_
  refine lv_icmp_gt (tgt := 1008) hx hb dL_law_30 (by decide) (fun _ => ?_) (fun q => absurd (by decide +kernel) (q))
  refine lv_iconst (v := 1) hx hb dL_law_1008 (by decide +kernel) ?_
  refine va_forget (hfA hS.2.2) ?_
  refine W.widen (k := 600002) (n := 7302232) (Nat.le_of_ble_eq_true rfl) (Nat.le_of_ble_eq_true rfl) ?_
  exact lw_ret hx hb hr hlocks dL_law_1009

set_option maxHeartbeats 4000000 in
set_option maxRecDepth 100000 in
theorem law_3_17 {p : Program} {l : Launch} {e : Env} {s : State} {m : MethodId} {below : List Frame} {meth : Method} {c : Code} {G : va_G} {k : Nat → ClassId} {b : Nat} {xs : Nat → Int32} {H : Heap} {locs : List Loc} {ls : Array Slot} {b0 : Nat} {n0 : Nat} {o : Nat} {v3 : Value} {v4 : Value} {v5 : Value} {v6 : Value} {v7 : Value} {v8 : Value} {b51 : Nat} {v10 : Value} {v11 : Value} {v12 : Value} {v13 : Value} {v14 : Value} {v15 : Value} {v16 : Value} {v17 : Value} {v18 : Value} {v19 : Value} {v20 : Value} {v21 : Value} {v22 : Value} {v23 : Value} {v24 : Value} {b30 : Nat} {v26 : Value} {v27 : Value} {v28 : Value} {v29 : Value} {v30 : Value} {v31 : Value} {v32 : Value} {v33 : Value} {v34 : Value} {v35 : Value} {n8 : Nat} {v37 : Value} {v38 : Value} {v39 : Value} {v40 : Value} {v41 : Value} {v42 : Value} {v43 : Value} {v44 : Value} {v45 : Value} {v46 : Value} {v47 : Value} {v48 : Value} {v49 : Value} {v50 : Value} {v51 : Value} {v52 : Value} {v53 : Value} {v54 : Value} {v55 : Value} {v56 : Value} {v57 : Value} {v58 : Value} {v59 : Value} {v60 : Value} {v61 : Value} {v62 : Value} {v63 : Value} {v64 : Value} {v65 : Value} {v66 : Value} {v67 : Value} {v68 : Value} {v69 : Value} {v70 : Value} {v71 : Value} {v72 : Value} {v73 : Value} {v74 : Value} {v75 : Value} {v76 : Value} {v77 : Value} {v78 : Value} {v79 : Value} {v80 : Value} {v81 : Value} {v82 : Value} {v83 : Value} {v84 : Value} {v85 : Value} {v86 : Value} {v87 : Value} {v88 : Value} {v89 : Value} {v90 : Value} {v91 : Value} {v92 : Value} {v93 : Value} {v94 : Value} {v95 : Value} (C0 : lw_At p s m meth c b 6 xs) (htr : l.stackTraces = false) (hX : KX G k s) (hT9 : TX s) (hZ : ZX k (fun q : Nat => s.heap.size ≤ q) s s.heap) (e1 : xs 1 = 16) (hP : va_P G vwCl [(b0, .inr (6, [v3, v4, v5, v6, v7, v8, .ref b51, v10, v11, v12, v13])), (b51, .inr (0, [v14, v15, v16, v17, v18, v19, v20, v21, v22, v23, v24, .ref b30])), (b30, .inl (k 0, 3, .inl (fun _ => 0))), (o, .inl (k 2, 1, .inr (.inl (fun _ => 0)))), (n0, .inr (7, (v26 :: v27 :: .int 0 :: v28 :: v29 :: v30 :: v31 :: v32 :: v33 :: v34 :: v35 :: .ref n8 :: v37 :: v38 :: v39 :: v40 :: v41 :: v42 :: v43 :: v44 :: v45 :: v46 :: v47 :: v48 :: v49 :: v50 :: v51 :: v52 :: v53 :: v54 :: v55 :: v56 :: v57 :: v58 :: v59 :: v60 :: v61 :: v62 :: v63 :: v64 :: v65 :: v66 :: v67 :: v68 :: v69 :: v70 :: v71 :: v72 :: v73 :: v74 :: v75 :: v76 :: v77 :: v78 :: v79 :: v80 :: v81 :: v82 :: v83 :: v84 :: v85 :: v86 :: v87 :: v88 :: v89 :: v90 :: v91 :: v92 :: v93 :: v94 :: v95 :: []))), (n8, .inl (k 0, 3, .inl (fun _ => 0)))] H) (hD : va_D (fun q : Nat => s.heap.size ≤ q) [(b0, .inr (6, [v3, v4, v5, v6, v7, v8, .ref b51, v10, v11, v12, v13])), (b51, .inr (0, [v14, v15, v16, v17, v18, v19, v20, v21, v22, v23, v24, .ref b30])), (b30, .inl (k 0, 3, .inl (fun _ => 0))), (o, .inl (k 2, 1, .inr (.inl (fun _ => 0)))), (n0, .inr (7, (v26 :: v27 :: .int 0 :: v28 :: v29 :: v30 :: v31 :: v32 :: v33 :: v34 :: v35 :: .ref n8 :: v37 :: v38 :: v39 :: v40 :: v41 :: v42 :: v43 :: v44 :: v45 :: v46 :: v47 :: v48 :: v49 :: v50 :: v51 :: v52 :: v53 :: v54 :: v55 :: v56 :: v57 :: v58 :: v59 :: v60 :: v61 :: v62 :: v63 :: v64 :: v65 :: v66 :: v67 :: v68 :: v69 :: v70 :: v71 :: v72 :: v73 :: v74 :: v75 :: v76 :: v77 :: v78 :: v79 :: v80 :: v81 :: v82 :: v83 :: v84 :: v85 :: v86 :: v87 :: v88 :: v89 :: v90 :: v91 :: v92 :: v93 :: v94 :: v95 :: []))), (n8, .inl (k 0, 3, .inl (fun _ => 0)))]) (hS : va_S (fun q : Nat => s.heap.size ≤ q) s.heap H locs) (hl : lv_has ls 7 [(4, .int 0), (0, .ref b), (1, .ref b0), (2, .ref n0), (3, .ref o)]) : W p l e room_1 s m #[Value.ref b] below meth c H locs 92 31361 (lw_Z below #[Value.ref b] s) (F0 m 282 ls []) := by
  obtain ⟨hx, hb, hr, hml, hown, hts0, hXs, hbl, hlocks, hgv⟩ := C0
  have hts := fun w h => hts0 w (wsL_law_in w h)
  obtain ⟨A, hAe⟩ : ∃ z : Nat → Prop, z = (fun q : Nat => s.heap.size ≤ q) := ⟨_, rfl⟩
  have hA : ∀ q : Nat, s.heap.size ≤ q → A q := fun q h => by rw [hAe]; exact h
  have hbA : ¬ A b := by rw [hAe]; exact Nat.not_le.mpr hbl
  have hfA : ∀ {locs : List Loc}, (∀ q ∈ locs, A q.base) → ∀ q ∈ locs, s.heap.size ≤ q.base := fun h q hq => by have h9 := h q hq; rw [hAe] at h9; exact h9
  rw [← hAe] at hZ hD hS
  refine lv_aload_n hx hb dL_law_282 rfl (lv_at hl 2 rfl) ?_
  refine lv_aload_n hx hb dL_law_283 rfl (lv_at hl 1 rfl) ?_
  refine lv_iload hx hb dL_law_284 (lv_at hl 0 rfl) ?_
  refine lv_iconst (v := 1) hx hb dL_law_286 (by decide +kernel) ?_
  refine lv_iadd hx hb dL_law_287 ?_
  refine cz_ti (w := 1) (by decide +kernel) ?_
  refine va_sld hx hb hXs hbl hbA hS (by unfold vp_in; decide +kernel) dL_law_288 ?_
  refine cz_ti (w := 16) (show xs ((1 : Int32).toNatClampNeg) = 16 from e1) ?_
  refine lv_aload_n hx hb dL_law_289 rfl (lv_at hl 4 rfl) ?_
  refine cz_i (wr := [(n0, .inr (7, (v26 :: v27 :: .int 0 :: v28 :: v29 :: v30 :: v31 :: v32 :: v33 :: v34 :: v35 :: .ref n8 :: v37 :: v38 :: v39 :: v40 :: v41 :: v42 :: v43 :: v44 :: v45 :: v46 :: v47 :: v48 :: v49 :: v50 :: v51 :: v52 :: v53 :: v54 :: v55 :: v56 :: v57 :: v58 :: v59 :: v60 :: v61 :: v62 :: v63 :: v64 :: v65 :: v66 :: v67 :: v68 :: v69 :: v70 :: v71 :: v72 :: v73 :: v74 :: v75 :: v76 :: v77 :: v78 :: v79 :: v80 :: v81 :: v82 :: v83 :: v84 :: v85 :: v86 :: v87 :: v88 :: v89 :: v90 :: v91 :: v92 :: v93 :: v94 :: v95 :: []))), (n8, .inl (k 0, 3, .inl (fun _ => 0)))]) (vx_runSW (As := [.ref b0, .int 16, .ref o]) (rest := []) ⟨hx, hb, hml, hown, hts⟩ (cL_count_17 l G k b0 o v3 v4 v5 v6 v7 v8 b51 v10 v11 v12 v13 v14 v15 v16 v17 v18 v19 v20 v21 v22 v23 v24 b30 (fun _ => 0) H.size) (vx_cwSW 3 hts gL_law_L_count rfl rfl rfl (by decide +kernel) ⟨Nat.le_of_ble_eq_true rfl, Nat.le_of_ble_eq_true rfl⟩) (cz_preS hZ hS hX hP hD [0, 1, 2, 3] rfl rfl) rfl rfl hl.1 rfl (lv_room (Nat.le_of_ble_eq_true rfl)) dL_law_290 ⟨Nat.le_of_ble_eq_true rfl, Nat.le_of_ble_eq_true rfl⟩) hP hD hS hA [0, 1, 2, 3] [4, 5] rfl rfl (by decide) (by decide) (fun r u H locs hp hP hD hS => ?_)
  have hp : r = 0 := hp
  subst hp
  refine lv_istore (lv' := [(5, .int 0), (4, .int 0), (0, .ref b), (1, .ref b0), (2, .ref n0), (3, .ref o)]) hx hb dL_law_293 hl (by decide) rfl (fun ls hl => ?_)
  refine lv_aload_n hx hb dL_law_295 rfl (lv_at hl 4 rfl) ?_
  refine lv_aload_n hx hb dL_law_296 rfl (lv_at hl 2 rfl) ?_
  refine lv_iload hx hb dL_law_297 (lv_at hl 1 rfl) ?_
  refine lv_iconst (v := 1) hx hb dL_law_299 (by decide +kernel) ?_
  refine lv_iadd hx hb dL_law_300 ?_
  refine cz_ti (w := 1) (by decide +kernel) ?_
  refine va_sld hx hb hXs hbl hbA hS (by unfold vp_in; decide +kernel) dL_law_301 ?_
  refine cz_ti (w := 16) (show xs ((1 : Int32).toNatClampNeg) = 16 from e1) ?_
  refine cz_i (wr := [(o, .inl (k 2, 1, .inr (.inl (vp_updL (fun _ => 0) (0 : Int32).toNatClampNeg 0)))), (b0, .inr (6, [v3, v4, v5, v6, v7, v8, .ref b51, v10, v11, v12, v13])), (b51, .inr (0, [v14, v15, v16, v17, v18, v19, v20, v21, v22, v23, v24, .ref b30])), (b30, .inl (k 0, 3, .inl (fun _ => 0)))]) (va_runV (As := [.int 16]) (rest := []) ⟨hx, hb, hml, hown, hts⟩ (cX10_count_17 l G k n0 v26 v27 (.int 0) v28 v29 v30 v31 v32 v33 v34 v35 n8 v37 v38 v39 v40 v41 v42 v43 v44 v45 v46 v47 v48 v49 v50 v51 v52 v53 v54 v55 v56 v57 v58 v59 v60 v61 v62 v63 v64 v65 v66 v67 v68 v69 v70 v71 v72 v73 v74 v75 v76 v77 v78 v79 v80 v81 v82 v83 v84 v85 v86 v87 v88 v89 v90 v91 v92 v93 v94 v95 H.size) (cwV 1 hts gL_law_X10_count rfl rfl rfl (by decide +kernel) ⟨Nat.le_of_ble_eq_true rfl, Nat.le_of_ble_eq_true rfl⟩) (cz_preV hZ hS hX hP hD [0, 1] rfl rfl (ci := 7) (q0 := 0) rfl rfl) rfl rfl hl.1 rfl (lv_room (Nat.le_of_ble_eq_true rfl)) dL_law_302 ⟨Nat.le_of_ble_eq_true rfl, Nat.le_of_ble_eq_true rfl⟩) hP hD hS hA [0, 1] [2, 3, 4, 5] rfl rfl (by decide) (by decide) (fun r u H locs hp hP hD hS => ?_)
  have hp : r = 0 := hp
  subst hp
  refine lv_istore (lv' := [(6, .int 0), (5, .int 0), (4, .int 0), (0, .ref b), (1, .ref b0), (2, .ref n0), (3, .ref o)]) hx hb dL_law_305 hl (by decide) rfl (fun ls hl => ?_)
  refine lv_aload_n hx hb dL_law_307 rfl (lv_at hl 5 rfl) ?_
  refine cz_i (wr := [(o, .inl (k 2, 1, .inr (.inl (vp_updL (fun _ => 0) (0 : Int32).toNatClampNeg 0)))), (b0, .inr (6, [v3, v4, v5, v6, v7, v8, .ref b51, v10, v11, v12, v13])), (b51, .inr (0, [v14, v15, v16, v17, v18, v19, v20, v21, v22, v23, v24, .ref b30])), (b30, .inl (k 0, 3, .inl (fun _ => 0))), (n8, .inl (k 0, 3, .inl (fun _ => 0)))]) (va_runV (As := []) (rest := []) ⟨hx, hb, hml, hown, hts⟩ (cX10_thrown_1 l G k n0 v26 v27 v28 v29 v30 v31 v32 v33 v34 v35 (.ref n8) v37 v38 v39 v40 v41 v42 v43 v44 v45 v46 v47 v48 v49 v50 v51 v52 v53 v54 v55 v56 v57 v58 v59 v60 v61 v62 v63 v64 v65 v66 v67 v68 v69 v70 v71 v72 v73 v74 v75 v76 v77 v78 v79 v80 v81 v82 v83 v84 v85 v86 v87 v88 v89 v90 v91 v92 v93 v94 v95 H.size) (cwV 0 hts gL_law_X10_thrown rfl rfl rfl (by decide +kernel) ⟨Nat.le_of_ble_eq_true rfl, Nat.le_of_ble_eq_true rfl⟩) (cz_preV hZ hS hX hP hD [4] rfl rfl (ci := 7) (q0 := 4) rfl rfl) rfl rfl hl.1 rfl (lv_room (Nat.le_of_ble_eq_true rfl)) dL_law_308 ⟨Nat.le_of_ble_eq_true rfl, Nat.le_of_ble_eq_true rfl⟩) hP hD hS hA [4] [0, 1, 2, 3, 5] rfl rfl (by decide) (by decide) (fun r u H locs hp hP hD hS => ?_)
  have hp : r = 0 := hp
  subst hp
  refine lv_iload hx hb dL_law_311 (lv_at hl 1 rfl) ?_
  refine lv_icmp_eq (tgt := 318) hx hb dL_law_313 (by decide) (fun _ => ?_) (fun q => absurd (by decide +kernel) (q))
  refine lv_iload hx hb dL_law_318 (lv_at hl 1 rfl) ?_
  refine lv_if_ne (tgt := 335) hx hb dL_law_320 (by decide) (fun q => absurd (by decide +kernel) (q)) (fun _ => ?_)
  refine lv_aload_n hx hb dL_law_323 rfl (lv_at hl 6 rfl) ?_
  refine lv_iconst (v := 0) hx hb dL_law_324 (by decide +kernel) ?_
  refine va_lald hx hb hX.1 hP 0 2 rfl rfl (by unfold vp_in; decide +kernel) dL_law_325 ?_
  refine cz_tl (w := 0) (by rfl) ?_
  refine lv_iload hx hb dL_law_326 (lv_at hl 0 rfl) ?_
  refine lv_i2l (v := 0) hx hb dL_law_328 (by decide +kernel) ?_
  refine W.lcmp hx hb dL_law_329 ?_
  refine cz_ti (w := 0) (by decide +kernel) ?_
  refine lv_if_eq (tgt := 335) hx hb dL_law_330 (by decide) (fun _ => ?_) (fun q => absurd (by decide +kernel) (q))
  refine lv_goto (tgt := 1002) hx hb dL_law_335 (by decide) ?_
  refine lv_iinc (v := 6) (lv' := [(4, .int 6), (6, .int 0), (5, .int 0), (0, .ref b), (1, .ref b0), (2, .ref n0), (3, .ref o)]) hx hb dL_law_1002 hl (k := 2) rfl (by decide +kernel) (by decide) rfl (fun ls hl => ?_)
  refine lv_goto (tgt := 23) hx hb dL_law_1005 (by decide) ?_
  refine lv_iload hx hb dL_law_23 (lv_at hl 0 rfl) ?_
  refine lv_aload_n hx hb dL_law_25 rfl (lv_at hl 3 rfl) ?_
  refine va_slen hx hb hXs hbl hbA hS dL_law_26 ?_
  refine cz_ti (w := 6) (by decide +kernel) ?_
  refine lv_bipush (v := 6) hx hb dL_law_27 (by decide +kernel) ?_
  refine lv_isub hx hb dL_law_29 ?_
  refine cz_ti (w := 0) (by decide +kernel) ?_
  refine lv_icmp_gt (tgt := 1008) hx hb dL_law_30 (by decide) (fun _ => ?_) (fun q => absurd (by decide +kernel) (q))
  refine lv_iconst (v := 1) hx hb dL_law_1008 (by decide +kernel) ?_
  refine va_forget (hfA hS.2.2) ?_
  refine W.widen (k := 600002) (n := 7302232) (Nat.le_of_ble_eq_true rfl) (Nat.le_of_ble_eq_true rfl) ?_
  exact lw_ret hx hb hr hlocks dL_law_1009

set_option maxHeartbeats 4000000 in
set_option maxRecDepth 100000 in
theorem law_3_18 {p : Program} {l : Launch} {e : Env} {s : State} {m : MethodId} {below : List Frame} {meth : Method} {c : Code} {G : va_G} {k : Nat → ClassId} {b : Nat} {xs : Nat → Int32} {H : Heap} {locs : List Loc} {ls : Array Slot} {b0 : Nat} {n0 : Nat} {o : Nat} {v3 : Value} {v4 : Value} {v5 : Value} {v6 : Value} {v7 : Value} {v8 : Value} {v9 : Value} {v10 : Value} {v11 : Value} {v12 : Value} {v13 : Value} {v14 : Value} {v15 : Value} {v16 : Value} {v17 : Value} {v18 : Value} {v19 : Value} {v20 : Value} {v21 : Value} {v22 : Value} {v23 : Value} {v24 : Value} {v25 : Value} {v26 : Value} {v27 : Value} {v28 : Value} {v29 : Value} {v30 : Value} {v31 : Value} {v32 : Value} {v33 : Value} {v34 : Value} {v35 : Value} {v36 : Value} {v37 : Value} {v38 : Value} {v39 : Value} {v40 : Value} {v41 : Value} {v42 : Value} {v43 : Value} {v44 : Value} {v45 : Value} {v46 : Value} {v47 : Value} {v48 : Value} {v49 : Value} {v50 : Value} {v51 : Value} {v52 : Value} {v53 : Value} {v54 : Value} {v55 : Value} {v56 : Value} {v57 : Value} {v58 : Value} {v59 : Value} {v60 : Value} {v61 : Value} {v62 : Value} {v63 : Value} {v64 : Value} {v65 : Value} {v66 : Value} {v67 : Value} {v68 : Value} {v69 : Value} {v70 : Value} {v71 : Value} {v72 : Value} {v73 : Value} {v74 : Value} {v75 : Value} {v76 : Value} {v77 : Value} {v78 : Value} {v79 : Value} {v80 : Value} {v81 : Value} {v82 : Value} {v83 : Value} {w : Int32} (C0 : lw_At p s m meth c b 6 xs) (htr : l.stackTraces = false) (hX : KX G k s) (hT9 : TX s) (hZ : ZX k (fun q : Nat => s.heap.size ≤ q) s s.heap) (e1 : xs 1 = w) (hw : 16 < w) (hP : va_P G vwCl [(b0, .inr (6, [v3, v4, v5, v6, v7, v8, v9, v10, v11, v12, v13])), (n0, .inr (7, (v14 :: v15 :: .int 0 :: v16 :: v17 :: v18 :: v19 :: v20 :: v21 :: v22 :: v23 :: v24 :: v25 :: v26 :: v27 :: v28 :: v29 :: v30 :: v31 :: v32 :: v33 :: v34 :: v35 :: v36 :: v37 :: v38 :: v39 :: v40 :: v41 :: v42 :: v43 :: v44 :: v45 :: v46 :: v47 :: v48 :: v49 :: v50 :: v51 :: v52 :: v53 :: v54 :: v55 :: v56 :: v57 :: v58 :: v59 :: v60 :: v61 :: v62 :: v63 :: v64 :: v65 :: v66 :: v67 :: v68 :: v69 :: v70 :: v71 :: v72 :: v73 :: v74 :: v75 :: v76 :: v77 :: v78 :: v79 :: v80 :: v81 :: v82 :: v83 :: [])))] H) (hD : va_D (fun q : Nat => s.heap.size ≤ q) [(b0, .inr (6, [v3, v4, v5, v6, v7, v8, v9, v10, v11, v12, v13])), (n0, .inr (7, (v14 :: v15 :: .int 0 :: v16 :: v17 :: v18 :: v19 :: v20 :: v21 :: v22 :: v23 :: v24 :: v25 :: v26 :: v27 :: v28 :: v29 :: v30 :: v31 :: v32 :: v33 :: v34 :: v35 :: v36 :: v37 :: v38 :: v39 :: v40 :: v41 :: v42 :: v43 :: v44 :: v45 :: v46 :: v47 :: v48 :: v49 :: v50 :: v51 :: v52 :: v53 :: v54 :: v55 :: v56 :: v57 :: v58 :: v59 :: v60 :: v61 :: v62 :: v63 :: v64 :: v65 :: v66 :: v67 :: v68 :: v69 :: v70 :: v71 :: v72 :: v73 :: v74 :: v75 :: v76 :: v77 :: v78 :: v79 :: v80 :: v81 :: v82 :: v83 :: [])))]) (hS : va_S (fun q : Nat => s.heap.size ≤ q) s.heap H locs) (hl : lv_has ls 7 [(4, .int 0), (0, .ref b), (1, .ref b0), (2, .ref n0), (3, .ref o)]) : W p l e room_1 s m #[Value.ref b] below meth c H locs 92 31361 (lw_Z below #[Value.ref b] s) (F0 m 282 ls []) := by
  obtain ⟨hx, hb, hr, hml, hown, hts0, hXs, hbl, hlocks, hgv⟩ := C0
  have hts := fun w h => hts0 w (wsL_law_in w h)
  obtain ⟨A, hAe⟩ : ∃ z : Nat → Prop, z = (fun q : Nat => s.heap.size ≤ q) := ⟨_, rfl⟩
  have hA : ∀ q : Nat, s.heap.size ≤ q → A q := fun q h => by rw [hAe]; exact h
  have hbA : ¬ A b := by rw [hAe]; exact Nat.not_le.mpr hbl
  have hfA : ∀ {locs : List Loc}, (∀ q ∈ locs, A q.base) → ∀ q ∈ locs, s.heap.size ≤ q.base := fun h q hq => by have h9 := h q hq; rw [hAe] at h9; exact h9
  rw [← hAe] at hZ hD hS
  refine lv_aload_n hx hb dL_law_282 rfl (lv_at hl 2 rfl) ?_
  refine lv_aload_n hx hb dL_law_283 rfl (lv_at hl 1 rfl) ?_
  refine lv_iload hx hb dL_law_284 (lv_at hl 0 rfl) ?_
  refine lv_iconst (v := 1) hx hb dL_law_286 (by decide +kernel) ?_
  refine lv_iadd hx hb dL_law_287 ?_
  refine cz_ti (w := 1) (by decide +kernel) ?_
  refine va_sld hx hb hXs hbl hbA hS (by unfold vp_in; decide +kernel) dL_law_288 ?_
  refine cz_ti (w := w) (show xs ((1 : Int32).toNatClampNeg) = w from e1) ?_
  refine lv_aload_n hx hb dL_law_289 rfl (lv_at hl 4 rfl) ?_
  refine cz_i (wr := [(n0, .inr (7, (v14 :: v15 :: .int 0 :: v16 :: v17 :: v18 :: v19 :: v20 :: v21 :: v22 :: v23 :: v24 :: v25 :: v26 :: v27 :: v28 :: v29 :: v30 :: v31 :: v32 :: v33 :: v34 :: v35 :: v36 :: v37 :: v38 :: v39 :: v40 :: v41 :: v42 :: v43 :: v44 :: v45 :: v46 :: v47 :: v48 :: v49 :: v50 :: v51 :: v52 :: v53 :: v54 :: v55 :: v56 :: v57 :: v58 :: v59 :: v60 :: v61 :: v62 :: v63 :: v64 :: v65 :: v66 :: v67 :: v68 :: v69 :: v70 :: v71 :: v72 :: v73 :: v74 :: v75 :: v76 :: v77 :: v78 :: v79 :: v80 :: v81 :: v82 :: v83 :: [])))]) (vx_runSW (As := [.ref b0, .int w, .ref o]) (rest := []) ⟨hx, hb, hml, hown, hts⟩ (xL_count_18 l htr G k b0 w o v3 v4 v5 v6 v7 v8 v9 v10 v11 v12 v13 H.size hw) (vx_cwSW 3 hts gL_law_L_count rfl rfl rfl (by decide +kernel) ⟨Nat.le_of_ble_eq_true rfl, Nat.le_of_ble_eq_true rfl⟩) (cz_preST hT9 hZ hS hX hP hD [0] rfl rfl) rfl rfl hl.1 rfl (lv_room (Nat.le_of_ble_eq_true rfl)) dL_law_290 ⟨Nat.le_of_ble_eq_true rfl, Nat.le_of_ble_eq_true rfl⟩) hP hD hS hA [0] [1] rfl rfl (by decide) (by decide) (fun r u H locs hp hP hD hS => ?_)
  have hp : r = 1 := hp
  subst hp
  refine W.widen (k := 93) (n := 31367) (Nat.le_of_ble_eq_true rfl) (Nat.le_of_ble_eq_true rfl) ?_
  refine lv_istore (lv' := [(5, .int 1), (4, .int 0), (0, .ref b), (1, .ref b0), (2, .ref n0), (3, .ref o)]) hx hb dL_law_293 hl (by decide) rfl (fun ls hl => ?_)
  refine lv_aload_n hx hb dL_law_295 rfl (lv_at hl 4 rfl) ?_
  refine lv_aload_n hx hb dL_law_296 rfl (lv_at hl 2 rfl) ?_
  refine lv_iload hx hb dL_law_297 (lv_at hl 1 rfl) ?_
  refine lv_iconst (v := 1) hx hb dL_law_299 (by decide +kernel) ?_
  refine lv_iadd hx hb dL_law_300 ?_
  refine cz_ti (w := 1) (by decide +kernel) ?_
  refine va_sld hx hb hXs hbl hbA hS (by unfold vp_in; decide +kernel) dL_law_301 ?_
  refine cz_ti (w := w) (show xs ((1 : Int32).toNatClampNeg) = w from e1) ?_
  refine cz_i (wr := [(b0, .inr (6, [v3, v4, v5, v6, v7, v8, v9, v10, v11, v12, v13]))]) (va_runV (As := [.int w]) (rest := []) ⟨hx, hb, hml, hown, hts⟩ (cX10_count_18 l G k n0 w v14 v15 (.int 0) v16 v17 v18 v19 v20 v21 v22 v23 v24 v25 v26 v27 v28 v29 v30 v31 v32 v33 v34 v35 v36 v37 v38 v39 v40 v41 v42 v43 v44 v45 v46 v47 v48 v49 v50 v51 v52 v53 v54 v55 v56 v57 v58 v59 v60 v61 v62 v63 v64 v65 v66 v67 v68 v69 v70 v71 v72 v73 v74 v75 v76 v77 v78 v79 v80 v81 v82 v83 H.size hw) (cwV 1 hts gL_law_X10_count rfl rfl rfl (by decide +kernel) ⟨Nat.le_of_ble_eq_true rfl, Nat.le_of_ble_eq_true rfl⟩) (cz_preV hZ hS hX hP hD [0] rfl rfl (ci := 7) (q0 := 0) rfl rfl) rfl rfl hl.1 rfl (lv_room (Nat.le_of_ble_eq_true rfl)) dL_law_302 ⟨Nat.le_of_ble_eq_true rfl, Nat.le_of_ble_eq_true rfl⟩) hP hD hS hA [0] [1] rfl rfl (by decide) (by decide) (fun r u H locs hp hP hD hS => ?_)
  have hp : r = 0 := hp
  subst hp
  refine lv_istore (lv' := [(6, .int 0), (5, .int 1), (4, .int 0), (0, .ref b), (1, .ref b0), (2, .ref n0), (3, .ref o)]) hx hb dL_law_305 hl (by decide) rfl (fun ls hl => ?_)
  refine lv_aload_n hx hb dL_law_307 rfl (lv_at hl 5 rfl) ?_
  refine cz_i (wr := [(b0, .inr (6, [v3, v4, v5, v6, v7, v8, v9, v10, v11, v12, v13]))]) (va_runV (As := []) (rest := []) ⟨hx, hb, hml, hown, hts⟩ (cX10_thrown_0 l G k n0 v14 v15 v16 v17 v18 v19 v20 v21 v22 v23 v24 v25 v26 v27 v28 v29 v30 v31 v32 v33 v34 v35 v36 v37 v38 v39 v40 v41 v42 v43 v44 v45 v46 v47 v48 v49 v50 v51 v52 v53 v54 v55 v56 v57 v58 v59 v60 v61 v62 v63 v64 v65 v66 v67 v68 v69 v70 v71 v72 v73 v74 v75 v76 v77 v78 v79 v80 v81 v82 v83 H.size) (cwV 0 hts gL_law_X10_thrown rfl rfl rfl (by decide +kernel) ⟨Nat.le_of_ble_eq_true rfl, Nat.le_of_ble_eq_true rfl⟩) (cz_preV hZ hS hX hP hD [1] rfl rfl (ci := 7) (q0 := 1) rfl rfl) rfl rfl hl.1 rfl (lv_room (Nat.le_of_ble_eq_true rfl)) dL_law_308 ⟨Nat.le_of_ble_eq_true rfl, Nat.le_of_ble_eq_true rfl⟩) hP hD hS hA [1] [0] rfl rfl (by decide) (by decide) (fun r u H locs hp hP hD hS => ?_)
  have hp : r = 1 := hp
  subst hp
  refine lv_iload hx hb dL_law_311 (lv_at hl 1 rfl) ?_
  refine lv_icmp_eq (tgt := 318) hx hb dL_law_313 (by decide) (fun _ => ?_) (fun q => absurd (by decide +kernel) (q))
  refine lv_iload hx hb dL_law_318 (lv_at hl 1 rfl) ?_
  refine lv_if_ne (tgt := 335) hx hb dL_law_320 (by decide) (fun _ => ?_) (fun q => absurd (q) (by decide +kernel))
  refine lv_goto (tgt := 1002) hx hb dL_law_335 (by decide) ?_
  refine lv_iinc (v := 6) (lv' := [(4, .int 6), (6, .int 0), (5, .int 1), (0, .ref b), (1, .ref b0), (2, .ref n0), (3, .ref o)]) hx hb dL_law_1002 hl (k := 2) rfl (by decide +kernel) (by decide) rfl (fun ls hl => ?_)
  refine lv_goto (tgt := 23) hx hb dL_law_1005 (by decide) ?_
  refine lv_iload hx hb dL_law_23 (lv_at hl 0 rfl) ?_
  refine lv_aload_n hx hb dL_law_25 rfl (lv_at hl 3 rfl) ?_
  refine va_slen hx hb hXs hbl hbA hS dL_law_26 ?_
  refine cz_ti (w := 6) (by decide +kernel) ?_
  refine lv_bipush (v := 6) hx hb dL_law_27 (by decide +kernel) ?_
  refine lv_isub hx hb dL_law_29 ?_
  refine cz_ti (w := 0) (by decide +kernel) ?_
  refine lv_icmp_gt (tgt := 1008) hx hb dL_law_30 (by decide) (fun _ => ?_) (fun q => absurd (by decide +kernel) (q))
  refine lv_iconst (v := 1) hx hb dL_law_1008 (by decide +kernel) ?_
  refine va_forget (hfA hS.2.2) ?_
  refine W.widen (k := 600002) (n := 7302232) (Nat.le_of_ble_eq_true rfl) (Nat.le_of_ble_eq_true rfl) ?_
  exact lw_ret hx hb hr hlocks dL_law_1009

set_option maxHeartbeats 4000000 in
set_option maxRecDepth 100000 in
theorem law_4_0 {p : Program} {l : Launch} {e : Env} {s : State} {m : MethodId} {below : List Frame} {meth : Method} {c : Code} {G : va_G} {k : Nat → ClassId} {b : Nat} {xs : Nat → Int32} {H : Heap} {locs : List Loc} {ls : Array Slot} {b0 : Nat} {n0 : Nat} {o : Nat} {v3 : Value} {v4 : Value} {v5 : Value} {v6 : Value} {b50 : Nat} {v8 : Value} {v9 : Value} {v10 : Value} {v11 : Value} {v12 : Value} {v13 : Value} {v14 : Value} {v15 : Value} {v16 : Value} {v17 : Value} {v18 : Value} {v19 : Value} {v20 : Value} {v21 : Value} {v22 : Value} {v23 : Value} {v24 : Value} {v25 : Value} {v26 : Value} {v27 : Value} {v28 : Value} {v29 : Value} {v30 : Value} {v31 : Value} {v32 : Value} {v33 : Value} {v34 : Value} {v35 : Value} {v36 : Value} {v37 : Value} {v38 : Value} {v39 : Value} {v40 : Value} {v41 : Value} {v42 : Value} {v43 : Value} {v44 : Value} {v45 : Value} {v46 : Value} {v47 : Value} {v48 : Value} {v49 : Value} {v50 : Value} {v51 : Value} {v52 : Value} {v53 : Value} {v54 : Value} {v55 : Value} {v56 : Value} {v57 : Value} {v58 : Value} {v59 : Value} {v60 : Value} {v61 : Value} {v62 : Value} {v63 : Value} {v64 : Value} {v65 : Value} {v66 : Value} {v67 : Value} {v68 : Value} {v69 : Value} {v70 : Value} {v71 : Value} {v72 : Value} {v73 : Value} {v74 : Value} {v75 : Value} {v76 : Value} {v77 : Value} {v78 : Value} {v79 : Value} {v80 : Value} {v81 : Value} {v82 : Value} {v83 : Value} {v84 : Value} {v85 : Value} {v86 : Value} {v87 : Value} {v88 : Value} {v89 : Value} {v90 : Value} {v91 : Value} {v92 : Value} {v93 : Value} {v94 : Value} {v95 : Value} {v96 : Value} {t : Int32} {w : Int32} (C0 : lw_At p s m meth c b 6 xs) (htr : l.stackTraces = false) (hX : KX G k s) (hT9 : TX s) (hZ : ZX k (fun q : Nat => s.heap.size ≤ q) s s.heap) (e1 : xs 1 = t) (ht : t < 0) (e2 : xs 2 = w) (hP : va_P G vwCl [(b0, .inr (6, [v3, v4, v5, v6, .ref b50, v8, v9, v10, v11, v12, v13])), (b50, .inr (2, [v14, v15, v16, v17, v18, v19, v20, v21, v22, v23, v24, v25, v26, v27])), (n0, .inr (7, (v28 :: v29 :: .int 0 :: v30 :: v31 :: v32 :: v33 :: v34 :: v35 :: v36 :: v37 :: v38 :: .int 0 :: v39 :: v40 :: v41 :: v42 :: v43 :: v44 :: v45 :: v46 :: v47 :: v48 :: v49 :: v50 :: v51 :: v52 :: v53 :: v54 :: v55 :: v56 :: v57 :: v58 :: v59 :: v60 :: v61 :: v62 :: v63 :: v64 :: v65 :: v66 :: v67 :: v68 :: v69 :: v70 :: v71 :: v72 :: v73 :: v74 :: v75 :: v76 :: v77 :: v78 :: v79 :: v80 :: v81 :: v82 :: v83 :: v84 :: v85 :: v86 :: v87 :: v88 :: v89 :: v90 :: v91 :: v92 :: v93 :: v94 :: v95 :: v96 :: [])))] H) (hD : va_D (fun q : Nat => s.heap.size ≤ q) [(b0, .inr (6, [v3, v4, v5, v6, .ref b50, v8, v9, v10, v11, v12, v13])), (b50, .inr (2, [v14, v15, v16, v17, v18, v19, v20, v21, v22, v23, v24, v25, v26, v27])), (n0, .inr (7, (v28 :: v29 :: .int 0 :: v30 :: v31 :: v32 :: v33 :: v34 :: v35 :: v36 :: v37 :: v38 :: .int 0 :: v39 :: v40 :: v41 :: v42 :: v43 :: v44 :: v45 :: v46 :: v47 :: v48 :: v49 :: v50 :: v51 :: v52 :: v53 :: v54 :: v55 :: v56 :: v57 :: v58 :: v59 :: v60 :: v61 :: v62 :: v63 :: v64 :: v65 :: v66 :: v67 :: v68 :: v69 :: v70 :: v71 :: v72 :: v73 :: v74 :: v75 :: v76 :: v77 :: v78 :: v79 :: v80 :: v81 :: v82 :: v83 :: v84 :: v85 :: v86 :: v87 :: v88 :: v89 :: v90 :: v91 :: v92 :: v93 :: v94 :: v95 :: v96 :: [])))]) (hS : va_S (fun q : Nat => s.heap.size ≤ q) s.heap H locs) (hl : lv_has ls 7 [(4, .int 0), (0, .ref b), (1, .ref b0), (2, .ref n0), (3, .ref o)]) : W p l e room_1 s m #[Value.ref b] below meth c H locs 92 31361 (lw_Z below #[Value.ref b] s) (F0 m 338 ls []) := by
  obtain ⟨hx, hb, hr, hml, hown, hts0, hXs, hbl, hlocks, hgv⟩ := C0
  have hts := fun w h => hts0 w (wsL_law_in w h)
  obtain ⟨A, hAe⟩ : ∃ z : Nat → Prop, z = (fun q : Nat => s.heap.size ≤ q) := ⟨_, rfl⟩
  have hA : ∀ q : Nat, s.heap.size ≤ q → A q := fun q h => by rw [hAe]; exact h
  have hbA : ¬ A b := by rw [hAe]; exact Nat.not_le.mpr hbl
  have hfA : ∀ {locs : List Loc}, (∀ q ∈ locs, A q.base) → ∀ q ∈ locs, s.heap.size ≤ q.base := fun h q hq => by have h9 := h q hq; rw [hAe] at h9; exact h9
  rw [← hAe] at hZ hD hS
  refine lv_aload_n hx hb dL_law_338 rfl (lv_at hl 2 rfl) ?_
  refine lv_aload_n hx hb dL_law_339 rfl (lv_at hl 1 rfl) ?_
  refine lv_iload hx hb dL_law_340 (lv_at hl 0 rfl) ?_
  refine lv_iconst (v := 1) hx hb dL_law_342 (by decide +kernel) ?_
  refine lv_iadd hx hb dL_law_343 ?_
  refine cz_ti (w := 1) (by decide +kernel) ?_
  refine va_sld hx hb hXs hbl hbA hS (by unfold vp_in; decide +kernel) dL_law_344 ?_
  refine cz_ti (w := t) (show xs ((1 : Int32).toNatClampNeg) = t from e1) ?_
  refine lv_aload_n hx hb dL_law_345 rfl (lv_at hl 1 rfl) ?_
  refine lv_iload hx hb dL_law_346 (lv_at hl 0 rfl) ?_
  refine lv_iconst (v := 2) hx hb dL_law_348 (by decide +kernel) ?_
  refine lv_iadd hx hb dL_law_349 ?_
  refine cz_ti (w := 2) (by decide +kernel) ?_
  refine va_sld hx hb hXs hbl hbA hS (by unfold vp_in; decide +kernel) dL_law_350 ?_
  refine cz_ti (w := w) (show xs ((2 : Int32).toNatClampNeg) = w from e2) ?_
  refine lv_aload_n hx hb dL_law_351 rfl (lv_at hl 4 rfl) ?_
  refine cz_i (wr := [(n0, .inr (7, (v28 :: v29 :: .int 0 :: v30 :: v31 :: v32 :: v33 :: v34 :: v35 :: v36 :: v37 :: v38 :: .int 0 :: v39 :: v40 :: v41 :: v42 :: v43 :: v44 :: v45 :: v46 :: v47 :: v48 :: v49 :: v50 :: v51 :: v52 :: v53 :: v54 :: v55 :: v56 :: v57 :: v58 :: v59 :: v60 :: v61 :: v62 :: v63 :: v64 :: v65 :: v66 :: v67 :: v68 :: v69 :: v70 :: v71 :: v72 :: v73 :: v74 :: v75 :: v76 :: v77 :: v78 :: v79 :: v80 :: v81 :: v82 :: v83 :: v84 :: v85 :: v86 :: v87 :: v88 :: v89 :: v90 :: v91 :: v92 :: v93 :: v94 :: v95 :: v96 :: [])))]) (vx_runSW (As := [.ref b0, .int t, .int w, .ref o]) (rest := []) ⟨hx, hb, hml, hown, hts⟩ (xL_thing_0 l htr G k b0 t w o v3 v4 v5 v6 b50 v8 v9 v10 v11 v12 v13 v14 v15 v16 v17 v18 v19 v20 v21 v22 v23 v24 v25 v26 v27 H.size ht) (vx_cwSW 4 hts gL_law_L_thing rfl rfl rfl (by decide +kernel) ⟨Nat.le_of_ble_eq_true rfl, Nat.le_of_ble_eq_true rfl⟩) (cz_preST hT9 hZ hS hX hP hD [0, 1] rfl rfl) rfl rfl hl.1 rfl (lv_room (Nat.le_of_ble_eq_true rfl)) dL_law_352 ⟨Nat.le_of_ble_eq_true rfl, Nat.le_of_ble_eq_true rfl⟩) hP hD hS hA [0, 1] [2] rfl rfl (by decide) (by decide) (fun r u H locs hp hP hD hS => ?_)
  have hp : r = 1 := hp
  subst hp
  refine W.widen (k := 93) (n := 31367) (Nat.le_of_ble_eq_true rfl) (Nat.le_of_ble_eq_true rfl) ?_
  refine lv_istore (lv' := [(5, .int 1), (4, .int 0), (0, .ref b), (1, .ref b0), (2, .ref n0), (3, .ref o)]) hx hb dL_law_355 hl (by decide) rfl (fun ls hl => ?_)
  refine lv_aload_n hx hb dL_law_357 rfl (lv_at hl 4 rfl) ?_
  refine lv_aload_n hx hb dL_law_358 rfl (lv_at hl 2 rfl) ?_
  refine lv_iload hx hb dL_law_359 (lv_at hl 1 rfl) ?_
  refine lv_iconst (v := 1) hx hb dL_law_361 (by decide +kernel) ?_
  refine lv_iadd hx hb dL_law_362 ?_
  refine cz_ti (w := 1) (by decide +kernel) ?_
  refine va_sld hx hb hXs hbl hbA hS (by unfold vp_in; decide +kernel) dL_law_363 ?_
  refine cz_ti (w := t) (show xs ((1 : Int32).toNatClampNeg) = t from e1) ?_
  refine lv_aload_n hx hb dL_law_364 rfl (lv_at hl 2 rfl) ?_
  refine lv_iload hx hb dL_law_365 (lv_at hl 1 rfl) ?_
  refine lv_iconst (v := 2) hx hb dL_law_367 (by decide +kernel) ?_
  refine lv_iadd hx hb dL_law_368 ?_
  refine cz_ti (w := 2) (by decide +kernel) ?_
  refine va_sld hx hb hXs hbl hbA hS (by unfold vp_in; decide +kernel) dL_law_369 ?_
  refine cz_ti (w := w) (show xs ((2 : Int32).toNatClampNeg) = w from e2) ?_
  refine cz_i (wr := []) (va_runV (As := [.int t, .int w]) (rest := []) ⟨hx, hb, hml, hown, hts⟩ (cX10_thing_0 l G k n0 t w v28 v29 (.int 0) v30 v31 v32 v33 v34 v35 v36 v37 v38 v39 v40 v41 v42 v43 v44 v45 v46 v47 v48 v49 v50 v51 v52 v53 v54 v55 v56 v57 v58 v59 v60 v61 v62 v63 v64 v65 v66 v67 v68 v69 v70 v71 v72 v73 v74 v75 v76 v77 v78 v79 v80 v81 v82 v83 v84 v85 v86 v87 v88 v89 v90 v91 v92 v93 v94 v95 v96 H.size ht) (cwV 2 hts gL_law_X10_thing rfl rfl rfl (by decide +kernel) ⟨Nat.le_of_ble_eq_true rfl, Nat.le_of_ble_eq_true rfl⟩) (cz_preV hZ hS hX hP hD [0] rfl rfl (ci := 7) (q0 := 0) rfl rfl) rfl rfl hl.1 rfl (lv_room (Nat.le_of_ble_eq_true rfl)) dL_law_370 ⟨Nat.le_of_ble_eq_true rfl, Nat.le_of_ble_eq_true rfl⟩) hP hD hS hA [0] [] rfl rfl (by decide) (by decide) (fun r u H locs hp hP hD hS => ?_)
  have hp : r = 0 := hp
  subst hp
  refine lv_istore (lv' := [(6, .int 0), (5, .int 1), (4, .int 0), (0, .ref b), (1, .ref b0), (2, .ref n0), (3, .ref o)]) hx hb dL_law_373 hl (by decide) rfl (fun ls hl => ?_)
  refine lv_aload_n hx hb dL_law_375 rfl (lv_at hl 5 rfl) ?_
  refine cz_i (wr := []) (va_runV (As := []) (rest := []) ⟨hx, hb, hml, hown, hts⟩ (cX10_thrown_0 l G k n0 v28 v29 v30 v31 v32 v33 v34 v35 v36 v37 v38 (.int 0) v39 v40 v41 v42 v43 v44 v45 v46 v47 v48 v49 v50 v51 v52 v53 v54 v55 v56 v57 v58 v59 v60 v61 v62 v63 v64 v65 v66 v67 v68 v69 v70 v71 v72 v73 v74 v75 v76 v77 v78 v79 v80 v81 v82 v83 v84 v85 v86 v87 v88 v89 v90 v91 v92 v93 v94 v95 v96 H.size) (cwV 0 hts gL_law_X10_thrown rfl rfl rfl (by decide +kernel) ⟨Nat.le_of_ble_eq_true rfl, Nat.le_of_ble_eq_true rfl⟩) (cz_preV hZ hS hX hP hD [0] rfl rfl (ci := 7) (q0 := 0) rfl rfl) rfl rfl hl.1 rfl (lv_room (Nat.le_of_ble_eq_true rfl)) dL_law_376 ⟨Nat.le_of_ble_eq_true rfl, Nat.le_of_ble_eq_true rfl⟩) hP hD hS hA [0] [] rfl rfl (by decide) (by decide) (fun r u H locs hp hP hD hS => ?_)
  have hp : r = 1 := hp
  subst hp
  refine lv_iload hx hb dL_law_379 (lv_at hl 1 rfl) ?_
  refine lv_icmp_eq (tgt := 386) hx hb dL_law_381 (by decide) (fun _ => ?_) (fun q => absurd (by decide +kernel) (q))
  refine lv_iload hx hb dL_law_386 (lv_at hl 1 rfl) ?_
  refine lv_if_ne (tgt := 403) hx hb dL_law_388 (by decide) (fun _ => ?_) (fun q => absurd (q) (by decide +kernel))
  refine lv_goto (tgt := 1002) hx hb dL_law_403 (by decide) ?_
  refine lv_iinc (v := 6) (lv' := [(4, .int 6), (6, .int 0), (5, .int 1), (0, .ref b), (1, .ref b0), (2, .ref n0), (3, .ref o)]) hx hb dL_law_1002 hl (k := 2) rfl (by decide +kernel) (by decide) rfl (fun ls hl => ?_)
  refine lv_goto (tgt := 23) hx hb dL_law_1005 (by decide) ?_
  refine lv_iload hx hb dL_law_23 (lv_at hl 0 rfl) ?_
  refine lv_aload_n hx hb dL_law_25 rfl (lv_at hl 3 rfl) ?_
  refine va_slen hx hb hXs hbl hbA hS dL_law_26 ?_
  refine cz_ti (w := 6) (by decide +kernel) ?_
  refine lv_bipush (v := 6) hx hb dL_law_27 (by decide +kernel) ?_
  refine lv_isub hx hb dL_law_29 ?_
  refine cz_ti (w := 0) (by decide +kernel) ?_
  refine lv_icmp_gt (tgt := 1008) hx hb dL_law_30 (by decide) (fun _ => ?_) (fun q => absurd (by decide +kernel) (q))
  refine lv_iconst (v := 1) hx hb dL_law_1008 (by decide +kernel) ?_
  refine va_forget (hfA hS.2.2) ?_
  refine W.widen (k := 600002) (n := 7302232) (Nat.le_of_ble_eq_true rfl) (Nat.le_of_ble_eq_true rfl) ?_
  exact lw_ret hx hb hr hlocks dL_law_1009

