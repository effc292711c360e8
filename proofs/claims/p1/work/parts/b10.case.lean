set_option maxHeartbeats 4000000 in
set_option maxRecDepth 100000 in
theorem law_0_0 {p : Program} {l : Launch} {e : Env} {s : State} {m : MethodId} {below : List Frame} {meth : Method} {c : Code} {G : va_G} {k : Nat → ClassId} {b : Nat} {xs : Nat → Int32} {H : Heap} {locs : List Loc} {ls : Array Slot} {b0 : Nat} {n0 : Nat} {o : Nat} {b1 : Nat} {v4 : Value} {v5 : Value} {v6 : Value} {v7 : Value} {v8 : Value} {v9 : Value} {v10 : Value} {v11 : Value} {v12 : Value} {f13 : Nat → Int32} {v14 : Value} {v15 : Value} {v16 : Value} {v17 : Value} {v18 : Value} {v19 : Value} {v20 : Value} {v21 : Value} {v22 : Value} {v23 : Value} {v24 : Value} {v25 : Value} {v26 : Value} {v27 : Value} {v28 : Value} {v29 : Value} {n9 : Nat} {v31 : Value} {v32 : Value} {v33 : Value} {v34 : Value} {v35 : Value} {v36 : Value} {v37 : Value} {v38 : Value} {v39 : Value} {v40 : Value} {v41 : Value} {v42 : Value} {v43 : Value} {v44 : Value} {v45 : Value} {v46 : Value} {v47 : Value} {v48 : Value} {v49 : Value} {v50 : Value} {v51 : Value} {v52 : Value} {v53 : Value} {v54 : Value} {v55 : Value} {v56 : Value} {v57 : Value} {v58 : Value} {v59 : Value} {v60 : Value} {v61 : Value} {v62 : Value} {v63 : Value} {v64 : Value} {v65 : Value} {v66 : Value} {v67 : Value} {v68 : Value} {v69 : Value} {v70 : Value} {v71 : Value} {v72 : Value} {v73 : Value} {v74 : Value} {v75 : Value} {v76 : Value} {v77 : Value} {v78 : Value} {v79 : Value} {v80 : Value} {v81 : Value} {v82 : Value} {v83 : Value} {f84 : Nat → Int32} {a : Int32} {bb : Int32} {cc : Int32} {dd : Int32} {ee : Int32} (C0 : lw_At p s m meth c b 6 xs) (htr : l.stackTraces = false) (hX : KX G k s) (hT9 : TX s) (hZ : ZX k (fun q : Nat => s.heap.size ≤ q) s s.heap) (e1 : xs 1 = a) (e2 : xs 2 = bb) (e3 : xs 3 = cc) (e4 : xs 4 = dd) (e5 : xs 5 = ee) (hP : va_P G vwCl [(b0, .inr (6, [.ref b1, .int 0, v4, v5, v6, v7, v8, v9, v10, v11, v12])), (b1, .inl (k 1, 600, .inl f13)), (n0, .inr (7, (v14 :: v15 :: v16 :: v17 :: v18 :: v19 :: v20 :: v21 :: v22 :: v23 :: v24 :: v25 :: v26 :: v27 :: v28 :: v29 :: .ref n9 :: .int 0 :: v31 :: v32 :: v33 :: v34 :: v35 :: v36 :: v37 :: v38 :: v39 :: v40 :: v41 :: v42 :: v43 :: v44 :: v45 :: v46 :: v47 :: v48 :: v49 :: v50 :: v51 :: v52 :: v53 :: v54 :: v55 :: v56 :: v57 :: v58 :: v59 :: v60 :: v61 :: v62 :: v63 :: v64 :: v65 :: v66 :: v67 :: v68 :: v69 :: v70 :: v71 :: v72 :: v73 :: v74 :: v75 :: v76 :: v77 :: v78 :: v79 :: v80 :: v81 :: v82 :: v83 :: []))), (n9, .inl (k 0, 600, .inl f84))] H) (hD : va_D (fun q : Nat => s.heap.size ≤ q) [(b0, .inr (6, [.ref b1, .int 0, v4, v5, v6, v7, v8, v9, v10, v11, v12])), (b1, .inl (k 1, 600, .inl f13)), (n0, .inr (7, (v14 :: v15 :: v16 :: v17 :: v18 :: v19 :: v20 :: v21 :: v22 :: v23 :: v24 :: v25 :: v26 :: v27 :: v28 :: v29 :: .ref n9 :: .int 0 :: v31 :: v32 :: v33 :: v34 :: v35 :: v36 :: v37 :: v38 :: v39 :: v40 :: v41 :: v42 :: v43 :: v44 :: v45 :: v46 :: v47 :: v48 :: v49 :: v50 :: v51 :: v52 :: v53 :: v54 :: v55 :: v56 :: v57 :: v58 :: v59 :: v60 :: v61 :: v62 :: v63 :: v64 :: v65 :: v66 :: v67 :: v68 :: v69 :: v70 :: v71 :: v72 :: v73 :: v74 :: v75 :: v76 :: v77 :: v78 :: v79 :: v80 :: v81 :: v82 :: v83 :: []))), (n9, .inl (k 0, 600, .inl f84))]) (hS : va_S (fun q : Nat => s.heap.size ≤ q) s.heap H locs) (hl : lv_has ls 7 [(4, .int 0), (0, .ref b), (1, .ref b0), (2, .ref n0), (3, .ref o)]) : W p l e room_1 s m #[Value.ref b] below meth c H locs 92 31361 (lw_Z below #[Value.ref b] s) (F0 m 140 ls []) := by
  obtain ⟨hx, hb, hr, hml, hown, hts0, hXs, hbl, hlocks, hgv⟩ := C0
  have hts := fun w h => hts0 w (wsL_law_in w h)
  obtain ⟨A, hAe⟩ : ∃ z : Nat → Prop, z = (fun q : Nat => s.heap.size ≤ q) := ⟨_, rfl⟩
  have hA : ∀ q : Nat, s.heap.size ≤ q → A q := fun q h => by rw [hAe]; exact h
  have hbA : ¬ A b := by rw [hAe]; exact Nat.not_le.mpr hbl
  have hfA : ∀ {locs : List Loc}, (∀ q ∈ locs, A q.base) → ∀ q ∈ locs, s.heap.size ≤ q.base := fun h q hq => by have h9 := h q hq; rw [hAe] at h9; exact h9
  rw [← hAe] at hZ hD hS
  refine lv_aload_n hx hb dL_law_140 rfl (lv_at hl 2 rfl) ?_
  refine lv_aload_n hx hb dL_law_141 rfl (lv_at hl 1 rfl) ?_
  refine lv_iload hx hb dL_law_142 (lv_at hl 0 rfl) ?_
  refine lv_iconst (v := 1) hx hb dL_law_144 (by decide +kernel) ?_
  refine lv_iadd hx hb dL_law_145 ?_
  refine cz_ti (w := 1) (by decide +kernel) ?_
  refine va_sld hx hb hXs hbl hbA hS (by unfold vp_in; decide +kernel) dL_law_146 ?_
  refine cz_ti (w := a) (show xs ((1 : Int32).toNatClampNeg) = a from e1) ?_
  refine lv_aload_n hx hb dL_law_147 rfl (lv_at hl 1 rfl) ?_
  refine lv_iload hx hb dL_law_148 (lv_at hl 0 rfl) ?_
  refine lv_iconst (v := 2) hx hb dL_law_150 (by decide +kernel) ?_
  refine lv_iadd hx hb dL_law_151 ?_
  refine cz_ti (w := 2) (by decide +kernel) ?_
  refine va_sld hx hb hXs hbl hbA hS (by unfold vp_in; decide +kernel) dL_law_152 ?_
  refine cz_ti (w := bb) (show xs ((2 : Int32).toNatClampNeg) = bb from e2) ?_
  refine lv_aload_n hx hb dL_law_153 rfl (lv_at hl 1 rfl) ?_
  refine lv_iload hx hb dL_law_154 (lv_at hl 0 rfl) ?_
  refine lv_iconst (v := 3) hx hb dL_law_156 (by decide +kernel) ?_
  refine lv_iadd hx hb dL_law_157 ?_
  refine cz_ti (w := 3) (by decide +kernel) ?_
  refine va_sld hx hb hXs hbl hbA hS (by unfold vp_in; decide +kernel) dL_law_158 ?_
  refine cz_ti (w := cc) (show xs ((3 : Int32).toNatClampNeg) = cc from e3) ?_
  refine lv_aload_n hx hb dL_law_159 rfl (lv_at hl 1 rfl) ?_
  refine lv_iload hx hb dL_law_160 (lv_at hl 0 rfl) ?_
  refine lv_iconst (v := 4) hx hb dL_law_162 (by decide +kernel) ?_
  refine lv_iadd hx hb dL_law_163 ?_
  refine cz_ti (w := 4) (by decide +kernel) ?_
  refine va_sld hx hb hXs hbl hbA hS (by unfold vp_in; decide +kernel) dL_law_164 ?_
  refine cz_ti (w := dd) (show xs ((4 : Int32).toNatClampNeg) = dd from e4) ?_
  refine lv_aload_n hx hb dL_law_165 rfl (lv_at hl 1 rfl) ?_
  refine lv_iload hx hb dL_law_166 (lv_at hl 0 rfl) ?_
  refine lv_iconst (v := 5) hx hb dL_law_168 (by decide +kernel) ?_
  refine lv_iadd hx hb dL_law_169 ?_
  refine cz_ti (w := 5) (by decide +kernel) ?_
  refine va_sld hx hb hXs hbl hbA hS (by unfold vp_in; decide +kernel) dL_law_170 ?_
  refine cz_ti (w := ee) (show xs ((5 : Int32).toNatClampNeg) = ee from e5) ?_
  refine cz_i (wr := [(n0, .inr (7, (v14 :: v15 :: v16 :: v17 :: v18 :: v19 :: v20 :: v21 :: v22 :: v23 :: v24 :: v25 :: v26 :: v27 :: v28 :: v29 :: .ref n9 :: .int 0 :: v31 :: v32 :: v33 :: v34 :: v35 :: v36 :: v37 :: v38 :: v39 :: v40 :: v41 :: v42 :: v43 :: v44 :: v45 :: v46 :: v47 :: v48 :: v49 :: v50 :: v51 :: v52 :: v53 :: v54 :: v55 :: v56 :: v57 :: v58 :: v59 :: v60 :: v61 :: v62 :: v63 :: v64 :: v65 :: v66 :: v67 :: v68 :: v69 :: v70 :: v71 :: v72 :: v73 :: v74 :: v75 :: v76 :: v77 :: v78 :: v79 :: v80 :: v81 :: v82 :: v83 :: []))), (n9, .inl (k 0, 600, .inl f84))]) (va_runV (As := [.int a, .int bb, .int cc, .int dd, .int ee]) (rest := []) ⟨hx, hb, hml, hown, hts⟩ (cX9_feed_0 l G k b0 a bb cc dd ee b1 v4 v5 v6 v7 v8 v9 v10 v11 v12 f13 H.size) (cwV 5 hts gL_law_X9_feed rfl rfl rfl (by decide +kernel) ⟨Nat.le_of_ble_eq_true rfl, Nat.le_of_ble_eq_true rfl⟩) (cz_preV hZ hS hX hP hD [0, 1] rfl rfl (ci := 6) (q0 := 0) rfl rfl) rfl rfl hl.1 rfl (lv_room (Nat.le_of_ble_eq_true rfl)) dL_law_171 ⟨Nat.le_of_ble_eq_true rfl, Nat.le_of_ble_eq_true rfl⟩) hP hD hS hA [0, 1] [2, 3] rfl rfl (by decide) (by decide) (fun r u H locs hp hP hD hS => ?_)
  obtain ⟨f_1, rfl⟩ : ∃ z, z = u := ⟨_, rfl⟩
  have hp : r = 20 := hp
  subst hp
  refine lv_aload_n hx hb dL_law_174 rfl (lv_at hl 3 rfl) ?_
  refine lv_aload_n hx hb dL_law_175 rfl (lv_at hl 1 rfl) ?_
  refine lv_iload hx hb dL_law_176 (lv_at hl 0 rfl) ?_
  refine lv_iconst (v := 1) hx hb dL_law_178 (by decide +kernel) ?_
  refine lv_iadd hx hb dL_law_179 ?_
  refine cz_ti (w := 1) (by decide +kernel) ?_
  refine va_sld hx hb hXs hbl hbA hS (by unfold vp_in; decide +kernel) dL_law_180 ?_
  refine cz_ti (w := a) (show xs ((1 : Int32).toNatClampNeg) = a from e1) ?_
  refine lv_aload_n hx hb dL_law_181 rfl (lv_at hl 1 rfl) ?_
  refine lv_iload hx hb dL_law_182 (lv_at hl 0 rfl) ?_
  refine lv_iconst (v := 2) hx hb dL_law_184 (by decide +kernel) ?_
  refine lv_iadd hx hb dL_law_185 ?_
  refine cz_ti (w := 2) (by decide +kernel) ?_
  refine va_sld hx hb hXs hbl hbA hS (by unfold vp_in; decide +kernel) dL_law_186 ?_
  refine cz_ti (w := bb) (show xs ((2 : Int32).toNatClampNeg) = bb from e2) ?_
  refine lv_aload_n hx hb dL_law_187 rfl (lv_at hl 1 rfl) ?_
  refine lv_iload hx hb dL_law_188 (lv_at hl 0 rfl) ?_
  refine lv_iconst (v := 3) hx hb dL_law_190 (by decide +kernel) ?_
  refine lv_iadd hx hb dL_law_191 ?_
  refine cz_ti (w := 3) (by decide +kernel) ?_
  refine va_sld hx hb hXs hbl hbA hS (by unfold vp_in; decide +kernel) dL_law_192 ?_
  refine cz_ti (w := cc) (show xs ((3 : Int32).toNatClampNeg) = cc from e3) ?_
  refine lv_aload_n hx hb dL_law_193 rfl (lv_at hl 1 rfl) ?_
  refine lv_iload hx hb dL_law_194 (lv_at hl 0 rfl) ?_
  refine lv_iconst (v := 4) hx hb dL_law_196 (by decide +kernel) ?_
  refine lv_iadd hx hb dL_law_197 ?_
  refine cz_ti (w := 4) (by decide +kernel) ?_
  refine va_sld hx hb hXs hbl hbA hS (by unfold vp_in; decide +kernel) dL_law_198 ?_
  refine cz_ti (w := dd) (show xs ((4 : Int32).toNatClampNeg) = dd from e4) ?_
  refine lv_aload_n hx hb dL_law_199 rfl (lv_at hl 1 rfl) ?_
  refine lv_iload hx hb dL_law_200 (lv_at hl 0 rfl) ?_
  refine lv_iconst (v := 5) hx hb dL_law_202 (by decide +kernel) ?_
  refine lv_iadd hx hb dL_law_203 ?_
  refine cz_ti (w := 5) (by decide +kernel) ?_
  refine va_sld hx hb hXs hbl hbA hS (by unfold vp_in; decide +kernel) dL_law_204 ?_
  refine cz_ti (w := ee) (show xs ((5 : Int32).toNatClampNeg) = ee from e5) ?_
  refine cz_i (wr := [(b0, .inr (6, [.ref b1, .int 20, v4, v5, v6, v7, v8, v9, v10, v11, v12])), (b1, .inl (k 1, 600, .inl f_1))]) (va_runV (As := [.int a, .int bb, .int cc, .int dd, .int ee]) (rest := [.int 20]) ⟨hx, hb, hml, hown, hts⟩ (cX10_feed_0 l G k n0 a bb cc dd ee v14 v15 v16 v17 v18 v19 v20 v21 v22 v23 v24 v25 v26 v27 v28 v29 n9 v31 v32 v33 v34 v35 v36 v37 v38 v39 v40 v41 v42 v43 v44 v45 v46 v47 v48 v49 v50 v51 v52 v53 v54 v55 v56 v57 v58 v59 v60 v61 v62 v63 v64 v65 v66 v67 v68 v69 v70 v71 v72 v73 v74 v75 v76 v77 v78 v79 v80 v81 v82 v83 f84 H.size) (cwV 5 hts gL_law_X10_feed rfl rfl rfl (by decide +kernel) ⟨Nat.le_of_ble_eq_true rfl, Nat.le_of_ble_eq_true rfl⟩) (cz_preV hZ hS hX hP hD [0, 1] rfl rfl (ci := 7) (q0 := 0) rfl rfl) rfl rfl hl.1 rfl (lv_room (Nat.le_of_ble_eq_true rfl)) dL_law_205 ⟨Nat.le_of_ble_eq_true rfl, Nat.le_of_ble_eq_true rfl⟩) hP hD hS hA [0, 1] [2, 3] rfl rfl (by decide) (by decide) (fun r u H locs hp hP hD hS => ?_)
  obtain ⟨f_2, rfl⟩ : ∃ z, z = u := ⟨_, rfl⟩
  have hp : r = 20 := hp
  subst hp
  refine lv_icmp_eq (tgt := 1002) hx hb dL_law_208 (by decide) (fun _ => ?_) (fun q => absurd (by decide +kernel) (q))
  refine lv_iinc (v := 6) (lv' := [(4, .int 6), (0, .ref b), (1, .ref b0), (2, .ref n0), (3, .ref o)]) hx hb dL_law_1002 hl (k := 0) rfl (by decide +kernel) (by decide) rfl (fun ls hl => ?_)
  refine lv_goto (tgt := 23) hx hb dL_law_1005 (by decide) ?_
  refine lv_iload hx hb dL_law_23 (lv_at hl 0 rfl) ?_
  refine lv_aload_n hx hb dL_law_25 rfl (lv_at hl 1 rfl) ?_
  refine va_slen hx hb hXs hbl hbA hS dL_law_26 ?_
  refine cz_ti (w := 6) (by decide +kernel) ?_
  refine lv_bipush (v := 6) hx hb dL_law_27 (by decide +kernel) ?_
  refine lv_isub hx hb dL_law_29 ?_
  refine cz_ti (w := 0) (by decide +kernel) ?_
  refine lv_icmp_gt (tgt := 1008) hx hb dL_law_30 (by decide) (fun _ => ?_) (fun q => absurd (by decide +kernel) (q))
  refine lv_iconst (v := 1) hx hb dL_law_1008 (by decide +kernel) ?_
  refine va_forget (hfA hS.2.2) ?_
  refine W.widen (k := 600002) (n := 7302232) (Nat.le_of_ble_eq_true rfl) (Nat.le_of_ble_eq_true rfl) ?_
  exact lw_ret hx hb hr hlocks dL_law_1009

set_option maxHeartbeats 4000000 in
set_option maxRecDepth 100000 in
theorem law_1_0 {p : Program} {l : Launch} {e : Env} {s : State} {m : MethodId} {below : List Frame} {meth : Method} {c : Code} {G : va_G} {k : Nat → ClassId} {b : Nat} {xs : Nat → Int32} {H : Heap} {locs : List Loc} {ls : Array Slot} {b0 : Nat} {n0 : Nat} {o : Nat} {v3 : Value} {v4 : Value} {v5 : Value} {v6 : Value} {v7 : Value} {v8 : Value} {v9 : Value} {v10 : Value} {v11 : Value} {v12 : Value} {v13 : Value} {v14 : Value} {v15 : Value} {v16 : Value} {v17 : Value} {v18 : Value} {v19 : Value} {v20 : Value} {v21 : Value} {v22 : Value} {v23 : Value} {v24 : Value} {v25 : Value} {v26 : Value} {v27 : Value} {v28 : Value} {v29 : Value} {v30 : Value} {v31 : Value} {v32 : Value} {v33 : Value} {v34 : Value} {v35 : Value} {v36 : Value} {v37 : Value} {v38 : Value} {v39 : Value} {v40 : Value} {v41 : Value} {v42 : Value} {v43 : Value} {v44 : Value} {v45 : Value} {v46 : Value} {v47 : Value} {v48 : Value} {v49 : Value} {v50 : Value} {v51 : Value} {v52 : Value} {v53 : Value} {v54 : Value} {v55 : Value} {v56 : Value} {v57 : Value} {v58 : Value} {v59 : Value} {v60 : Value} {v61 : Value} {v62 : Value} {v63 : Value} {v64 : Value} {v65 : Value} {v66 : Value} {v67 : Value} {v68 : Value} {v69 : Value} {v70 : Value} {v71 : Value} {v72 : Value} {v73 : Value} {v74 : Value} {v75 : Value} {v76 : Value} {v77 : Value} {v78 : Value} {v79 : Value} {v80 : Value} {v81 : Value} {v82 : Value} {v83 : Value} {n : Int32} (C0 : lw_At p s m meth c b 6 xs) (htr : l.stackTraces = false) (hX : KX G k s) (hT9 : TX s) (hZ : ZX k (fun q : Nat => s.heap.size ≤ q) s s.heap) (e1 : xs 1 = n) (hn : n < 0) (hP : va_P G vwCl [(b0, .inr (6, [v3, v4, v5, v6, v7, v8, v9, v10, v11, v12, v13])), (n0, .inr (7, (v14 :: v15 :: .int 0 :: v16 :: v17 :: v18 :: v19 :: v20 :: v21 :: v22 :: v23 :: v24 :: v25 :: v26 :: v27 :: v28 :: v29 :: v30 :: v31 :: v32 :: v33 :: v34 :: v35 :: v36 :: v37 :: v38 :: v39 :: v40 :: v41 :: v42 :: v43 :: v44 :: v45 :: v46 :: v47 :: v48 :: v49 :: v50 :: v51 :: v52 :: v53 :: v54 :: v55 :: v56 :: v57 :: v58 :: v59 :: v60 :: v61 :: v62 :: v63 :: v64 :: v65 :: v66 :: v67 :: v68 :: v69 :: v70 :: v71 :: v72 :: v73 :: v74 :: v75 :: v76 :: v77 :: v78 :: v79 :: v80 :: v81 :: v82 :: v83 :: [])))] H) (hD : va_D (fun q : Nat => s.heap.size ≤ q) [(b0, .inr (6, [v3, v4, v5, v6, v7, v8, v9, v10, v11, v12, v13])), (n0, .inr (7, (v14 :: v15 :: .int 0 :: v16 :: v17 :: v18 :: v19 :: v20 :: v21 :: v22 :: v23 :: v24 :: v25 :: v26 :: v27 :: v28 :: v29 :: v30 :: v31 :: v32 :: v33 :: v34 :: v35 :: v36 :: v37 :: v38 :: v39 :: v40 :: v41 :: v42 :: v43 :: v44 :: v45 :: v46 :: v47 :: v48 :: v49 :: v50 :: v51 :: v52 :: v53 :: v54 :: v55 :: v56 :: v57 :: v58 :: v59 :: v60 :: v61 :: v62 :: v63 :: v64 :: v65 :: v66 :: v67 :: v68 :: v69 :: v70 :: v71 :: v72 :: v73 :: v74 :: v75 :: v76 :: v77 :: v78 :: v79 :: v80 :: v81 :: v82 :: v83 :: [])))]) (hS : va_S (fun q : Nat => s.heap.size ≤ q) s.heap H locs) (hl : lv_has ls 7 [(4, .int 0), (0, .ref b), (1, .ref b0), (2, .ref n0), (3, .ref o)]) : W p l e room_1 s m #[Value.ref b] below meth c H locs 92 31361 (lw_Z below #[Value.ref b] s) (F0 m 213 ls []) := by
  obtain ⟨hx, hb, hr, hml, hown, hts0, hXs, hbl, hlocks, hgv⟩ := C0
  have hts := fun w h => hts0 w (wsL_law_in w h)
  obtain ⟨A, hAe⟩ : ∃ z : Nat → Prop, z = (fun q : Nat => s.heap.size ≤ q) := ⟨_, rfl⟩
  have hA : ∀ q : Nat, s.heap.size ≤ q → A q := fun q h => by rw [hAe]; exact h
  have hbA : ¬ A b := by rw [hAe]; exact Nat.not_le.mpr hbl
  have hfA : ∀ {locs : List Loc}, (∀ q ∈ locs, A q.base) → ∀ q ∈ locs, s.heap.size ≤ q.base := fun h q hq => by have h9 := h q hq; rw [hAe] at h9; exact h9
  rw [← hAe] at hZ hD hS
  refine lv_aload_n hx hb dL_law_213 rfl (lv_at hl 2 rfl) ?_
  refine lv_aload_n hx hb dL_law_214 rfl (lv_at hl 1 rfl) ?_
  refine lv_iload hx hb dL_law_215 (lv_at hl 0 rfl) ?_
  refine lv_iconst (v := 1) hx hb dL_law_217 (by decide +kernel) ?_
  refine lv_iadd hx hb dL_law_218 ?_
  refine cz_ti (w := 1) (by decide +kernel) ?_
  refine va_sld hx hb hXs hbl hbA hS (by unfold vp_in; decide +kernel) dL_law_219 ?_
  refine cz_ti (w := n) (show xs ((1 : Int32).toNatClampNeg) = n from e1) ?_
  refine lv_aload_n hx hb dL_law_220 rfl (lv_at hl 4 rfl) ?_
  refine cz_i (wr := [(n0, .inr (7, (v14 :: v15 :: .int 0 :: v16 :: v17 :: v18 :: v19 :: v20 :: v21 :: v22 :: v23 :: v24 :: v25 :: v26 :: v27 :: v28 :: v29 :: v30 :: v31 :: v32 :: v33 :: v34 :: v35 :: v36 :: v37 :: v38 :: v39 :: v40 :: v41 :: v42 :: v43 :: v44 :: v45 :: v46 :: v47 :: v48 :: v49 :: v50 :: v51 :: v52 :: v53 :: v54 :: v55 :: v56 :: v57 :: v58 :: v59 :: v60 :: v61 :: v62 :: v63 :: v64 :: v65 :: v66 :: v67 :: v68 :: v69 :: v70 :: v71 :: v72 :: v73 :: v74 :: v75 :: v76 :: v77 :: v78 :: v79 :: v80 :: v81 :: v82 :: v83 :: [])))]) (vx_runSW (As := [.ref b0, .int n, .ref o]) (rest := []) ⟨hx, hb, hml, hown, hts⟩ (xL_town_0 l htr G k b0 n o v3 v4 v5 v6 v7 v8 v9 v10 v11 v12 v13 H.size hn) (vx_cwSW 3 hts gL_law_L_town rfl rfl rfl (by decide +kernel) ⟨Nat.le_of_ble_eq_true rfl, Nat.le_of_ble_eq_true rfl⟩) (cz_preST hT9 hZ hS hX hP hD [0] rfl rfl) rfl rfl hl.1 rfl (lv_room (Nat.le_of_ble_eq_true rfl)) dL_law_221 ⟨Nat.le_of_ble_eq_true rfl, Nat.le_of_ble_eq_true rfl⟩) hP hD hS hA [0] [1] rfl rfl (by decide) (by decide) (fun r u H locs hp hP hD hS => ?_)
  have hp : r = 1 := hp
  subst hp
  refine W.widen (k := 93) (n := 31367) (Nat.le_of_ble_eq_true rfl) (Nat.le_of_ble_eq_true rfl) ?_
  refine lv_istore (lv' := [(5, .int 1), (4, .int 0), (0, .ref b), (1, .ref b0), (2, .ref n0), (3, .ref o)]) hx hb dL_law_224 hl (by decide) rfl (fun ls hl => ?_)
  refine lv_aload_n hx hb dL_law_226 rfl (lv_at hl 4 rfl) ?_
  refine lv_aload_n hx hb dL_law_227 rfl (lv_at hl 2 rfl) ?_
  refine lv_iload hx hb dL_law_228 (lv_at hl 1 rfl) ?_
  refine lv_iconst (v := 1) hx hb dL_law_230 (by decide +kernel) ?_
  refine lv_iadd hx hb dL_law_231 ?_
  refine cz_ti (w := 1) (by decide +kernel) ?_
  refine va_sld hx hb hXs hbl hbA hS (by unfold vp_in; decide +kernel) dL_law_232 ?_
  refine cz_ti (w := n) (show xs ((1 : Int32).toNatClampNeg) = n from e1) ?_
  refine cz_i (wr := [(b0, .inr (6, [v3, v4, v5, v6, v7, v8, v9, v10, v11, v12, v13]))]) (va_runV (As := [.int n]) (rest := []) ⟨hx, hb, hml, hown, hts⟩ (cX10_town_0 l G k n0 n v14 v15 (.int 0) v16 v17 v18 v19 v20 v21 v22 v23 v24 v25 v26 v27 v28 v29 v30 v31 v32 v33 v34 v35 v36 v37 v38 v39 v40 v41 v42 v43 v44 v45 v46 v47 v48 v49 v50 v51 v52 v53 v54 v55 v56 v57 v58 v59 v60 v61 v62 v63 v64 v65 v66 v67 v68 v69 v70 v71 v72 v73 v74 v75 v76 v77 v78 v79 v80 v81 v82 v83 H.size hn) (cwV 1 hts gL_law_X10_town rfl rfl rfl (by decide +kernel) ⟨Nat.le_of_ble_eq_true rfl, Nat.le_of_ble_eq_true rfl⟩) (cz_preV hZ hS hX hP hD [0] rfl rfl (ci := 7) (q0 := 0) rfl rfl) rfl rfl hl.1 rfl (lv_room (Nat.le_of_ble_eq_true rfl)) dL_law_233 ⟨Nat.le_of_ble_eq_true rfl, Nat.le_of_ble_eq_true rfl⟩) hP hD hS hA [0] [1] rfl rfl (by decide) (by decide) (fun r u H locs hp hP hD hS => ?_)
  have hp : r = 0 := hp
  subst hp
  refine lv_istore (lv' := [(6, .int 0), (5, .int 1), (4, .int 0), (0, .ref b), (1, .ref b0), (2, .ref n0), (3, .ref o)]) hx hb dL_law_236 hl (by decide) rfl (fun ls hl => ?_)
  refine lv_aload_n hx hb dL_law_238 rfl (lv_at hl 5 rfl) ?_
  refine cz_i (wr := [(b0, .inr (6, [v3, v4, v5, v6, v7, v8, v9, v10, v11, v12, v13]))]) (va_runV (As := []) (rest := []) ⟨hx, hb, hml, hown, hts⟩ (cX10_thrown_0 l G k n0 v14 v15 v16 v17 v18 v19 v20 v21 v22 v23 v24 v25 v26 v27 v28 v29 v30 v31 v32 v33 v34 v35 v36 v37 v38 v39 v40 v41 v42 v43 v44 v45 v46 v47 v48 v49 v50 v51 v52 v53 v54 v55 v56 v57 v58 v59 v60 v61 v62 v63 v64 v65 v66 v67 v68 v69 v70 v71 v72 v73 v74 v75 v76 v77 v78 v79 v80 v81 v82 v83 H.size) (cwV 0 hts gL_law_X10_thrown rfl rfl rfl (by decide +kernel) ⟨Nat.le_of_ble_eq_true rfl, Nat.le_of_ble_eq_true rfl⟩) (cz_preV hZ hS hX hP hD [1] rfl rfl (ci := 7) (q0 := 1) rfl rfl) rfl rfl hl.1 rfl (lv_room (Nat.le_of_ble_eq_true rfl)) dL_law_239 ⟨Nat.le_of_ble_eq_true rfl, Nat.le_of_ble_eq_true rfl⟩) hP hD hS hA [1] [0] rfl rfl (by decide) (by decide) (fun r u H locs hp hP hD hS => ?_)
  have hp : r = 1 := hp
  subst hp
  refine lv_iload hx hb dL_law_242 (lv_at hl 1 rfl) ?_
  refine lv_icmp_eq (tgt := 249) hx hb dL_law_244 (by decide) (fun _ => ?_) (fun q => absurd (by decide +kernel) (q))
  refine lv_iload hx hb dL_law_249 (lv_at hl 1 rfl) ?_
  refine lv_if_ne (tgt := 266) hx hb dL_law_251 (by decide) (fun _ => ?_) (fun q => absurd (q) (by decide +kernel))
  refine lv_goto (tgt := 1002) hx hb dL_law_266 (by decide) ?_
  refine lv_iinc (v := 6) (lv' := [(4, .int 6), (6, .int 0), (5, .int 1), (0, .ref b), (1, .ref b0), (2, .ref n0), (3, .ref o)]) hx hb dL_law_1002 hl (k := 2) rfl (by decide +kernel) (by decide) rfl (fun ls hl => ?_)
  refine lv_goto (tgt := 23) hx hb dL_law_1005 (by decide) ?_
  refine lv_iload hx hb dL_law_23 (lv_at hl 0 rfl) ?_
  refine lv_aload_n hx hb dL_law_25 rfl (lv_at hl 3 rfl) ?_
  refine va_slen hx hb hXs hbl hbA hS dL_law_26 ?_
  refine cz_ti (w := 6) (by decide +kernel) ?_
  refine lv_bipush (v := 6) hx hb dL_law_27 (by decide +kernel) ?_
  refine lv_isub hx hb dL_law_29 ?_
  refine cz_ti (w := 0) (by decide +kernel) ?_
  refine lv_icmp_gt (tgt := 1008) hx hb dL_law_30 (by decide) (fun _ => ?_) (fun q => absurd (by decide +kernel) (q))
  refine lv_iconst (v := 1) hx hb dL_law_1008 (by decide +kernel) ?_
  refine va_forget (hfA hS.2.2) ?_
  refine W.widen (k := 600002) (n := 7302232) (Nat.le_of_ble_eq_true rfl) (Nat.le_of_ble_eq_true rfl) ?_
  exact lw_ret hx hb hr hlocks dL_law_1009

set_option maxHeartbeats 4000000 in
set_option maxRecDepth 100000 in
theorem law_1_1 {p : Program} {l : Launch} {e : Env} {s : State} {m : MethodId} {below : List Frame} {meth : Method} {c : Code} {G : va_G} {k : Nat → ClassId} {b : Nat} {xs : Nat → Int32} {H : Heap} {locs : List Loc} {ls : Array Slot} {b0 : Nat} {n0 : Nat} {o : Nat} {b1 : Nat} {v4 : Value} {b21 : Nat} {b50 : Nat} {b19 : Nat} {b51 : Nat} {v9 : Value} {v10 : Value} {b39 : Nat} {v12 : Value} {b22 : Nat} {v14 : Value} {v15 : Value} {v16 : Value} {v17 : Value} {v18 : Value} {v19 : Value} {v20 : Value} {v21 : Value} {v22 : Value} {v23 : Value} {v24 : Value} {b20 : Nat} {v26 : Value} {v27 : Value} {v28 : Value} {v29 : Value} {v30 : Value} {v31 : Value} {v32 : Value} {v33 : Value} {v34 : Value} {v35 : Value} {f36 : Nat → Int32} {v37 : Value} {v38 : Value} {v39 : Value} {v40 : Value} {v41 : Value} {v42 : Value} {v43 : Value} {v44 : Value} {v45 : Value} {v46 : Value} {v47 : Value} {v48 : Value} {v49 : Value} {v50 : Value} {v51 : Value} {v52 : Value} {v53 : Value} {v54 : Value} {v55 : Value} {v56 : Value} {v57 : Value} {v58 : Value} {v59 : Value} {v60 : Value} {v61 : Value} {v62 : Value} {b48 : Nat} {v64 : Value} {v65 : Value} {n36 : Nat} {n1 : Nat} {n2 : Nat} {n3 : Nat} {n4 : Nat} {n5 : Nat} {n6 : Nat} {v73 : Value} {v74 : Value} {v75 : Value} {v76 : Value} {v77 : Value} {v78 : Value} {v79 : Value} {v80 : Value} {v81 : Value} {v82 : Value} {v83 : Value} {v84 : Value} {v85 : Value} {n10 : Nat} {v87 : Value} {v88 : Value} {v89 : Value} {v90 : Value} {v91 : Value} {v92 : Value} {v93 : Value} {v94 : Value} {v95 : Value} {v96 : Value} {v97 : Value} {v98 : Value} {v99 : Value} {v100 : Value} {v101 : Value} {v102 : Value} {v103 : Value} {v104 : Value} {v105 : Value} {v106 : Value} {v107 : Value} {v108 : Value} {v109 : Value} {v110 : Value} {v111 : Value} {v112 : Value} {v113 : Value} {v114 : Value} {v115 : Value} {v116 : Value} {v117 : Value} {v118 : Value} {v119 : Value} {v120 : Value} {v121 : Value} {v122 : Value} {v123 : Value} {v124 : Value} {f125 : Nat → Int32} (C0 : lw_At p s m meth c b 6 xs) (htr : l.stackTraces = false) (hX : KX G k s) (hT9 : TX s) (hZ : ZX k (fun q : Nat => s.heap.size ≤ q) s s.heap) (e1 : xs 1 = 0) (hP : va_P G vwCl [(b0, .inr (6, [.ref b1, .int 0, v4, .ref b21, .ref b50, .ref b19, .ref b51, v9, v10, .ref b39, v12])), (b21, .inr (1, [.ref b22, .ref b19, v14, .int 0, .int (-1)])), (b19, .inr (2, [v15, .int 0, v16, v17, v18, v19, v20, .int 0, v21, v22, v23, v24, .ref b20, v26])), (b20, .inr (4, [v27, v28, v29, v30, v31])), (b22, .inr (3, [v32, .int 0, .int 0, .int 0, .int 0, v33, v34, v35])), (b1, .inl (k 1, 600, .inl f36)), (b51, .inr (0, [v37, v38, v39, v40, v41, v42, v43, v44, v45, v46, v47, v48])), (b39, .inr (5, [v49, v50, v51, v52, v53, v54, v55, v56, v57, v58, v59, v60, v61, v62, .ref b48])), (b48, .inl (k 0, 1641, .inl (fun _ => 0))), (o, .inl (k 2, 1, .inr (.inl (fun _ => 0)))), (n0, .inr (7, (v64 :: v65 :: .int 0 :: .ref n36 :: .ref n1 :: .ref n2 :: .ref n3 :: .ref n4 :: .ref n5 :: .ref n6 :: v73 :: v74 :: .int 0 :: v75 :: .int 0 :: .int 0 :: v76 :: .int 0 :: .int 0 :: .int 0 :: .int 0 :: v77 :: v78 :: v79 :: .int 0 :: v80 :: v81 :: .int 0 :: v82 :: v83 :: v84 :: v85 :: .ref n10 :: v87 :: v88 :: v89 :: v90 :: v91 :: v92 :: v93 :: v94 :: v95 :: v96 :: v97 :: v98 :: v99 :: v100 :: v101 :: v102 :: v103 :: v104 :: v105 :: v106 :: v107 :: v108 :: v109 :: v110 :: v111 :: v112 :: v113 :: v114 :: v115 :: v116 :: v117 :: v118 :: v119 :: v120 :: v121 :: v122 :: v123 :: v124 :: []))), (n36, .inl (k 0, 14, .inl (upd (upd (upd (upd (upd (upd (upd (fun _ => 0) (0 : Int32).toNatClampNeg 1) (1 : Int32).toNatClampNeg 0) (2 : Int32).toNatClampNeg 99) (3 : Int32).toNatClampNeg 0) (4 : Int32).toNatClampNeg 1) (5 : Int32).toNatClampNeg 20) (6 : Int32).toNatClampNeg 0))), (n1, .inl (k 0, 14, .inl (fun _ => 0))), (n2, .inl (k 0, 14, .inl (fun _ => 0))), (n3, .inl (k 0, 14, .inl (fun _ => 0))), (n4, .inl (k 0, 14, .inl (fun _ => 0))), (n5, .inl (k 0, 8, .inl (fun _ => 0))), (n6, .inl (k 0, 8, .inl (fun _ => 0))), (n10, .inl (k 0, 7, .inl f125))] H) (hD : va_D (fun q : Nat => s.heap.size ≤ q) [(b0, .inr (6, [.ref b1, .int 0, v4, .ref b21, .ref b50, .ref b19, .ref b51, v9, v10, .ref b39, v12])), (b21, .inr (1, [.ref b22, .ref b19, v14, .int 0, .int (-1)])), (b19, .inr (2, [v15, .int 0, v16, v17, v18, v19, v20, .int 0, v21, v22, v23, v24, .ref b20, v26])), (b20, .inr (4, [v27, v28, v29, v30, v31])), (b22, .inr (3, [v32, .int 0, .int 0, .int 0, .int 0, v33, v34, v35])), (b1, .inl (k 1, 600, .inl f36)), (b51, .inr (0, [v37, v38, v39, v40, v41, v42, v43, v44, v45, v46, v47, v48])), (b39, .inr (5, [v49, v50, v51, v52, v53, v54, v55, v56, v57, v58, v59, v60, v61, v62, .ref b48])), (b48, .inl (k 0, 1641, .inl (fun _ => 0))), (o, .inl (k 2, 1, .inr (.inl (fun _ => 0)))), (n0, .inr (7, (v64 :: v65 :: .int 0 :: .ref n36 :: .ref n1 :: .ref n2 :: .ref n3 :: .ref n4 :: .ref n5 :: .ref n6 :: v73 :: v74 :: .int 0 :: v75 :: .int 0 :: .int 0 :: v76 :: .int 0 :: .int 0 :: .int 0 :: .int 0 :: v77 :: v78 :: v79 :: .int 0 :: v80 :: v81 :: .int 0 :: v82 :: v83 :: v84 :: v85 :: .ref n10 :: v87 :: v88 :: v89 :: v90 :: v91 :: v92 :: v93 :: v94 :: v95 :: v96 :: v97 :: v98 :: v99 :: v100 :: v101 :: v102 :: v103 :: v104 :: v105 :: v106 :: v107 :: v108 :: v109 :: v110 :: v111 :: v112 :: v113 :: v114 :: v115 :: v116 :: v117 :: v118 :: v119 :: v120 :: v121 :: v122 :: v123 :: v124 :: []))), (n36, .inl (k 0, 14, .inl (upd (upd (upd (upd (upd (upd (upd (fun _ => 0) (0 : Int32).toNatClampNeg 1) (1 : Int32).toNatClampNeg 0) (2 : Int32).toNatClampNeg 99) (3 : Int32).toNatClampNeg 0) (4 : Int32).toNatClampNeg 1) (5 : Int32).toNatClampNeg 20) (6 : Int32).toNatClampNeg 0))), (n1, .inl (k 0, 14, .inl (fun _ => 0))), (n2, .inl (k 0, 14, .inl (fun _ => 0))), (n3, .inl (k 0, 14, .inl (fun _ => 0))), (n4, .inl (k 0, 14, .inl (fun _ => 0))), (n5, .inl (k 0, 8, .inl (fun _ => 0))), (n6, .inl (k 0, 8, .inl (fun _ => 0))), (n10, .inl (k 0, 7, .inl f125))]) (hS : va_S (fun q : Nat => s.heap.size ≤ q) s.heap H locs) (hl : lv_has ls 7 [(4, .int 0), (0, .ref b), (1, .ref b0), (2, .ref n0), (3, .ref o)]) : W p l e room_1 s m #[Value.ref b] below meth c H locs 92 31361 (lw_Z below #[Value.ref b] s) (F0 m 213 ls []) := by
  obtain ⟨hx, hb, hr, hml, hown, hts0, hXs, hbl, hlocks, hgv⟩ := C0
  have hts := fun w h => hts0 w (wsL_law_in w h)
  obtain ⟨A, hAe⟩ : ∃ z : Nat → Prop, z = (fun q : Nat => s.heap.size ≤ q) := ⟨_, rfl⟩
  have hA : ∀ q : Nat, s.heap.size ≤ q → A q := fun q h => by rw [hAe]; exact h
  have hbA : ¬ A b := by rw [hAe]; exact Nat.not_le.mpr hbl
  have hfA : ∀ {locs : List Loc}, (∀ q ∈ locs, A q.base) → ∀ q ∈ locs, s.heap.size ≤ q.base := fun h q hq => by have h9 := h q hq; rw [hAe] at h9; exact h9
  rw [← hAe] at hZ hD hS
  refine lv_aload_n hx hb dL_law_213 rfl (lv_at hl 2 rfl) ?_
  refine lv_aload_n hx hb dL_law_214 rfl (lv_at hl 1 rfl) ?_
  refine lv_iload hx hb dL_law_215 (lv_at hl 0 rfl) ?_
  refine lv_iconst (v := 1) hx hb dL_law_217 (by decide +kernel) ?_
  refine lv_iadd hx hb dL_law_218 ?_
  refine cz_ti (w := 1) (by decide +kernel) ?_
  refine va_sld hx hb hXs hbl hbA hS (by unfold vp_in; decide +kernel) dL_law_219 ?_
  refine cz_ti (w := 0) (show xs ((1 : Int32).toNatClampNeg) = 0 from e1) ?_
  refine lv_aload_n hx hb dL_law_220 rfl (lv_at hl 4 rfl) ?_
  refine cz_i (wr := [(n0, .inr (7, (v64 :: v65 :: .int 0 :: .ref n36 :: .ref n1 :: .ref n2 :: .ref n3 :: .ref n4 :: .ref n5 :: .ref n6 :: v73 :: v74 :: .int 0 :: v75 :: .int 0 :: .int 0 :: v76 :: .int 0 :: .int 0 :: .int 0 :: .int 0 :: v77 :: v78 :: v79 :: .int 0 :: v80 :: v81 :: .int 0 :: v82 :: v83 :: v84 :: v85 :: .ref n10 :: v87 :: v88 :: v89 :: v90 :: v91 :: v92 :: v93 :: v94 :: v95 :: v96 :: v97 :: v98 :: v99 :: v100 :: v101 :: v102 :: v103 :: v104 :: v105 :: v106 :: v107 :: v108 :: v109 :: v110 :: v111 :: v112 :: v113 :: v114 :: v115 :: v116 :: v117 :: v118 :: v119 :: v120 :: v121 :: v122 :: v123 :: v124 :: []))), (n36, .inl (k 0, 14, .inl (upd (upd (upd (upd (upd (upd (upd (fun _ => 0) (0 : Int32).toNatClampNeg 1) (1 : Int32).toNatClampNeg 0) (2 : Int32).toNatClampNeg 99) (3 : Int32).toNatClampNeg 0) (4 : Int32).toNatClampNeg 1) (5 : Int32).toNatClampNeg 20) (6 : Int32).toNatClampNeg 0))), (n1, .inl (k 0, 14, .inl (fun _ => 0))), (n2, .inl (k 0, 14, .inl (fun _ => 0))), (n3, .inl (k 0, 14, .inl (fun _ => 0))), (n4, .inl (k 0, 14, .inl (fun _ => 0))), (n5, .inl (k 0, 8, .inl (fun _ => 0))), (n6, .inl (k 0, 8, .inl (fun _ => 0))), (n10, .inl (k 0, 7, .inl f125))]) (vx_runSW (As := [.ref b0, .int 0, .ref o]) (rest := []) ⟨hx, hb, hml, hown, hts⟩ (cL_town_1 l G k b0 o b1 v4 b21 b50 b19 b51 v9 v10 b39 v12 b22 v14 v15 v16 v17 v18 v19 v20 v21 v22 v23 v24 b20 v26 v27 v28 v29 v30 v31 v32 v33 v34 v35 f36 v37 v38 v39 v40 v41 v42 v43 v44 v45 v46 v47 v48 v49 v50 v51 v52 v53 v54 v55 v56 v57 v58 v59 v60 v61 v62 b48 (fun _ => 0) H.size) (vx_cwSW 3 hts gL_law_L_town rfl rfl rfl (by decide +kernel) ⟨Nat.le_of_ble_eq_true rfl, Nat.le_of_ble_eq_true rfl⟩) (cz_preS hZ hS hX hP hD [0, 1, 2, 3, 4, 5, 6, 7, 8, 9] rfl rfl) rfl rfl hl.1 rfl (lv_room (Nat.le_of_ble_eq_true rfl)) dL_law_221 ⟨Nat.le_of_ble_eq_true rfl, Nat.le_of_ble_eq_true rfl⟩) hP hD hS hA [0, 1, 2, 3, 4, 5, 6, 7, 8, 9] [10, 11, 12, 13, 14, 15, 16, 17, 18] rfl rfl (by decide) (by decide) (fun r u H locs hp hP hD hS => ?_)
  have hp : r = 0 := hp
  subst hp
  refine lv_istore (lv' := [(5, .int 0), (4, .int 0), (0, .ref b), (1, .ref b0), (2, .ref n0), (3, .ref o)]) hx hb dL_law_224 hl (by decide) rfl (fun ls hl => ?_)
  refine lv_aload_n hx hb dL_law_226 rfl (lv_at hl 4 rfl) ?_
  refine lv_aload_n hx hb dL_law_227 rfl (lv_at hl 2 rfl) ?_
  refine lv_iload hx hb dL_law_228 (lv_at hl 1 rfl) ?_
  refine lv_iconst (v := 1) hx hb dL_law_230 (by decide +kernel) ?_
  refine lv_iadd hx hb dL_law_231 ?_
  refine cz_ti (w := 1) (by decide +kernel) ?_
  refine va_sld hx hb hXs hbl hbA hS (by unfold vp_in; decide +kernel) dL_law_232 ?_
  refine cz_ti (w := 0) (show xs ((1 : Int32).toNatClampNeg) = 0 from e1) ?_
  refine cz_i (wr := [(o, .inl (k 2, 1, .inr (.inl (vp_updL (fun _ => 0) (0 : Int32).toNatClampNeg 0)))), (b0, .inr (6, [.ref b1, .int 0, .int (-1), .ref b21, .ref b19, .ref b50, .ref b51, v9, .int 0, .ref b39, v12])), (b21, .inr (1, [.ref b22, .ref b19, .int 0, .int 0, .int (-1)])), (b20, .inr (4, [v27, v28, v29, .int 0, .int 0])), (b1, .inl (k 1, 600, .inl f36)), (b22, .inr (3, [.ref b1, .int 0, .int 0, .int 0, .int 0, .ref (k 9), v34, .int 0])), (b19, .inr (2, [.int 1, .int 0, .int 99, .int 0, .int 1, .int 20, .int 0, .int 0, v21, v22, v23, v24, .ref b20, v26])), (b51, .inr (0, [.int 268435455, .int 0, .int 0, .int 0, .int 0, v42, v43, v44, v45, v46, v47, v48])), (b39, .inr (5, [v49, v50, v51, v52, v53, v54, .int 0, v56, v57, v58, v59, v60, v61, v62, .ref b48])), (b48, .inl (k 0, 1641, .inl (fun _ => 0)))]) (va_runV (As := [.int 0]) (rest := []) ⟨hx, hb, hml, hown, hts⟩ (cX10_town_1 l G k n0 v64 v65 (.int 0) n36 n1 n2 n3 n4 n5 n6 v73 v74 v75 v76 v77 v78 v79 v80 v81 v82 v83 v84 v85 n10 v87 v88 v89 v90 v91 v92 v93 v94 v95 v96 v97 v98 v99 v100 v101 v102 v103 v104 v105 v106 v107 v108 v109 v110 v111 v112 v113 v114 v115 v116 v117 v118 v119 v120 v121 v122 v123 v124 f125 H.size) (cwV 1 hts gL_law_X10_town rfl rfl rfl (by decide +kernel) ⟨Nat.le_of_ble_eq_true rfl, Nat.le_of_ble_eq_true rfl⟩) (cz_preV hZ hS hX hP hD [0, 1, 2, 3, 4, 5, 6, 7, 8] rfl rfl (ci := 7) (q0 := 0) rfl rfl) rfl rfl hl.1 rfl (lv_room (Nat.le_of_ble_eq_true rfl)) dL_law_233 ⟨Nat.le_of_ble_eq_true rfl, Nat.le_of_ble_eq_true rfl⟩) hP hD hS hA [0, 1, 2, 3, 4, 5, 6, 7, 8] [9, 10, 11, 12, 13, 14, 15, 16, 17, 18] rfl rfl (by decide) (by decide) (fun r u H locs hp hP hD hS => ?_)
  have hp : r = 0 := hp
  subst hp
  refine lv_istore (lv' := [(6, .int 0), (5, .int 0), (4, .int 0), (0, .ref b), (1, .ref b0), (2, .ref n0), (3, .ref o)]) hx hb dL_law_236 hl (by decide) rfl (fun ls hl => ?_)
  refine lv_aload_n hx hb dL_law_238 rfl (lv_at hl 5 rfl) ?_
  refine cz_i (wr := [(o, .inl (k 2, 1, .inr (.inl (vp_updL (fun _ => 0) (0 : Int32).toNatClampNeg 0)))), (b0, .inr (6, [.ref b1, .int 0, .int (-1), .ref b21, .ref b19, .ref b50, .ref b51, v9, .int 0, .ref b39, v12])), (b21, .inr (1, [.ref b22, .ref b19, .int 0, .int 0, .int (-1)])), (b20, .inr (4, [v27, v28, v29, .int 0, .int 0])), (b1, .inl (k 1, 600, .inl f36)), (b22, .inr (3, [.ref b1, .int 0, .int 0, .int 0, .int 0, .ref (k 9), v34, .int 0])), (b19, .inr (2, [.int 1, .int 0, .int 99, .int 0, .int 1, .int 20, .int 0, .int 0, v21, v22, v23, v24, .ref b20, v26])), (b51, .inr (0, [.int 268435455, .int 0, .int 0, .int 0, .int 0, v42, v43, v44, v45, v46, v47, v48])), (b39, .inr (5, [v49, v50, v51, v52, v53, v54, .int 0, v56, v57, v58, v59, v60, v61, v62, .ref b48])), (b48, .inl (k 0, 1641, .inl (fun _ => 0))), (n36, .inl (k 0, 14, .inl (upd (upd (upd (upd (upd (upd (upd (upd (upd (upd (upd (upd (upd (upd (upd (upd (upd (upd (upd (upd (upd (fun _ => 0) (0 : Int32).toNatClampNeg 1) (1 : Int32).toNatClampNeg 0) (2 : Int32).toNatClampNeg 99) (3 : Int32).toNatClampNeg 0) (4 : Int32).toNatClampNeg 1) (5 : Int32).toNatClampNeg 20) (6 : Int32).toNatClampNeg 0) (7 : Int32).toNatClampNeg 1) (8 : Int32).toNatClampNeg 0) (9 : Int32).toNatClampNeg 99) (10 : Int32).toNatClampNeg 0) (11 : Int32).toNatClampNeg 1) (12 : Int32).toNatClampNeg 20) (13 : Int32).toNatClampNeg 0) (0 : Int32).toNatClampNeg 1) (1 : Int32).toNatClampNeg 0) (2 : Int32).toNatClampNeg 99) (3 : Int32).toNatClampNeg 0) (4 : Int32).toNatClampNeg 1) (5 : Int32).toNatClampNeg 20) (6 : Int32).toNatClampNeg 0))), (n1, .inl (k 0, 14, .inl (upd (upd (upd (upd (upd (upd (upd (fun _ => 0) (0 : Int32).toNatClampNeg 0) (1 : Int32).toNatClampNeg 0) (2 : Int32).toNatClampNeg 0) (3 : Int32).toNatClampNeg 0) (4 : Int32).toNatClampNeg 0) (5 : Int32).toNatClampNeg 0) (6 : Int32).toNatClampNeg 0))), (n2, .inl (k 0, 14, .inl (upd (upd (upd (upd (upd (upd (upd (fun _ => 0) (0 : Int32).toNatClampNeg 0) (1 : Int32).toNatClampNeg 0) (2 : Int32).toNatClampNeg 0) (3 : Int32).toNatClampNeg 0) (4 : Int32).toNatClampNeg 0) (5 : Int32).toNatClampNeg 0) (6 : Int32).toNatClampNeg 0))), (n3, .inl (k 0, 14, .inl (upd (upd (upd (upd (upd (upd (upd (fun _ => 0) (0 : Int32).toNatClampNeg 0) (1 : Int32).toNatClampNeg 0) (2 : Int32).toNatClampNeg 0) (3 : Int32).toNatClampNeg 0) (4 : Int32).toNatClampNeg 0) (5 : Int32).toNatClampNeg 0) (6 : Int32).toNatClampNeg 0))), (n4, .inl (k 0, 14, .inl (upd (upd (upd (upd (upd (upd (upd (fun _ => 0) (0 : Int32).toNatClampNeg 0) (1 : Int32).toNatClampNeg 0) (2 : Int32).toNatClampNeg 0) (3 : Int32).toNatClampNeg 0) (4 : Int32).toNatClampNeg 0) (5 : Int32).toNatClampNeg 0) (6 : Int32).toNatClampNeg 0))), (n5, .inl (k 0, 8, .inl (upd (upd (upd (upd (fun _ => 0) (0 : Int32).toNatClampNeg 0) (1 : Int32).toNatClampNeg 0) (2 : Int32).toNatClampNeg 0) (3 : Int32).toNatClampNeg 0))), (n6, .inl (k 0, 8, .inl (upd (upd (upd (upd (fun _ => 0) (0 : Int32).toNatClampNeg 0) (1 : Int32).toNatClampNeg 0) (2 : Int32).toNatClampNeg 0) (3 : Int32).toNatClampNeg 0))), (n10, .inl (k 0, 7, .inl (upd (upd (upd (upd (upd (upd (upd f125 (0 : Int32).toNatClampNeg 15) (1 : Int32).toNatClampNeg 15) (2 : Int32).toNatClampNeg 15) (3 : Int32).toNatClampNeg 15) (4 : Int32).toNatClampNeg 15) (5 : Int32).toNatClampNeg 15) (6 : Int32).toNatClampNeg 15)))]) (va_runV (As := []) (rest := []) ⟨hx, hb, hml, hown, hts⟩ (cX10_thrown_1 l G k n0 v64 v65 (.ref n36) (.ref n1) (.ref n2) (.ref n3) (.ref n4) (.ref n5) (.ref n6) v73 v74 (.int 0) (.int 0) (.int 0) (.int 0) v76 (.int 0) (.int 0) (.int 0) (.int 0) v77 (.int 0) (.int 0) (.int 0) v80 (.int (-1)) (.int 0) (.int 0) (.int 0) (.int 0) (.int 0) (.ref n10) v87 v88 v89 v90 v91 v92 v93 v94 v95 v96 v97 v98 v99 v100 v101 v102 v103 v104 v105 v106 v107 v108 v109 v110 v111 (.int 0) v113 v114 v115 v116 v117 v118 v119 v120 v121 v122 v123 v124 H.size) (cwV 0 hts gL_law_X10_thrown rfl rfl rfl (by decide +kernel) ⟨Nat.le_of_ble_eq_true rfl, Nat.le_of_ble_eq_true rfl⟩) (cz_preV hZ hS hX hP hD [10] rfl rfl (ci := 7) (q0 := 10) rfl rfl) rfl rfl hl.1 rfl (lv_room (Nat.le_of_ble_eq_true rfl)) dL_law_239 ⟨Nat.le_of_ble_eq_true rfl, Nat.le_of_ble_eq_true rfl⟩) hP hD hS hA [10] [0, 1, 2, 3, 4, 5, 6, 7, 8, 9, 11, 12, 13, 14, 15, 16, 17, 18] rfl rfl (by decide) (by decide) (fun r u H locs hp hP hD hS => ?_)
  have hp : r = 0 := hp
  subst hp
  refine lv_iload hx hb dL_law_242 (lv_at hl 1 rfl) ?_
  refine lv_icmp_eq (tgt := 249) hx hb dL_law_244 (by decide) (fun _ => ?_) (fun q => absurd (by decide +kernel) (q))
  refine lv_iload hx hb dL_law_249 (lv_at hl 1 rfl) ?_
  refine lv_if_ne (tgt := 266) hx hb dL_law_251 (by decide) (fun q => absurd (by decide +kernel) (q)) (fun _ => ?_)
  refine lv_aload_n hx hb dL_law_254 rfl (lv_at hl 6 rfl) ?_
  refine lv_iconst (v := 0) hx hb dL_law_255 (by decide +kernel) ?_
  refine va_lald hx hb hX.1 hP 0 2 rfl rfl (by unfold vp_in; decide +kernel) dL_law_256 ?_
  refine cz_tl (w := 0) (by rfl) ?_
  refine lv_iload hx hb dL_law_257 (lv_at hl 0 rfl) ?_
  refine lv_i2l (v := 0) hx hb dL_law_259 (by decide +kernel) ?_
  refine W.lcmp hx hb dL_law_260 ?_
  refine cz_ti (w := 0) (by decide +kernel) ?_
  refine lv_if_eq (tgt := 266) hx hb dL_law_261 (by decide) (fun _ => ?_) (fun q => absurd (by decide +kernel) (q))
  refine lv_goto (tgt := 1002) hx hb dL_law_266 (by decide) ?_
  refine lv_iinc (v := 6) (lv' := [(4, .int 6), (6, .int 0), (5, .int 0), (0, .ref b), (1, .ref b0), (2, .ref n0), (3, .ref o)]) hx hb dL_law_1002 hl (k := 2) rfl (by decide +kernel) (by decide) rfl (fun ls hl => ?_)
  refine lv_goto (tgt := 23) hx hb dL_law_1005 (by decide) ?_
  refine lv_iload hx hb dL_law_23 (lv_at hl 0 rfl) ?_
  refine lv_aload_n hx hb dL_law_25 rfl (lv_at hl 3 rfl) ?_
  refine va_slen hx hb hXs hbl hbA hS dL_law_26 ?_
  refine cz_ti (w := 6) (by decide +kernel) ?_
  refine lv_bipush (v := 6) hx hb dL_law_27 (by decide +kernel) ?_
  refine lv_isub hx hb dL_law_29 ?_
  refine cz_ti (w := 0) (by decide +kernel) ?_
  refine lv_icmp_gt (tgt := 1008) hx hb dL_law_30 (by decide) (fun _ => ?_) (fun q => absurd (by decide +kernel) (q))
  refine lv_iconst (v := 1) hx hb dL_law_1008 (by decide +kernel) ?_
  refine va_forget (hfA hS.2.2) ?_
  refine W.widen (k := 600002) (n := 7302232) (Nat.le_of_ble_eq_true rfl) (Nat.le_of_ble_eq_true rfl) ?_
  exact lw_ret hx hb hr hlocks dL_law_1009

set_option maxHeartbeats 4000000 in
set_option maxRecDepth 100000 in
theorem law_1_2 {p : Program} {l : Launch} {e : Env} {s : State} {m : MethodId} {below : List Frame} {meth : Method} {c : Code} {G : va_G} {k : Nat → ClassId} {b : Nat} {xs : Nat → Int32} {H : Heap} {locs : List Loc} {ls : Array Slot} {b0 : Nat} {n0 : Nat} {o : Nat} {v3 : Value} {v4 : Value} {v5 : Value} {v6 : Value} {v7 : Value} {v8 : Value} {v9 : Value} {v10 : Value} {v11 : Value} {v12 : Value} {v13 : Value} {v14 : Value} {v15 : Value} {v16 : Value} {v17 : Value} {v18 : Value} {v19 : Value} {v20 : Value} {v21 : Value} {v22 : Value} {v23 : Value} {v24 : Value} {v25 : Value} {v26 : Value} {v27 : Value} {v28 : Value} {v29 : Value} {v30 : Value} {v31 : Value} {v32 : Value} {v33 : Value} {v34 : Value} {v35 : Value} {v36 : Value} {v37 : Value} {v38 : Value} {v39 : Value} {v40 : Value} {v41 : Value} {v42 : Value} {v43 : Value} {v44 : Value} {v45 : Value} {v46 : Value} {v47 : Value} {v48 : Value} {v49 : Value} {v50 : Value} {v51 : Value} {v52 : Value} {v53 : Value} {v54 : Value} {v55 : Value} {v56 : Value} {v57 : Value} {v58 : Value} {v59 : Value} {v60 : Value} {v61 : Value} {v62 : Value} {v63 : Value} {v64 : Value} {v65 : Value} {v66 : Value} {v67 : Value} {v68 : Value} {v69 : Value} {v70 : Value} {v71 : Value} {v72 : Value} {v73 : Value} {v74 : Value} {v75 : Value} {v76 : Value} {v77 : Value} {v78 : Value} {v79 : Value} {v80 : Value} {v81 : Value} {n : Int32} (C0 : lw_At p s m meth c b 6 xs) (htr : l.stackTraces = false) (hX : KX G k s) (hT9 : TX s) (hZ : ZX k (fun q : Nat => s.heap.size ≤ q) s s.heap) (e1 : xs 1 = n) (hn : 0 < n) (hP : va_P G vwCl [(b0, .inr (6, [v3, .int 0, v4, v5, v6, v7, v8, v9, v10, v11, v12])), (n0, .inr (7, (v13 :: v14 :: .int 0 :: v15 :: v16 :: v17 :: v18 :: v19 :: v20 :: v21 :: v22 :: v23 :: v24 :: v25 :: v26 :: v27 :: v28 :: .int 0 :: v29 :: v30 :: v31 :: v32 :: v33 :: v34 :: v35 :: v36 :: v37 :: v38 :: v39 :: v40 :: v41 :: v42 :: v43 :: v44 :: v45 :: v46 :: v47 :: v48 :: v49 :: v50 :: v51 :: v52 :: v53 :: v54 :: v55 :: v56 :: v57 :: v58 :: v59 :: v60 :: v61 :: v62 :: v63 :: v64 :: v65 :: v66 :: v67 :: v68 :: v69 :: v70 :: v71 :: v72 :: v73 :: v74 :: v75 :: v76 :: v77 :: v78 :: v79 :: v80 :: v81 :: [])))] H) (hD : va_D (fun q : Nat => s.heap.size ≤ q) [(b0, .inr (6, [v3, .int 0, v4, v5, v6, v7, v8, v9, v10, v11, v12])), (n0, .inr (7, (v13 :: v14 :: .int 0 :: v15 :: v16 :: v17 :: v18 :: v19 :: v20 :: v21 :: v22 :: v23 :: v24 :: v25 :: v26 :: v27 :: v28 :: .int 0 :: v29 :: v30 :: v31 :: v32 :: v33 :: v34 :: v35 :: v36 :: v37 :: v38 :: v39 :: v40 :: v41 :: v42 :: v43 :: v44 :: v45 :: v46 :: v47 :: v48 :: v49 :: v50 :: v51 :: v52 :: v53 :: v54 :: v55 :: v56 :: v57 :: v58 :: v59 :: v60 :: v61 :: v62 :: v63 :: v64 :: v65 :: v66 :: v67 :: v68 :: v69 :: v70 :: v71 :: v72 :: v73 :: v74 :: v75 :: v76 :: v77 :: v78 :: v79 :: v80 :: v81 :: [])))]) (hS : va_S (fun q : Nat => s.heap.size ≤ q) s.heap H locs) (hl : lv_has ls 7 [(4, .int 0), (0, .ref b), (1, .ref b0), (2, .ref n0), (3, .ref o)]) : W p l e room_1 s m #[Value.ref b] below meth c H locs 92 31361 (lw_Z below #[Value.ref b] s) (F0 m 213 ls []) := by
  obtain ⟨hx, hb, hr, hml, hown, hts0, hXs, hbl, hlocks, hgv⟩ := C0
  have hts := fun w h => hts0 w (wsL_law_in w h)
  obtain ⟨A, hAe⟩ : ∃ z : Nat → Prop, z = (fun q : Nat => s.heap.size ≤ q) := ⟨_, rfl⟩
  have hA : ∀ q : Nat, s.heap.size ≤ q → A q := fun q h => by rw [hAe]; exact h
  have hbA : ¬ A b := by rw [hAe]; exact Nat.not_le.mpr hbl
  have hfA : ∀ {locs : List Loc}, (∀ q ∈ locs, A q.base) → ∀ q ∈ locs, s.heap.size ≤ q.base := fun h q hq => by have h9 := h q hq; rw [hAe] at h9; exact h9
  rw [← hAe] at hZ hD hS
  refine lv_aload_n hx hb dL_law_213 rfl (lv_at hl 2 rfl) ?_
  refine lv_aload_n hx hb dL_law_214 rfl (lv_at hl 1 rfl) ?_
  refine lv_iload hx hb dL_law_215 (lv_at hl 0 rfl) ?_
  refine lv_iconst (v := 1) hx hb dL_law_217 (by decide +kernel) ?_
  refine lv_iadd hx hb dL_law_218 ?_
  refine cz_ti (w := 1) (by decide +kernel) ?_
  refine va_sld hx hb hXs hbl hbA hS (by unfold vp_in; decide +kernel) dL_law_219 ?_
  refine cz_ti (w := n) (show xs ((1 : Int32).toNatClampNeg) = n from e1) ?_
  refine lv_aload_n hx hb dL_law_220 rfl (lv_at hl 4 rfl) ?_
  refine cz_i (wr := [(n0, .inr (7, (v13 :: v14 :: .int 0 :: v15 :: v16 :: v17 :: v18 :: v19 :: v20 :: v21 :: v22 :: v23 :: v24 :: v25 :: v26 :: v27 :: v28 :: .int 0 :: v29 :: v30 :: v31 :: v32 :: v33 :: v34 :: v35 :: v36 :: v37 :: v38 :: v39 :: v40 :: v41 :: v42 :: v43 :: v44 :: v45 :: v46 :: v47 :: v48 :: v49 :: v50 :: v51 :: v52 :: v53 :: v54 :: v55 :: v56 :: v57 :: v58 :: v59 :: v60 :: v61 :: v62 :: v63 :: v64 :: v65 :: v66 :: v67 :: v68 :: v69 :: v70 :: v71 :: v72 :: v73 :: v74 :: v75 :: v76 :: v77 :: v78 :: v79 :: v80 :: v81 :: [])))]) (vx_runSW (As := [.ref b0, .int n, .ref o]) (rest := []) ⟨hx, hb, hml, hown, hts⟩ (xL_town_2 l htr G k b0 n o v3 v4 v5 v6 v7 v8 v9 v10 v11 v12 H.size hn) (vx_cwSW 3 hts gL_law_L_town rfl rfl rfl (by decide +kernel) ⟨Nat.le_of_ble_eq_true rfl, Nat.le_of_ble_eq_true rfl⟩) (cz_preST hT9 hZ hS hX hP hD [0] rfl rfl) rfl rfl hl.1 rfl (lv_room (Nat.le_of_ble_eq_true rfl)) dL_law_221 ⟨Nat.le_of_ble_eq_true rfl, Nat.le_of_ble_eq_true rfl⟩) hP hD hS hA [0] [1] rfl rfl (by decide) (by decide) (fun r u H locs hp hP hD hS => ?_)
  have hp : r = 1 := hp
  subst hp
  refine W.widen (k := 93) (n := 31367) (Nat.le_of_ble_eq_true rfl) (Nat.le_of_ble_eq_true rfl) ?_
  refine lv_istore (lv' := [(5, .int 1), (4, .int 0), (0, .ref b), (1, .ref b0), (2, .ref n0), (3, .ref o)]) hx hb dL_law_224 hl (by decide) rfl (fun ls hl => ?_)
  refine lv_aload_n hx hb dL_law_226 rfl (lv_at hl 4 rfl) ?_
  refine lv_aload_n hx hb dL_law_227 rfl (lv_at hl 2 rfl) ?_
  refine lv_iload hx hb dL_law_228 (lv_at hl 1 rfl) ?_
  refine lv_iconst (v := 1) hx hb dL_law_230 (by decide +kernel) ?_
  refine lv_iadd hx hb dL_law_231 ?_
  refine cz_ti (w := 1) (by decide +kernel) ?_
  refine va_sld hx hb hXs hbl hbA hS (by unfold vp_in; decide +kernel) dL_law_232 ?_
  refine cz_ti (w := n) (show xs ((1 : Int32).toNatClampNeg) = n from e1) ?_
  refine cz_i (wr := []) (va_runV (As := [.int n]) (rest := []) ⟨hx, hb, hml, hown, hts⟩ (cX10_town_2 l G k n0 n v13 v14 (.int 0) v15 v16 v17 v18 v19 v20 v21 v22 v23 v24 v25 v26 v27 v28 v29 v30 v31 v32 v33 v34 v35 v36 v37 v38 v39 v40 v41 v42 v43 v44 v45 v46 v47 v48 v49 v50 v51 v52 v53 v54 v55 v56 v57 v58 v59 v60 v61 v62 v63 v64 v65 v66 v67 v68 v69 v70 v71 v72 v73 v74 v75 v76 v77 v78 v79 v80 v81 H.size hn) (cwV 1 hts gL_law_X10_town rfl rfl rfl (by decide +kernel) ⟨Nat.le_of_ble_eq_true rfl, Nat.le_of_ble_eq_true rfl⟩) (cz_preV hZ hS hX hP hD [0] rfl rfl (ci := 7) (q0 := 0) rfl rfl) rfl rfl hl.1 rfl (lv_room (Nat.le_of_ble_eq_true rfl)) dL_law_233 ⟨Nat.le_of_ble_eq_true rfl, Nat.le_of_ble_eq_true rfl⟩) hP hD hS hA [0] [] rfl rfl (by decide) (by decide) (fun r u H locs hp hP hD hS => ?_)
  have hp : r = 0 := hp
  subst hp
  refine lv_istore (lv' := [(6, .int 0), (5, .int 1), (4, .int 0), (0, .ref b), (1, .ref b0), (2, .ref n0), (3, .ref o)]) hx hb dL_law_236 hl (by decide) rfl (fun ls hl => ?_)
  refine lv_aload_n hx hb dL_law_238 rfl (lv_at hl 5 rfl) ?_
  refine cz_i (wr := []) (va_runV (As := []) (rest := []) ⟨hx, hb, hml, hown, hts⟩ (cX10_thrown_0 l G k n0 v13 v14 v15 v16 v17 v18 v19 v20 v21 v22 v23 v24 v25 v26 v27 v28 (.int 0) v29 v30 v31 v32 v33 v34 v35 v36 v37 v38 v39 v40 v41 v42 v43 v44 v45 v46 v47 v48 v49 v50 v51 v52 v53 v54 v55 v56 v57 v58 v59 v60 v61 v62 v63 v64 v65 v66 v67 v68 v69 v70 v71 v72 v73 v74 v75 v76 v77 v78 v79 v80 v81 H.size) (cwV 0 hts gL_law_X10_thrown rfl rfl rfl (by decide +kernel) ⟨Nat.le_of_ble_eq_true rfl, Nat.le_of_ble_eq_true rfl⟩) (cz_preV hZ hS hX hP hD [0] rfl rfl (ci := 7) (q0 := 0) rfl rfl) rfl rfl hl.1 rfl (lv_room (Nat.le_of_ble_eq_true rfl)) dL_law_239 ⟨Nat.le_of_ble_eq_true rfl, Nat.le_of_ble_eq_true rfl⟩) hP hD hS hA [0] [] rfl rfl (by decide) (by decide) (fun r u H locs hp hP hD hS => ?_)
  have hp : r = 1 := hp
  subst hp
  refine lv_iload hx hb dL_law_242 (lv_at hl 1 rfl) ?_
  refine lv_icmp_eq (tgt := 249) hx hb dL_law_244 (by decide) (fun _ => ?_) (fun q => absurd (by decide +kernel) (q))
  refine lv_iload hx hb dL_law_249 (lv_at hl 1 rfl) ?_
  refine lv_if_ne (tgt := 266) hx hb dL_law_251 (by decide) (fun _ => ?_) (fun q => absurd (q) (by decide +kernel))
  refine lv_goto (tgt := 1002) hx hb dL_law_266 (by decide) ?_
  refine lv_iinc (v := 6) (lv' := [(4, .int 6), (6, .int 0), (5, .int 1), (0, .ref b), (1, .ref b0), (2, .ref n0), (3, .ref o)]) hx hb dL_law_1002 hl (k := 2) rfl (by decide +kernel) (by decide) rfl (fun ls hl => ?_)
  refine lv_goto (tgt := 23) hx hb dL_law_1005 (by decide) ?_
  refine lv_iload hx hb dL_law_23 (lv_at hl 0 rfl) ?_
  refine lv_aload_n hx hb dL_law_25 rfl (lv_at hl 3 rfl) ?_
  refine va_slen hx hb hXs hbl hbA hS dL_law_26 ?_
  refine cz_ti (w := 6) (by decide +kernel) ?_
  refine lv_bipush (v := 6) hx hb dL_law_27 (by decide +kernel) ?_
  refine lv_isub hx hb dL_law_29 ?_
  refine cz_ti (w := 0) (by decide +kernel) ?_
  refine lv_icmp_gt (tgt := 1008) hx hb dL_law_30 (by decide) (fun _ => ?_) (fun q => absurd (by decide +kernel) (q))
  refine lv_iconst (v := 1) hx hb dL_law_1008 (by decide +kernel) ?_
  refine va_forget (hfA hS.2.2) ?_
  refine W.widen (k := 600002) (n := 7302232) (Nat.le_of_ble_eq_true rfl) (Nat.le_of_ble_eq_true rfl) ?_
  exact lw_ret hx hb hr hlocks dL_law_1009

set_option maxHeartbeats 4000000 in
set_option maxRecDepth 100000 in
theorem law_2_0 {p : Program} {l : Launch} {e : Env} {s : State} {m : MethodId} {below : List Frame} {meth : Method} {c : Code} {G : va_G} {k : Nat → ClassId} {b : Nat} {xs : Nat → Int32} {H : Heap} {locs : List Loc} {ls : Array Slot} {b0 : Nat} {n0 : Nat} {o : Nat} {v3 : Value} {v4 : Value} {v5 : Value} {v6 : Value} {v7 : Value} {v8 : Value} {v9 : Value} {v10 : Value} {v11 : Value} {v12 : Value} {v13 : Value} {v14 : Value} {v15 : Value} {v16 : Value} {v17 : Value} {v18 : Value} {v19 : Value} {v20 : Value} {v21 : Value} {v22 : Value} {v23 : Value} {v24 : Value} {v25 : Value} {v26 : Value} {v27 : Value} {v28 : Value} {v29 : Value} {v30 : Value} {v31 : Value} {v32 : Value} {v33 : Value} {v34 : Value} {v35 : Value} {v36 : Value} {v37 : Value} {v38 : Value} {v39 : Value} {v40 : Value} {v41 : Value} {v42 : Value} {v43 : Value} {v44 : Value} {v45 : Value} {v46 : Value} {v47 : Value} {v48 : Value} {v49 : Value} {v50 : Value} {v51 : Value} {v52 : Value} {v53 : Value} {v54 : Value} {v55 : Value} {v56 : Value} {v57 : Value} {v58 : Value} {v59 : Value} {v60 : Value} {v61 : Value} {v62 : Value} {v63 : Value} {v64 : Value} {v65 : Value} {v66 : Value} {v67 : Value} {v68 : Value} {v69 : Value} {v70 : Value} {v71 : Value} {v72 : Value} {v73 : Value} {v74 : Value} {v75 : Value} {v76 : Value} {v77 : Value} {v78 : Value} {v79 : Value} {v80 : Value} {v81 : Value} {v82 : Value} (C0 : lw_At p s m meth c b 6 xs) (htr : l.stackTraces = false) (hX : KX G k s) (hT9 : TX s) (hZ : ZX k (fun q : Nat => s.heap.size ≤ q) s s.heap) (hP : va_P G vwCl [(b0, .inr (6, [v3, v4, .int (-1), v5, v6, v7, v8, v9, v10, v11, v12])), (n0, .inr (7, (v13 :: v14 :: v15 :: v16 :: v17 :: v18 :: v19 :: v20 :: v21 :: v22 :: v23 :: v24 :: v25 :: v26 :: v27 :: v28 :: v29 :: v30 :: v31 :: v32 :: v33 :: v34 :: v35 :: v36 :: v37 :: v38 :: .int (-1) :: v39 :: v40 :: v41 :: v42 :: v43 :: v44 :: v45 :: v46 :: v47 :: v48 :: v49 :: v50 :: v51 :: v52 :: v53 :: v54 :: v55 :: v56 :: v57 :: v58 :: v59 :: v60 :: v61 :: v62 :: v63 :: v64 :: v65 :: v66 :: v67 :: v68 :: v69 :: v70 :: v71 :: v72 :: v73 :: v74 :: v75 :: v76 :: v77 :: v78 :: v79 :: v80 :: v81 :: v82 :: [])))] H) (hD : va_D (fun q : Nat => s.heap.size ≤ q) [(b0, .inr (6, [v3, v4, .int (-1), v5, v6, v7, v8, v9, v10, v11, v12])), (n0, .inr (7, (v13 :: v14 :: v15 :: v16 :: v17 :: v18 :: v19 :: v20 :: v21 :: v22 :: v23 :: v24 :: v25 :: v26 :: v27 :: v28 :: v29 :: v30 :: v31 :: v32 :: v33 :: v34 :: v35 :: v36 :: v37 :: v38 :: .int (-1) :: v39 :: v40 :: v41 :: v42 :: v43 :: v44 :: v45 :: v46 :: v47 :: v48 :: v49 :: v50 :: v51 :: v52 :: v53 :: v54 :: v55 :: v56 :: v57 :: v58 :: v59 :: v60 :: v61 :: v62 :: v63 :: v64 :: v65 :: v66 :: v67 :: v68 :: v69 :: v70 :: v71 :: v72 :: v73 :: v74 :: v75 :: v76 :: v77 :: v78 :: v79 :: v80 :: v81 :: v82 :: [])))]) (hS : va_S (fun q : Nat => s.heap.size ≤ q) s.heap H locs) (hl : lv_has ls 7 [(4, .int 0), (0, .ref b), (1, .ref b0), (2, .ref n0), (3, .ref o)]) : W p l e room_1 s m #[Value.ref b] below meth c H locs 92 31361 (lw_Z below #[Value.ref b] s) (F0 m 269 ls []) := by
  obtain ⟨hx, hb, hr, hml, hown, hts0, hXs, hbl, hlocks, hgv⟩ := C0
  have hts := fun w h => hts0 w (wsL_law_in w h)
  obtain ⟨A, hAe⟩ : ∃ z : Nat → Prop, z = (fun q : Nat => s.heap.size ≤ q) := ⟨_, rfl⟩
  have hA : ∀ q : Nat, s.heap.size ≤ q → A q := fun q h => by rw [hAe]; exact h
  have hbA : ¬ A b := by rw [hAe]; exact Nat.not_le.mpr hbl
  have hfA : ∀ {locs : List Loc}, (∀ q ∈ locs, A q.base) → ∀ q ∈ locs, s.heap.size ≤ q.base := fun h q hq => by have h9 := h q hq; rw [hAe] at h9; exact h9
  rw [← hAe] at hZ hD hS
  refine lv_aload_n hx hb dL_law_269 rfl (lv_at hl 2 rfl) ?_
  refine cz_i (wr := [(n0, .inr (7, (v13 :: v14 :: v15 :: v16 :: v17 :: v18 :: v19 :: v20 :: v21 :: v22 :: v23 :: v24 :: v25 :: v26 :: v27 :: v28 :: v29 :: v30 :: v31 :: v32 :: v33 :: v34 :: v35 :: v36 :: v37 :: v38 :: .int (-1) :: v39 :: v40 :: v41 :: v42 :: v43 :: v44 :: v45 :: v46 :: v47 :: v48 :: v49 :: v50 :: v51 :: v52 :: v53 :: v54 :: v55 :: v56 :: v57 :: v58 :: v59 :: v60 :: v61 :: v62 :: v63 :: v64 :: v65 :: v66 :: v67 :: v68 :: v69 :: v70 :: v71 :: v72 :: v73 :: v74 :: v75 :: v76 :: v77 :: v78 :: v79 :: v80 :: v81 :: v82 :: [])))]) (va_runV (As := []) (rest := []) ⟨hx, hb, hml, hown, hts⟩ (cX9_fault_0 l G k b0 v3 v4 v5 v6 v7 v8 v9 v10 v11 v12 H.size) (cwV 0 hts gL_law_X9_fault rfl rfl rfl (by decide +kernel) ⟨Nat.le_of_ble_eq_true rfl, Nat.le_of_ble_eq_true rfl⟩) (cz_preV hZ hS hX hP hD [0] rfl rfl (ci := 6) (q0 := 0) rfl rfl) rfl rfl hl.1 rfl (lv_room (Nat.le_of_ble_eq_true rfl)) dL_law_270 ⟨Nat.le_of_ble_eq_true rfl, Nat.le_of_ble_eq_true rfl⟩) hP hD hS hA [0] [1] rfl rfl (by decide) (by decide) (fun r u H locs hp hP hD hS => ?_)
  have hp : r = (-1) := hp
  subst hp
  refine lv_aload_n hx hb dL_law_273 rfl (lv_at hl 3 rfl) ?_
  refine cz_i (wr := [(b0, .inr (6, [v3, v4, .int (-1), v5, v6, v7, v8, v9, v10, v11, v12]))]) (va_runV (As := []) (rest := [.int (-1)]) ⟨hx, hb, hml, hown, hts⟩ (cX10_fault_0 l G k n0 v13 v14 v15 v16 v17 v18 v19 v20 v21 v22 v23 v24 v25 v26 v27 v28 v29 v30 v31 v32 v33 v34 v35 v36 v37 v38 v39 v40 v41 v42 v43 v44 v45 v46 v47 v48 v49 v50 v51 v52 v53 v54 v55 v56 v57 v58 v59 v60 v61 v62 v63 v64 v65 v66 v67 v68 v69 v70 v71 v72 v73 v74 v75 v76 v77 v78 v79 v80 v81 v82 H.size) (cwV 0 hts gL_law_X10_fault rfl rfl rfl (by decide +kernel) ⟨Nat.le_of_ble_eq_true rfl, Nat.le_of_ble_eq_true rfl⟩) (cz_preV hZ hS hX hP hD [0] rfl rfl (ci := 7) (q0 := 0) rfl rfl) rfl rfl hl.1 rfl (lv_room (Nat.le_of_ble_eq_true rfl)) dL_law_274 ⟨Nat.le_of_ble_eq_true rfl, Nat.le_of_ble_eq_true rfl⟩) hP hD hS hA [0] [1] rfl rfl (by decide) (by decide) (fun r u H locs hp hP hD hS => ?_)
  have hp : r = (-1) := hp
  subst hp
  refine lv_icmp_eq (tgt := 1002) hx hb dL_law_277 (by decide) (fun _ => ?_) (fun q => absurd (by decide +kernel) (q))
  refine lv_iinc (v := 6) (lv' := [(4, .int 6), (0, .ref b), (1, .ref b0), (2, .ref n0), (3, .ref o)]) hx hb dL_law_1002 hl (k := 0) rfl (by decide +kernel) (by decide) rfl (fun ls hl => ?_)
  refine lv_goto (tgt := 23) hx hb dL_law_1005 (by decide) ?_
  refine lv_iload hx hb dL_law_23 (lv_at hl 0 rfl) ?_
  refine lv_aload_n hx hb dL_law_25 rfl (lv_at hl 1 rfl) ?_
  refine va_slen hx hb hXs hbl hbA hS dL_law_26 ?_
  refine cz_ti (w := 6) (by decide +kernel) ?_
  refine lv_bipush (v := 6) hx hb dL_law_27 (by decide +kernel) ?_
  refine lv_isub hx hb dL_law_29 ?_
  refine cz_ti (w := 0) (by decide +kernel) ?_
  refine lv_icmp_gt (tgt := 1008) hx hb dL_law_30 (by decide) (fun _ => ?_) (fun q => absurd (by decide +kernel) (q))
  refine lv_iconst (v := 1) hx hb dL_law_1008 (by decide +kernel) ?_
  refine va_forget (hfA hS.2.2) ?_
  refine W.widen (k := 600002) (n := 7302232) (Nat.le_of_ble_eq_true rfl) (Nat.le_of_ble_eq_true rfl) ?_
  exact lw_ret hx hb hr hlocks dL_law_1009

