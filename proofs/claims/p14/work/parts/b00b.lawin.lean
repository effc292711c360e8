theorem wsL_j90 : ∀ w ∈ wsX90, w ∈ lw_tbl := by decide +kernel
theorem wsL_j100 : ∀ w ∈ wsX100, w ∈ lw_tbl := by decide +kernel
theorem wsL_j30 : ∀ w ∈ wsX30, w ∈ lw_tbl := by decide +kernel
theorem wsL_j20 : ∀ w ∈ wsX20, w ∈ lw_tbl := by decide +kernel
theorem wsL_j10 : ∀ w ∈ wsX10, w ∈ lw_tbl := by decide +kernel
theorem wsL_j60 : ∀ w ∈ wsX60, w ∈ lw_tbl := by decide +kernel
theorem wsL_j50 : ∀ w ∈ wsX50, w ∈ lw_tbl := by decide +kernel
theorem wsL_j40 : ∀ w ∈ wsX40, w ∈ lw_tbl := by decide +kernel
theorem wsL_law_in0 : ∀ w ∈ wsL_law0, w ∈ lw_tbl := app_in (app_in (app_in (app_in (app_in (app_in (app_in (app_in (app_in (app_in wsL_i1 (app_in wsL_i2 (app_in wsL_i3 (app_in wsL_i4 (app_in wsL_i5 (app_in wsL_i6 (app_in wsL_i7 (app_in wsL_i8 (app_in wsL_i9 (app_in wsL_i10 (app_in wsL_i11 (app_in wsL_i12 (app_in wsL_i13 (app_in wsL_i14 (app_in wsL_i15 (app_in wsL_i16 (app_in wsL_i17 (app_in wsL_i18 (app_in wsL_i19 (app_in wsL_i20 (app_in wsL_i21 (app_in wsL_i22 (app_in wsL_i23 (app_in wsL_i24 (app_in wsL_i25 (app_in wsL_i26 (app_in wsL_i27 (app_in wsL_i28 (app_in wsL_i29 (app_in wsL_i30 (app_in wsL_i31 (app_in wsL_i32 (app_in wsL_i33 (app_in wsL_i34 (app_in wsL_i35 (app_in wsL_i36 (app_in wsL_i37 (app_in wsL_i38 (app_in wsL_i39 (app_in wsL_i40 (app_in wsL_i41 (app_in wsL_i42 wsL_i43)))))))))))))))))))))))))))))))))))))))))) wsL_j90) wsL_j100) wsL_j30) wsL_j20) wsL_j10) wsL_j60) wsL_j50) wsL_j40) (fun _ h => absurd h List.not_mem_nil)
theorem wsL_law_x0 : ∀ w ∈ (vx_atS RX9 79 "java/lang/IllegalArgumentException" ["java/lang/RuntimeException", "java/lang/Exception"]).filter goodWord, w ∈ lw_tbl := by decide +kernel
theorem wsL_law_x1 : ∀ w ∈ (ns_at RX9 148).filter goodWord, w ∈ lw_tbl := by decide +kernel
theorem wsL_law_in : ∀ w ∈ wsL_law, w ∈ lw_tbl := fun w h => (List.mem_append.mp h).elim (fun h => (List.mem_append.mp h).elim (fun h => wsL_law_in0 w h) (fun h => wsL_law_x0 w h)) (fun h => wsL_law_x1 w h)
theorem inX0 : ∀ w ∈ wsX00, w ∈ lw_tbl := by decide +kernel
theorem inX1 : ∀ w ∈ wsX10, w ∈ lw_tbl := fun w h => wsL_law_in w (inlX1 w h)
theorem inX2 : ∀ w ∈ wsX20, w ∈ lw_tbl := fun w h => wsL_law_in w (inlX2 w h)
theorem inX3 : ∀ w ∈ wsX30, w ∈ lw_tbl := fun w h => wsL_law_in w (inlX3 w h)
theorem inX4 : ∀ w ∈ wsX40, w ∈ lw_tbl := fun w h => wsL_law_in w (inlX4 w h)
theorem inX5 : ∀ w ∈ wsX50, w ∈ lw_tbl := fun w h => wsL_law_in w (inlX5 w h)
theorem inX6 : ∀ w ∈ wsX60, w ∈ lw_tbl := fun w h => wsL_law_in w (inlX6 w h)
theorem inX7 : ∀ w ∈ wsX70, w ∈ lw_tbl := by decide +kernel
theorem inX8 : ∀ w ∈ wsX80, w ∈ lw_tbl := by decide +kernel
theorem inX9 : ∀ w ∈ wsX90, w ∈ lw_tbl := fun w h => wsL_law_in w (inlX9 w h)
theorem inX10 : ∀ w ∈ wsX100, w ∈ lw_tbl := fun w h => wsL_law_in w (inlX10 w h)

