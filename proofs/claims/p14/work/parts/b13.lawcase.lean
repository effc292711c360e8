set_option maxHeartbeats 16000000 in
set_option maxRecDepth 100000 in
theorem lw2_0 {p : Program} {l : Launch} {e : Env} {s : State} {m : MethodId} {below : List Frame} {meth : Method} {c : Code} {G : va_G} {k : Nat → ClassId} {b L : Nat} {xs : Nat → Int32} {A : Nat → Prop} (C0 : lw_At p s m meth c b L xs) (htr : l.stackTraces = false) (hX : KX G k s) (hT9 : TX s) (hZ : EZ k A s s.heap) (hA : ∀ q : Nat, s.heap.size ≤ q → A q) (hbA : ¬ A b) (hL : L ≤ 384) {H : Heap} {locs : List Loc} {ls : Array Slot} (arT : Nat → Nat) (fiT : Nat → Int) (faT : Nat → Int → Int) (arY : Nat → Nat) (fiY : Nat → Int) (faY : Nat → Int → Int) (arP : Nat → Nat) (fiP : Nat → Int) (faP : Nat → Int → Int) (arD : Nat → Nat) (fiD : Nat → Int) (faD : Nat → Int → Int) (arB : Nat → Nat) (fiB : Nat → Int) (faB : Nat → Int → Int) (arK : Nat → Nat) (fiK : Nat → Int) (faK : Nat → Int → Int) (arS : Nat → Nat) (plS : Nat) (fiS : Nat → Int) (faS : Nat → Int → Int) (arR : Nat → Nat) (plR : Nat) (txR : Nat) (fiR : Nat → Int) (faR : Nat → Int → Int) (arM : Nat → Nat) (fiM : Nat → Int) (faM : Nat → Int → Int) (flM : Nat → Int64) (arO : Nat → Nat) (fiO : Nat → Int) (faO : Nat → Int → Int) (flO : Nat → Int64) {cN sN : Nat} (hcN : cN ≤ 500000) (hsN : sN ≤ 7000000) {x4 : Int} (h40 : 0 ≤ x4) (h41 : x4 + 6 ≤ L) (hI : LInv arT fiT faT arY fiY faY arP fiP faP arD fiD faD arB fiB faB arK fiK faK arS plS fiS faS arR plR txR fiR faR arM fiM faM flM arO fiO faO flO) (IH : ∀ (arT : Nat → Nat) (fiT : Nat → Int) (faT : Nat → Int → Int) (arY : Nat → Nat) (fiY : Nat → Int) (faY : Nat → Int → Int) (arP : Nat → Nat) (fiP : Nat → Int) (faP : Nat → Int → Int) (arD : Nat → Nat) (fiD : Nat → Int) (faD : Nat → Int → Int) (arB : Nat → Nat) (fiB : Nat → Int) (faB : Nat → Int → Int) (arK : Nat → Nat) (fiK : Nat → Int) (faK : Nat → Int → Int) (arS : Nat → Nat) (plS : Nat) (fiS : Nat → Int) (faS : Nat → Int → Int) (arR : Nat → Nat) (plR : Nat) (txR : Nat) (fiR : Nat → Int) (faR : Nat → Int → Int) (arM : Nat → Nat) (fiM : Nat → Int) (faM : Nat → Int → Int) (flM : Nat → Int64) (arO : Nat → Nat) (fiO : Nat → Int) (faO : Nat → Int → Int) (flO : Nat → Int64), LInv arT fiT faT arY fiY faY arP fiP faP arD fiD faD arB fiB faB arK fiK faK arS plS fiS faS arR plR txR fiR faR arM fiM faM flM arO fiO faO flO → ∀ (H : Heap) (locs : List Loc) (ls : Array Slot), va_P G vwCl ((wT k arT (arY 0) (arR 99) (arP 99) (arD 99) (arB 99) (arK 99) (arS 99) fiT faT) ++ ((wY k arY fiY faY) ++ ((wP k arP fiP faP) ++ ((wP k arD fiD faD) ++ ((wB k arB fiB faB) ++ ((wB k arK fiK faK) ++ ((wS k arS (plS) fiS faS) ++ ((wR k arR (plR) (txR) fiR faR) ++ ((wM k arM fiM faM flM) ++ (wO k arO fiO faO flO)))))))))) H → va_D A ((wT k arT (arY 0) (arR 99) (arP 99) (arD 99) (arB 99) (arK 99) (arS 99) fiT faT) ++ ((wY k arY fiY faY) ++ ((wP k arP fiP faP) ++ ((wP k arD fiD faD) ++ ((wB k arB fiB faB) ++ ((wB k arK fiK faK) ++ ((wS k arS (plS) fiS faS) ++ ((wR k arR (plR) (txR) fiR faR) ++ ((wM k arM fiM faM flM) ++ (wO k arO fiO faO flO)))))))))) → va_S A s.heap H locs → lv_has ls 7 [(4, .int (Int32.ofInt (x4 + 6))), (0, .ref b), (1, .ref (arT 99)), (2, .ref (arM 71)), (3, .ref (arO 0))] → W p l e room_1 s m #[Value.ref b] below meth c H locs (cN + 1) (sN + 6) (lw_Z below #[Value.ref b] s) (F0 m 23 ls [])) (hP : va_P G vwCl ((wT k arT (arY 0) (arR 99) (arP 99) (arD 99) (arB 99) (arK 99) (arS 99) fiT faT) ++ ((wY k arY fiY faY) ++ ((wP k arP fiP faP) ++ ((wP k arD fiD faD) ++ ((wB k arB fiB faB) ++ ((wB k arK fiK faK) ++ ((wS k arS (plS) fiS faS) ++ ((wR k arR (plR) (txR) fiR faR) ++ ((wM k arM fiM faM flM) ++ (wO k arO fiO faO flO)))))))))) H) (hD : va_D A ((wT k arT (arY 0) (arR 99) (arP 99) (arD 99) (arB 99) (arK 99) (arS 99) fiT faT) ++ ((wY k arY fiY faY) ++ ((wP k arP fiP faP) ++ ((wP k arD fiD faD) ++ ((wB k arB fiB faB) ++ ((wB k arK fiK faK) ++ ((wS k arS (plS) fiS faS) ++ ((wR k arR (plR) (txR) fiR faR) ++ ((wM k arM fiM faM flM) ++ (wO k arO fiO faO flO))))))))))) (hS : va_S A s.heap H locs) (hl : lv_has ls 7 [(4, .int (Int32.ofInt (x4))), (0, .ref b), (1, .ref (arT 99)), (2, .ref (arM 71)), (3, .ref (arO 0))]) : W p l e room_1 s m #[Value.ref b] below meth c H locs (cN) (sN) (lw_Z below #[Value.ref b] s) (F0 m 140 ls []) := by
  obtain ⟨hx, hb, hr, hml, hown, hts0, hXs, hbl, hlocks, hgv⟩ := C0
  have hts := lw_hts hts0
  obtain ⟨hRT, hRaT, hRY, hRaY, hB0Y, hRP, hRaP, hB8P, hB20P, hB21P, hRD, hRaD, hB8D, hB20D, hB21D, hRB, hRaB, hRK, hRaK, hRS, hRaS, hB5S, hB7S, hB8S, hB9S, hB10S, hRR, hRaR, hRM, hRaM, hRO, hRaO, iT, iP, iD, iB, iK, iS, iM, hRW, hPM, hPN, hTp, hPL, hRC, hBD, hST, hRoA, iDY, hKI⟩ := hI
  refine lv_aload_n hx hb dL_law_140 rfl (lv_at hl 2 rfl) ?_
  refine lv_aload_n hx hb dL_law_141 rfl (lv_at hl 1 rfl) ?_
  refine lv_iload hx hb dL_law_142 (lv_at hl 0 rfl) ?_
  refine lv_iconst (v := Int32.ofInt 1) hx hb dL_law_144 (by decide +kernel) ?_
  refine iv_add (x := x4) (y := 1) hx hb dL_law_145 ?_
  refine iv_sld hx hb hXs hbl hbA hS (z := (x4 + 1)) (by omega) (by omega) (by omega) dL_law_146 ?_
  refine iv_top (fun z1 ez1 => ?_)
  have rz1 : inR z1 := ez1 ▸ inR_v _
  refine lv_aload_n hx hb dL_law_147 rfl (lv_at hl 1 rfl) ?_
  refine lv_iload hx hb dL_law_148 (lv_at hl 0 rfl) ?_
  refine lv_iconst (v := Int32.ofInt 2) hx hb dL_law_150 (by decide +kernel) ?_
  refine iv_add (x := x4) (y := 2) hx hb dL_law_151 ?_
  refine iv_sld hx hb hXs hbl hbA hS (z := (x4 + 2)) (by omega) (by omega) (by omega) dL_law_152 ?_
  refine iv_top (fun z2 ez2 => ?_)
  have rz2 : inR z2 := ez2 ▸ inR_v _
  refine lv_aload_n hx hb dL_law_153 rfl (lv_at hl 1 rfl) ?_
  refine lv_iload hx hb dL_law_154 (lv_at hl 0 rfl) ?_
  refine lv_iconst (v := Int32.ofInt 3) hx hb dL_law_156 (by decide +kernel) ?_
  refine iv_add (x := x4) (y := 3) hx hb dL_law_157 ?_
  refine iv_sld hx hb hXs hbl hbA hS (z := (x4 + 3)) (by omega) (by omega) (by omega) dL_law_158 ?_
  refine iv_top (fun z3 ez3 => ?_)
  have rz3 : inR z3 := ez3 ▸ inR_v _
  refine lv_aload_n hx hb dL_law_159 rfl (lv_at hl 1 rfl) ?_
  refine lv_iload hx hb dL_law_160 (lv_at hl 0 rfl) ?_
  refine lv_iconst (v := Int32.ofInt 4) hx hb dL_law_162 (by decide +kernel) ?_
  refine iv_add (x := x4) (y := 4) hx hb dL_law_163 ?_
  refine iv_sld hx hb hXs hbl hbA hS (z := (x4 + 4)) (by omega) (by omega) (by omega) dL_law_164 ?_
  refine iv_top (fun z4 ez4 => ?_)
  have rz4 : inR z4 := ez4 ▸ inR_v _
  refine lv_aload_n hx hb dL_law_165 rfl (lv_at hl 1 rfl) ?_
  refine lv_iload hx hb dL_law_166 (lv_at hl 0 rfl) ?_
  refine lv_iconst (v := Int32.ofInt 5) hx hb dL_law_168 (by decide +kernel) ?_
  refine iv_add (x := x4) (y := 5) hx hb dL_law_169 ?_
  refine iv_sld hx hb hXs hbl hbA hS (z := (x4 + 5)) (by omega) (by omega) (by omega) dL_law_170 ?_
  refine iv_top (fun z5 ez5 => ?_)
  have rz5 : inR z5 := ez5 ▸ inR_v _
  refine cz_i (wr := ((wP k arP fiP faP) ++ ((wP k arD fiD faD) ++ ((wB k arB fiB faB) ++ ((wB k arK fiK faK) ++ ((wS k arS (plS) fiS faS) ++ ((wR k arR (plR) (txR) fiR faR) ++ ((wM k arM fiM faM flM) ++ (wO k arO fiO faO flO))))))))) (va_runV (As := [.int (Int32.ofInt (z1)), .int (Int32.ofInt (z2)), .int (Int32.ofInt (z3)), .int (Int32.ofInt (z4)), .int (Int32.ofInt (z5))]) (rest := []) ⟨hx, hb, hml, hown, hts⟩ (mX9_feed l G k arT (arR 99) (arP 99) (arD 99) (arB 99) (arK 99) (arS 99) fiT faT arY fiY faY z1 z2 z3 z4 z5 H.size hRT hRaT hRY hRaY hB0Y rz1 rz2 rz3 rz4 rz5 (show 0 ≤ (fiT 1) ∧ (fiT 1) ≤ 600 from by first | exact ⟨iT.1, iT.2.1⟩ | omega)) (cwV 5 hts (gz [.methodLink RL 46 yX9_feed, .instanceMethod yX9_feed, .selects RX9 yX9_feed yX9_feed, .initialized RX9] (.code yX9_feed cX9_feed 6 (some .int)) [(8, 0), (8, 1), (8, 2), (0, 2), (8, 3)] rfl) rfl rfl rfl (by decide +kernel) ⟨Nat.le_of_ble_eq_true rfl, Nat.le_of_ble_eq_true rfl⟩) (cy_preV (EZ_ok k) hZ hS hX hP hD hA [0, 1, 2] rfl rfl (ci := 6) (q0 := 0) rfl rfl) rfl rfl hl.1 rfl (lv_room (Nat.le_of_ble_eq_true rfl)) dL_law_171 ⟨(show cN + 0 ≤ 600128 from by omega), (show sN + 0 ≤ 7301098 from by omega)⟩) hP hD hS hA [0, 1, 2] [3, 4, 5, 6, 7, 8, 9, 10, 11, 12, 13, 14, 15, 16, 17, 18, 19, 20, 21, 22, 23, 24, 25, 26, 27, 28, 29, 30, 31, 32, 33, 34, 35, 36, 37, 38, 39, 40, 41, 42, 43, 44, 45, 46, 47, 48, 49, 50, 51, 52, 53, 54, 55, 56, 57, 58, 59, 60, 61, 62, 63, 64, 65, 66, 67, 68, 69, 70, 71, 72, 73, 74, 75, 76, 77, 78, 79, 80, 81, 82, 83, 84, 85, 86, 87, 88, 89, 90] rfl rfl (by decide) (by decide) (fun r u H locs hp hP hD hS => ?_)
  obtain ⟨c6, c7, c8⟩ := u
  obtain ⟨hP, hD⟩ : va_P G vwCl ((wP k arP fiP faP) ++ ((wP k arD fiD faD) ++ ((wB k arB fiB faB) ++ ((wB k arK fiK faK) ++ ((wS k arS (plS) fiS faS) ++ ((wR k arR (plR) (txR) fiR faR) ++ ((wM k arM fiM faM flM) ++ ((wO k arO fiO faO flO) ++ ((wT k arT (arY 0) (arR 99) (arP 99) (arD 99) (arB 99) (arK 99) (arS 99) (uF fiT 1 (c7)) faT) ++ (wY k arY fiY (uF faY 0 (c8)))))))))))) H ∧ va_D A ((wP k arP fiP faP) ++ ((wP k arD fiD faD) ++ ((wB k arB fiB faB) ++ ((wB k arK fiK faK) ++ ((wS k arS (plS) fiS faS) ++ ((wR k arR (plR) (txR) fiR faR) ++ ((wM k arM fiM faM flM) ++ ((wO k arO fiO faO flO) ++ ((wT k arT (arY 0) (arR 99) (arP 99) (arD 99) (arB 99) (arK 99) (arS 99) (uF fiT 1 (c7)) faT) ++ (wY k arY fiY (uF faY 0 (c8)))))))))))) := ⟨hP, hD⟩
  obtain ⟨hP, hD⟩ : va_P G vwCl ((wT k arT (arY 0) (arR 99) (arP 99) (arD 99) (arB 99) (arK 99) (arS 99) (uF fiT 1 (c7)) faT) ++ ((wY k arY fiY (uF faY 0 (c8))) ++ ((wP k arP fiP faP) ++ ((wP k arD fiD faD) ++ ((wB k arB fiB faB) ++ ((wB k arK fiK faK) ++ ((wS k arS (plS) fiS faS) ++ ((wR k arR (plR) (txR) fiR faR) ++ ((wM k arM fiM faM flM) ++ (wO k arO fiO faO flO)))))))))) H ∧ va_D A ((wT k arT (arY 0) (arR 99) (arP 99) (arD 99) (arB 99) (arK 99) (arS 99) (uF fiT 1 (c7)) faT) ++ ((wY k arY fiY (uF faY 0 (c8))) ++ ((wP k arP fiP faP) ++ ((wP k arD fiD faD) ++ ((wB k arB fiB faB) ++ ((wB k arK fiK faK) ++ ((wS k arS (plS) fiS faS) ++ ((wR k arR (plR) (txR) fiR faR) ++ ((wM k arM fiM faM flM) ++ (wO k arO fiO faO flO)))))))))) := re_ord hP hD [88, 89, 90, 0, 1, 2, 3, 4, 5, 6, 7, 8, 9, 10, 11, 12, 13, 14, 15, 16, 17, 18, 19, 20, 21, 22, 23, 24, 25, 26, 27, 28, 29, 30, 31, 32, 33, 34, 35, 36, 37, 38, 39, 40, 41, 42, 43, 44, 45, 46, 47, 48, 49, 50, 51, 52, 53, 54, 55, 56, 57, 58, 59, 60, 61, 62, 63, 64, 65, 66, 67, 68, 69, 70, 71, 72, 73, 74, 75, 76, 77, 78, 79, 80, 81, 82, 83, 84, 85, 86, 87] (by decide) rfl
  obtain ⟨h9, rc6, rc7, rc8, bc8, hp8⟩ : r = Int32.ofInt c6 ∧ (inR c6) ∧ (inR c7) ∧ (∀ t, inR (c8 t)) ∧ (bnd c8 600 (-128) 128) ∧ ((((fiT 1) ≤ 580 → c7 = (fiT 1) + 20 ∧ c6 = c7) ∧ (580 < (fiT 1) → c7 = (fiT 1) ∧ c6 = -1)) ∧ uT c8 = (if (fiT 1) ≤ 580 then fdW (uT ((faY 0))) ((fiT 1)) z1 z2 z3 z4 z5 else uT ((faY 0)))) := hp
  subst h9
  obtain ⟨hp8, hFc⟩ := hp8
  refine lv_pop hx hb dL_law_174 rfl ?_
  refine lv_aload_n hx hb dL_law_175 rfl (lv_at hl 3 rfl) ?_
  refine lv_aload_n hx hb dL_law_176 rfl (lv_at hl 1 rfl) ?_
  refine lv_iload hx hb dL_law_177 (lv_at hl 0 rfl) ?_
  refine lv_iconst (v := Int32.ofInt 1) hx hb dL_law_179 (by decide +kernel) ?_
  refine iv_add (x := x4) (y := 1) hx hb dL_law_180 ?_
  refine iv_sld hx hb hXs hbl hbA hS (z := (x4 + 1)) (by omega) (by omega) (by omega) dL_law_181 ?_
  rw [← ez1]
  refine lv_aload_n hx hb dL_law_182 rfl (lv_at hl 1 rfl) ?_
  refine lv_iload hx hb dL_law_183 (lv_at hl 0 rfl) ?_
  refine lv_iconst (v := Int32.ofInt 2) hx hb dL_law_185 (by decide +kernel) ?_
  refine iv_add (x := x4) (y := 2) hx hb dL_law_186 ?_
  refine iv_sld hx hb hXs hbl hbA hS (z := (x4 + 2)) (by omega) (by omega) (by omega) dL_law_187 ?_
  rw [← ez2]
  refine lv_aload_n hx hb dL_law_188 rfl (lv_at hl 1 rfl) ?_
  refine lv_iload hx hb dL_law_189 (lv_at hl 0 rfl) ?_
  refine lv_iconst (v := Int32.ofInt 3) hx hb dL_law_191 (by decide +kernel) ?_
  refine iv_add (x := x4) (y := 3) hx hb dL_law_192 ?_
  refine iv_sld hx hb hXs hbl hbA hS (z := (x4 + 3)) (by omega) (by omega) (by omega) dL_law_193 ?_
  rw [← ez3]
  refine lv_aload_n hx hb dL_law_194 rfl (lv_at hl 1 rfl) ?_
  refine lv_iload hx hb dL_law_195 (lv_at hl 0 rfl) ?_
  refine lv_iconst (v := Int32.ofInt 4) hx hb dL_law_197 (by decide +kernel) ?_
  refine iv_add (x := x4) (y := 4) hx hb dL_law_198 ?_
  refine iv_sld hx hb hXs hbl hbA hS (z := (x4 + 4)) (by omega) (by omega) (by omega) dL_law_199 ?_
  rw [← ez4]
  refine lv_aload_n hx hb dL_law_200 rfl (lv_at hl 1 rfl) ?_
  refine lv_iload hx hb dL_law_201 (lv_at hl 0 rfl) ?_
  refine lv_iconst (v := Int32.ofInt 5) hx hb dL_law_203 (by decide +kernel) ?_
  refine iv_add (x := x4) (y := 5) hx hb dL_law_204 ?_
  refine iv_sld hx hb hXs hbl hbA hS (z := (x4 + 5)) (by omega) (by omega) (by omega) dL_law_205 ?_
  rw [← ez5]
  refine cz_i (wr := ((wT k arT (arY 0) (arR 99) (arP 99) (arD 99) (arB 99) (arK 99) (arS 99) (uF fiT 1 (c7)) faT) ++ ((wY k arY fiY (uF faY 0 (c8))) ++ ((wP k arP fiP faP) ++ ((wP k arD fiD faD) ++ ((wB k arB fiB faB) ++ ((wB k arK fiK faK) ++ ((wS k arS (plS) fiS faS) ++ ((wR k arR (plR) (txR) fiR faR) ++ (wO k arO fiO faO flO)))))))))) (va_runV (As := [.int (Int32.ofInt (z1)), .int (Int32.ofInt (z2)), .int (Int32.ofInt (z3)), .int (Int32.ofInt (z4)), .int (Int32.ofInt (z5))]) (rest := []) ⟨hx, hb, hml, hown, hts⟩ (mX10_feed_t l G k arM fiM faM flM z1 z2 z3 z4 z5 H.size hRM hRaM rz1 rz2 rz3 rz4 rz5 (show 0 ≤ (fiM 17) from by omega) (show (fiM 17) ≤ 600 from by omega)) (cwV 5 hts (gz [.methodLink RL 50 yX10_feed, .instanceMethod yX10_feed, .selects RX10 yX10_feed yX10_feed, .initialized RX10] (.code yX10_feed cX10_feed 8 (some .int)) [(8, 8), (8, 9), (8, 10), (0, 5), (8, 11)] rfl) rfl rfl rfl (by decide +kernel) ⟨Nat.le_of_ble_eq_true rfl, Nat.le_of_ble_eq_true rfl⟩) (cy_preV (EZ_ok k) hZ hS hX hP hD hA [51, 52, 53, 54, 55, 56, 57, 58, 59, 60, 61, 62, 63, 64, 65, 66, 67, 68, 69, 70, 71, 72, 73, 74, 75, 76, 77, 78, 79, 80, 81, 82, 83, 84, 85, 86, 87, 88, 89] rfl rfl (ci := 7) (q0 := 51) rfl rfl) rfl rfl hl.1 rfl (lv_room (Nat.le_of_ble_eq_true rfl)) dL_law_206 ⟨(show cN + 0 + 0 ≤ 600128 from by omega), (show sN + 0 + 0 ≤ 7301098 from by omega)⟩) hP hD hS hA [51, 52, 53, 54, 55, 56, 57, 58, 59, 60, 61, 62, 63, 64, 65, 66, 67, 68, 69, 70, 71, 72, 73, 74, 75, 76, 77, 78, 79, 80, 81, 82, 83, 84, 85, 86, 87, 88, 89] [0, 1, 2, 3, 4, 5, 6, 7, 8, 9, 10, 11, 12, 13, 14, 15, 16, 17, 18, 19, 20, 21, 22, 23, 24, 25, 26, 27, 28, 29, 30, 31, 32, 33, 34, 35, 36, 37, 38, 39, 40, 41, 42, 43, 44, 45, 46, 47, 48, 49, 50, 90] rfl rfl (by decide) (by decide) (fun r u H locs hp hP hD hS => ?_)
  obtain ⟨c9, c10, c11, c12⟩ := u
  obtain ⟨hP, hD⟩ : va_P G vwCl ((wT k arT (arY 0) (arR 99) (arP 99) (arD 99) (arB 99) (arK 99) (arS 99) (uF fiT 1 (c7)) faT) ++ ((wY k arY fiY (uF faY 0 (c8))) ++ ((wP k arP fiP faP) ++ ((wP k arD fiD faD) ++ ((wB k arB fiB faB) ++ ((wB k arK fiK faK) ++ ((wS k arS (plS) fiS faS) ++ ((wR k arR (plR) (txR) fiR faR) ++ ((wO k arO fiO faO flO) ++ (wM k arM (uF (uF fiM 2 (c11)) 17 (c12)) (uF faM 16 (c10)) flM)))))))))) H ∧ va_D A ((wT k arT (arY 0) (arR 99) (arP 99) (arD 99) (arB 99) (arK 99) (arS 99) (uF fiT 1 (c7)) faT) ++ ((wY k arY fiY (uF faY 0 (c8))) ++ ((wP k arP fiP faP) ++ ((wP k arD fiD faD) ++ ((wB k arB fiB faB) ++ ((wB k arK fiK faK) ++ ((wS k arS (plS) fiS faS) ++ ((wR k arR (plR) (txR) fiR faR) ++ ((wO k arO fiO faO flO) ++ (wM k arM (uF (uF fiM 2 (c11)) 17 (c12)) (uF faM 16 (c10)) flM)))))))))) := ⟨hP, hD⟩
  obtain ⟨hP, hD⟩ : va_P G vwCl ((wT k arT (arY 0) (arR 99) (arP 99) (arD 99) (arB 99) (arK 99) (arS 99) (uF fiT 1 (c7)) faT) ++ ((wY k arY fiY (uF faY 0 (c8))) ++ ((wP k arP fiP faP) ++ ((wP k arD fiD faD) ++ ((wB k arB fiB faB) ++ ((wB k arK fiK faK) ++ ((wS k arS (plS) fiS faS) ++ ((wR k arR (plR) (txR) fiR faR) ++ ((wM k arM (uF (uF fiM 2 (c11)) 17 (c12)) (uF faM 16 (c10)) flM) ++ (wO k arO fiO faO flO)))))))))) H ∧ va_D A ((wT k arT (arY 0) (arR 99) (arP 99) (arD 99) (arB 99) (arK 99) (arS 99) (uF fiT 1 (c7)) faT) ++ ((wY k arY fiY (uF faY 0 (c8))) ++ ((wP k arP fiP faP) ++ ((wP k arD fiD faD) ++ ((wB k arB fiB faB) ++ ((wB k arK fiK faK) ++ ((wS k arS (plS) fiS faS) ++ ((wR k arR (plR) (txR) fiR faR) ++ ((wM k arM (uF (uF fiM 2 (c11)) 17 (c12)) (uF faM 16 (c10)) flM) ++ (wO k arO fiO faO flO)))))))))) := re_ord hP hD [0, 1, 2, 3, 4, 5, 6, 7, 8, 9, 10, 11, 12, 13, 14, 15, 16, 17, 18, 19, 20, 21, 22, 23, 24, 25, 26, 27, 28, 29, 30, 31, 32, 33, 34, 35, 36, 37, 38, 39, 40, 41, 42, 43, 44, 45, 46, 47, 48, 49, 50, 52, 53, 54, 55, 56, 57, 58, 59, 60, 61, 62, 63, 64, 65, 66, 67, 68, 69, 70, 71, 72, 73, 74, 75, 76, 77, 78, 79, 80, 81, 82, 83, 84, 85, 86, 87, 88, 89, 90, 51] (by decide) rfl
  obtain ⟨h9, rc9, rc10, rc11, rc12, hp12⟩ : r = Int32.ofInt c9 ∧ (inR c9) ∧ (∀ t, inR (c10 t)) ∧ (inR c11) ∧ (inR c12) ∧ ((c11 = 0 ∧ ((fiM 17) ≤ 580 → c12 = (fiM 17) + 20 ∧ c9 = c12) ∧ (580 < (fiM 17) → c12 = (fiM 17) ∧ c9 = -1)) ∧ c10 = (if (fiM 17) ≤ 580 then fdW ((faM 16)) ((fiM 17)) z1 z2 z3 z4 z5 else (faM 16))) := hp
  subst h9
  obtain ⟨hp12, hFm⟩ := hp12
  refine lv_pop hx hb dL_law_209 rfl ?_
  refine lv_goto (tgt := 778) hx hb dL_law_210 (by decide) ?_
  refine lv_iinc (v := Int32.ofInt (x4 + 6)) (lv' := [(4, .int (Int32.ofInt ((x4 + 6)))), (0, .ref (b)), (1, .ref (arT 99)), (2, .ref (arM 71)), (3, .ref (arO 0))]) hx hb dL_law_778 hl (k := 0) rfl (Int32.ofInt_add _ _).symm (by decide) rfl (fun ls hl => ?_)
  refine lv_goto (tgt := 23) hx hb dL_law_781 (by decide) ?_
  have hl : lv_has ls 7 [(4, .int (Int32.ofInt ((x4 + 6)))), (0, .ref (b)), (1, .ref (arT 99)), (2, .ref (arM 71)), (3, .ref (arO 0))] := lv_sub hl [0, 1, 2, 3, 4] rfl
  refine W.widen (k := cN + 1) (n := sN + 6) (show cN + 0 + 0 ≤ cN + 1 from by omega) (show sN + 0 + 0 ≤ sN + 6 from by omega) ?_
  exact IH arT (uF fiT 1 (c7)) faT arY fiY (uF faY 0 (c8)) arP fiP faP arD fiD faD arB fiB faB arK fiK faK arS plS fiS faS arR plR txR fiR faR arM (uF (uF fiM 2 (c11)) 17 (c12)) (uF faM 16 (c10)) flM arO fiO faO flO ⟨(iF hRT rc7), hRaT, hRY, (iG hRaY rc8), bc8, hRP, hRaP, hB8P, hB20P, hB21P, hRD, hRaD, hB8D, hB20D, hB21D, hRB, hRaB, hRK, hRaK, hRS, hRaS, hB5S, hB7S, hB8S, hB9S, hB10S, hRR, hRaR, (iF (iF hRM rc11) rc12), (iG hRaM rc10), hRO, hRaO, ⟨(show 0 ≤ c7 from by omega), (show c7 ≤ 600 from by omega), iT.2.2.1, (show c7 = c12 from by omega), iT.2.2.2.2.1, iT.2.2.2.2.2⟩, iP, iD, iB, iK, iS, iM, hRW, hPM, hPN, (show ∀ t, c10 t = c8 t % 256 from by exact fd_inv hTp iT.2.2.2.1 (by omega) (by omega) (by omega) (by omega) (by omega) hFc hFm), hPL, hRC, hBD, hST, hRoA, iDY, hKI⟩ H locs ls hP hD hS hl
