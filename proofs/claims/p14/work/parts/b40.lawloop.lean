set_option maxHeartbeats 16000000 in
set_option maxRecDepth 100000 in
theorem law_loop {p : Program} {l : Launch} {e : Env} {s : State} {m : MethodId} {below : List Frame} {meth : Method} {c : Code} {G : va_G} {k : Nat → ClassId} {b L : Nat} {xs : Nat → Int32} {A : Nat → Prop} (C0 : lw_At p s m meth c b L xs) (htr : l.stackTraces = false) (hX : KX G k s) (hT9 : TX s) (hZ : EZ k A s s.heap) (hA : ∀ q : Nat, s.heap.size ≤ q → A q) (hbA : ¬ A b) (hL : L ≤ 384) (hA2 : ∀ q : Nat, A q → s.heap.size ≤ q) : ∀ (n : Nat) (x4 : Int), 0 ≤ x4 → (L : Int) - x4 ≤ 6 * n → x4 ≤ 1000 → ∀ (cN sN : Nat), cN + n ≤ 500000 → sN + 6 * n ≤ 7000000 → ∀ (arT : Nat → Nat) (fiT : Nat → Int) (faT : Nat → Int → Int) (arY : Nat → Nat) (fiY : Nat → Int) (faY : Nat → Int → Int) (arP : Nat → Nat) (fiP : Nat → Int) (faP : Nat → Int → Int) (arD : Nat → Nat) (fiD : Nat → Int) (faD : Nat → Int → Int) (arB : Nat → Nat) (fiB : Nat → Int) (faB : Nat → Int → Int) (arK : Nat → Nat) (fiK : Nat → Int) (faK : Nat → Int → Int) (arS : Nat → Nat) (plS : Nat) (fiS : Nat → Int) (faS : Nat → Int → Int) (arR : Nat → Nat) (plR : Nat) (txR : Nat) (fiR : Nat → Int) (faR : Nat → Int → Int) (arM : Nat → Nat) (fiM : Nat → Int) (faM : Nat → Int → Int) (flM : Nat → Int64) (arO : Nat → Nat) (fiO : Nat → Int) (faO : Nat → Int → Int) (flO : Nat → Int64), LInv arT fiT faT arY fiY faY arP fiP faP arD fiD faD arB fiB faB arK fiK faK arS plS fiS faS arR plR txR fiR faR arM fiM faM flM arO fiO faO flO → ∀ (H : Heap) (locs : List Loc) (ls : Array Slot), va_P G vwCl ((wT k arT (arY 0) (arR 99) (arP 99) (arD 99) (arB 99) (arK 99) (arS 99) fiT faT) ++ ((wY k arY fiY faY) ++ ((wP k arP fiP faP) ++ ((wP k arD fiD faD) ++ ((wB k arB fiB faB) ++ ((wB k arK fiK faK) ++ ((wS k arS (plS) fiS faS) ++ ((wR k arR (plR) (txR) fiR faR) ++ ((wM k arM fiM faM flM) ++ (wO k arO fiO faO flO)))))))))) H → va_D A ((wT k arT (arY 0) (arR 99) (arP 99) (arD 99) (arB 99) (arK 99) (arS 99) fiT faT) ++ ((wY k arY fiY faY) ++ ((wP k arP fiP faP) ++ ((wP k arD fiD faD) ++ ((wB k arB fiB faB) ++ ((wB k arK fiK faK) ++ ((wS k arS (plS) fiS faS) ++ ((wR k arR (plR) (txR) fiR faR) ++ ((wM k arM fiM faM flM) ++ (wO k arO fiO faO flO)))))))))) → va_S A s.heap H locs → lv_has ls 7 [(4, .int (Int32.ofInt (x4))), (0, .ref b), (1, .ref (arT 99)), (2, .ref (arM 71)), (3, .ref (arO 0))] → W p l e room_1 s m #[Value.ref b] below meth c H locs (cN) (sN) (lw_Z below #[Value.ref b] s) (F0 m 23 ls []) := by
  intro n
  induction n with
  | zero =>
    intro x4 h40 hn h44 cN sN hcN hsN arT fiT faT arY fiY faY arP fiP faP arD fiD faD arB fiB faB arK fiK faK arS plS fiS faS arR plR txR fiR faR arM fiM faM flM arO fiO faO flO hI H locs ls hP hD hS hl
    obtain ⟨hx, hb, hr, hml, hown, hts0, hXs, hbl, hlocks, hgv⟩ := id C0
    refine lv_iload hx hb dL_law_23 (lv_at hl 0 rfl) ?_
    refine lv_aload_n hx hb dL_law_25 rfl (lv_at hl 1 rfl) ?_
    refine va_slen hx hb hXs hbl hbA hS dL_law_26 ?_
    rw [ofn_ L]
    refine lv_bipush (v := Int32.ofInt 6) hx hb dL_law_27 (by decide +kernel) ?_
    refine iv_sub (x := (L : Int)) (y := 6) hx hb dL_law_29 ?_
    refine iv_icmp_gt (tgt := 784) hx hb (by omega) (by omega) dL_law_30 (by decide) (fun q1 => ?_) (fun q1 => absurd q1 (by omega))
    refine lv_iconst (v := 1) hx hb dL_law_784 (by decide +kernel) ?_
    refine va_forget (fun q hq => hA2 _ (hS.2.2 q hq)) ?_
    refine W.widen (k := 600128) (n := 7301098) (by omega) (by omega) ?_
    exact lw_ret hx hb hr hlocks dL_law_785
  | succ n ih =>
    intro x4 h40 hn h44 cN sN hcN hsN arT fiT faT arY fiY faY arP fiP faP arD fiD faD arB fiB faB arK fiK faK arS plS fiS faS arR plR txR fiR faR arM fiM faM flM arO fiO faO flO hI H locs ls hP hD hS hl
    obtain ⟨hx, hb, hr, hml, hown, hts0, hXs, hbl, hlocks, hgv⟩ := id C0
    refine lv_iload hx hb dL_law_23 (lv_at hl 0 rfl) ?_
    refine lv_aload_n hx hb dL_law_25 rfl (lv_at hl 1 rfl) ?_
    refine va_slen hx hb hXs hbl hbA hS dL_law_26 ?_
    rw [ofn_ L]
    refine lv_bipush (v := Int32.ofInt 6) hx hb dL_law_27 (by decide +kernel) ?_
    refine iv_sub (x := (L : Int)) (y := 6) hx hb dL_law_29 ?_
    refine iv_icmp_gt (tgt := 784) hx hb (by omega) (by omega) dL_law_30 (by decide) (fun q1 => ?_) (fun q1 => ?_)
    · refine lv_iconst (v := 1) hx hb dL_law_784 (by decide +kernel) ?_
      refine va_forget (fun q hq => hA2 _ (hS.2.2 q hq)) ?_
      refine W.widen (k := 600128) (n := 7301098) (by omega) (by omega) ?_
      exact lw_ret hx hb hr hlocks dL_law_785
    · have IH : ∀ (arT : Nat → Nat) (fiT : Nat → Int) (faT : Nat → Int → Int) (arY : Nat → Nat) (fiY : Nat → Int) (faY : Nat → Int → Int) (arP : Nat → Nat) (fiP : Nat → Int) (faP : Nat → Int → Int) (arD : Nat → Nat) (fiD : Nat → Int) (faD : Nat → Int → Int) (arB : Nat → Nat) (fiB : Nat → Int) (faB : Nat → Int → Int) (arK : Nat → Nat) (fiK : Nat → Int) (faK : Nat → Int → Int) (arS : Nat → Nat) (plS : Nat) (fiS : Nat → Int) (faS : Nat → Int → Int) (arR : Nat → Nat) (plR : Nat) (txR : Nat) (fiR : Nat → Int) (faR : Nat → Int → Int) (arM : Nat → Nat) (fiM : Nat → Int) (faM : Nat → Int → Int) (flM : Nat → Int64) (arO : Nat → Nat) (fiO : Nat → Int) (faO : Nat → Int → Int) (flO : Nat → Int64), LInv arT fiT faT arY fiY faY arP fiP faP arD fiD faD arB fiB faB arK fiK faK arS plS fiS faS arR plR txR fiR faR arM fiM faM flM arO fiO faO flO → ∀ (H : Heap) (locs : List Loc) (ls : Array Slot), va_P G vwCl ((wT k arT (arY 0) (arR 99) (arP 99) (arD 99) (arB 99) (arK 99) (arS 99) fiT faT) ++ ((wY k arY fiY faY) ++ ((wP k arP fiP faP) ++ ((wP k arD fiD faD) ++ ((wB k arB fiB faB) ++ ((wB k arK fiK faK) ++ ((wS k arS (plS) fiS faS) ++ ((wR k arR (plR) (txR) fiR faR) ++ ((wM k arM fiM faM flM) ++ (wO k arO fiO faO flO)))))))))) H → va_D A ((wT k arT (arY 0) (arR 99) (arP 99) (arD 99) (arB 99) (arK 99) (arS 99) fiT faT) ++ ((wY k arY fiY faY) ++ ((wP k arP fiP faP) ++ ((wP k arD fiD faD) ++ ((wB k arB fiB faB) ++ ((wB k arK fiK faK) ++ ((wS k arS (plS) fiS faS) ++ ((wR k arR (plR) (txR) fiR faR) ++ ((wM k arM fiM faM flM) ++ (wO k arO fiO faO flO)))))))))) → va_S A s.heap H locs → lv_has ls 7 [(4, .int (Int32.ofInt (x4 + 6))), (0, .ref b), (1, .ref (arT 99)), (2, .ref (arM 71)), (3, .ref (arO 0))] → W p l e room_1 s m #[Value.ref b] below meth c H locs (cN + 1) (sN + 6) (lw_Z below #[Value.ref b] s) (F0 m 23 ls []) := ih (x4 + 6) (by omega) (by omega) (by omega) (cN + 1) (sN + 6) (by omega) (by omega)
      refine lv_aload_n hx hb dL_law_33 rfl (lv_at hl 1 rfl) ?_
      refine lv_iload hx hb dL_law_34 (lv_at hl 0 rfl) ?_
      refine iv_sld hx hb hXs hbl hbA hS (z := x4) (by omega) (by omega) (by omega) dL_law_36 ?_
      refine lv_bipush (v := Int32.ofInt 31) hx hb dL_law_37 (by decide +kernel) ?_
      refine iv_and hx hb dL_law_39 ?_
      refine iv_top (fun z ez => ?_)
      have hz : 0 ≤ z ∧ z ≤ 31 := ez ▸ band31 _
      obtain q | q | q | q | q | q | q | q | q | q | q | q | q | q | q | q | q | q | q | q | q | q : (z < 0 ∨ 20 < z) ∨ z = 0 ∨ z = 1 ∨ z = 2 ∨ z = 3 ∨ z = 4 ∨ z = 5 ∨ z = 6 ∨ z = 7 ∨ z = 8 ∨ z = 9 ∨ z = 10 ∨ z = 11 ∨ z = 12 ∨ z = 13 ∨ z = 14 ∨ z = 15 ∨ z = 16 ∨ z = 17 ∨ z = 18 ∨ z = 19 ∨ z = 20 := by omega
      · refine lv_tableOut (tgt := 778) hx hb dL_law_40 (by rw [iz_toInt (by omega)]; exact q) (by decide) ?_
        exact lw2_d C0 htr hX hT9 hZ hA hbA hL arT fiT faT arY fiY faY arP fiP faP arD fiD faD arB fiB faB arK fiK faK arS plS fiS faS arR plR txR fiR faR arM fiM faM flM arO fiO faO flO (by omega) (by omega) h40 (by omega) hI IH hP hD hS hl
      · refine lv_tableIn (tgt := 140) hx hb dL_law_40 (by rw [iz_toInt (by omega)]; omega) (by rw [iz_toInt (by omega)]; omega) (off := 100) (by rw [iz_toInt (by omega), q]; decide +kernel) (by decide) ?_
        exact lw2_0 C0 htr hX hT9 hZ hA hbA hL arT fiT faT arY fiY faY arP fiP faP arD fiD faD arB fiB faB arK fiK faK arS plS fiS faS arR plR txR fiR faR arM fiM faM flM arO fiO faO flO (by omega) (by omega) h40 (by omega) hI IH hP hD hS hl
      · refine lv_tableIn (tgt := 213) hx hb dL_law_40 (by rw [iz_toInt (by omega)]; omega) (by rw [iz_toInt (by omega)]; omega) (off := 173) (by rw [iz_toInt (by omega), q]; decide +kernel) (by decide) ?_
        exact lw2_1 C0 htr hX hT9 hZ hA hbA hL arT fiT faT arY fiY faY arP fiP faP arD fiD faD arB fiB faB arK fiK faK arS plS fiS faS arR plR txR fiR faR arM fiM faM flM arO fiO faO flO (by omega) (by omega) h40 (by omega) hI IH hP hD hS hl
      · refine lv_tableIn (tgt := 241) hx hb dL_law_40 (by rw [iz_toInt (by omega)]; omega) (by rw [iz_toInt (by omega)]; omega) (off := 201) (by rw [iz_toInt (by omega), q]; decide +kernel) (by decide) ?_
        exact lw2_2 C0 htr hX hT9 hZ hA hbA hL arT fiT faT arY fiY faY arP fiP faP arD fiD faD arB fiB faB arK fiK faK arS plS fiS faS arR plR txR fiR faR arM fiM faM flM arO fiO faO flO (by omega) (by omega) h40 (by omega) hI IH hP hD hS hl
      · refine lv_tableIn (tgt := 254) hx hb dL_law_40 (by rw [iz_toInt (by omega)]; omega) (by rw [iz_toInt (by omega)]; omega) (off := 214) (by rw [iz_toInt (by omega), q]; decide +kernel) (by decide) ?_
        exact lw2_3 C0 htr hX hT9 hZ hA hbA hL arT fiT faT arY fiY faY arP fiP faP arD fiD faD arB fiB faB arK fiK faK arS plS fiS faS arR plR txR fiR faR arM fiM faM flM arO fiO faO flO (by omega) (by omega) h40 (by omega) hI IH hP hD hS hl
      · refine lv_tableIn (tgt := 282) hx hb dL_law_40 (by rw [iz_toInt (by omega)]; omega) (by rw [iz_toInt (by omega)]; omega) (off := 242) (by rw [iz_toInt (by omega), q]; decide +kernel) (by decide) ?_
        exact lw2_4 C0 htr hX hT9 hZ hA hbA hL arT fiT faT arY fiY faY arP fiP faP arD fiD faD arB fiB faB arK fiK faK arS plS fiS faS arR plR txR fiR faR arM fiM faM flM arO fiO faO flO (by omega) (by omega) h40 (by omega) hI IH hP hD hS hl
      · refine lv_tableIn (tgt := 322) hx hb dL_law_40 (by rw [iz_toInt (by omega)]; omega) (by rw [iz_toInt (by omega)]; omega) (off := 282) (by rw [iz_toInt (by omega), q]; decide +kernel) (by decide) ?_
        exact lw2_5 C0 htr hX hT9 hZ hA hbA hL arT fiT faT arY fiY faY arP fiP faP arD fiD faD arB fiB faB arK fiK faK arS plS fiS faS arR plR txR fiR faR arM fiM faM flM arO fiO faO flO (by omega) (by omega) h40 (by omega) hI IH hP hD hS hl
      · refine lv_tableIn (tgt := 362) hx hb dL_law_40 (by rw [iz_toInt (by omega)]; omega) (by rw [iz_toInt (by omega)]; omega) (off := 322) (by rw [iz_toInt (by omega), q]; decide +kernel) (by decide) ?_
        exact lw2_6 C0 htr hX hT9 hZ hA hbA hL arT fiT faT arY fiY faY arP fiP faP arD fiD faD arB fiB faB arK fiK faK arS plS fiS faS arR plR txR fiR faR arM fiM faM flM arO fiO faO flO (by omega) (by omega) h40 (by omega) hI IH hP hD hS hl
      · refine lv_tableIn (tgt := 399) hx hb dL_law_40 (by rw [iz_toInt (by omega)]; omega) (by rw [iz_toInt (by omega)]; omega) (off := 359) (by rw [iz_toInt (by omega), q]; decide +kernel) (by decide) ?_
        exact lw2_7 C0 htr hX hT9 hZ hA hbA hL arT fiT faT arY fiY faY arP fiP faP arD fiD faD arB fiB faB arK fiK faK arS plS fiS faS arR plR txR fiR faR arM fiM faM flM arO fiO faO flO (by omega) (by omega) h40 (by omega) hI IH hP hD hS hl
      · refine lv_tableIn (tgt := 424) hx hb dL_law_40 (by rw [iz_toInt (by omega)]; omega) (by rw [iz_toInt (by omega)]; omega) (off := 384) (by rw [iz_toInt (by omega), q]; decide +kernel) (by decide) ?_
        exact lw2_8 C0 htr hX hT9 hZ hA hbA hL arT fiT faT arY fiY faY arP fiP faP arD fiD faD arB fiB faB arK fiK faK arS plS fiS faS arR plR txR fiR faR arM fiM faM flM arO fiO faO flO (by omega) (by omega) h40 (by omega) hI IH hP hD hS hl
      · refine lv_tableIn (tgt := 461) hx hb dL_law_40 (by rw [iz_toInt (by omega)]; omega) (by rw [iz_toInt (by omega)]; omega) (off := 421) (by rw [iz_toInt (by omega), q]; decide +kernel) (by decide) ?_
        exact lw2_9 C0 htr hX hT9 hZ hA hbA hL arT fiT faT arY fiY faY arP fiP faP arD fiD faD arB fiB faB arK fiK faK arS plS fiS faS arR plR txR fiR faR arM fiM faM flM arO fiO faO flO (by omega) (by omega) h40 (by omega) hI IH hP hD hS hl
      · refine lv_tableIn (tgt := 486) hx hb dL_law_40 (by rw [iz_toInt (by omega)]; omega) (by rw [iz_toInt (by omega)]; omega) (off := 446) (by rw [iz_toInt (by omega), q]; decide +kernel) (by decide) ?_
        exact lw2_10 C0 htr hX hT9 hZ hA hbA hL arT fiT faT arY fiY faY arP fiP faP arD fiD faD arB fiB faB arK fiK faK arS plS fiS faS arR plR txR fiR faR arM fiM faM flM arO fiO faO flO (by omega) (by omega) h40 (by omega) hI IH hP hD hS hl
      · refine lv_tableIn (tgt := 511) hx hb dL_law_40 (by rw [iz_toInt (by omega)]; omega) (by rw [iz_toInt (by omega)]; omega) (off := 471) (by rw [iz_toInt (by omega), q]; decide +kernel) (by decide) ?_
        exact lw2_11 C0 htr hX hT9 hZ hA hbA hL arT fiT faT arY fiY faY arP fiP faP arD fiD faD arB fiB faB arK fiK faK arS plS fiS faS arR plR txR fiR faR arM fiM faM flM arO fiO faO flO (by omega) (by omega) h40 (by omega) hI IH hP hD hS hl
      · refine lv_tableIn (tgt := 524) hx hb dL_law_40 (by rw [iz_toInt (by omega)]; omega) (by rw [iz_toInt (by omega)]; omega) (off := 484) (by rw [iz_toInt (by omega), q]; decide +kernel) (by decide) ?_
        exact lw2_12 C0 htr hX hT9 hZ hA hbA hL arT fiT faT arY fiY faY arP fiP faP arD fiD faD arB fiB faB arK fiK faK arS plS fiS faS arR plR txR fiR faR arM fiM faM flM arO fiO faO flO (by omega) (by omega) h40 (by omega) hI IH hP hD hS hl
      · refine lv_tableIn (tgt := 592) hx hb dL_law_40 (by rw [iz_toInt (by omega)]; omega) (by rw [iz_toInt (by omega)]; omega) (off := 552) (by rw [iz_toInt (by omega), q]; decide +kernel) (by decide) ?_
        exact lw2_13 C0 htr hX hT9 hZ hA hbA hL arT fiT faT arY fiY faY arP fiP faP arD fiD faD arB fiB faB arK fiK faK arS plS fiS faS arR plR txR fiR faR arM fiM faM flM arO fiO faO flO (by omega) (by omega) h40 (by omega) hI IH hP hD hS hl
      · refine lv_tableIn (tgt := 605) hx hb dL_law_40 (by rw [iz_toInt (by omega)]; omega) (by rw [iz_toInt (by omega)]; omega) (off := 565) (by rw [iz_toInt (by omega), q]; decide +kernel) (by decide) ?_
        exact lw2_14 C0 htr hX hT9 hZ hA hbA hL arT fiT faT arY fiY faY arP fiP faP arD fiD faD arB fiB faB arK fiK faK arS plS fiS faS arR plR txR fiR faR arM fiM faM flM arO fiO faO flO (by omega) (by omega) h40 (by omega) hI IH hP hD hS hl
      · refine lv_tableIn (tgt := 633) hx hb dL_law_40 (by rw [iz_toInt (by omega)]; omega) (by rw [iz_toInt (by omega)]; omega) (off := 593) (by rw [iz_toInt (by omega), q]; decide +kernel) (by decide) ?_
        exact lw2_15 C0 htr hX hT9 hZ hA hbA hL arT fiT faT arY fiY faY arP fiP faP arD fiD faD arB fiB faB arK fiK faK arS plS fiS faS arR plR txR fiR faR arM fiM faM flM arO fiO faO flO (by omega) (by omega) h40 (by omega) hI IH hP hD hS hl
      · refine lv_tableIn (tgt := 661) hx hb dL_law_40 (by rw [iz_toInt (by omega)]; omega) (by rw [iz_toInt (by omega)]; omega) (off := 621) (by rw [iz_toInt (by omega), q]; decide +kernel) (by decide) ?_
        exact lw2_16 C0 htr hX hT9 hZ hA hbA hL arT fiT faT arY fiY faY arP fiP faP arD fiD faD arB fiB faB arK fiK faK arS plS fiS faS arR plR txR fiR faR arM fiM faM flM arO fiO faO flO (by omega) (by omega) h40 (by omega) hI IH hP hD hS hl
      · refine lv_tableIn (tgt := 701) hx hb dL_law_40 (by rw [iz_toInt (by omega)]; omega) (by rw [iz_toInt (by omega)]; omega) (off := 661) (by rw [iz_toInt (by omega), q]; decide +kernel) (by decide) ?_
        exact lw2_17 C0 htr hX hT9 hZ hA hbA hL arT fiT faT arY fiY faY arP fiP faP arD fiD faD arB fiB faB arK fiK faK arS plS fiS faS arR plR txR fiR faR arM fiM faM flM arO fiO faO flO (by omega) (by omega) h40 (by omega) hI IH hP hD hS hl
      · refine lv_tableIn (tgt := 726) hx hb dL_law_40 (by rw [iz_toInt (by omega)]; omega) (by rw [iz_toInt (by omega)]; omega) (off := 686) (by rw [iz_toInt (by omega), q]; decide +kernel) (by decide) ?_
        exact lw2_18 C0 htr hX hT9 hZ hA hbA hL arT fiT faT arY fiY faY arP fiP faP arD fiD faD arB fiB faB arK fiK faK arS plS fiS faS arR plR txR fiR faR arM fiM faM flM arO fiO faO flO (by omega) (by omega) h40 (by omega) hI IH hP hD hS hl
      · refine lv_tableIn (tgt := 754) hx hb dL_law_40 (by rw [iz_toInt (by omega)]; omega) (by rw [iz_toInt (by omega)]; omega) (off := 714) (by rw [iz_toInt (by omega), q]; decide +kernel) (by decide) ?_
        exact lw2_19 C0 htr hX hT9 hZ hA hbA hL arT fiT faT arY fiY faY arP fiP faP arD fiD faD arB fiB faB arK fiK faK arS plS fiS faS arR plR txR fiR faR arM fiM faM flM arO fiO faO flO (by omega) (by omega) h40 (by omega) hI IH hP hD hS hl
      · refine lv_tableIn (tgt := 765) hx hb dL_law_40 (by rw [iz_toInt (by omega)]; omega) (by rw [iz_toInt (by omega)]; omega) (off := 725) (by rw [iz_toInt (by omega), q]; decide +kernel) (by decide) ?_
        exact lw2_20 C0 htr hX hT9 hZ hA hbA hL arT fiT faT arY fiY faY arP fiP faP arD fiD faD arB fiB faB arK fiK faK arS plS fiS faS arR plR txR fiR faR arM fiM faM flM arO fiO faO flO (by omega) (by omega) h40 (by omega) hI IH hP hD hS hl
