/-! one list of words for all contracts -/
def lwC : List (List Cond) := [wsL_law0_r1, wsL_law0_r2, wsL_law0_r3, wsL_law0_r4, wsL_law0_r5, wsL_law0_r6, wsL_law0_r7, wsL_law0_r8, wsL_law0_r9, wsL_law0_r10, wsL_law0_r11, wsL_law0_r12, wsL_law0_r13, wsL_law0_r14, wsL_law0_r15, wsL_law0_r16, wsL_law0_r17, wsL_law0_r18, wsL_law0_r19, wsL_law0_r20, wsL_law0_r21, wsL_law0_r22, wsL_law0_r23, wsL_law0_r24, wsL_law0_r25, wsL_law0_r26, wsL_law0_r27, wsL_law0_r28, wsL_law0_r29, wsL_law0_r30, wsL_law0_r31, wsL_law0_r32, wsL_law0_r33, wsL_law0_r34, wsL_law0_r35, wsL_law0_r36, wsL_law0_r37, wsL_law0_r38, wsL_law0_r39, wsL_law0_r40, wsL_law0_r41, wsL_law0_r42, wsL_law0_r43, wsX90, wsX100, wsX30, wsX20, wsX10, wsX60, wsX50, wsX40]
theorem lwC_in : ∀ w ∈ lwC.flatten, w ∈ wsL_law := by
  intro w hw
  have e : lwC.flatten = wsL_law0 := by
    unfold lwC wsL_law0
    simp only [List.flatten_cons, List.flatten_nil, List.append_assoc, List.append_nil]
  rw [e] at hw
  exact List.mem_append_left _ (List.mem_append_left _ hw)
theorem lwC_good : lwC.all (fun c => c.all goodWord) = true := by decide +kernel
theorem wz_good : ∀ w ∈ wsL_law, goodWord w = true := by
  intro w hw
  rcases List.mem_append.mp hw with h | h
  · rcases List.mem_append.mp h with h | h
    · have e : lwC.flatten = wsL_law0 := by
        unfold lwC wsL_law0
        simp only [List.flatten_cons, List.flatten_nil, List.append_assoc, List.append_nil]
      rw [← e] at h
      obtain ⟨c, h1, h2⟩ := List.mem_flatten.mp h
      exact List.all_eq_true.mp (List.all_eq_true.mp lwC_good c h1) w h2
    · exact (List.mem_filter.mp h).2
  · exact (List.mem_filter.mp h).2
theorem wg_at {w : Cond} (j i : Nat) (h : (lwC[j]?).bind (fun c => c[i]?) = some w) : w ∈ wsL_law := by
  apply lwC_in
  cases hq : lwC[j]? with
  | none => rw [hq] at h; cases h
  | some c =>
    rw [hq] at h
    exact List.mem_flatten.mpr ⟨c, List.mem_of_getElem? hq, List.mem_of_getElem? h⟩
theorem wz_at {c0 w : Cond} (j i : Nat) (h : (lwC[j]?).bind (fun c => c[i]?) = some w) : w ∈ c0 :: wsL_law := List.mem_cons_of_mem _ (wg_at j i h)
theorem gz {c0 : Cond} (pre : List Cond) (c1 : Cond) (ps : List (Nat × Nat)) (hp : pre ++ [c1] = ps.filterMap (fun p => (lwC[p.1]?).bind (fun c => c[p.2]?))) : GoodIn (c0 :: wsL_law) (pre ++ (c1 :: wsL_law)) := by
  have key : ∀ w ∈ pre ++ [c1], w ∈ wsL_law := by
    intro w hw
    rw [hp] at hw
    obtain ⟨p, -, hi⟩ := List.mem_filterMap.mp hw
    exact wg_at p.1 p.2 hi
  intro w hw
  have hm : w ∈ wsL_law := by
    rcases List.mem_append.mp hw with h | h
    · exact key w (List.mem_append_left _ h)
    · rcases List.mem_cons.mp h with h | h
      · exact key w (List.mem_append_right _ (by rw [h]; exact List.mem_cons_self))
      · exact h
  exact ⟨List.mem_cons_of_mem _ hm, good_of_word (wz_good w hm)⟩
theorem inlX1 : ∀ w ∈ wsX10, w ∈ wsL_law := fun _ h => List.mem_append_left _ (List.mem_append_left _ (List.mem_append_left _ (List.mem_append_left _ (List.mem_append_left _ (List.mem_append_left _ (List.mem_append_right _ h))))))
theorem inlX2 : ∀ w ∈ wsX20, w ∈ wsL_law := fun _ h => List.mem_append_left _ (List.mem_append_left _ (List.mem_append_left _ (List.mem_append_left _ (List.mem_append_left _ (List.mem_append_left _ (List.mem_append_left _ (List.mem_append_right _ h)))))))
theorem inlX3 : ∀ w ∈ wsX30, w ∈ wsL_law := fun _ h => List.mem_append_left _ (List.mem_append_left _ (List.mem_append_left _ (List.mem_append_left _ (List.mem_append_left _ (List.mem_append_left _ (List.mem_append_left _ (List.mem_append_left _ (List.mem_append_right _ h))))))))
theorem inlX4 : ∀ w ∈ wsX40, w ∈ wsL_law := fun _ h => List.mem_append_left _ (List.mem_append_left _ (List.mem_append_left _ (List.mem_append_right _ h)))
theorem inlX5 : ∀ w ∈ wsX50, w ∈ wsL_law := fun _ h => List.mem_append_left _ (List.mem_append_left _ (List.mem_append_left _ (List.mem_append_left _ (List.mem_append_right _ h))))
theorem inlX6 : ∀ w ∈ wsX60, w ∈ wsL_law := fun _ h => List.mem_append_left _ (List.mem_append_left _ (List.mem_append_left _ (List.mem_append_left _ (List.mem_append_left _ (List.mem_append_right _ h)))))
theorem inlX9 : ∀ w ∈ wsX90, w ∈ wsL_law := fun _ h => List.mem_append_left _ (List.mem_append_left _ (List.mem_append_left _ (List.mem_append_left _ (List.mem_append_left _ (List.mem_append_left _ (List.mem_append_left _ (List.mem_append_left _ (List.mem_append_left _ (List.mem_append_left _ (List.mem_append_right _ h))))))))))
theorem inlX10 : ∀ w ∈ wsX100, w ∈ wsL_law := fun _ h => List.mem_append_left _ (List.mem_append_left _ (List.mem_append_left _ (List.mem_append_left _ (List.mem_append_left _ (List.mem_append_left _ (List.mem_append_left _ (List.mem_append_left _ (List.mem_append_left _ (List.mem_append_right _ h)))))))))
abbrev wzJ0_coder_7d493 : List Cond := .code yJ0_coder_7d493 cJ0_coder_7d493 1 (some .byte) :: wsL_law
abbrev wzJ0_isLatin1_aae02 : List Cond := .code yJ0_isLatin1_aae02 cJ0_isLatin1_aae02 1 (some .boolean) :: wsL_law
abbrev wzJ0_length_8abf5 : List Cond := .code yJ0_length_8abf5 cJ0_length_8abf5 1 (some .int) :: wsL_law
abbrev wzJ3_checkIndex_8e157 : List Cond := .code yJ3_checkIndex_8e157 cJ3_checkIndex_8e157 3 (some .int) :: wsL_law
abbrev wzJ0_checkIndex_df160 : List Cond := .code yJ0_checkIndex_df160 cJ0_checkIndex_df160 2 none :: wsL_law
abbrev wzJ1_charAt_3b067 : List Cond := .code yJ1_charAt_3b067 cJ1_charAt_3b067 2 (some .char) :: wsL_law
abbrev wzJ0_charAt_5068e : List Cond := .code yJ0_charAt_5068e cJ0_charAt_5068e 2 (some .char) :: wsL_law
abbrev wzJ6_bitCount_0f7a4 : List Cond := .code yJ6_bitCount_0f7a4 cJ6_bitCount_0f7a4 1 (some .int) :: wsL_law
abbrev wzX10_isIn : List Cond := .code yX10_isIn cX10_isIn 3 (some .boolean) :: wsL_law
abbrev wzX10_isLetter : List Cond := .code yX10_isLetter cX10_isLetter 1 (some .boolean) :: wsL_law
abbrev wzX10_isDigit : List Cond := .code yX10_isDigit cX10_isDigit 1 (some .boolean) :: wsL_law
abbrev wzX10_isMark : List Cond := .code yX10_isMark cX10_isMark 1 (some .boolean) :: wsL_law
abbrev wzX10_thrown : List Cond := .code yX10_thrown cX10_thrown 1 (some .int) :: wsL_law
abbrev wzX10_fail : List Cond := .code yX10_fail cX10_fail 2 (some .int) :: wsL_law
abbrev wzX10_depths : List Cond := .code yX10_depths cX10_depths 1 (some .int) :: wsL_law
abbrev wzX10_isThing : List Cond := .code yX10_isThing cX10_isThing 2 (some .boolean) :: wsL_law
abbrev wzX10_byteAt : List Cond := .code yX10_byteAt cX10_byteAt 2 (some .int) :: wsL_law
abbrev wzX10_stepOn : List Cond := .code yX10_stepOn cX10_stepOn 2 none :: wsL_law
abbrev wzX10_wrong : List Cond := .code yX10_wrong cX10_wrong 2 none :: wsL_law
abbrev wzX10_isMarked : List Cond := .code yX10_isMarked cX10_isMarked 2 (some .boolean) :: wsL_law
abbrev wzX10_feed : List Cond := .code yX10_feed cX10_feed 8 (some .int) :: wsL_law
abbrev wzX10_is : List Cond := .code yX10_is cX10_is 4 (some .boolean) :: wsL_law
abbrev wzX10_which : List Cond := .code yX10_which cX10_which 3 (some .int) :: wsL_law
abbrev wzX10_passes : List Cond := .code yX10_passes cX10_passes 3 (some .boolean) :: wsL_law
abbrev wzX10_wordIs : List Cond := .code yX10_wordIs cX10_wordIs 2 none :: wsL_law
abbrev wzX10_mark : List Cond := .code yX10_mark cX10_mark 2 none :: wsL_law
abbrev wzX10_readNumber : List Cond := .code yX10_readNumber cX10_readNumber 4 (some .int) :: wsL_law
abbrev wzX10_lay : List Cond := .code yX10_lay cX10_lay 2 none :: wsL_law
abbrev wzX10_readPart : List Cond := .code yX10_readPart cX10_readPart 3 none :: wsL_law
abbrev wzX10_readProduct : List Cond := .code yX10_readProduct cX10_readProduct 3 none :: wsL_law
abbrev wzX10_readSum : List Cond := .code yX10_readSum cX10_readSum 3 none :: wsL_law
abbrev wzX10_readNot : List Cond := .code yX10_readNot cX10_readNot 4 none :: wsL_law
abbrev wzX10_readAnd : List Cond := .code yX10_readAnd cX10_readAnd 2 none :: wsL_law
abbrev wzX10_readExpression : List Cond := .code yX10_readExpression cX10_readExpression 3 none :: wsL_law
abbrev wzX10_atFirst : List Cond := .code yX10_atFirst cX10_atFirst 3 none :: wsL_law
abbrev wzX10_leastOf : List Cond := .code yX10_leastOf cX10_leastOf 2 (some .int) :: wsL_law
abbrev wzX10_topOf : List Cond := .code yX10_topOf cX10_topOf 2 (some .int) :: wsL_law
abbrev wzX10_readThing : List Cond := .code yX10_readThing cX10_readThing 3 none :: wsL_law
abbrev wzX10_readClause : List Cond := .code yX10_readClause cX10_readClause 3 (some .int) :: wsL_law
abbrev wzX10_take : List Cond := .code yX10_take cX10_take 2 none :: wsL_law
abbrev wzX10_town : List Cond := .code yX10_town cX10_town 3 (some .int) :: wsL_law
abbrev wzX10_fault : List Cond := .code yX10_fault cX10_fault 1 (some .int) :: wsL_law
abbrev wzX10_ridesOf : List Cond := .code yX10_ridesOf cX10_ridesOf 3 (some .int) :: wsL_law
abbrev wzX10_count : List Cond := .code yX10_count cX10_count 2 (some .int) :: wsL_law
abbrev wzX10_depthOf : List Cond := .code yX10_depthOf cX10_depthOf 3 (some .int) :: wsL_law
abbrev wzX10_isInBucket : List Cond := .code yX10_isInBucket cX10_isInBucket 2 (some .boolean) :: wsL_law
abbrev wzX10_isServed : List Cond := .code yX10_isServed cX10_isServed 3 (some .boolean) :: wsL_law
abbrev wzX10_thing : List Cond := .code yX10_thing cX10_thing 5 (some .int) :: wsL_law
abbrev wzX10_loadOf : List Cond := .code yX10_loadOf cX10_loadOf 5 (some .int) :: wsL_law
abbrev wzX10_sideOf : List Cond := .code yX10_sideOf cX10_sideOf 4 (some .int) :: wsL_law
abbrev wzX10_manyOf : List Cond := .code yX10_manyOf cX10_manyOf 6 (some .int) :: wsL_law
abbrev wzX10_reckon : List Cond := .code yX10_reckon cX10_reckon 3 (some .int) :: wsL_law
abbrev wzX10_holds : List Cond := .code yX10_holds cX10_holds 5 (some .boolean) :: wsL_law
abbrev wzX10_brokenBy : List Cond := .code yX10_brokenBy cX10_brokenBy 5 (some .int) :: wsL_law
abbrev wzX10_bucket : List Cond := .code yX10_bucket cX10_bucket 5 (some .int) :: wsL_law
abbrev wzX10_tellRide : List Cond := .code yX10_tellRide cX10_tellRide 8 none :: wsL_law
abbrev wzX10_keepsCap : List Cond := .code yX10_keepsCap cX10_keepsCap 2 (some .boolean) :: wsL_law
abbrev wzX10_keepsRules : List Cond := .code yX10_keepsRules cX10_keepsRules 3 (some .boolean) :: wsL_law
abbrev wzX10_swing : List Cond := .code yX10_swing cX10_swing 2 (some .int) :: wsL_law
abbrev wzX10_rideTrouble : List Cond := .code yX10_rideTrouble cX10_rideTrouble 4 (some .int) :: wsL_law
abbrev wzX10_refuse : List Cond := .code yX10_refuse cX10_refuse 2 (some .int) :: wsL_law
abbrev wzX10_add : List Cond := .code yX10_add cX10_add 6 none :: wsL_law
abbrev wzX10_load : List Cond := .code yX10_load cX10_load 4 (some .int) :: wsL_law
abbrev wzX10_unloadedAt : List Cond := .code yX10_unloadedAt cX10_unloadedAt 3 (some .int) :: wsL_law
abbrev wzX10_unload : List Cond := .code yX10_unload cX10_unload 3 (some .int) :: wsL_law
abbrev wzX10_ride : List Cond := .code yX10_ride cX10_ride 4 (some .int) :: wsL_law
abbrev wzX10_winding : List Cond := .code yX10_winding cX10_winding 2 (some .int) :: wsL_law
abbrev wzX10_may : List Cond := .code yX10_may cX10_may 4 (some .int) :: wsL_law
abbrev wzX10_undo : List Cond := .code yX10_undo cX10_undo 1 (some .int) :: wsL_law
abbrev wzX10_moved : List Cond := .code yX10_moved cX10_moved 3 (some .int) :: wsL_law
abbrev wzX10_back : List Cond := .code yX10_back cX10_back 3 (some .int) :: wsL_law
abbrev wzX10_pack : List Cond := .code yX10_pack cX10_pack 5 (some .long) :: wsL_law
abbrev wzX10_unpack : List Cond := .code yX10_unpack cX10_unpack 6 none :: wsL_law
abbrev wzX10_foldOf : List Cond := .code yX10_foldOf cX10_foldOf 4 (some .int) :: wsL_law
abbrev wzX10_come : List Cond := .code yX10_come cX10_come 6 none :: wsL_law
abbrev wzX10_rideOn : List Cond := .code yX10_rideOn cX10_rideOn 2 none :: wsL_law
abbrev wzX10_arrange : List Cond := .code yX10_arrange cX10_arrange 7 none :: wsL_law
abbrev wzX10_nearest : List Cond := .code yX10_nearest cX10_nearest 3 (some .int) :: wsL_law
abbrev wzX10_seek : List Cond := .code yX10_seek cX10_seek 6 (some .boolean) :: wsL_law
abbrev wzX10_allServed : List Cond := .code yX10_allServed cX10_allServed 4 (some .boolean) :: wsL_law
abbrev wzX10_leastServed : List Cond := .code yX10_leastServed cX10_leastServed 3 (some .int) :: wsL_law
abbrev wzX10_fewest : List Cond := .code yX10_fewest cX10_fewest 2 (some .int) :: wsL_law
abbrev wzX10_reachOf : List Cond := .code yX10_reachOf cX10_reachOf 5 (some .int) :: wsL_law
abbrev wzX10_reach : List Cond := .code yX10_reach cX10_reach 2 (some .int) :: wsL_law
abbrev wzX10_bitsOf : List Cond := .code yX10_bitsOf cX10_bitsOf 3 (some .int) :: wsL_law
abbrev wzX10_bars : List Cond := .code yX10_bars cX10_bars 6 (some .int) :: wsL_law
abbrev wzX10_day : List Cond := .code yX10_day cX10_day 4 (some .int) :: wsL_law
abbrev wzX10_stonesOf : List Cond := .code yX10_stonesOf cX10_stonesOf 3 (some .int) :: wsL_law
abbrev wzX10_canDay : List Cond := .code yX10_canDay cX10_canDay 7 (some .int) :: wsL_law
abbrev wzX10_enough : List Cond := .code yX10_enough cX10_enough 6 (some .int) :: wsL_law
abbrev wzX10_be : List Cond := .code yX10_be cX10_be 3 none :: wsL_law
abbrev wzX10_image : List Cond := .code yX10_image cX10_image 1 none :: wsL_law
abbrev wzX10_restore : List Cond := .code yX10_restore cX10_restore 1 (some .boolean) :: wsL_law
abbrev wzX5_clear : List Cond := .code yX5_clear cX5_clear 1 none :: wsL_law
abbrev wzX5_add : List Cond := .code yX5_add cX5_add 2 none :: wsL_law
abbrev wzX5_addNumber : List Cond := .code yX5_addNumber cX5_addNumber 2 none :: wsL_law
abbrev wzX5_addValue : List Cond := .code yX5_addValue cX5_addValue 2 none :: wsL_law
abbrev wzX5_addOperator : List Cond := .code yX5_addOperator cX5_addOperator 2 none :: wsL_law
abbrev wzX5_endRule : List Cond := .code yX5_endRule cX5_endRule 1 none :: wsL_law
abbrev wzX3_clear : List Cond := .code yX3_clear cX3_clear 1 none :: wsL_law
abbrev wzX4_stop : List Cond := .code yX4_stop cX4_stop 1 none :: wsL_law
abbrev wzX4_rowEnd : List Cond := .code yX4_rowEnd cX4_rowEnd 5 (some .int) :: wsL_law
abbrev wzX4_takeWord : List Cond := .code yX4_takeWord cX4_takeWord 5 none :: wsL_law
abbrev wzX4_takeNumber : List Cond := .code yX4_takeNumber cX4_takeNumber 2 none :: wsL_law
abbrev wzX4_takeSign : List Cond := .code yX4_takeSign cX4_takeSign 1 none :: wsL_law
abbrev wzX4_advance : List Cond := .code yX4_advance cX4_advance 3 none :: wsL_law
abbrev wzX4_open : List Cond := .code yX4_open cX4_open 3 none :: wsL_law
abbrev wzX2_fail : List Cond := .code yX2_fail cX2_fail 2 none :: wsL_law
abbrev wzX2_operator : List Cond := .code yX2_operator cX2_operator 3 (some .int) :: wsL_law
abbrev wzX2_readNumber : List Cond := .code yX2_readNumber cX2_readNumber 4 (some .int) :: wsL_law
abbrev wzX2_skipWord : List Cond := .code yX2_skipWord cX2_skipWord 2 none :: wsL_law
abbrev wzX2_skipSign : List Cond := .code yX2_skipSign cX2_skipSign 2 none :: wsL_law
abbrev wzX2_skipNots : List Cond := .code yX2_skipNots cX2_skipNots 3 (some .int) :: wsL_law
abbrev wzX2_setting : List Cond := .code yX2_setting cX2_setting 4 (some .int) :: wsL_law
abbrev wzX2_readBottom : List Cond := .code yX2_readBottom cX2_readBottom 2 none :: wsL_law
abbrev wzX2_readThing : List Cond := .code yX2_readThing cX2_readThing 3 none :: wsL_law
abbrev wzX2_expression : List Cond := .code yX2_expression cX2_expression 3 none :: wsL_law
abbrev wzX2_part : List Cond := .code yX2_part cX2_part 2 none :: wsL_law
abbrev wzX2_ranked : List Cond := .code yX2_ranked cX2_ranked 7 none :: wsL_law
abbrev wzX2_readRule : List Cond := .code yX2_readRule cX2_readRule 1 none :: wsL_law
abbrev wzX2_clause : List Cond := .code yX2_clause cX2_clause 2 none :: wsL_law
abbrev wzX2_read : List Cond := .code yX2_read cX2_read 5 (some .int) :: wsL_law
abbrev wzX7_depth : List Cond := .code yX7_depth cX7_depth 1 (some .int) :: wsL_law
abbrev wzX7_move : List Cond := .code yX7_move cX7_move 2 (some .int) :: wsL_law
abbrev wzX7_place : List Cond := .code yX7_place cX7_place 2 (some .int) :: wsL_law
abbrev wzX7_put : List Cond := .code yX7_put cX7_put 3 (some .int) :: wsL_law
abbrev wzX7_bucketOf : List Cond := .code yX7_bucketOf cX7_bucketOf 3 (some .int) :: wsL_law
abbrev wzX7_thingsIn : List Cond := .code yX7_thingsIn cX7_thingsIn 4 (some .int) :: wsL_law
abbrev wzX7_without : List Cond := .code yX7_without cX7_without 4 (some .int) :: wsL_law
abbrev wzX5_joined : List Cond := .code yX5_joined cX5_joined 3 (some .int) :: wsL_law
abbrev wzX5_worth : List Cond := .code yX5_worth cX5_worth 7 (some .int) :: wsL_law
abbrev wzX3_has : List Cond := .code yX3_has cX3_has 2 (some .boolean) :: wsL_law
abbrev wzX3_hasDepth : List Cond := .code yX3_hasDepth cX3_hasDepth 2 (some .boolean) :: wsL_law
abbrev wzX3_firstState : List Cond := .code yX3_firstState cX3_firstState 3 (some .int) :: wsL_law
abbrev wzX3_stones : List Cond := .code yX3_stones cX3_stones 3 (some .int) :: wsL_law
abbrev wzX3_firstStones : List Cond := .code yX3_firstStones cX3_firstStones 5 (some .int) :: wsL_law
abbrev wzX3_thingsWithAims : List Cond := .code yX3_thingsWithAims cX3_thingsWithAims 3 (some .int) :: wsL_law
abbrev wzX3_bucketDepth : List Cond := .code yX3_bucketDepth cX3_bucketDepth 3 (some .int) :: wsL_law
abbrev wzX3_thingDepth : List Cond := .code yX3_thingDepth cX3_thingDepth 4 (some .int) :: wsL_law
abbrev wzX3_weightIn : List Cond := .code yX3_weightIn cX3_weightIn 5 (some .int) :: wsL_law
abbrev wzX3_isServed : List Cond := .code yX3_isServed cX3_isServed 4 (some .boolean) :: wsL_law
abbrev wzX3_isAllServed : List Cond := .code yX3_isAllServed cX3_isAllServed 5 (some .boolean) :: wsL_law
abbrev wzX3_placeOutside : List Cond := .code yX3_placeOutside cX3_placeOutside 5 (some .int) :: wsL_law
abbrev wzX3_loadTrouble : List Cond := .code yX3_loadTrouble cX3_loadTrouble 4 (some .int) :: wsL_law
abbrev wzX3_unloadTrouble : List Cond := .code yX3_unloadTrouble cX3_unloadTrouble 3 (some .int) :: wsL_law
abbrev wzX3_excess : List Cond := .code yX3_excess cX3_excess 4 (some .int) :: wsL_law
abbrev wzX3_runsByWeight : List Cond := .code yX3_runsByWeight cX3_runsByWeight 2 (some .boolean) :: wsL_law
abbrev wzX3_windingOf : List Cond := .code yX3_windingOf cX3_windingOf 2 (some .int) :: wsL_law
abbrev wzX3_excessTrouble : List Cond := .code yX3_excessTrouble cX3_excessTrouble 9 (some .int) :: wsL_law
abbrev wzX3_windingTo : List Cond := .code yX3_windingTo cX3_windingTo 7 (some .int) :: wsL_law
abbrev wzJ7_fill_53178 : List Cond := .code yJ7_fill_53178 cJ7_fill_53178 4 none :: wsL_law
abbrev wzX3_brokenRule : List Cond := .code yX3_brokenRule cX3_brokenRule 5 (some .int) :: wsL_law
abbrev wzX3_rideTrouble : List Cond := .code yX3_rideTrouble cX3_rideTrouble 4 (some .int) :: wsL_law
abbrev wzX1_begin : List Cond := .code yX1_begin cX1_begin 2 none :: wsL_law
abbrev wzX1_note : List Cond := .code yX1_note cX1_note 6 none :: wsL_law
abbrev wzX1_takeBack : List Cond := .code yX1_takeBack cX1_takeBack 1 none :: wsL_law
abbrev wzX6_raise : List Cond := .code yX6_raise cX6_raise 5 none :: wsL_law
abbrev wzX6_takeCheapest : List Cond := .code yX6_takeCheapest cX6_takeCheapest 6 (some .int) :: wsL_law
abbrev wzX6_arrive : List Cond := .code yX6_arrive cX6_arrive 7 none :: wsL_law
abbrev wzX6_go : List Cond := .code yX6_go cX6_go 7 none :: wsL_law
abbrev wzX6_depart : List Cond := .code yX6_depart cX6_depart 8 none :: wsL_law
abbrev wzX6_lade : List Cond := .code yX6_lade cX6_lade 8 none :: wsL_law
abbrev wzX6_emptied : List Cond := .code yX6_emptied cX6_emptied 9 (some .int) :: wsL_law
abbrev wzX6_explore : List Cond := .code yX6_explore cX6_explore 5 (some .boolean) :: wsL_law
abbrev wzX6_forget : List Cond := .code yX6_forget cX6_forget 1 none :: wsL_law
abbrev wzX6_leastTillServed : List Cond := .code yX6_leastTillServed cX6_leastTillServed 4 (some .int) :: wsL_law
abbrev wzX6_depthsOf : List Cond := .code yX6_depthsOf cX6_depthsOf 5 (some .int) :: wsL_law
abbrev wzX6_firstWith : List Cond := .code yX6_firstWith cX6_firstWith 4 (some .int) :: wsL_law
abbrev wzX6_ridersTo : List Cond := .code yX6_ridersTo cX6_ridersTo 5 (some .int) :: wsL_law
abbrev wzX1_copy : List Cond := .code yX1_copy cX1_copy 2 none :: wsL_law
abbrev wzX9_append : List Cond := .code yX9_append cX9_append 3 none :: wsL_law
abbrev wzX9_feed : List Cond := .code yX9_feed cX9_feed 6 (some .int) :: wsL_law
abbrev wzX9_fault : List Cond := .code yX9_fault cX9_fault 1 (some .int) :: wsL_law
abbrev wzX9_count : List Cond := .code yX9_count cX9_count 2 (some .int) :: wsL_law
abbrev wzX9_thing : List Cond := .code yX9_thing cX9_thing 3 (some .int) :: wsL_law
abbrev wzX9_bucket : List Cond := .code yX9_bucket cX9_bucket 4 (some .int) :: wsL_law
abbrev wzX9_judged : List Cond := .code yX9_judged cX9_judged 3 (some .int) :: wsL_law
abbrev wzX9_load : List Cond := .code yX9_load cX9_load 4 (some .int) :: wsL_law
abbrev wzX9_unload : List Cond := .code yX9_unload cX9_unload 4 (some .int) :: wsL_law
abbrev wzX9_ride : List Cond := .code yX9_ride cX9_ride 5 (some .int) :: wsL_law
abbrev wzX9_winding : List Cond := .code yX9_winding cX9_winding 2 (some .int) :: wsL_law
abbrev wzX9_may : List Cond := .code yX9_may cX9_may 4 (some .int) :: wsL_law
abbrev wzX9_undo : List Cond := .code yX9_undo cX9_undo 1 (some .int) :: wsL_law
abbrev wzX9_moved : List Cond := .code yX9_moved cX9_moved 3 (some .int) :: wsL_law
abbrev wzX9_back : List Cond := .code yX9_back cX9_back 4 (some .int) :: wsL_law
abbrev wzX9_fewest : List Cond := .code yX9_fewest cX9_fewest 3 (some .int) :: wsL_law
abbrev wzX9_reach : List Cond := .code yX9_reach cX9_reach 3 (some .int) :: wsL_law
abbrev wzX9_isSpared : List Cond := .code yX9_isSpared cX9_isSpared 4 (some .boolean) :: wsL_law
abbrev wzX9_bars : List Cond := .code yX9_bars cX9_bars 8 (some .int) :: wsL_law
abbrev wzX9_day : List Cond := .code yX9_day cX9_day 2 (some .int) :: wsL_law
abbrev wzX9_firstFailingDay : List Cond := .code yX9_firstFailingDay cX9_firstFailingDay 5 (some .int) :: wsL_law
abbrev wzX9_enough : List Cond := .code yX9_enough cX9_enough 6 (some .int) :: wsL_law
abbrev wzX9_image : List Cond := .code yX9_image cX9_image 1 none :: wsL_law
abbrev wzX9_restore : List Cond := .code yX9_restore cX9_restore 1 (some .boolean) :: wsL_law
abbrev wzX9_town : List Cond := .code yX9_town cX9_town 4 (some .int) :: wsL_law
abbrev wzL_town : List Cond := .codeWith yL_town cL_town 4 (some .int) [(0, 9, 12, 13)] :: wsL_law
abbrev wzL_count : List Cond := .codeWith yL_count cL_count 4 (some .int) [(0, 9, 12, 18)] :: wsL_law
abbrev wzL_thing : List Cond := .codeWith yL_thing cL_thing 5 (some .int) [(0, 10, 13, 18)] :: wsL_law
abbrev wzL_bucket : List Cond := .codeWith yL_bucket cL_bucket 5 (some .int) [(0, 10, 13, 18)] :: wsL_law
abbrev wzL_moved : List Cond := .codeWith yL_moved cL_moved 5 (some .int) [(0, 10, 13, 18)] :: wsL_law
abbrev wzL_fewest : List Cond := .codeWith yL_fewest cL_fewest 4 (some .int) [(0, 9, 12, 18)] :: wsL_law
abbrev wzL_reach : List Cond := .codeWith yL_reach cL_reach 4 (some .int) [(0, 9, 12, 18)] :: wsL_law
abbrev wzL_bars : List Cond := .codeWith yL_bars cL_bars 5 (some .int) [(0, 10, 13, 18)] :: wsL_law
abbrev wzL_enough : List Cond := .codeWith yL_enough cL_enough 4 (some .int) [(0, 9, 12, 18)] :: wsL_law
abbrev wzJx29ce0_ordinal_8abf5 : List Cond := .code yJx29ce0_ordinal_8abf5 cJx29ce0_ordinal_8abf5 1 (some .int) :: wsL_law
