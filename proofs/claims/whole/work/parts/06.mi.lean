/-! the methods: name, bytes, locals, answer, room -/
abbrev M_X0_read : MI := (yX0_read, cX0_read, 7, none, 3, 69)
theorem mc_X0_read : MC M_X0_read 1 := ⟨kc_X0_read, in_X0, by decide +kernel, by decide +kernel, by decide +kernel⟩
theorem pn_X0_read : plainName (mY M_X0_read).cls = true := by decide +kernel
abbrev M_X0_beginning : MI := (yX0_beginning, cX0_beginning, 2, (some .long), 1, 21)
theorem mc_X0_beginning : MC M_X0_beginning 1 := ⟨kc_X0_beginning, in_X0, by decide +kernel, by decide +kernel, by decide +kernel⟩
theorem pn_X0_beginning : plainName (mY M_X0_beginning).cls = true := by decide +kernel
abbrev M_X0_going : MI := (yX0_going, cX0_going, 4, (some .long), 1, 22)
theorem mc_X0_going : MC M_X0_going 3 := ⟨kc_X0_going, in_X0, by decide +kernel, by decide +kernel, by decide +kernel⟩
theorem pn_X0_going : plainName (mY M_X0_going).cls = true := by decide +kernel
abbrev M_X0_firstOf : MI := (yX0_firstOf, cX0_firstOf, 3, (some .int), 2, 42)
theorem mc_X0_firstOf : MC M_X0_firstOf 0 := ⟨kc_X0_firstOf, in_X0, by decide +kernel, by decide +kernel, by decide +kernel⟩
theorem pn_X0_firstOf : plainName (mY M_X0_firstOf).cls = true := by decide +kernel
abbrev M_X0_nextOf : MI := (yX0_nextOf, cX0_nextOf, 5, (some .int), 2, 45)
theorem mc_X0_nextOf : MC M_X0_nextOf 2 := ⟨kc_X0_nextOf, in_X0, by decide +kernel, by decide +kernel, by decide +kernel⟩
theorem pn_X0_nextOf : plainName (mY M_X0_nextOf).cls = true := by decide +kernel
abbrev M_X1_record : MI := (yX1_record, cX1_record, 2, none, 2, 61)
theorem mc_X1_record : MC M_X1_record 1 := ⟨kc_X1_record, in_X1, by decide +kernel, by decide +kernel, by decide +kernel⟩
theorem pn_X1_record : plainName (mY M_X1_record).cls = true := by decide +kernel
abbrev M_X1_dropOldest : MI := (yX1_dropOldest, cX1_dropOldest, 3, none, 0, 0)
theorem mc_X1_dropOldest : MC M_X1_dropOldest 0 := ⟨kc_X1_dropOldest, in_X1, by decide +kernel, by decide +kernel, by decide +kernel⟩
theorem pn_X1_dropOldest : plainName (mY M_X1_dropOldest).cls = true := by decide +kernel
abbrev M_X1_takeLatest : MI := (yX1_takeLatest, cX1_takeLatest, 2, none, 2, 61)
theorem mc_X1_takeLatest : MC M_X1_takeLatest 1 := ⟨kc_X1_takeLatest, in_X1, by decide +kernel, by decide +kernel, by decide +kernel⟩
theorem pn_X1_takeLatest : plainName (mY M_X1_takeLatest).cls = true := by decide +kernel
abbrev M_X2_prepareRound : MI := (yX2_prepareRound, cX2_prepareRound, 2, (some .boolean), 5, 118)
theorem mc_X2_prepareRound : MC M_X2_prepareRound 0 := ⟨kc_X2_prepareRound, in_X2, by decide +kernel, by decide +kernel, by decide +kernel⟩
theorem pn_X2_prepareRound : plainName (mY M_X2_prepareRound).cls = true := by decide +kernel
abbrev M_X2_finishRound : MI := (yX2_finishRound, cX2_finishRound, 1, none, 1, 40)
theorem mc_X2_finishRound : MC M_X2_finishRound 0 := ⟨kc_X2_finishRound, in_X2, by decide +kernel, by decide +kernel, by decide +kernel⟩
theorem pn_X2_finishRound : plainName (mY M_X2_finishRound).cls = true := by decide +kernel
abbrev M_X2_countSample : MI := (yX2_countSample, cX2_countSample, 3, none, 4, 95)
theorem mc_X2_countSample : MC M_X2_countSample 0 := ⟨kc_X2_countSample, in_X2, by decide +kernel, by decide +kernel, by decide +kernel⟩
theorem pn_X2_countSample : plainName (mY M_X2_countSample).cls = true := by decide +kernel
abbrev M_X2_addCount : MI := (yX2_addCount, cX2_addCount, 4, none, 1, 28)
theorem mc_X2_addCount : MC M_X2_addCount 2 := ⟨kc_X2_addCount, in_X2, by decide +kernel, by decide +kernel, by decide +kernel⟩
theorem pn_X2_addCount : plainName (mY M_X2_addCount).cls = true := by decide +kernel
abbrev M_X2_makeFamily : MI := (yX2_makeFamily, cX2_makeFamily, 7, none, 2, 45)
theorem mc_X2_makeFamily : MC M_X2_makeFamily 2 := ⟨kc_X2_makeFamily, in_X2, by decide +kernel, by decide +kernel, by decide +kernel⟩
theorem pn_X2_makeFamily : plainName (mY M_X2_makeFamily).cls = true := by decide +kernel
abbrev M_X2_differs : MI := (yX2_differs, cX2_differs, 2, (some .boolean), 0, 0)
theorem mc_X2_differs : MC M_X2_differs 0 := ⟨kc_X2_differs, in_X2, by decide +kernel, by decide +kernel, by decide +kernel⟩
theorem pn_X2_differs : plainName (mY M_X2_differs).cls = true := by decide +kernel
abbrev M_X3_copyFrom : MI := (yX3_copyFrom, cX3_copyFrom, 2, none, 1, 40)
theorem mc_X3_copyFrom : MC M_X3_copyFrom 1 := ⟨kc_X3_copyFrom, in_X3, by decide +kernel, by decide +kernel, by decide +kernel⟩
theorem pn_X3_copyFrom : plainName (mY M_X3_copyFrom).cls = true := by decide +kernel
abbrev M_X3_hasState : MI := (yX3_hasState, cX3_hasState, 2, (some .boolean), 0, 0)
theorem mc_X3_hasState : MC M_X3_hasState 1 := ⟨kc_X3_hasState, in_X3, by decide +kernel, by decide +kernel, by decide +kernel⟩
theorem pn_X3_hasState : plainName (mY M_X3_hasState).cls = true := by decide +kernel
abbrev M_X3_hasSample : MI := (yX3_hasSample, cX3_hasSample, 2, (some .boolean), 0, 0)
theorem mc_X3_hasSample : MC M_X3_hasSample 1 := ⟨kc_X3_hasSample, in_X3, by decide +kernel, by decide +kernel, by decide +kernel⟩
theorem pn_X3_hasSample : plainName (mY M_X3_hasSample).cls = true := by decide +kernel
abbrev M_X3_hasPlace : MI := (yX3_hasPlace, cX3_hasPlace, 3, (some .boolean), 1, 21)
theorem mc_X3_hasPlace : MC M_X3_hasPlace 2 := ⟨kc_X3_hasPlace, in_X3, by decide +kernel, by decide +kernel, by decide +kernel⟩
theorem pn_X3_hasPlace : plainName (mY M_X3_hasPlace).cls = true := by decide +kernel
abbrev M_X3_hasWeight : MI := (yX3_hasWeight, cX3_hasWeight, 5, (some .boolean), 1, 21)
theorem mc_X3_hasWeight : MC M_X3_hasWeight 3 := ⟨kc_X3_hasWeight, in_X3, by decide +kernel, by decide +kernel, by decide +kernel⟩
theorem pn_X3_hasWeight : plainName (mY M_X3_hasWeight).cls = true := by decide +kernel
abbrev M_X3_cellOf : MI := (yX3_cellOf, cX3_cellOf, 4, (some .int), 0, 0)
theorem mc_X3_cellOf : MC M_X3_cellOf 3 := ⟨kc_X3_cellOf, in_X3, by decide +kernel, by decide +kernel, by decide +kernel⟩
theorem pn_X3_cellOf : plainName (mY M_X3_cellOf).cls = true := by decide +kernel
abbrev M_X3_familySize : MI := (yX3_familySize, cX3_familySize, 2, (some .int), 0, 0)
theorem mc_X3_familySize : MC M_X3_familySize 1 := ⟨kc_X3_familySize, in_X3, by decide +kernel, by decide +kernel, by decide +kernel⟩
theorem pn_X3_familySize : plainName (mY M_X3_familySize).cls = true := by decide +kernel
abbrev M_X3_memberCell : MI := (yX3_memberCell, cX3_memberCell, 3, (some .int), 1, 23)
theorem mc_X3_memberCell : MC M_X3_memberCell 3 := ⟨kc_X3_memberCell, in_X3, by decide +kernel, by decide +kernel, by decide +kernel⟩
theorem pn_X3_memberCell : plainName (mY M_X3_memberCell).cls = true := by decide +kernel
abbrev M_X3_begin : MI := (yX3_begin, cX3_begin, 2, (some .int), 0, 0)
theorem mc_X3_begin : MC M_X3_begin 1 := ⟨kc_X3_begin, in_X3, by decide +kernel, by decide +kernel, by decide +kernel⟩
theorem pn_X3_begin : plainName (mY M_X3_begin).cls = true := by decide +kernel
abbrev M_X3_go : MI := (yX3_go, cX3_go, 3, (some .int), 0, 0)
theorem mc_X3_go : MC M_X3_go 2 := ⟨kc_X3_go, in_X3, by decide +kernel, by decide +kernel, by decide +kernel⟩
theorem pn_X3_go : plainName (mY M_X3_go).cls = true := by decide +kernel
abbrev M_X3_show : MI := (yX3_show, cX3_show, 3, (some .int), 0, 0)
theorem mc_X3_show : MC M_X3_show 2 := ⟨kc_X3_show, in_X3, by decide +kernel, by decide +kernel, by decide +kernel⟩
theorem pn_X3_show : plainName (mY M_X3_show).cls = true := by decide +kernel
abbrev M_X3_signAt : MI := (yX3_signAt, cX3_signAt, 3, (some .int), 0, 0)
theorem mc_X3_signAt : MC M_X3_signAt 2 := ⟨kc_X3_signAt, in_X3, by decide +kernel, by decide +kernel, by decide +kernel⟩
theorem pn_X3_signAt : plainName (mY M_X3_signAt).cls = true := by decide +kernel
abbrev M_X3_showAt : MI := (yX3_showAt, cX3_showAt, 4, (some .int), 1, 22)
theorem mc_X3_showAt : MC M_X3_showAt 3 := ⟨kc_X3_showAt, in_X3, by decide +kernel, by decide +kernel, by decide +kernel⟩
theorem pn_X3_showAt : plainName (mY M_X3_showAt).cls = true := by decide +kernel
abbrev M_X3_allSigns : MI := (yX3_allSigns, cX3_allSigns, 3, (some .int), 0, 0)
theorem mc_X3_allSigns : MC M_X3_allSigns 0 := ⟨kc_X3_allSigns, in_X3, by decide +kernel, by decide +kernel, by decide +kernel⟩
theorem pn_X3_allSigns : plainName (mY M_X3_allSigns).cls = true := by decide +kernel
abbrev M_X3_oddsOf : MI := (yX3_oddsOf, cX3_oddsOf, 12, (some .int), 2, 45)
theorem mc_X3_oddsOf : MC M_X3_oddsOf 3 := ⟨kc_X3_oddsOf, in_X3, by decide +kernel, by decide +kernel, by decide +kernel⟩
theorem pn_X3_oddsOf : plainName (mY M_X3_oddsOf).cls = true := by decide +kernel
abbrev M_X3_appendState : MI := (yX3_appendState, cX3_appendState, 3, none, 1, 23)
theorem mc_X3_appendState : MC M_X3_appendState 0 := ⟨kc_X3_appendState, in_X3, by decide +kernel, by decide +kernel, by decide +kernel⟩
theorem pn_X3_appendState : plainName (mY M_X3_appendState).cls = true := by decide +kernel
abbrev M_X3_appendTwin : MI := (yX3_appendTwin, cX3_appendTwin, 4, none, 1, 40)
theorem mc_X3_appendTwin : MC M_X3_appendTwin 1 := ⟨kc_X3_appendTwin, in_X3, by decide +kernel, by decide +kernel, by decide +kernel⟩
theorem pn_X3_appendTwin : plainName (mY M_X3_appendTwin).cls = true := by decide +kernel
abbrev M_X3_merge : MI := (yX3_merge, cX3_merge, 5, none, 2, 64)
theorem mc_X3_merge : MC M_X3_merge 2 := ⟨kc_X3_merge, in_X3, by decide +kernel, by decide +kernel, by decide +kernel⟩
theorem pn_X3_merge : plainName (mY M_X3_merge).cls = true := by decide +kernel
abbrev M_X3_addInto : MI := (yX3_addInto, cX3_addInto, 3, none, 1, 21)
theorem mc_X3_addInto : MC M_X3_addInto 2 := ⟨kc_X3_addInto, in_X3, by decide +kernel, by decide +kernel, by decide +kernel⟩
theorem pn_X3_addInto : plainName (mY M_X3_addInto).cls = true := by decide +kernel
abbrev M_X3_dropState : MI := (yX3_dropState, cX3_dropState, 5, none, 1, 40)
theorem mc_X3_dropState : MC M_X3_dropState 1 := ⟨kc_X3_dropState, in_X3, by decide +kernel, by decide +kernel, by decide +kernel⟩
theorem pn_X3_dropState : plainName (mY M_X3_dropState).cls = true := by decide +kernel
abbrev M_X3_beginSample : MI := (yX3_beginSample, cX3_beginSample, 1, none, 0, 0)
theorem mc_X3_beginSample : MC M_X3_beginSample 0 := ⟨kc_X3_beginSample, in_X3, by decide +kernel, by decide +kernel, by decide +kernel⟩
theorem pn_X3_beginSample : plainName (mY M_X3_beginSample).cls = true := by decide +kernel
abbrev M_X3_appendSign : MI := (yX3_appendSign, cX3_appendSign, 3, none, 0, 0)
theorem mc_X3_appendSign : MC M_X3_appendSign 1 := ⟨kc_X3_appendSign, in_X3, by decide +kernel, by decide +kernel, by decide +kernel⟩
theorem pn_X3_appendSign : plainName (mY M_X3_appendSign).cls = true := by decide +kernel
abbrev M_X3_dropSample : MI := (yX3_dropSample, cX3_dropSample, 4, none, 1, 40)
theorem mc_X3_dropSample : MC M_X3_dropSample 1 := ⟨kc_X3_dropSample, in_X3, by decide +kernel, by decide +kernel, by decide +kernel⟩
theorem pn_X3_dropSample : plainName (mY M_X3_dropSample).cls = true := by decide +kernel
abbrev M_X4_read : MI := (yX4_read, cX4_read, 7, none, 3, 70)
theorem mc_X4_read : MC M_X4_read 1 := ⟨kc_X4_read, in_X4, by decide +kernel, by decide +kernel, by decide +kernel⟩
theorem pn_X4_read : plainName (mY M_X4_read).cls = true := by decide +kernel
abbrev M_X4_partsBehind : MI := (yX4_partsBehind, cX4_partsBehind, 5, (some .int), 2, 46)
theorem mc_X4_partsBehind : MC M_X4_partsBehind 2 := ⟨kc_X4_partsBehind, in_X4, by decide +kernel, by decide +kernel, by decide +kernel⟩
theorem pn_X4_partsBehind : plainName (mY M_X4_partsBehind).cls = true := by decide +kernel
abbrev M_X4_entering : MI := (yX4_entering, cX4_entering, 5, (some .int), 1, 22)
theorem mc_X4_entering : MC M_X4_entering 3 := ⟨kc_X4_entering, in_X4, by decide +kernel, by decide +kernel, by decide +kernel⟩
theorem pn_X4_entering : plainName (mY M_X4_entering).cls = true := by decide +kernel
abbrev M_X4_stateAt : MI := (yX4_stateAt, cX4_stateAt, 7, (some .int), 2, 46)
theorem mc_X4_stateAt : MC M_X4_stateAt 2 := ⟨kc_X4_stateAt, in_X4, by decide +kernel, by decide +kernel, by decide +kernel⟩
theorem pn_X4_stateAt : plainName (mY M_X4_stateAt).cls = true := by decide +kernel
abbrev M_X5_append : MI := (yX5_append, cX5_append, 2, none, 0, 0)
theorem mc_X5_append : MC M_X5_append 1 := ⟨kc_X5_append, in_X5, by decide +kernel, by decide +kernel, by decide +kernel⟩
theorem pn_X5_append : plainName (mY M_X5_append).cls = true := by decide +kernel
abbrev M_X5_empty : MI := (yX5_empty, cX5_empty, 1, none, 0, 0)
theorem mc_X5_empty : MC M_X5_empty 0 := ⟨kc_X5_empty, in_X5, by decide +kernel, by decide +kernel, by decide +kernel⟩
theorem pn_X5_empty : plainName (mY M_X5_empty).cls = true := by decide +kernel
abbrev M_X5_fault : MI := (yX5_fault, cX5_fault, 4, (some .int), 1, 20)
theorem mc_X5_fault : MC M_X5_fault 0 := ⟨kc_X5_fault, in_X5, by decide +kernel, by decide +kernel, by decide +kernel⟩
theorem pn_X5_fault : plainName (mY M_X5_fault).cls = true := by decide +kernel
abbrev M_X5_isLetter : MI := (yX5_isLetter, cX5_isLetter, 1, (some .boolean), 0, 0)
theorem mc_X5_isLetter : MC M_X5_isLetter 1 := ⟨kc_X5_isLetter, in_X5, by decide +kernel, by decide +kernel, by decide +kernel⟩
theorem pn_X5_isLetter : plainName (mY M_X5_isLetter).cls = true := by decide +kernel
abbrev M_X5_samples : MI := (yX5_samples, cX5_samples, 3, (some .int), 0, 0)
theorem mc_X5_samples : MC M_X5_samples 0 := ⟨kc_X5_samples, in_X5, by decide +kernel, by decide +kernel, by decide +kernel⟩
theorem pn_X5_samples : plainName (mY M_X5_samples).cls = true := by decide +kernel
abbrev M_X5_appendTo : MI := (yX5_appendTo, cX5_appendTo, 3, none, 1, 22)
theorem mc_X5_appendTo : MC M_X5_appendTo 1 := ⟨kc_X5_appendTo, in_X5, by decide +kernel, by decide +kernel, by decide +kernel⟩
theorem pn_X5_appendTo : plainName (mY M_X5_appendTo).cls = true := by decide +kernel
abbrev M_X6_read : MI := (yX6_read, cX6_read, 4, none, 4, 95)
theorem mc_X6_read : MC M_X6_read 1 := ⟨kc_X6_read, in_X6, by decide +kernel, by decide +kernel, by decide +kernel⟩
theorem pn_X6_read : plainName (mY M_X6_read).cls = true := by decide +kernel
abbrev M_X6_aheadOf : MI := (yX6_aheadOf, cX6_aheadOf, 6, (some .long), 2, 45)
theorem mc_X6_aheadOf : MC M_X6_aheadOf 2 := ⟨kc_X6_aheadOf, in_X6, by decide +kernel, by decide +kernel, by decide +kernel⟩
theorem pn_X6_aheadOf : plainName (mY M_X6_aheadOf).cls = true := by decide +kernel
abbrev M_X6_behindOf : MI := (yX6_behindOf, cX6_behindOf, 6, (some .long), 3, 70)
theorem mc_X6_behindOf : MC M_X6_behindOf 2 := ⟨kc_X6_behindOf, in_X6, by decide +kernel, by decide +kernel, by decide +kernel⟩
theorem pn_X6_behindOf : plainName (mY M_X6_behindOf).cls = true := by decide +kernel
abbrev M_X6_stepBehind : MI := (yX6_stepBehind, cX6_stepBehind, 6, (some .long), 2, 45)
theorem mc_X6_stepBehind : MC M_X6_stepBehind 3 := ⟨kc_X6_stepBehind, in_X6, by decide +kernel, by decide +kernel, by decide +kernel⟩
theorem pn_X6_stepBehind : plainName (mY M_X6_stepBehind).cls = true := by decide +kernel
abbrev M_X6_at : MI := (yX6_at, cX6_at, 4, (some .long), 0, 0)
theorem mc_X6_at : MC M_X6_at 2 := ⟨kc_X6_at, in_X6, by decide +kernel, by decide +kernel, by decide +kernel⟩
theorem pn_X6_at : plainName (mY M_X6_at).cls = true := by decide +kernel
abbrev M_X6_showing : MI := (yX6_showing, cX6_showing, 6, (some .long), 1, 23)
theorem mc_X6_showing : MC M_X6_showing 2 := ⟨kc_X6_showing, in_X6, by decide +kernel, by decide +kernel, by decide +kernel⟩
theorem pn_X6_showing : plainName (mY M_X6_showing).cls = true := by decide +kernel
abbrev M_X6_goingOn : MI := (yX6_goingOn, cX6_goingOn, 6, (some .long), 3, 70)
theorem mc_X6_goingOn : MC M_X6_goingOn 2 := ⟨kc_X6_goingOn, in_X6, by decide +kernel, by decide +kernel, by decide +kernel⟩
theorem pn_X6_goingOn : plainName (mY M_X6_goingOn).cls = true := by decide +kernel
abbrev M_X6_behindLast : MI := (yX6_behindLast, cX6_behindLast, 8, (some .long), 1, 23)
theorem mc_X6_behindLast : MC M_X6_behindLast 1 := ⟨kc_X6_behindLast, in_X6, by decide +kernel, by decide +kernel, by decide +kernel⟩
theorem pn_X6_behindLast : plainName (mY M_X6_behindLast).cls = true := by decide +kernel
abbrev M_X6_likeliestAt : MI := (yX6_likeliestAt, cX6_likeliestAt, 4, (some .int), 1, 23)
theorem mc_X6_likeliestAt : MC M_X6_likeliestAt 1 := ⟨kc_X6_likeliestAt, in_X6, by decide +kernel, by decide +kernel, by decide +kernel⟩
theorem pn_X6_likeliestAt : plainName (mY M_X6_likeliestAt).cls = true := by decide +kernel
abbrev M_X6_doubtfulPlaces : MI := (yX6_doubtfulPlaces, cX6_doubtfulPlaces, 3, (some .int), 2, 46)
theorem mc_X6_doubtfulPlaces : MC M_X6_doubtfulPlaces 0 := ⟨kc_X6_doubtfulPlaces, in_X6, by decide +kernel, by decide +kernel, by decide +kernel⟩
theorem pn_X6_doubtfulPlaces : plainName (mY M_X6_doubtfulPlaces).cls = true := by decide +kernel
abbrev M_X7_setWeight : MI := (yX7_setWeight, cX7_setWeight, 7, (some .int), 3, 82)
theorem mc_X7_setWeight : MC M_X7_setWeight 4 := ⟨kc_X7_setWeight, in_X7, by decide +kernel, by decide +kernel, by decide +kernel⟩
theorem pn_X7_setWeight : plainName (mY M_X7_setWeight).cls = true := by decide +kernel
abbrev M_X7_addState : MI := (yX7_addState, cX7_addState, 1, (some .int), 3, 82)
theorem mc_X7_addState : MC M_X7_addState 0 := ⟨kc_X7_addState, in_X7, by decide +kernel, by decide +kernel, by decide +kernel⟩
theorem pn_X7_addState : plainName (mY M_X7_addState).cls = true := by decide +kernel
abbrev M_X7_split : MI := (yX7_split, cX7_split, 2, (some .int), 3, 82)
theorem mc_X7_split : MC M_X7_split 1 := ⟨kc_X7_split, in_X7, by decide +kernel, by decide +kernel, by decide +kernel⟩
theorem pn_X7_split : plainName (mY M_X7_split).cls = true := by decide +kernel
abbrev M_X7_join : MI := (yX7_join, cX7_join, 3, (some .int), 3, 88)
theorem mc_X7_join : MC M_X7_join 2 := ⟨kc_X7_join, in_X7, by decide +kernel, by decide +kernel, by decide +kernel⟩
theorem pn_X7_join : plainName (mY M_X7_join).cls = true := by decide +kernel
abbrev M_X7_removeState : MI := (yX7_removeState, cX7_removeState, 2, (some .int), 3, 82)
theorem mc_X7_removeState : MC M_X7_removeState 1 := ⟨kc_X7_removeState, in_X7, by decide +kernel, by decide +kernel, by decide +kernel⟩
theorem pn_X7_removeState : plainName (mY M_X7_removeState).cls = true := by decide +kernel
abbrev M_X7_setBound : MI := (yX7_setBound, cX7_setBound, 3, (some .int), 3, 82)
theorem mc_X7_setBound : MC M_X7_setBound 1 := ⟨kc_X7_setBound, in_X7, by decide +kernel, by decide +kernel, by decide +kernel⟩
theorem pn_X7_setBound : plainName (mY M_X7_setBound).cls = true := by decide +kernel
abbrev M_X7_addSamples : MI := (yX7_addSamples, cX7_addSamples, 3, (some .int), 3, 82)
theorem mc_X7_addSamples : MC M_X7_addSamples 0 := ⟨kc_X7_addSamples, in_X7, by decide +kernel, by decide +kernel, by decide +kernel⟩
theorem pn_X7_addSamples : plainName (mY M_X7_addSamples).cls = true := by decide +kernel
abbrev M_X7_removeSample : MI := (yX7_removeSample, cX7_removeSample, 2, (some .int), 3, 82)
theorem mc_X7_removeSample : MC M_X7_removeSample 1 := ⟨kc_X7_removeSample, in_X7, by decide +kernel, by decide +kernel, by decide +kernel⟩
theorem pn_X7_removeSample : plainName (mY M_X7_removeSample).cls = true := by decide +kernel
abbrev M_X7_learn : MI := (yX7_learn, cX7_learn, 4, (some .int), 6, 139)
theorem mc_X7_learn : MC M_X7_learn 1 := ⟨kc_X7_learn, in_X7, by decide +kernel, by decide +kernel, by decide +kernel⟩
theorem pn_X7_learn : plainName (mY M_X7_learn).cls = true := by decide +kernel
abbrev M_X7_type : MI := (yX7_type, cX7_type, 2, (some .int), 1, 21)
theorem mc_X7_type : MC M_X7_type 1 := ⟨kc_X7_type, in_X7, by decide +kernel, by decide +kernel, by decide +kernel⟩
theorem pn_X7_type : plainName (mY M_X7_type).cls = true := by decide +kernel
abbrev M_X7_clearText : MI := (yX7_clearText, cX7_clearText, 2, (some .int), 1, 20)
theorem mc_X7_clearText : MC M_X7_clearText 0 := ⟨kc_X7_clearText, in_X7, by decide +kernel, by decide +kernel, by decide +kernel⟩
theorem pn_X7_clearText : plainName (mY M_X7_clearText).cls = true := by decide +kernel
abbrev M_X7_undo : MI := (yX7_undo, cX7_undo, 1, (some .int), 3, 82)
theorem mc_X7_undo : MC M_X7_undo 0 := ⟨kc_X7_undo, in_X7, by decide +kernel, by decide +kernel, by decide +kernel⟩
theorem pn_X7_undo : plainName (mY M_X7_undo).cls = true := by decide +kernel
abbrev M_X7_keep : MI := (yX7_keep, cX7_keep, 1, (some .int), 2, 61)
theorem mc_X7_keep : MC M_X7_keep 0 := ⟨kc_X7_keep, in_X7, by decide +kernel, by decide +kernel, by decide +kernel⟩
theorem pn_X7_keep : plainName (mY M_X7_keep).cls = true := by decide +kernel
abbrev M_X7_restore : MI := (yX7_restore, cX7_restore, 1, (some .int), 3, 82)
theorem mc_X7_restore : MC M_X7_restore 0 := ⟨kc_X7_restore, in_X7, by decide +kernel, by decide +kernel, by decide +kernel⟩
theorem pn_X7_restore : plainName (mY M_X7_restore).cls = true := by decide +kernel
abbrev M_X7_weight : MI := (yX7_weight, cX7_weight, 5, (some .int), 3, 76)
theorem mc_X7_weight : MC M_X7_weight 4 := ⟨kc_X7_weight, in_X7, by decide +kernel, by decide +kernel, by decide +kernel⟩
theorem pn_X7_weight : plainName (mY M_X7_weight).cls = true := by decide +kernel
abbrev M_X7_sign : MI := (yX7_sign, cX7_sign, 3, (some .int), 2, 43)
theorem mc_X7_sign : MC M_X7_sign 2 := ⟨kc_X7_sign, in_X7, by decide +kernel, by decide +kernel, by decide +kernel⟩
theorem pn_X7_sign : plainName (mY M_X7_sign).cls = true := by decide +kernel
abbrev M_X7_ofSample : MI := (yX7_ofSample, cX7_ofSample, 3, (some .long), 5, 118)
theorem mc_X7_ofSample : MC M_X7_ofSample 2 := ⟨kc_X7_ofSample, in_X7, by decide +kernel, by decide +kernel, by decide +kernel⟩
theorem pn_X7_ofSample : plainName (mY M_X7_ofSample).cls = true := by decide +kernel
abbrev M_X7_best : MI := (yX7_best, cX7_best, 3, (some .int), 4, 95)
theorem mc_X7_best : MC M_X7_best 2 := ⟨kc_X7_best, in_X7, by decide +kernel, by decide +kernel, by decide +kernel⟩
theorem pn_X7_best : plainName (mY M_X7_best).cls = true := by decide +kernel
abbrev M_X7_share : MI := (yX7_share, cX7_share, 4, (some .int), 5, 118)
theorem mc_X7_share : MC M_X7_share 3 := ⟨kc_X7_share, in_X7, by decide +kernel, by decide +kernel, by decide +kernel⟩
theorem pn_X7_share : plainName (mY M_X7_share).cls = true := by decide +kernel
abbrev M_X7_likeliest : MI := (yX7_likeliest, cX7_likeliest, 3, (some .int), 5, 118)
theorem mc_X7_likeliest : MC M_X7_likeliest 2 := ⟨kc_X7_likeliest, in_X7, by decide +kernel, by decide +kernel, by decide +kernel⟩
theorem pn_X7_likeliest : plainName (mY M_X7_likeliest).cls = true := by decide +kernel
abbrev M_X7_doubtful : MI := (yX7_doubtful, cX7_doubtful, 2, (some .int), 5, 118)
theorem mc_X7_doubtful : MC M_X7_doubtful 1 := ⟨kc_X7_doubtful, in_X7, by decide +kernel, by decide +kernel, by decide +kernel⟩
theorem pn_X7_doubtful : plainName (mY M_X7_doubtful).cls = true := by decide +kernel
abbrev M_X7_run : MI := (yX7_run, cX7_run, 4, (some .int), 4, 96)
theorem mc_X7_run : MC M_X7_run 3 := ⟨kc_X7_run, in_X7, by decide +kernel, by decide +kernel, by decide +kernel⟩
theorem pn_X7_run : plainName (mY M_X7_run).cls = true := by decide +kernel
abbrev M_X7_next : MI := (yX7_next, cX7_next, 6, (some .int), 5, 118)
theorem mc_X7_next : MC M_X7_next 2 := ⟨kc_X7_next, in_X7, by decide +kernel, by decide +kernel, by decide +kernel⟩
theorem pn_X7_next : plainName (mY M_X7_next).cls = true := by decide +kernel
abbrev M_X7_count : MI := (yX7_count, cX7_count, 2, (some .int), 6, 140)
theorem mc_X7_count : MC M_X7_count 1 := ⟨kc_X7_count, in_X7, by decide +kernel, by decide +kernel, by decide +kernel⟩
theorem pn_X7_count : plainName (mY M_X7_count).cls = true := by decide +kernel
abbrev M_X7_isKind : MI := (yX7_isKind, cX7_isKind, 1, (some .boolean), 0, 0)
theorem mc_X7_isKind : MC M_X7_isKind 1 := ⟨kc_X7_isKind, in_X7, by decide +kernel, by decide +kernel, by decide +kernel⟩
theorem pn_X7_isKind : plainName (mY M_X7_isKind).cls = true := by decide +kernel
abbrev M_X7_shareOf : MI := (yX7_shareOf, cX7_shareOf, 9, (some .int), 0, 0)
theorem mc_X7_shareOf : MC M_X7_shareOf 2 := ⟨kc_X7_shareOf, in_X7, by decide +kernel, by decide +kernel, by decide +kernel⟩
theorem pn_X7_shareOf : plainName (mY M_X7_shareOf).cls = true := by decide +kernel
abbrev M_X7_allDoubtful : MI := (yX7_allDoubtful, cX7_allDoubtful, 3, (some .int), 5, 118)
theorem mc_X7_allDoubtful : MC M_X7_allDoubtful 0 := ⟨kc_X7_allDoubtful, in_X7, by decide +kernel, by decide +kernel, by decide +kernel⟩
theorem pn_X7_allDoubtful : plainName (mY M_X7_allDoubtful).cls = true := by decide +kernel
abbrev M_X7_samplesWithoutTotal : MI := (yX7_samplesWithoutTotal, cX7_samplesWithoutTotal, 3, (some .int), 5, 118)
theorem mc_X7_samplesWithoutTotal : MC M_X7_samplesWithoutTotal 0 := ⟨kc_X7_samplesWithoutTotal, in_X7, by decide +kernel, by decide +kernel, by decide +kernel⟩
theorem pn_X7_samplesWithoutTotal : plainName (mY M_X7_samplesWithoutTotal).cls = true := by decide +kernel
abbrev M_X7_placesOffBest : MI := (yX7_placesOffBest, cX7_placesOffBest, 3, (some .int), 5, 118)
theorem mc_X7_placesOffBest : MC M_X7_placesOffBest 0 := ⟨kc_X7_placesOffBest, in_X7, by decide +kernel, by decide +kernel, by decide +kernel⟩
theorem pn_X7_placesOffBest : plainName (mY M_X7_placesOffBest).cls = true := by decide +kernel
abbrev M_X7_placesOffPath : MI := (yX7_placesOffPath, cX7_placesOffPath, 4, (some .int), 2, 46)
theorem mc_X7_placesOffPath : MC M_X7_placesOffPath 1 := ⟨kc_X7_placesOffPath, in_X7, by decide +kernel, by decide +kernel, by decide +kernel⟩
theorem pn_X7_placesOffPath : plainName (mY M_X7_placesOffPath).cls = true := by decide +kernel
abbrev M_X8_in : MI := (yX8_in, cX8_in, 3, (some .boolean), 0, 0)
theorem mc_X8_in : MC M_X8_in 3 := ⟨kc_X8_in, in_X8, by decide +kernel, by decide +kernel, by decide +kernel⟩
theorem pn_X8_in : plainName (mY M_X8_in).cls = true := by decide +kernel
abbrev M_X8_isState : MI := (yX8_isState, cX8_isState, 2, (some .boolean), 1, 22)
theorem mc_X8_isState : MC M_X8_isState 1 := ⟨kc_X8_isState, in_X8, by decide +kernel, by decide +kernel, by decide +kernel⟩
theorem pn_X8_isState : plainName (mY M_X8_isState).cls = true := by decide +kernel
abbrev M_X8_isSample : MI := (yX8_isSample, cX8_isSample, 2, (some .boolean), 1, 22)
theorem mc_X8_isSample : MC M_X8_isSample 1 := ⟨kc_X8_isSample, in_X8, by decide +kernel, by decide +kernel, by decide +kernel⟩
theorem pn_X8_isSample : plainName (mY M_X8_isSample).cls = true := by decide +kernel
abbrev M_X8_go : MI := (yX8_go, cX8_go, 3, (some .int), 0, 0)
theorem mc_X8_go : MC M_X8_go 2 := ⟨kc_X8_go, in_X8, by decide +kernel, by decide +kernel, by decide +kernel⟩
theorem pn_X8_go : plainName (mY M_X8_go).cls = true := by decide +kernel
abbrev M_X8_show : MI := (yX8_show, cX8_show, 3, (some .int), 0, 0)
theorem mc_X8_show : MC M_X8_show 2 := ⟨kc_X8_show, in_X8, by decide +kernel, by decide +kernel, by decide +kernel⟩
theorem pn_X8_show : plainName (mY M_X8_show).cls = true := by decide +kernel
abbrev M_X8_placesOf : MI := (yX8_placesOf, cX8_placesOf, 2, (some .int), 0, 0)
theorem mc_X8_placesOf : MC M_X8_placesOf 1 := ⟨kc_X8_placesOf, in_X8, by decide +kernel, by decide +kernel, by decide +kernel⟩
theorem pn_X8_placesOf : plainName (mY M_X8_placesOf).cls = true := by decide +kernel
abbrev M_X8_signAt : MI := (yX8_signAt, cX8_signAt, 3, (some .int), 0, 0)
theorem mc_X8_signAt : MC M_X8_signAt 2 := ⟨kc_X8_signAt, in_X8, by decide +kernel, by decide +kernel, by decide +kernel⟩
theorem pn_X8_signAt : plainName (mY M_X8_signAt).cls = true := by decide +kernel
abbrev M_X8_fills : MI := (yX8_fills, cX8_fills, 3, none, 0, 0)
theorem mc_X8_fills : MC M_X8_fills 1 := ⟨kc_X8_fills, in_X8, by decide +kernel, by decide +kernel, by decide +kernel⟩
theorem pn_X8_fills : plainName (mY M_X8_fills).cls = true := by decide +kernel
abbrev M_X8_records : MI := (yX8_records, cX8_records, 2, none, 0, 0)
theorem mc_X8_records : MC M_X8_records 0 := ⟨kc_X8_records, in_X8, by decide +kernel, by decide +kernel, by decide +kernel⟩
theorem pn_X8_records : plainName (mY M_X8_records).cls = true := by decide +kernel
abbrev M_X8_laysRuns : MI := (yX8_laysRuns, cX8_laysRuns, 8, none, 3, 80)
theorem mc_X8_laysRuns : MC M_X8_laysRuns 1 := ⟨kc_X8_laysRuns, in_X8, by decide +kernel, by decide +kernel, by decide +kernel⟩
theorem pn_X8_laysRuns : plainName (mY M_X8_laysRuns).cls = true := by decide +kernel
abbrev M_X8_step : MI := (yX8_step, cX8_step, 5, (some .long), 1, 22)
theorem mc_X8_step : MC M_X8_step 4 := ⟨kc_X8_step, in_X8, by decide +kernel, by decide +kernel, by decide +kernel⟩
theorem pn_X8_step : plainName (mY M_X8_step).cls = true := by decide +kernel
abbrev M_X8_laysBehind : MI := (yX8_laysBehind, cX8_laysBehind, 15, none, 2, 46)
theorem mc_X8_laysBehind : MC M_X8_laysBehind 3 := ⟨kc_X8_laysBehind, in_X8, by decide +kernel, by decide +kernel, by decide +kernel⟩
theorem pn_X8_laysBehind : plainName (mY M_X8_laysBehind).cls = true := by decide +kernel
abbrev M_X8_weightAt : MI := (yX8_weightAt, cX8_weightAt, 3, (some .long), 0, 0)
theorem mc_X8_weightAt : MC M_X8_weightAt 2 := ⟨kc_X8_weightAt, in_X8, by decide +kernel, by decide +kernel, by decide +kernel⟩
theorem pn_X8_weightAt : plainName (mY M_X8_weightAt).cls = true := by decide +kernel
abbrev M_X8_total : MI := (yX8_total, cX8_total, 4, (some .long), 1, 22)
theorem mc_X8_total : MC M_X8_total 0 := ⟨kc_X8_total, in_X8, by decide +kernel, by decide +kernel, by decide +kernel⟩
theorem pn_X8_total : plainName (mY M_X8_total).cls = true := by decide +kernel
abbrev M_X8_runsThatCount : MI := (yX8_runsThatCount, cX8_runsThatCount, 4, (some .long), 0, 0)
theorem mc_X8_runsThatCount : MC M_X8_runsThatCount 0 := ⟨kc_X8_runsThatCount, in_X8, by decide +kernel, by decide +kernel, by decide +kernel⟩
theorem pn_X8_runsThatCount : plainName (mY M_X8_runsThatCount).cls = true := by decide +kernel
abbrev M_X8_bestWeight : MI := (yX8_bestWeight, cX8_bestWeight, 6, (some .long), 0, 0)
theorem mc_X8_bestWeight : MC M_X8_bestWeight 0 := ⟨kc_X8_bestWeight, in_X8, by decide +kernel, by decide +kernel, by decide +kernel⟩
theorem pn_X8_bestWeight : plainName (mY M_X8_bestWeight).cls = true := by decide +kernel
abbrev M_X8_shareOf : MI := (yX8_shareOf, cX8_shareOf, 9, (some .int), 0, 0)
theorem mc_X8_shareOf : MC M_X8_shareOf 2 := ⟨kc_X8_shareOf, in_X8, by decide +kernel, by decide +kernel, by decide +kernel⟩
theorem pn_X8_shareOf : plainName (mY M_X8_shareOf).cls = true := by decide +kernel
abbrev M_X8_bestAt : MI := (yX8_bestAt, cX8_bestAt, 8, (some .int), 2, 46)
theorem mc_X8_bestAt : MC M_X8_bestAt 2 := ⟨kc_X8_bestAt, in_X8, by decide +kernel, by decide +kernel, by decide +kernel⟩
theorem pn_X8_bestAt : plainName (mY M_X8_bestAt).cls = true := by decide +kernel
abbrev M_X8_runAt : MI := (yX8_runAt, cX8_runAt, 10, (some .int), 2, 46)
theorem mc_X8_runAt : MC M_X8_runAt 3 := ⟨kc_X8_runAt, in_X8, by decide +kernel, by decide +kernel, by decide +kernel⟩
theorem pn_X8_runAt : plainName (mY M_X8_runAt).cls = true := by decide +kernel
abbrev M_X8_likeliestAt : MI := (yX8_likeliestAt, cX8_likeliestAt, 4, (some .int), 1, 22)
theorem mc_X8_likeliestAt : MC M_X8_likeliestAt 1 := ⟨kc_X8_likeliestAt, in_X8, by decide +kernel, by decide +kernel, by decide +kernel⟩
theorem pn_X8_likeliestAt : plainName (mY M_X8_likeliestAt).cls = true := by decide +kernel
abbrev M_X8_placeOf : MI := (yX8_placeOf, cX8_placeOf, 5, (some .int), 2, 43)
theorem mc_X8_placeOf : MC M_X8_placeOf 3 := ⟨kc_X8_placeOf, in_X8, by decide +kernel, by decide +kernel, by decide +kernel⟩
theorem pn_X8_placeOf : plainName (mY M_X8_placeOf).cls = true := by decide +kernel
abbrev M_X8_setWeight : MI := (yX8_setWeight, cX8_setWeight, 7, (some .int), 3, 67)
theorem mc_X8_setWeight : MC M_X8_setWeight 4 := ⟨kc_X8_setWeight, in_X8, by decide +kernel, by decide +kernel, by decide +kernel⟩
theorem pn_X8_setWeight : plainName (mY M_X8_setWeight).cls = true := by decide +kernel
abbrev M_X8_addState : MI := (yX8_addState, cX8_addState, 1, (some .int), 1, 22)
theorem mc_X8_addState : MC M_X8_addState 0 := ⟨kc_X8_addState, in_X8, by decide +kernel, by decide +kernel, by decide +kernel⟩
theorem pn_X8_addState : plainName (mY M_X8_addState).cls = true := by decide +kernel
abbrev M_X8_split : MI := (yX8_split, cX8_split, 5, (some .int), 2, 43)
theorem mc_X8_split : MC M_X8_split 1 := ⟨kc_X8_split, in_X8, by decide +kernel, by decide +kernel, by decide +kernel⟩
theorem pn_X8_split : plainName (mY M_X8_split).cls = true := by decide +kernel
abbrev M_X8_drops : MI := (yX8_drops, cX8_drops, 4, none, 1, 22)
theorem mc_X8_drops : MC M_X8_drops 1 := ⟨kc_X8_drops, in_X8, by decide +kernel, by decide +kernel, by decide +kernel⟩
theorem pn_X8_drops : plainName (mY M_X8_drops).cls = true := by decide +kernel
abbrev M_X8_clears : MI := (yX8_clears, cX8_clears, 3, none, 0, 0)
theorem mc_X8_clears : MC M_X8_clears 1 := ⟨kc_X8_clears, in_X8, by decide +kernel, by decide +kernel, by decide +kernel⟩
theorem pn_X8_clears : plainName (mY M_X8_clears).cls = true := by decide +kernel
abbrev M_X8_capped : MI := (yX8_capped, cX8_capped, 1, (some .int), 0, 0)
theorem mc_X8_capped : MC M_X8_capped 1 := ⟨kc_X8_capped, in_X8, by decide +kernel, by decide +kernel, by decide +kernel⟩
theorem pn_X8_capped : plainName (mY M_X8_capped).cls = true := by decide +kernel
abbrev M_X8_join : MI := (yX8_join, cX8_join, 7, (some .int), 2, 45)
theorem mc_X8_join : MC M_X8_join 2 := ⟨kc_X8_join, in_X8, by decide +kernel, by decide +kernel, by decide +kernel⟩
theorem pn_X8_join : plainName (mY M_X8_join).cls = true := by decide +kernel
abbrev M_X8_removeState : MI := (yX8_removeState, cX8_removeState, 2, (some .int), 2, 45)
theorem mc_X8_removeState : MC M_X8_removeState 1 := ⟨kc_X8_removeState, in_X8, by decide +kernel, by decide +kernel, by decide +kernel⟩
theorem pn_X8_removeState : plainName (mY M_X8_removeState).cls = true := by decide +kernel
abbrev M_X8_setBound : MI := (yX8_setBound, cX8_setBound, 3, (some .int), 1, 22)
theorem mc_X8_setBound : MC M_X8_setBound 1 := ⟨kc_X8_setBound, in_X8, by decide +kernel, by decide +kernel, by decide +kernel⟩
theorem pn_X8_setBound : plainName (mY M_X8_setBound).cls = true := by decide +kernel
abbrev M_X8_letter : MI := (yX8_letter, cX8_letter, 1, (some .int), 0, 0)
theorem mc_X8_letter : MC M_X8_letter 0 := ⟨kc_X8_letter, in_X8, by decide +kernel, by decide +kernel, by decide +kernel⟩
theorem pn_X8_letter : plainName (mY M_X8_letter).cls = true := by decide +kernel
abbrev M_X8_readsSample : MI := (yX8_readsSample, cX8_readsSample, 2, none, 1, 22)
theorem mc_X8_readsSample : MC M_X8_readsSample 0 := ⟨kc_X8_readsSample, in_X8, by decide +kernel, by decide +kernel, by decide +kernel⟩
theorem pn_X8_readsSample : plainName (mY M_X8_readsSample).cls = true := by decide +kernel
abbrev M_X8_reads : MI := (yX8_reads, cX8_reads, 1, (some .int), 2, 43)
theorem mc_X8_reads : MC M_X8_reads 0 := ⟨kc_X8_reads, in_X8, by decide +kernel, by decide +kernel, by decide +kernel⟩
theorem pn_X8_reads : plainName (mY M_X8_reads).cls = true := by decide +kernel
abbrev M_X8_addSamples : MI := (yX8_addSamples, cX8_addSamples, 4, (some .int), 3, 63)
theorem mc_X8_addSamples : MC M_X8_addSamples 0 := ⟨kc_X8_addSamples, in_X8, by decide +kernel, by decide +kernel, by decide +kernel⟩
theorem pn_X8_addSamples : plainName (mY M_X8_addSamples).cls = true := by decide +kernel
abbrev M_X8_removeSample : MI := (yX8_removeSample, cX8_removeSample, 3, (some .int), 2, 43)
theorem mc_X8_removeSample : MC M_X8_removeSample 1 := ⟨kc_X8_removeSample, in_X8, by decide +kernel, by decide +kernel, by decide +kernel⟩
theorem pn_X8_removeSample : plainName (mY M_X8_removeSample).cls = true := by decide +kernel
abbrev M_X8_counts : MI := (yX8_counts, cX8_counts, 9, none, 2, 46)
theorem mc_X8_counts : MC M_X8_counts 2 := ⟨kc_X8_counts, in_X8, by decide +kernel, by decide +kernel, by decide +kernel⟩
theorem pn_X8_counts : plainName (mY M_X8_counts).cls = true := by decide +kernel
abbrev M_X8_learnsFamily : MI := (yX8_learnsFamily, cX8_learnsFamily, 8, (some .boolean), 0, 0)
theorem mc_X8_learnsFamily : MC M_X8_learnsFamily 2 := ⟨kc_X8_learnsFamily, in_X8, by decide +kernel, by decide +kernel, by decide +kernel⟩
theorem pn_X8_learnsFamily : plainName (mY M_X8_learnsFamily).cls = true := by decide +kernel
abbrev M_X8_learnsOnce : MI := (yX8_learnsOnce, cX8_learnsOnce, 4, (some .boolean), 4, 107)
theorem mc_X8_learnsOnce : MC M_X8_learnsOnce 0 := ⟨kc_X8_learnsOnce, in_X8, by decide +kernel, by decide +kernel, by decide +kernel⟩
theorem pn_X8_learnsOnce : plainName (mY M_X8_learnsOnce).cls = true := by decide +kernel
abbrev M_X8_learn : MI := (yX8_learn, cX8_learn, 3, (some .int), 5, 130)
theorem mc_X8_learn : MC M_X8_learn 1 := ⟨kc_X8_learn, in_X8, by decide +kernel, by decide +kernel, by decide +kernel⟩
theorem pn_X8_learn : plainName (mY M_X8_learn).cls = true := by decide +kernel
abbrev M_X8_swapsAside : MI := (yX8_swapsAside, cX8_swapsAside, 3, none, 0, 0)
theorem mc_X8_swapsAside : MC M_X8_swapsAside 0 := ⟨kc_X8_swapsAside, in_X8, by decide +kernel, by decide +kernel, by decide +kernel⟩
theorem pn_X8_swapsAside : plainName (mY M_X8_swapsAside).cls = true := by decide +kernel
abbrev M_X8_type : MI := (yX8_type, cX8_type, 2, (some .int), 0, 0)
theorem mc_X8_type : MC M_X8_type 1 := ⟨kc_X8_type, in_X8, by decide +kernel, by decide +kernel, by decide +kernel⟩
theorem pn_X8_type : plainName (mY M_X8_type).cls = true := by decide +kernel
abbrev M_X8_clearText : MI := (yX8_clearText, cX8_clearText, 2, (some .int), 0, 0)
theorem mc_X8_clearText : MC M_X8_clearText 0 := ⟨kc_X8_clearText, in_X8, by decide +kernel, by decide +kernel, by decide +kernel⟩
theorem pn_X8_clearText : plainName (mY M_X8_clearText).cls = true := by decide +kernel
abbrev M_X8_undo : MI := (yX8_undo, cX8_undo, 2, (some .int), 0, 0)
theorem mc_X8_undo : MC M_X8_undo 0 := ⟨kc_X8_undo, in_X8, by decide +kernel, by decide +kernel, by decide +kernel⟩
theorem pn_X8_undo : plainName (mY M_X8_undo).cls = true := by decide +kernel
abbrev M_X8_keep : MI := (yX8_keep, cX8_keep, 2, (some .int), 0, 0)
theorem mc_X8_keep : MC M_X8_keep 0 := ⟨kc_X8_keep, in_X8, by decide +kernel, by decide +kernel, by decide +kernel⟩
theorem pn_X8_keep : plainName (mY M_X8_keep).cls = true := by decide +kernel
abbrev M_X8_restore : MI := (yX8_restore, cX8_restore, 2, (some .int), 1, 21)
theorem mc_X8_restore : MC M_X8_restore 0 := ⟨kc_X8_restore, in_X8, by decide +kernel, by decide +kernel, by decide +kernel⟩
theorem pn_X8_restore : plainName (mY M_X8_restore).cls = true := by decide +kernel
abbrev M_X8_laysOdds : MI := (yX8_laysOdds, cX8_laysOdds, 7, none, 0, 0)
theorem mc_X8_laysOdds : MC M_X8_laysOdds 2 := ⟨kc_X8_laysOdds, in_X8, by decide +kernel, by decide +kernel, by decide +kernel⟩
theorem pn_X8_laysOdds : plainName (mY M_X8_laysOdds).cls = true := by decide +kernel
abbrev M_X8_weight : MI := (yX8_weight, cX8_weight, 6, (some .int), 3, 67)
theorem mc_X8_weight : MC M_X8_weight 4 := ⟨kc_X8_weight, in_X8, by decide +kernel, by decide +kernel, by decide +kernel⟩
theorem pn_X8_weight : plainName (mY M_X8_weight).cls = true := by decide +kernel
abbrev M_X8_oddsOf : MI := (yX8_oddsOf, cX8_oddsOf, 4, (some .int), 1, 26)
theorem mc_X8_oddsOf : MC M_X8_oddsOf 3 := ⟨kc_X8_oddsOf, in_X8, by decide +kernel, by decide +kernel, by decide +kernel⟩
theorem pn_X8_oddsOf : plainName (mY M_X8_oddsOf).cls = true := by decide +kernel
abbrev M_X8_isPlace : MI := (yX8_isPlace, cX8_isPlace, 3, (some .boolean), 2, 43)
theorem mc_X8_isPlace : MC M_X8_isPlace 2 := ⟨kc_X8_isPlace, in_X8, by decide +kernel, by decide +kernel, by decide +kernel⟩
theorem pn_X8_isPlace : plainName (mY M_X8_isPlace).cls = true := by decide +kernel
abbrev M_X8_sign : MI := (yX8_sign, cX8_sign, 3, (some .int), 3, 65)
theorem mc_X8_sign : MC M_X8_sign 2 := ⟨kc_X8_sign, in_X8, by decide +kernel, by decide +kernel, by decide +kernel⟩
theorem pn_X8_sign : plainName (mY M_X8_sign).cls = true := by decide +kernel
abbrev M_X8_ofSample : MI := (yX8_ofSample, cX8_ofSample, 3, (some .long), 4, 107)
theorem mc_X8_ofSample : MC M_X8_ofSample 2 := ⟨kc_X8_ofSample, in_X8, by decide +kernel, by decide +kernel, by decide +kernel⟩
theorem pn_X8_ofSample : plainName (mY M_X8_ofSample).cls = true := by decide +kernel
abbrev M_X8_best : MI := (yX8_best, cX8_best, 3, (some .int), 4, 107)
theorem mc_X8_best : MC M_X8_best 2 := ⟨kc_X8_best, in_X8, by decide +kernel, by decide +kernel, by decide +kernel⟩
theorem pn_X8_best : plainName (mY M_X8_best).cls = true := by decide +kernel
abbrev M_X8_share : MI := (yX8_share, cX8_share, 4, (some .int), 4, 107)
theorem mc_X8_share : MC M_X8_share 3 := ⟨kc_X8_share, in_X8, by decide +kernel, by decide +kernel, by decide +kernel⟩
theorem pn_X8_share : plainName (mY M_X8_share).cls = true := by decide +kernel
abbrev M_X8_likeliest : MI := (yX8_likeliest, cX8_likeliest, 3, (some .int), 4, 107)
theorem mc_X8_likeliest : MC M_X8_likeliest 2 := ⟨kc_X8_likeliest, in_X8, by decide +kernel, by decide +kernel, by decide +kernel⟩
theorem pn_X8_likeliest : plainName (mY M_X8_likeliest).cls = true := by decide +kernel
abbrev M_X8_doubts : MI := (yX8_doubts, cX8_doubts, 6, (some .int), 4, 107)
theorem mc_X8_doubts : MC M_X8_doubts 1 := ⟨kc_X8_doubts, in_X8, by decide +kernel, by decide +kernel, by decide +kernel⟩
theorem pn_X8_doubts : plainName (mY M_X8_doubts).cls = true := by decide +kernel
abbrev M_X8_doubtful : MI := (yX8_doubtful, cX8_doubtful, 2, (some .int), 5, 132)
theorem mc_X8_doubtful : MC M_X8_doubtful 1 := ⟨kc_X8_doubtful, in_X8, by decide +kernel, by decide +kernel, by decide +kernel⟩
theorem pn_X8_doubtful : plainName (mY M_X8_doubtful).cls = true := by decide +kernel
abbrev M_X8_run : MI := (yX8_run, cX8_run, 4, (some .int), 4, 107)
theorem mc_X8_run : MC M_X8_run 3 := ⟨kc_X8_run, in_X8, by decide +kernel, by decide +kernel, by decide +kernel⟩
theorem pn_X8_run : plainName (mY M_X8_run).cls = true := by decide +kernel
abbrev M_X8_weightOfNext : MI := (yX8_weightOfNext, cX8_weightOfNext, 8, (some .long), 1, 22)
theorem mc_X8_weightOfNext : MC M_X8_weightOfNext 2 := ⟨kc_X8_weightOfNext, in_X8, by decide +kernel, by decide +kernel, by decide +kernel⟩
theorem pn_X8_weightOfNext : plainName (mY M_X8_weightOfNext).cls = true := by decide +kernel
abbrev M_X8_next : MI := (yX8_next, cX8_next, 5, (some .int), 4, 107)
theorem mc_X8_next : MC M_X8_next 2 := ⟨kc_X8_next, in_X8, by decide +kernel, by decide +kernel, by decide +kernel⟩
theorem pn_X8_next : plainName (mY M_X8_next).cls = true := by decide +kernel
abbrev M_X8_signs : MI := (yX8_signs, cX8_signs, 3, (some .int), 1, 21)
theorem mc_X8_signs : MC M_X8_signs 0 := ⟨kc_X8_signs, in_X8, by decide +kernel, by decide +kernel, by decide +kernel⟩
theorem pn_X8_signs : plainName (mY M_X8_signs).cls = true := by decide +kernel
abbrev M_X8_overSamples : MI := (yX8_overSamples, cX8_overSamples, 7, (some .int), 5, 132)
theorem mc_X8_overSamples : MC M_X8_overSamples 1 := ⟨kc_X8_overSamples, in_X8, by decide +kernel, by decide +kernel, by decide +kernel⟩
theorem pn_X8_overSamples : plainName (mY M_X8_overSamples).cls = true := by decide +kernel
abbrev M_X8_count : MI := (yX8_count, cX8_count, 2, (some .int), 6, 158)
theorem mc_X8_count : MC M_X8_count 1 := ⟨kc_X8_count, in_X8, by decide +kernel, by decide +kernel, by decide +kernel⟩
theorem pn_X8_count : plainName (mY M_X8_count).cls = true := by decide +kernel
abbrev M_J6_bitCount_0f7a4 : MI := (yJ6_bitCount_0f7a4, cJ6_bitCount_0f7a4, 1, (some .int), 0, 0)
theorem mc_J6_bitCount_0f7a4 : MC M_J6_bitCount_0f7a4 1 := ⟨kc_J6_bitCount_0f7a4, in_J6, by decide +kernel, by decide +kernel, by decide +kernel⟩
theorem pn_J6_bitCount_0f7a4 : plainName (mY M_J6_bitCount_0f7a4).cls = true := by decide +kernel
abbrev M_J7_fill_53178 : MI := (yJ7_fill_53178, cJ7_fill_53178, 4, none, 0, 0)
theorem mc_J7_fill_53178 : MC M_J7_fill_53178 2 := ⟨kc_J7_fill_53178, in_J7, by decide +kernel, by decide +kernel, by decide +kernel⟩
theorem pn_J7_fill_53178 : plainName (mY M_J7_fill_53178).cls = true := by decide +kernel
