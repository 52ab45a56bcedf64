set_option maxRecDepth 100000 in
theorem jm_Cal_firstDay_ck : jx_ck jm_Cal_firstDay = true := by decide +kernel
set_option maxRecDepth 100000 in
theorem jm_Cal_firstDay_al : ∀ w ∈ jx_al jm_Cal_firstDay, w ∈ jx_ws := jx_ws_of (ps := jm_Cal_firstDay_p) rfl (by decide +kernel)
set_option maxRecDepth 100000 in
theorem jm_Rep_weekDay_ck : jx_ck jm_Rep_weekDay = true := by decide +kernel
set_option maxRecDepth 100000 in
theorem jm_Rep_weekDay_al : ∀ w ∈ jx_al jm_Rep_weekDay, w ∈ jx_ws := jx_ws_of (ps := jm_Rep_weekDay_p) rfl (by decide +kernel)
set_option maxRecDepth 100000 in
theorem jm_JV_number_ck : jx_ck jm_JV_number = true := by decide +kernel
set_option maxRecDepth 100000 in
theorem jm_JV_number_al : ∀ w ∈ jx_al jm_JV_number, w ∈ jx_ws := jx_ws_of (ps := jm_JV_number_p) rfl (by decide +kernel)
set_option maxRecDepth 100000 in
theorem jm_Rep_hasMonth_ck : jx_ck jm_Rep_hasMonth = true := by decide +kernel
set_option maxRecDepth 100000 in
theorem jm_Rep_hasMonth_al : ∀ w ∈ jx_al jm_Rep_hasMonth, w ∈ jx_ws := jx_ws_of (ps := jm_Rep_hasMonth_p) rfl (by decide +kernel)
set_option maxRecDepth 100000 in
theorem jm_JV_drift_ck : jx_ck jm_JV_drift = true := by decide +kernel
set_option maxRecDepth 100000 in
theorem jm_JV_drift_al : ∀ w ∈ jx_al jm_JV_drift, w ∈ jx_ws := jx_ws_of (ps := jm_JV_drift_p) rfl (by decide +kernel)
set_option maxRecDepth 100000 in
theorem jm_Cal_driftUpper_ck : jx_ck jm_Cal_driftUpper = true := by decide +kernel
set_option maxRecDepth 100000 in
theorem jm_Cal_driftUpper_al : ∀ w ∈ jx_al jm_Cal_driftUpper, w ∈ jx_ws := jx_ws_of (ps := jm_Cal_driftUpper_p) rfl (by decide +kernel)
set_option maxRecDepth 100000 in
theorem jm_Cal_driftLower_ck : jx_ck jm_Cal_driftLower = true := by decide +kernel
set_option maxRecDepth 100000 in
theorem jm_Cal_driftLower_al : ∀ w ∈ jx_al jm_Cal_driftLower, w ∈ jx_ws := jx_ws_of (ps := jm_Cal_driftLower_p) rfl (by decide +kernel)
set_option maxRecDepth 100000 in
theorem jm_JV_commonDivisor_ck : jx_ck jm_JV_commonDivisor = true := by decide +kernel
set_option maxRecDepth 100000 in
theorem jm_JV_commonDivisor_al : ∀ w ∈ jx_al jm_JV_commonDivisor, w ∈ jx_ws := jx_ws_of (ps := jm_JV_commonDivisor_p) rfl (by decide +kernel)
set_option maxRecDepth 100000 in
theorem jm_JV_may_ck : jx_ck jm_JV_may = true := by decide +kernel
set_option maxRecDepth 100000 in
theorem jm_JV_may_al : ∀ w ∈ jx_al jm_JV_may, w ∈ jx_ws := jx_ws_of (ps := jm_JV_may_p) rfl (by decide +kernel)
set_option maxRecDepth 100000 in
theorem jm_Poll_open_ck : jx_ck jm_Poll_open = true := by decide +kernel
set_option maxRecDepth 100000 in
theorem jm_Poll_open_al : ∀ w ∈ jx_al jm_Poll_open, w ∈ jx_ws := jx_ws_of (ps := jm_Poll_open_p) rfl (by decide +kernel)
set_option maxRecDepth 100000 in
theorem jm_Cal_nextMonth_ck : jx_ck jm_Cal_nextMonth = true := by decide +kernel
set_option maxRecDepth 100000 in
theorem jm_Cal_nextMonth_al : ∀ w ∈ jx_al jm_Cal_nextMonth, w ∈ jx_ws := jx_ws_of (ps := jm_Cal_nextMonth_p) rfl (by decide +kernel)
set_option maxRecDepth 100000 in
theorem jm_Cal_nextYear_ck : jx_ck jm_Cal_nextYear = true := by decide +kernel
set_option maxRecDepth 100000 in
theorem jm_Cal_nextYear_al : ∀ w ∈ jx_al jm_Cal_nextYear, w ∈ jx_ws := jx_ws_of (ps := jm_Cal_nextYear_p) rfl (by decide +kernel)
set_option maxRecDepth 100000 in
theorem jm_Poll_fillFlows_ck : jx_ck jm_Poll_fillFlows = true := by decide +kernel
set_option maxRecDepth 100000 in
theorem jm_Poll_fillFlows_al : ∀ w ∈ jx_al jm_Poll_fillFlows, w ∈ jx_ws := jx_ws_of (ps := jm_Poll_fillFlows_p) rfl (by decide +kernel)
set_option maxRecDepth 100000 in
theorem jm_Poll_addFlow_ck : jx_ck jm_Poll_addFlow = true := by decide +kernel
set_option maxRecDepth 100000 in
theorem jm_Poll_addFlow_al : ∀ w ∈ jx_al jm_Poll_addFlow, w ∈ jx_ws := jx_ws_of (ps := jm_Poll_addFlow_p) rfl (by decide +kernel)
set_option maxRecDepth 100000 in
theorem jm_Due_dayPaid_ck : jx_ck jm_Due_dayPaid = true := by decide +kernel
set_option maxRecDepth 100000 in
theorem jm_Due_dayPaid_al : ∀ w ∈ jx_al jm_Due_dayPaid, w ∈ jx_ws := jx_ws_of (ps := jm_Due_dayPaid_p) rfl (by decide +kernel)
set_option maxRecDepth 100000 in
theorem jm_Poll_maskByLaw_ck : jx_ck jm_Poll_maskByLaw = true := by decide +kernel
set_option maxRecDepth 100000 in
theorem jm_Poll_maskByLaw_al : ∀ w ∈ jx_al jm_Poll_maskByLaw, w ∈ jx_ws := jx_ws_of (ps := jm_Poll_maskByLaw_p) rfl (by decide +kernel)
set_option maxRecDepth 100000 in
theorem jm_Rep_hasLaw_ck : jx_ck jm_Rep_hasLaw = true := by decide +kernel
set_option maxRecDepth 100000 in
theorem jm_Rep_hasLaw_al : ∀ w ∈ jx_al jm_Rep_hasLaw, w ∈ jx_ws := jx_ws_of (ps := jm_Rep_hasLaw_p) rfl (by decide +kernel)
set_option maxRecDepth 100000 in
theorem jm_Rep_endOf_ck : jx_ck jm_Rep_endOf = true := by decide +kernel
set_option maxRecDepth 100000 in
theorem jm_Rep_endOf_al : ∀ w ∈ jx_al jm_Rep_endOf, w ∈ jx_ws := jx_ws_of (ps := jm_Rep_endOf_p) rfl (by decide +kernel)
set_option maxRecDepth 100000 in
theorem jm_Rep_startOf_ck : jx_ck jm_Rep_startOf = true := by decide +kernel
set_option maxRecDepth 100000 in
theorem jm_Rep_startOf_al : ∀ w ∈ jx_al jm_Rep_startOf, w ∈ jx_ws := jx_ws_of (ps := jm_Rep_startOf_p) rfl (by decide +kernel)
set_option maxRecDepth 100000 in
theorem jm_Rep_mostOf_ck : jx_ck jm_Rep_mostOf = true := by decide +kernel
set_option maxRecDepth 100000 in
theorem jm_Rep_mostOf_al : ∀ w ∈ jx_al jm_Rep_mostOf, w ∈ jx_ws := jx_ws_of (ps := jm_Rep_mostOf_p) rfl (by decide +kernel)
set_option maxRecDepth 100000 in
theorem jm_Rep_leastOf_ck : jx_ck jm_Rep_leastOf = true := by decide +kernel
set_option maxRecDepth 100000 in
theorem jm_Rep_leastOf_al : ∀ w ∈ jx_al jm_Rep_leastOf, w ∈ jx_ws := jx_ws_of (ps := jm_Rep_leastOf_p) rfl (by decide +kernel)
set_option maxRecDepth 100000 in
theorem jm_Poll_valueOf_ck : jx_ck jm_Poll_valueOf = true := by decide +kernel
set_option maxRecDepth 100000 in
theorem jm_Poll_valueOf_al : ∀ w ∈ jx_al jm_Poll_valueOf, w ∈ jx_ws := jx_ws_of (ps := jm_Poll_valueOf_p) rfl (by decide +kernel)
set_option maxRecDepth 100000 in
theorem jm_Poll_isWord_ck : jx_ck jm_Poll_isWord = true := by decide +kernel
set_option maxRecDepth 100000 in
theorem jm_Poll_isWord_al : ∀ w ∈ jx_al jm_Poll_isWord, w ∈ jx_ws := jx_ws_of (ps := jm_Poll_isWord_p) rfl (by decide +kernel)
set_option maxRecDepth 100000 in
theorem jm_Poll_factOf_ck : jx_ck jm_Poll_factOf = true := by decide +kernel
set_option maxRecDepth 100000 in
theorem jm_Poll_factOf_al : ∀ w ∈ jx_al jm_Poll_factOf, w ∈ jx_ws := jx_ws_of (ps := jm_Poll_factOf_p) rfl (by decide +kernel)
set_option maxRecDepth 100000 in
theorem jm_Poll_join_ck : jx_ck jm_Poll_join = true := by decide +kernel
set_option maxRecDepth 100000 in
theorem jm_Poll_join_al : ∀ w ∈ jx_al jm_Poll_join, w ∈ jx_ws := jx_ws_of (ps := jm_Poll_join_p) rfl (by decide +kernel)
set_option maxRecDepth 100000 in
theorem jm_Poll_mayBe_ck : jx_ck jm_Poll_mayBe = true := by decide +kernel
set_option maxRecDepth 100000 in
theorem jm_Poll_mayBe_al : ∀ w ∈ jx_al jm_Poll_mayBe, w ∈ jx_ws := jx_ws_of (ps := jm_Poll_mayBe_p) rfl (by decide +kernel)
set_option maxRecDepth 100000 in
theorem jm_JV_isLength_ck : jx_ck jm_JV_isLength = true := by decide +kernel
set_option maxRecDepth 100000 in
theorem jm_JV_isLength_al : ∀ w ∈ jx_al jm_JV_isLength, w ∈ jx_ws := jx_ws_of (ps := jm_JV_isLength_p) rfl (by decide +kernel)
set_option maxRecDepth 100000 in
theorem jm_JV_worth_ck : jx_ck jm_JV_worth = true := by decide +kernel
set_option maxRecDepth 100000 in
theorem jm_JV_worth_al : ∀ w ∈ jx_al jm_JV_worth, w ∈ jx_ws := jx_ws_of (ps := jm_JV_worth_p) rfl (by decide +kernel)
set_option maxRecDepth 100000 in
theorem jm_Poll_worthOf_ck : jx_ck jm_Poll_worthOf = true := by decide +kernel
set_option maxRecDepth 100000 in
theorem jm_Poll_worthOf_al : ∀ w ∈ jx_al jm_Poll_worthOf, w ∈ jx_ws := jx_ws_of (ps := jm_Poll_worthOf_p) rfl (by decide +kernel)
set_option maxRecDepth 100000 in
theorem jm_JV_votes_ck : jx_ck jm_JV_votes = true := by decide +kernel
set_option maxRecDepth 100000 in
theorem jm_JV_votes_al : ∀ w ∈ jx_al jm_JV_votes, w ∈ jx_ws := jx_ws_of (ps := jm_JV_votes_p) rfl (by decide +kernel)
set_option maxRecDepth 100000 in
theorem jm_Poll_voteOf_ck : jx_ck jm_Poll_voteOf = true := by decide +kernel
set_option maxRecDepth 100000 in
theorem jm_Poll_voteOf_al : ∀ w ∈ jx_al jm_Poll_voteOf, w ∈ jx_ws := jx_ws_of (ps := jm_Poll_voteOf_p) rfl (by decide +kernel)
set_option maxRecDepth 100000 in
theorem jm_JV_counted_ck : jx_ck jm_JV_counted = true := by decide +kernel
set_option maxRecDepth 100000 in
theorem jm_JV_counted_al : ∀ w ∈ jx_al jm_JV_counted, w ∈ jx_ws := jx_ws_of (ps := jm_JV_counted_p) rfl (by decide +kernel)
set_option maxRecDepth 100000 in
theorem jm_Poll_resultFor_ck : jx_ck jm_Poll_resultFor = true := by decide +kernel
set_option maxRecDepth 100000 in
theorem jm_Poll_resultFor_al : ∀ w ∈ jx_al jm_Poll_resultFor, w ∈ jx_ws := jx_ws_of (ps := jm_Poll_resultFor_p) rfl (by decide +kernel)
set_option maxRecDepth 100000 in
theorem jm_Poll_takeBallots_ck : jx_ck jm_Poll_takeBallots = true := by decide +kernel
set_option maxRecDepth 100000 in
theorem jm_Poll_takeBallots_al : ∀ w ∈ jx_al jm_Poll_takeBallots, w ∈ jx_ws := jx_ws_of (ps := jm_Poll_takeBallots_p) rfl (by decide +kernel)
set_option maxRecDepth 100000 in
theorem jm_Poll_outcome_ck : jx_ck jm_Poll_outcome = true := by decide +kernel
set_option maxRecDepth 100000 in
theorem jm_Poll_outcome_al : ∀ w ∈ jx_al jm_Poll_outcome, w ∈ jx_ws := jx_ws_of (ps := jm_Poll_outcome_p) rfl (by decide +kernel)
set_option maxRecDepth 100000 in
theorem jm_Poll_fillTally_ck : jx_ck jm_Poll_fillTally = true := by decide +kernel
set_option maxRecDepth 100000 in
theorem jm_Poll_fillTally_al : ∀ w ∈ jx_al jm_Poll_fillTally, w ∈ jx_ws := jx_ws_of (ps := jm_Poll_fillTally_p) rfl (by decide +kernel)
set_option maxRecDepth 100000 in
theorem jm_Poll_leastThatMayBe_ck : jx_ck jm_Poll_leastThatMayBe = true := by decide +kernel
set_option maxRecDepth 100000 in
theorem jm_Poll_leastThatMayBe_al : ∀ w ∈ jx_al jm_Poll_leastThatMayBe, w ∈ jx_ws := jx_ws_of (ps := jm_Poll_leastThatMayBe_p) rfl (by decide +kernel)
set_option maxRecDepth 100000 in
theorem jm_Poll_middle_ck : jx_ck jm_Poll_middle = true := by decide +kernel
set_option maxRecDepth 100000 in
theorem jm_Poll_middle_al : ∀ w ∈ jx_al jm_Poll_middle, w ∈ jx_ws := jx_ws_of (ps := jm_Poll_middle_p) rfl (by decide +kernel)
set_option maxRecDepth 100000 in
theorem jm_Poll_mean_ck : jx_ck jm_Poll_mean = true := by decide +kernel
set_option maxRecDepth 100000 in
theorem jm_Poll_mean_al : ∀ w ∈ jx_al jm_Poll_mean, w ∈ jx_ws := jx_ws_of (ps := jm_Poll_mean_p) rfl (by decide +kernel)
set_option maxRecDepth 100000 in
theorem jm_Poll_mostVoted_ck : jx_ck jm_Poll_mostVoted = true := by decide +kernel
set_option maxRecDepth 100000 in
theorem jm_Poll_mostVoted_al : ∀ w ∈ jx_al jm_Poll_mostVoted, w ∈ jx_ws := jx_ws_of (ps := jm_Poll_mostVoted_p) rfl (by decide +kernel)
set_option maxRecDepth 100000 in
theorem jm_JV_run_ck : jx_ck jm_JV_run = true := by decide +kernel
set_option maxRecDepth 100000 in
theorem jm_JV_run_al : ∀ w ∈ jx_al jm_JV_run, w ∈ jx_ws := jx_ws_of (ps := jm_JV_run_p) rfl (by decide +kernel)
set_option maxRecDepth 100000 in
theorem jm_JV_canCome_ck : jx_ck jm_JV_canCome = true := by decide +kernel
set_option maxRecDepth 100000 in
theorem jm_JV_canCome_al : ∀ w ∈ jx_al jm_JV_canCome, w ∈ jx_ws := jx_ws_of (ps := jm_JV_canCome_p) rfl (by decide +kernel)
set_option maxRecDepth 100000 in
theorem jm_JV_letCome_ck : jx_ck jm_JV_letCome = true := by decide +kernel
set_option maxRecDepth 100000 in
theorem jm_JV_letCome_al : ∀ w ∈ jx_al jm_JV_letCome, w ∈ jx_ws := jx_ws_of (ps := jm_JV_letCome_p) rfl (by decide +kernel)
set_option maxRecDepth 100000 in
theorem jm_Cal_comes_ck : jx_ck jm_Cal_comes = true := by decide +kernel
set_option maxRecDepth 100000 in
theorem jm_Cal_comes_al : ∀ w ∈ jx_al jm_Cal_comes, w ∈ jx_ws := jx_ws_of (ps := jm_Cal_comes_p) rfl (by decide +kernel)
set_option maxRecDepth 100000 in
theorem jm_Cal_settleDues_ck : jx_ck jm_Cal_settleDues = true := by decide +kernel
set_option maxRecDepth 100000 in
theorem jm_Cal_settleDues_al : ∀ w ∈ jx_al jm_Cal_settleDues, w ∈ jx_ws := jx_ws_of (ps := jm_Cal_settleDues_p) rfl (by decide +kernel)
set_option maxRecDepth 100000 in
theorem jm_Cal_give_ck : jx_ck jm_Cal_give = true := by decide +kernel
set_option maxRecDepth 100000 in
theorem jm_Cal_give_al : ∀ w ∈ jx_al jm_Cal_give, w ∈ jx_ws := jx_ws_of (ps := jm_Cal_give_p) rfl (by decide +kernel)
set_option maxRecDepth 100000 in
theorem jm_Acts_note_ck : jx_ck jm_Acts_note = true := by decide +kernel
set_option maxRecDepth 100000 in
theorem jm_Acts_note_al : ∀ w ∈ jx_al jm_Acts_note, w ∈ jx_ws := jx_ws_of (ps := jm_Acts_note_p) rfl (by decide +kernel)
set_option maxRecDepth 100000 in
theorem jm_Acts_dropOldest_ck : jx_ck jm_Acts_dropOldest = true := by decide +kernel
set_option maxRecDepth 100000 in
theorem jm_Acts_dropOldest_al : ∀ w ∈ jx_al jm_Acts_dropOldest, w ∈ jx_ws := jx_ws_of (ps := jm_Acts_dropOldest_p) rfl (by decide +kernel)
set_option maxRecDepth 100000 in
theorem jm_JV_decree_ck : jx_ck jm_JV_decree = true := by decide +kernel
set_option maxRecDepth 100000 in
theorem jm_JV_decree_al : ∀ w ∈ jx_al jm_JV_decree, w ∈ jx_ws := jx_ws_of (ps := jm_JV_decree_p) rfl (by decide +kernel)
set_option maxRecDepth 100000 in
theorem jm_JV_forgive_ck : jx_ck jm_JV_forgive = true := by decide +kernel
set_option maxRecDepth 100000 in
theorem jm_JV_forgive_al : ∀ w ∈ jx_al jm_JV_forgive, w ∈ jx_ws := jx_ws_of (ps := jm_JV_forgive_p) rfl (by decide +kernel)
set_option maxRecDepth 100000 in
theorem jm_JV_endow_ck : jx_ck jm_JV_endow = true := by decide +kernel
set_option maxRecDepth 100000 in
theorem jm_JV_endow_al : ∀ w ∈ jx_al jm_JV_endow, w ∈ jx_ws := jx_ws_of (ps := jm_JV_endow_p) rfl (by decide +kernel)
set_option maxRecDepth 100000 in
theorem jm_JV_undo_ck : jx_ck jm_JV_undo = true := by decide +kernel
set_option maxRecDepth 100000 in
theorem jm_JV_undo_al : ∀ w ∈ jx_al jm_JV_undo, w ∈ jx_ws := jx_ws_of (ps := jm_JV_undo_p) rfl (by decide +kernel)
set_option maxRecDepth 100000 in
theorem jm_Acts_stepBack_ck : jx_ck jm_Acts_stepBack = true := by decide +kernel
set_option maxRecDepth 100000 in
theorem jm_Acts_stepBack_al : ∀ w ∈ jx_al jm_Acts_stepBack, w ∈ jx_ws := jx_ws_of (ps := jm_Acts_stepBack_p) rfl (by decide +kernel)
set_option maxRecDepth 100000 in
theorem jm_JV_takeBack_ck : jx_ck jm_JV_takeBack = true := by decide +kernel
set_option maxRecDepth 100000 in
theorem jm_JV_takeBack_al : ∀ w ∈ jx_al jm_JV_takeBack, w ∈ jx_ws := jx_ws_of (ps := jm_JV_takeBack_p) rfl (by decide +kernel)
set_option maxRecDepth 100000 in
theorem jm_Cal_goes_ck : jx_ck jm_Cal_goes = true := by decide +kernel
set_option maxRecDepth 100000 in
theorem jm_Cal_goes_al : ∀ w ∈ jx_al jm_Cal_goes, w ∈ jx_ws := jx_ws_of (ps := jm_Cal_goes_p) rfl (by decide +kernel)
set_option maxRecDepth 100000 in
theorem jm_JV_turnForgiven_ck : jx_ck jm_JV_turnForgiven = true := by decide +kernel
set_option maxRecDepth 100000 in
theorem jm_JV_turnForgiven_al : ∀ w ∈ jx_al jm_JV_turnForgiven, w ∈ jx_ws := jx_ws_of (ps := jm_JV_turnForgiven_p) rfl (by decide +kernel)
set_option maxRecDepth 100000 in
theorem jm_JV_giveVotes_ck : jx_ck jm_JV_giveVotes = true := by decide +kernel
set_option maxRecDepth 100000 in
theorem jm_JV_giveVotes_al : ∀ w ∈ jx_al jm_JV_giveVotes, w ∈ jx_ws := jx_ws_of (ps := jm_JV_giveVotes_p) rfl (by decide +kernel)
set_option maxRecDepth 100000 in
theorem jm_JV_redo_ck : jx_ck jm_JV_redo = true := by decide +kernel
set_option maxRecDepth 100000 in
theorem jm_JV_redo_al : ∀ w ∈ jx_al jm_JV_redo, w ∈ jx_ws := jx_ws_of (ps := jm_JV_redo_p) rfl (by decide +kernel)
set_option maxRecDepth 100000 in
theorem jm_Acts_canStepOn_ck : jx_ck jm_Acts_canStepOn = true := by decide +kernel
set_option maxRecDepth 100000 in
theorem jm_Acts_canStepOn_al : ∀ w ∈ jx_al jm_Acts_canStepOn, w ∈ jx_ws := jx_ws_of (ps := jm_Acts_canStepOn_p) rfl (by decide +kernel)
set_option maxRecDepth 100000 in
theorem jm_Acts_stepOn_ck : jx_ck jm_Acts_stepOn = true := by decide +kernel
set_option maxRecDepth 100000 in
theorem jm_Acts_stepOn_al : ∀ w ∈ jx_al jm_Acts_stepOn, w ∈ jx_ws := jx_ws_of (ps := jm_Acts_stepOn_p) rfl (by decide +kernel)
set_option maxRecDepth 100000 in
theorem jm_JV_turned_ck : jx_ck jm_JV_turned = true := by decide +kernel
set_option maxRecDepth 100000 in
theorem jm_JV_turned_al : ∀ w ∈ jx_al jm_JV_turned, w ∈ jx_ws := jx_ws_of (ps := jm_JV_turned_p) rfl (by decide +kernel)
set_option maxRecDepth 100000 in
theorem jm_JV_canBeAimedAt_ck : jx_ck jm_JV_canBeAimedAt = true := by decide +kernel
set_option maxRecDepth 100000 in
theorem jm_JV_canBeAimedAt_al : ∀ w ∈ jx_al jm_JV_canBeAimedAt, w ∈ jx_ws := jx_ws_of (ps := jm_JV_canBeAimedAt_p) rfl (by decide +kernel)
set_option maxRecDepth 100000 in
theorem jm_Sway_begin_ck : jx_ck jm_Sway_begin = true := by decide +kernel
set_option maxRecDepth 100000 in
theorem jm_Sway_begin_al : ∀ w ∈ jx_al jm_Sway_begin, w ∈ jx_ws := jx_ws_of (ps := jm_Sway_begin_p) rfl (by decide +kernel)
set_option maxRecDepth 100000 in
theorem jm_JV_isSet_ck : jx_ck jm_JV_isSet = true := by decide +kernel
set_option maxRecDepth 100000 in
theorem jm_JV_isSet_al : ∀ w ∈ jx_al jm_JV_isSet, w ∈ jx_ws := jx_ws_of (ps := jm_JV_isSet_p) rfl (by decide +kernel)
set_option maxRecDepth 100000 in
theorem jm_Sway_turns_ck : jx_ck jm_Sway_turns = true := by decide +kernel
set_option maxRecDepth 100000 in
theorem jm_Sway_turns_al : ∀ w ∈ jx_al jm_Sway_turns, w ∈ jx_ws := jx_ws_of (ps := jm_Sway_turns_p) rfl (by decide +kernel)
set_option maxRecDepth 100000 in
theorem jm_Sway_isIn_ck : jx_ck jm_Sway_isIn = true := by decide +kernel
set_option maxRecDepth 100000 in
theorem jm_Sway_isIn_al : ∀ w ∈ jx_al jm_Sway_isIn, w ∈ jx_ws := jx_ws_of (ps := jm_Sway_isIn_p) rfl (by decide +kernel)
set_option maxRecDepth 100000 in
theorem jm_JV_least_ck : jx_ck jm_JV_least = true := by decide +kernel
set_option maxRecDepth 100000 in
theorem jm_JV_least_al : ∀ w ∈ jx_al jm_JV_least, w ∈ jx_ws := jx_ws_of (ps := jm_JV_least_p) rfl (by decide +kernel)
set_option maxRecDepth 100000 in
theorem jm_Sway_leastSet_ck : jx_ck jm_Sway_leastSet = true := by decide +kernel
set_option maxRecDepth 100000 in
theorem jm_Sway_leastSet_al : ∀ w ∈ jx_al jm_Sway_leastSet, w ∈ jx_ws := jx_ws_of (ps := jm_Sway_leastSet_p) rfl (by decide +kernel)
set_option maxRecDepth 100000 in
theorem jm_JV_bribe_ck : jx_ck jm_JV_bribe = true := by decide +kernel
set_option maxRecDepth 100000 in
theorem jm_JV_bribe_al : ∀ w ∈ jx_al jm_JV_bribe, w ∈ jx_ws := jx_ws_of (ps := jm_JV_bribe_p) rfl (by decide +kernel)
set_option maxRecDepth 100000 in
theorem jm_Sway_cheapestSet_ck : jx_ck jm_Sway_cheapestSet = true := by decide +kernel
set_option maxRecDepth 100000 in
theorem jm_Sway_cheapestSet_al : ∀ w ∈ jx_al jm_Sway_cheapestSet, w ∈ jx_ws := jx_ws_of (ps := jm_Sway_cheapestSet_p) rfl (by decide +kernel)
