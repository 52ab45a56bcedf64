set_option maxRecDepth 100000 in
theorem jm_Sway_asked_ck : jx_ck jm_Sway_asked = true := by decide +kernel
set_option maxRecDepth 100000 in
theorem jm_Sway_asked_al : ∀ w ∈ jx_al jm_Sway_asked, w ∈ jx_ws := jx_ws_of (ps := jm_Sway_asked_p) rfl (by decide +kernel)
set_option maxRecDepth 100000 in
theorem jm_JV_rest_ck : jx_ck jm_JV_rest = true := by decide +kernel
set_option maxRecDepth 100000 in
theorem jm_JV_rest_al : ∀ w ∈ jx_al jm_JV_rest, w ∈ jx_ws := jx_ws_of (ps := jm_JV_rest_p) rfl (by decide +kernel)
set_option maxRecDepth 100000 in
theorem jm_Sway_turnsTillRest_ck : jx_ck jm_Sway_turnsTillRest = true := by decide +kernel
set_option maxRecDepth 100000 in
theorem jm_Sway_turnsTillRest_al : ∀ w ∈ jx_al jm_Sway_turnsTillRest, w ∈ jx_ws := jx_ws_of (ps := jm_Sway_turnsTillRest_p) rfl (by decide +kernel)
set_option maxRecDepth 100000 in
theorem jm_Sway_turnChangesVotes_ck : jx_ck jm_Sway_turnChangesVotes = true := by decide +kernel
set_option maxRecDepth 100000 in
theorem jm_Sway_turnChangesVotes_al : ∀ w ∈ jx_al jm_Sway_turnChangesVotes, w ∈ jx_ws := jx_ws_of (ps := jm_Sway_turnChangesVotes_p) rfl (by decide +kernel)
set_option maxRecDepth 100000 in
theorem jm_Sway_bestVote_ck : jx_ck jm_Sway_bestVote = true := by decide +kernel
set_option maxRecDepth 100000 in
theorem jm_Sway_bestVote_al : ∀ w ∈ jx_al jm_Sway_bestVote, w ∈ jx_ws := jx_ws_of (ps := jm_Sway_bestVote_p) rfl (by decide +kernel)
set_option maxRecDepth 100000 in
theorem jm_Sway_worthOfOutcome_ck : jx_ck jm_Sway_worthOfOutcome = true := by decide +kernel
set_option maxRecDepth 100000 in
theorem jm_Sway_worthOfOutcome_al : ∀ w ∈ jx_al jm_Sway_worthOfOutcome, w ∈ jx_ws := jx_ws_of (ps := jm_Sway_worthOfOutcome_p) rfl (by decide +kernel)
set_option maxRecDepth 100000 in
theorem jm_JV_layDown_ck : jx_ck jm_JV_layDown = true := by decide +kernel
set_option maxRecDepth 100000 in
theorem jm_JV_layDown_al : ∀ w ∈ jx_al jm_JV_layDown, w ∈ jx_ws := jx_ws_of (ps := jm_JV_layDown_p) rfl (by decide +kernel)
set_option maxRecDepth 100000 in
theorem jm_JV_plan_ck : jx_ck jm_JV_plan = true := by decide +kernel
set_option maxRecDepth 100000 in
theorem jm_JV_plan_al : ∀ w ∈ jx_al jm_JV_plan, w ∈ jx_ws := jx_ws_of (ps := jm_JV_plan_p) rfl (by decide +kernel)
set_option maxRecDepth 100000 in
theorem jm_For_findPlan_ck : jx_ck jm_For_findPlan = true := by decide +kernel
set_option maxRecDepth 100000 in
theorem jm_For_findPlan_al : ∀ w ∈ jx_al jm_For_findPlan, w ∈ jx_ws := jx_ws_of (ps := jm_For_findPlan_p) rfl (by decide +kernel)
set_option maxRecDepth 100000 in
theorem jm_Cal_copyOf_ck : jx_ck jm_Cal_copyOf = true := by decide +kernel
set_option maxRecDepth 100000 in
theorem jm_Cal_copyOf_al : ∀ w ∈ jx_al jm_Cal_copyOf, w ∈ jx_ws := jx_ws_of (ps := jm_Cal_copyOf_p) rfl (by decide +kernel)
set_option maxRecDepth 100000 in
theorem jm_For_isSpentAtOnce_ck : jx_ck jm_For_isSpentAtOnce = true := by decide +kernel
set_option maxRecDepth 100000 in
theorem jm_For_isSpentAtOnce_al : ∀ w ∈ jx_al jm_For_isSpentAtOnce, w ∈ jx_ws := jx_ws_of (ps := jm_For_isSpentAtOnce_p) rfl (by decide +kernel)
set_option maxRecDepth 100000 in
theorem jm_For_lookOn_ck : jx_ck jm_For_lookOn = true := by decide +kernel
set_option maxRecDepth 100000 in
theorem jm_For_lookOn_al : ∀ w ∈ jx_al jm_For_lookOn, w ∈ jx_ws := jx_ws_of (ps := jm_For_lookOn_p) rfl (by decide +kernel)
set_option maxRecDepth 100000 in
theorem jm_For_weigh_ck : jx_ck jm_For_weigh = true := by decide +kernel
set_option maxRecDepth 100000 in
theorem jm_For_weigh_al : ∀ w ∈ jx_al jm_For_weigh, w ∈ jx_ws := jx_ws_of (ps := jm_For_weigh_p) rfl (by decide +kernel)
set_option maxRecDepth 100000 in
theorem jm_For_lookBehind_ck : jx_ck jm_For_lookBehind = true := by decide +kernel
set_option maxRecDepth 100000 in
theorem jm_For_lookBehind_al : ∀ w ∈ jx_al jm_For_lookBehind, w ∈ jx_ws := jx_ws_of (ps := jm_For_lookBehind_p) rfl (by decide +kernel)
set_option maxRecDepth 100000 in
theorem jm_For_compare_ck : jx_ck jm_For_compare = true := by decide +kernel
set_option maxRecDepth 100000 in
theorem jm_For_compare_al : ∀ w ∈ jx_al jm_For_compare, w ∈ jx_ws := jx_ws_of (ps := jm_For_compare_p) rfl (by decide +kernel)
set_option maxRecDepth 100000 in
theorem jm_JV_span_ck : jx_ck jm_JV_span = true := by decide +kernel
set_option maxRecDepth 100000 in
theorem jm_JV_span_al : ∀ w ∈ jx_al jm_JV_span, w ∈ jx_ws := jx_ws_of (ps := jm_JV_span_p) rfl (by decide +kernel)
set_option maxRecDepth 100000 in
theorem jm_Cal_soonestPaid_ck : jx_ck jm_Cal_soonestPaid = true := by decide +kernel
set_option maxRecDepth 100000 in
theorem jm_Cal_soonestPaid_al : ∀ w ∈ jx_al jm_Cal_soonestPaid, w ∈ jx_ws := jx_ws_of (ps := jm_Cal_soonestPaid_p) rfl (by decide +kernel)
set_option maxRecDepth 100000 in
theorem jm_Cal_daysTill_ck : jx_ck jm_Cal_daysTill = true := by decide +kernel
set_option maxRecDepth 100000 in
theorem jm_Cal_daysTill_al : ∀ w ∈ jx_al jm_Cal_daysTill, w ∈ jx_ws := jx_ws_of (ps := jm_Cal_daysTill_p) rfl (by decide +kernel)
set_option maxRecDepth 100000 in
theorem jm_Cal_latestPaid_ck : jx_ck jm_Cal_latestPaid = true := by decide +kernel
set_option maxRecDepth 100000 in
theorem jm_Cal_latestPaid_al : ∀ w ∈ jx_al jm_Cal_latestPaid, w ∈ jx_ws := jx_ws_of (ps := jm_Cal_latestPaid_p) rfl (by decide +kernel)
set_option maxRecDepth 100000 in
theorem jm_Cal_canLapse_ck : jx_ck jm_Cal_canLapse = true := by decide +kernel
set_option maxRecDepth 100000 in
theorem jm_Cal_canLapse_al : ∀ w ∈ jx_al jm_Cal_canLapse, w ∈ jx_ws := jx_ws_of (ps := jm_Cal_canLapse_p) rfl (by decide +kernel)
set_option maxRecDepth 100000 in
theorem jm_JV_skew_ck : jx_ck jm_JV_skew = true := by decide +kernel
set_option maxRecDepth 100000 in
theorem jm_JV_skew_al : ∀ w ∈ jx_al jm_JV_skew, w ∈ jx_ws := jx_ws_of (ps := jm_JV_skew_p) rfl (by decide +kernel)
set_option maxRecDepth 100000 in
theorem jm_For_firstSkewed_ck : jx_ck jm_For_firstSkewed = true := by decide +kernel
set_option maxRecDepth 100000 in
theorem jm_For_firstSkewed_al : ∀ w ∈ jx_al jm_For_firstSkewed, w ∈ jx_ws := jx_ws_of (ps := jm_For_firstSkewed_p) rfl (by decide +kernel)
set_option maxRecDepth 100000 in
theorem jm_For_repaired_ck : jx_ck jm_For_repaired = true := by decide +kernel
set_option maxRecDepth 100000 in
theorem jm_For_repaired_al : ∀ w ∈ jx_al jm_For_repaired, w ∈ jx_ws := jx_ws_of (ps := jm_For_repaired_p) rfl (by decide +kernel)
set_option maxRecDepth 100000 in
theorem jm_For_step_ck : jx_ck jm_For_step = true := by decide +kernel
set_option maxRecDepth 100000 in
theorem jm_For_step_al : ∀ w ∈ jx_al jm_For_step, w ∈ jx_ws := jx_ws_of (ps := jm_For_step_p) rfl (by decide +kernel)
set_option maxRecDepth 100000 in
theorem jm_JV_again_ck : jx_ck jm_JV_again = true := by decide +kernel
set_option maxRecDepth 100000 in
theorem jm_JV_again_al : ∀ w ∈ jx_al jm_JV_again, w ∈ jx_ws := jx_ws_of (ps := jm_JV_again_p) rfl (by decide +kernel)
set_option maxRecDepth 100000 in
theorem jm_For_findAgain_ck : jx_ck jm_For_findAgain = true := by decide +kernel
set_option maxRecDepth 100000 in
theorem jm_For_findAgain_al : ∀ w ∈ jx_al jm_For_findAgain, w ∈ jx_ws := jx_ws_of (ps := jm_For_findAgain_p) rfl (by decide +kernel)
set_option maxRecDepth 100000 in
theorem jm_For_areAlike_ck : jx_ck jm_For_areAlike = true := by decide +kernel
set_option maxRecDepth 100000 in
theorem jm_For_areAlike_al : ∀ w ∈ jx_al jm_For_areAlike, w ∈ jx_ws := jx_ws_of (ps := jm_For_areAlike_p) rfl (by decide +kernel)
set_option maxRecDepth 100000 in
theorem jm_JV_ahead_ck : jx_ck jm_JV_ahead = true := by decide +kernel
set_option maxRecDepth 100000 in
theorem jm_JV_ahead_al : ∀ w ∈ jx_al jm_JV_ahead, w ∈ jx_ws := jx_ws_of (ps := jm_JV_ahead_p) rfl (by decide +kernel)
set_option maxRecDepth 100000 in
theorem jm_For_daysAhead_ck : jx_ck jm_For_daysAhead = true := by decide +kernel
set_option maxRecDepth 100000 in
theorem jm_For_daysAhead_al : ∀ w ∈ jx_al jm_For_daysAhead, w ∈ jx_ws := jx_ws_of (ps := jm_For_daysAhead_p) rfl (by decide +kernel)
set_option maxRecDepth 100000 in
theorem jm_For_stepFrom_ck : jx_ck jm_For_stepFrom = true := by decide +kernel
set_option maxRecDepth 100000 in
theorem jm_For_stepFrom_al : ∀ w ∈ jx_al jm_For_stepFrom, w ∈ jx_ws := jx_ws_of (ps := jm_For_stepFrom_p) rfl (by decide +kernel)
set_option maxRecDepth 100000 in
theorem jm_For_lapsesAhead_ck : jx_ck jm_For_lapsesAhead = true := by decide +kernel
set_option maxRecDepth 100000 in
theorem jm_For_lapsesAhead_al : ∀ w ∈ jx_al jm_For_lapsesAhead, w ∈ jx_ws := jx_ws_of (ps := jm_For_lapsesAhead_p) rfl (by decide +kernel)
set_option maxRecDepth 100000 in
theorem jm_For_hadAhead_ck : jx_ck jm_For_hadAhead = true := by decide +kernel
set_option maxRecDepth 100000 in
theorem jm_For_hadAhead_al : ∀ w ∈ jx_al jm_For_hadAhead, w ∈ jx_ws := jx_ws_of (ps := jm_For_hadAhead_p) rfl (by decide +kernel)
set_option maxRecDepth 100000 in
theorem jm_JV_net_ck : jx_ck jm_JV_net = true := by decide +kernel
set_option maxRecDepth 100000 in
theorem jm_JV_net_al : ∀ w ∈ jx_al jm_JV_net, w ∈ jx_ws := jx_ws_of (ps := jm_JV_net_p) rfl (by decide +kernel)
set_option maxRecDepth 100000 in
theorem jm_Cal_netOf_ck : jx_ck jm_Cal_netOf = true := by decide +kernel
set_option maxRecDepth 100000 in
theorem jm_Cal_netOf_al : ∀ w ∈ jx_al jm_Cal_netOf, w ∈ jx_ws := jx_ws_of (ps := jm_Cal_netOf_p) rfl (by decide +kernel)
set_option maxRecDepth 100000 in
theorem jm_JV_lies_ck : jx_ck jm_JV_lies = true := by decide +kernel
set_option maxRecDepth 100000 in
theorem jm_JV_lies_al : ∀ w ∈ jx_al jm_JV_lies, w ∈ jx_ws := jx_ws_of (ps := jm_JV_lies_p) rfl (by decide +kernel)
set_option maxRecDepth 100000 in
theorem jm_JV_ledger_ck : jx_ck jm_JV_ledger = true := by decide +kernel
set_option maxRecDepth 100000 in
theorem jm_JV_ledger_al : ∀ w ∈ jx_al jm_JV_ledger, w ∈ jx_ws := jx_ws_of (ps := jm_JV_ledger_p) rfl (by decide +kernel)
set_option maxRecDepth 100000 in
theorem jm_Led_write_ck : jx_ck jm_Led_write = true := by decide +kernel
set_option maxRecDepth 100000 in
theorem jm_Led_write_al : ∀ w ∈ jx_al jm_Led_write, w ∈ jx_ws := jx_ws_of (ps := jm_Led_write_p) rfl (by decide +kernel)
set_option maxRecDepth 100000 in
theorem jm_Led_stampOf_ck : jx_ck jm_Led_stampOf = true := by decide +kernel
set_option maxRecDepth 100000 in
theorem jm_Led_stampOf_al : ∀ w ∈ jx_al jm_Led_stampOf, w ∈ jx_ws := jx_ws_of (ps := jm_Led_stampOf_p) rfl (by decide +kernel)
set_option maxRecDepth 100000 in
theorem jm_JV_untell_ck : jx_ck jm_JV_untell = true := by decide +kernel
set_option maxRecDepth 100000 in
theorem jm_JV_untell_al : ∀ w ∈ jx_al jm_JV_untell, w ∈ jx_ws := jx_ws_of (ps := jm_JV_untell_p) rfl (by decide +kernel)
set_option maxRecDepth 100000 in
theorem jm_Led_strike_ck : jx_ck jm_Led_strike = true := by decide +kernel
set_option maxRecDepth 100000 in
theorem jm_Led_strike_al : ∀ w ∈ jx_al jm_Led_strike, w ∈ jx_ws := jx_ws_of (ps := jm_Led_strike_p) rfl (by decide +kernel)
set_option maxRecDepth 100000 in
theorem jm_JV_later_ck : jx_ck jm_JV_later = true := by decide +kernel
set_option maxRecDepth 100000 in
theorem jm_JV_later_al : ∀ w ∈ jx_al jm_JV_later, w ∈ jx_ws := jx_ws_of (ps := jm_JV_later_p) rfl (by decide +kernel)
set_option maxRecDepth 100000 in
theorem jm_JV_lengths_ck : jx_ck jm_JV_lengths = true := by decide +kernel
set_option maxRecDepth 100000 in
theorem jm_JV_lengths_al : ∀ w ∈ jx_al jm_JV_lengths, w ∈ jx_ws := jx_ws_of (ps := jm_JV_lengths_p) rfl (by decide +kernel)
set_option maxRecDepth 100000 in
theorem jm_Led_canAsk_ck : jx_ck jm_Led_canAsk = true := by decide +kernel
set_option maxRecDepth 100000 in
theorem jm_Led_canAsk_al : ∀ w ∈ jx_al jm_Led_canAsk, w ∈ jx_ws := jx_ws_of (ps := jm_Led_canAsk_p) rfl (by decide +kernel)
set_option maxRecDepth 100000 in
theorem jm_Led_rows_ck : jx_ck jm_Led_rows = true := by decide +kernel
set_option maxRecDepth 100000 in
theorem jm_Led_rows_al : ∀ w ∈ jx_al jm_Led_rows, w ∈ jx_ws := jx_ws_of (ps := jm_Led_rows_p) rfl (by decide +kernel)
set_option maxRecDepth 100000 in
theorem jm_Led_monthAt_ck : jx_ck jm_Led_monthAt = true := by decide +kernel
set_option maxRecDepth 100000 in
theorem jm_Led_monthAt_al : ∀ w ∈ jx_al jm_Led_monthAt, w ∈ jx_ws := jx_ws_of (ps := jm_Led_monthAt_p) rfl (by decide +kernel)
set_option maxRecDepth 100000 in
theorem jm_Led_gather_ck : jx_ck jm_Led_gather = true := by decide +kernel
set_option maxRecDepth 100000 in
theorem jm_Led_gather_al : ∀ w ∈ jx_al jm_Led_gather, w ∈ jx_ws := jx_ws_of (ps := jm_Led_gather_p) rfl (by decide +kernel)
set_option maxRecDepth 100000 in
theorem jm_Led_need_ck : jx_ck jm_Led_need = true := by decide +kernel
set_option maxRecDepth 100000 in
theorem jm_Led_need_al : ∀ w ∈ jx_al jm_Led_need, w ∈ jx_ws := jx_ws_of (ps := jm_Led_need_p) rfl (by decide +kernel)
set_option maxRecDepth 100000 in
theorem jm_Led_countBehind_ck : jx_ck jm_Led_countBehind = true := by decide +kernel
set_option maxRecDepth 100000 in
theorem jm_Led_countBehind_al : ∀ w ∈ jx_al jm_Led_countBehind, w ∈ jx_ws := jx_ws_of (ps := jm_Led_countBehind_p) rfl (by decide +kernel)
set_option maxRecDepth 100000 in
theorem jm_Led_longestAgreeing_ck : jx_ck jm_Led_longestAgreeing = true := by decide +kernel
set_option maxRecDepth 100000 in
theorem jm_Led_longestAgreeing_al : ∀ w ∈ jx_al jm_Led_longestAgreeing, w ∈ jx_ws := jx_ws_of (ps := jm_Led_longestAgreeing_p) rfl (by decide +kernel)
set_option maxRecDepth 100000 in
theorem jm_Led_agrees_ck : jx_ck jm_Led_agrees = true := by decide +kernel
set_option maxRecDepth 100000 in
theorem jm_Led_agrees_al : ∀ w ∈ jx_al jm_Led_agrees, w ∈ jx_ws := jx_ws_of (ps := jm_Led_agrees_p) rfl (by decide +kernel)
set_option maxRecDepth 100000 in
theorem jm_JV_known_ck : jx_ck jm_JV_known = true := by decide +kernel
set_option maxRecDepth 100000 in
theorem jm_JV_known_al : ∀ w ∈ jx_al jm_JV_known, w ∈ jx_ws := jx_ws_of (ps := jm_JV_known_p) rfl (by decide +kernel)
set_option maxRecDepth 100000 in
theorem jm_Led_knownLength_ck : jx_ck jm_Led_knownLength = true := by decide +kernel
set_option maxRecDepth 100000 in
theorem jm_Led_knownLength_al : ∀ w ∈ jx_al jm_Led_knownLength, w ∈ jx_ws := jx_ws_of (ps := jm_Led_knownLength_p) rfl (by decide +kernel)
set_option maxRecDepth 100000 in
theorem jm_Led_markReached_ck : jx_ck jm_Led_markReached = true := by decide +kernel
set_option maxRecDepth 100000 in
theorem jm_Led_markReached_al : ∀ w ∈ jx_al jm_Led_markReached, w ∈ jx_ws := jx_ws_of (ps := jm_Led_markReached_p) rfl (by decide +kernel)
set_option maxRecDepth 100000 in
theorem jm_JV_image_ck : jx_ck jm_JV_image = true := by decide +kernel
set_option maxRecDepth 100000 in
theorem jm_JV_image_al : ∀ w ∈ jx_al jm_JV_image, w ∈ jx_ws := jx_ws_of (ps := jm_JV_image_p) rfl (by decide +kernel)
set_option maxRecDepth 100000 in
theorem jm_JV_back_ck : jx_ck jm_JV_back = true := by decide +kernel
set_option maxRecDepth 100000 in
theorem jm_JV_back_al : ∀ w ∈ jx_al jm_JV_back, w ∈ jx_ws := jx_ws_of (ps := jm_JV_back_p) rfl (by decide +kernel)
set_option maxRecDepth 100000 in
theorem jm_JV_about_ck : jx_ck jm_JV_about = true := by decide +kernel
set_option maxRecDepth 100000 in
theorem jm_JV_about_al : ∀ w ∈ jx_al jm_JV_about, w ∈ jx_ws := jx_ws_of (ps := jm_JV_about_p) rfl (by decide +kernel)
set_option maxRecDepth 100000 in
theorem jm_MD_init_ck : jx_ck jm_MD_init = true := by decide +kernel
set_option maxRecDepth 100000 in
theorem jm_MD_init_al : ∀ w ∈ jx_al jm_MD_init, w ∈ jx_ws := jx_ws_of (ps := jm_MD_init_p) rfl (by decide +kernel)
set_option maxRecDepth 100000 in
theorem jm_MD_clearBank_ck : jx_ck jm_MD_clearBank = true := by decide +kernel
set_option maxRecDepth 100000 in
theorem jm_MD_clearBank_al : ∀ w ∈ jx_al jm_MD_clearBank, w ∈ jx_ws := jx_ws_of (ps := jm_MD_clearBank_p) rfl (by decide +kernel)
set_option maxRecDepth 100000 in
theorem jm_MD_begin_ck : jx_ck jm_MD_begin = true := by decide +kernel
set_option maxRecDepth 100000 in
theorem jm_MD_begin_al : ∀ w ∈ jx_al jm_MD_begin, w ∈ jx_ws := jx_ws_of (ps := jm_MD_begin_p) rfl (by decide +kernel)
set_option maxRecDepth 100000 in
theorem jm_MD_personMany_ck : jx_ck jm_MD_personMany = true := by decide +kernel
set_option maxRecDepth 100000 in
theorem jm_MD_personMany_al : ∀ w ∈ jx_al jm_MD_personMany, w ∈ jx_ws := jx_ws_of (ps := jm_MD_personMany_p) rfl (by decide +kernel)
set_option maxRecDepth 100000 in
theorem jm_MD_republic_ck : jx_ck jm_MD_republic = true := by decide +kernel
set_option maxRecDepth 100000 in
theorem jm_MD_republic_al : ∀ w ∈ jx_al jm_MD_republic, w ∈ jx_ws := jx_ws_of (ps := jm_MD_republic_p) rfl (by decide +kernel)
set_option maxRecDepth 100000 in
theorem jm_MD_goOn_ck : jx_ck jm_MD_goOn = true := by decide +kernel
set_option maxRecDepth 100000 in
theorem jm_MD_goOn_al : ∀ w ∈ jx_al jm_MD_goOn, w ∈ jx_ws := jx_ws_of (ps := jm_MD_goOn_p) rfl (by decide +kernel)
set_option maxRecDepth 100000 in
theorem jm_MD_sign_ck : jx_ck jm_MD_sign = true := by decide +kernel
set_option maxRecDepth 100000 in
theorem jm_MD_sign_al : ∀ w ∈ jx_al jm_MD_sign, w ∈ jx_ws := jx_ws_of (ps := jm_MD_sign_p) rfl (by decide +kernel)
set_option maxRecDepth 100000 in
theorem jm_MD_isLetter_ck : jx_ck jm_MD_isLetter = true := by decide +kernel
set_option maxRecDepth 100000 in
theorem jm_MD_isLetter_al : ∀ w ∈ jx_al jm_MD_isLetter, w ∈ jx_ws := jx_ws_of (ps := jm_MD_isLetter_p) rfl (by decide +kernel)
set_option maxRecDepth 100000 in
theorem jm_MD_isKept_ck : jx_ck jm_MD_isKept = true := by decide +kernel
set_option maxRecDepth 100000 in
theorem jm_MD_isKept_al : ∀ w ∈ jx_al jm_MD_isKept, w ∈ jx_ws := jx_ws_of (ps := jm_MD_isKept_p) rfl (by decide +kernel)
set_option maxRecDepth 100000 in
theorem jm_MD_isDigit_ck : jx_ck jm_MD_isDigit = true := by decide +kernel
set_option maxRecDepth 100000 in
theorem jm_MD_isDigit_al : ∀ w ∈ jx_al jm_MD_isDigit, w ∈ jx_ws := jx_ws_of (ps := jm_MD_isDigit_p) rfl (by decide +kernel)
set_option maxRecDepth 100000 in
theorem jm_MD_isSign_ck : jx_ck jm_MD_isSign = true := by decide +kernel
set_option maxRecDepth 100000 in
theorem jm_MD_isSign_al : ∀ w ∈ jx_al jm_MD_isSign, w ∈ jx_ws := jx_ws_of (ps := jm_MD_isSign_p) rfl (by decide +kernel)
set_option maxRecDepth 100000 in
theorem jm_MD_isGood_ck : jx_ck jm_MD_isGood = true := by decide +kernel
set_option maxRecDepth 100000 in
theorem jm_MD_isGood_al : ∀ w ∈ jx_al jm_MD_isGood, w ∈ jx_ws := jx_ws_of (ps := jm_MD_isGood_p) rfl (by decide +kernel)
set_option maxRecDepth 100000 in
theorem jm_MD_readLine_ck : jx_ck jm_MD_readLine = true := by decide +kernel
set_option maxRecDepth 100000 in
theorem jm_MD_readLine_al : ∀ w ∈ jx_al jm_MD_readLine, w ∈ jx_ws := jx_ws_of (ps := jm_MD_readLine_p) rfl (by decide +kernel)
set_option maxRecDepth 100000 in
theorem jm_MD_isFull_ck : jx_ck jm_MD_isFull = true := by decide +kernel
set_option maxRecDepth 100000 in
theorem jm_MD_isFull_al : ∀ w ∈ jx_al jm_MD_isFull, w ∈ jx_ws := jx_ws_of (ps := jm_MD_isFull_p) rfl (by decide +kernel)
