set_option maxRecDepth 100000 in
theorem jm_MD_isWord_ck : jx_ck jm_MD_isWord = true := by decide +kernel
set_option maxRecDepth 100000 in
theorem jm_MD_isWord_al : ∀ w ∈ jx_al jm_MD_isWord, w ∈ jx_ws := jx_ws_of (ps := jm_MD_isWord_p) rfl (by decide +kernel)
set_option maxRecDepth 100000 in
theorem jm_MD_misplaced_ck : jx_ck jm_MD_misplaced = true := by decide +kernel
set_option maxRecDepth 100000 in
theorem jm_MD_misplaced_al : ∀ w ∈ jx_al jm_MD_misplaced, w ∈ jx_ws := jx_ws_of (ps := jm_MD_misplaced_p) rfl (by decide +kernel)
set_option maxRecDepth 100000 in
theorem jm_MD_fails_ck : jx_ck jm_MD_fails = true := by decide +kernel
set_option maxRecDepth 100000 in
theorem jm_MD_fails_al : ∀ w ∈ jx_al jm_MD_fails, w ∈ jx_ws := jx_ws_of (ps := jm_MD_fails_p) rfl (by decide +kernel)
set_option maxRecDepth 100000 in
theorem jm_MD_readMonth_ck : jx_ck jm_MD_readMonth = true := by decide +kernel
set_option maxRecDepth 100000 in
theorem jm_MD_readMonth_al : ∀ w ∈ jx_al jm_MD_readMonth, w ∈ jx_ws := jx_ws_of (ps := jm_MD_readMonth_p) rfl (by decide +kernel)
set_option maxRecDepth 100000 in
theorem jm_MD_here_ck : jx_ck jm_MD_here = true := by decide +kernel
set_option maxRecDepth 100000 in
theorem jm_MD_here_al : ∀ w ∈ jx_al jm_MD_here, w ∈ jx_ws := jx_ws_of (ps := jm_MD_here_p) rfl (by decide +kernel)
set_option maxRecDepth 100000 in
theorem jm_MD_fresh_ck : jx_ck jm_MD_fresh = true := by decide +kernel
set_option maxRecDepth 100000 in
theorem jm_MD_fresh_al : ∀ w ∈ jx_al jm_MD_fresh, w ∈ jx_ws := jx_ws_of (ps := jm_MD_fresh_p) rfl (by decide +kernel)
set_option maxRecDepth 100000 in
theorem jm_MD_after_ck : jx_ck jm_MD_after = true := by decide +kernel
set_option maxRecDepth 100000 in
theorem jm_MD_after_al : ∀ w ∈ jx_al jm_MD_after, w ∈ jx_ws := jx_ws_of (ps := jm_MD_after_p) rfl (by decide +kernel)
set_option maxRecDepth 100000 in
theorem jm_MD_must_ck : jx_ck jm_MD_must = true := by decide +kernel
set_option maxRecDepth 100000 in
theorem jm_MD_must_al : ∀ w ∈ jx_al jm_MD_must, w ∈ jx_ws := jx_ws_of (ps := jm_MD_must_p) rfl (by decide +kernel)
set_option maxRecDepth 100000 in
theorem jm_MD_numeral_ck : jx_ck jm_MD_numeral = true := by decide +kernel
set_option maxRecDepth 100000 in
theorem jm_MD_numeral_al : ∀ w ∈ jx_al jm_MD_numeral, w ∈ jx_ws := jx_ws_of (ps := jm_MD_numeral_p) rfl (by decide +kernel)
set_option maxRecDepth 100000 in
theorem jm_MD_readPerson_ck : jx_ck jm_MD_readPerson = true := by decide +kernel
set_option maxRecDepth 100000 in
theorem jm_MD_readPerson_al : ∀ w ∈ jx_al jm_MD_readPerson, w ∈ jx_ws := jx_ws_of (ps := jm_MD_readPerson_p) rfl (by decide +kernel)
set_option maxRecDepth 100000 in
theorem jm_MD_personHere_ck : jx_ck jm_MD_personHere = true := by decide +kernel
set_option maxRecDepth 100000 in
theorem jm_MD_personHere_al : ∀ w ∈ jx_al jm_MD_personHere, w ∈ jx_ws := jx_ws_of (ps := jm_MD_personHere_p) rfl (by decide +kernel)
set_option maxRecDepth 100000 in
theorem jm_MD_has_ck : jx_ck jm_MD_has = true := by decide +kernel
set_option maxRecDepth 100000 in
theorem jm_MD_has_al : ∀ w ∈ jx_al jm_MD_has, w ∈ jx_ws := jx_ws_of (ps := jm_MD_has_p) rfl (by decide +kernel)
set_option maxRecDepth 100000 in
theorem jm_MD_readRule_ck : jx_ck jm_MD_readRule = true := by decide +kernel
set_option maxRecDepth 100000 in
theorem jm_MD_readRule_al : ∀ w ∈ jx_al jm_MD_readRule, w ∈ jx_ws := jx_ws_of (ps := jm_MD_readRule_p) rfl (by decide +kernel)
set_option maxRecDepth 100000 in
theorem jm_MD_e_ck : jx_ck jm_MD_e = true := by decide +kernel
set_option maxRecDepth 100000 in
theorem jm_MD_e_al : ∀ w ∈ jx_al jm_MD_e, w ∈ jx_ws := jx_ws_of (ps := jm_MD_e_p) rfl (by decide +kernel)
set_option maxRecDepth 100000 in
theorem jm_MD_pushE_ck : jx_ck jm_MD_pushE = true := by decide +kernel
set_option maxRecDepth 100000 in
theorem jm_MD_pushE_al : ∀ w ∈ jx_al jm_MD_pushE, w ∈ jx_ws := jx_ws_of (ps := jm_MD_pushE_p) rfl (by decide +kernel)
set_option maxRecDepth 100000 in
theorem jm_MD_unit_ck : jx_ck jm_MD_unit = true := by decide +kernel
set_option maxRecDepth 100000 in
theorem jm_MD_unit_al : ∀ w ∈ jx_al jm_MD_unit, w ∈ jx_ws := jx_ws_of (ps := jm_MD_unit_p) rfl (by decide +kernel)
set_option maxRecDepth 100000 in
theorem jm_MD_isSignHere_ck : jx_ck jm_MD_isSignHere = true := by decide +kernel
set_option maxRecDepth 100000 in
theorem jm_MD_isSignHere_al : ∀ w ∈ jx_al jm_MD_isSignHere, w ∈ jx_ws := jx_ws_of (ps := jm_MD_isSignHere_p) rfl (by decide +kernel)
set_option maxRecDepth 100000 in
theorem jm_MD_wordHere_ck : jx_ck jm_MD_wordHere = true := by decide +kernel
set_option maxRecDepth 100000 in
theorem jm_MD_wordHere_al : ∀ w ∈ jx_al jm_MD_wordHere, w ∈ jx_ws := jx_ws_of (ps := jm_MD_wordHere_p) rfl (by decide +kernel)
set_option maxRecDepth 100000 in
theorem jm_MD_emit_ck : jx_ck jm_MD_emit = true := by decide +kernel
set_option maxRecDepth 100000 in
theorem jm_MD_emit_al : ∀ w ∈ jx_al jm_MD_emit, w ∈ jx_ws := jx_ws_of (ps := jm_MD_emit_p) rfl (by decide +kernel)
set_option maxRecDepth 100000 in
theorem jm_MD_behindUnit_ck : jx_ck jm_MD_behindUnit = true := by decide +kernel
set_option maxRecDepth 100000 in
theorem jm_MD_behindUnit_al : ∀ w ∈ jx_al jm_MD_behindUnit, w ∈ jx_ws := jx_ws_of (ps := jm_MD_behindUnit_p) rfl (by decide +kernel)
set_option maxRecDepth 100000 in
theorem jm_MD_rankHere_ck : jx_ck jm_MD_rankHere = true := by decide +kernel
set_option maxRecDepth 100000 in
theorem jm_MD_rankHere_al : ∀ w ∈ jx_al jm_MD_rankHere, w ∈ jx_ws := jx_ws_of (ps := jm_MD_rankHere_p) rfl (by decide +kernel)
set_option maxRecDepth 100000 in
theorem jm_MD_isCompared_ck : jx_ck jm_MD_isCompared = true := by decide +kernel
set_option maxRecDepth 100000 in
theorem jm_MD_isCompared_al : ∀ w ∈ jx_al jm_MD_isCompared, w ∈ jx_ws := jx_ws_of (ps := jm_MD_isCompared_p) rfl (by decide +kernel)
set_option maxRecDepth 100000 in
theorem jm_MD_readDue_ck : jx_ck jm_MD_readDue = true := by decide +kernel
set_option maxRecDepth 100000 in
theorem jm_MD_readDue_al : ∀ w ∈ jx_al jm_MD_readDue, w ∈ jx_ws := jx_ws_of (ps := jm_MD_readDue_p) rfl (by decide +kernel)
set_option maxRecDepth 100000 in
theorem jm_MD_told_ck : jx_ck jm_MD_told = true := by decide +kernel
set_option maxRecDepth 100000 in
theorem jm_MD_told_al : ∀ w ∈ jx_al jm_MD_told, w ∈ jx_ws := jx_ws_of (ps := jm_MD_told_p) rfl (by decide +kernel)
set_option maxRecDepth 100000 in
theorem jm_MD_readSun_ck : jx_ck jm_MD_readSun = true := by decide +kernel
set_option maxRecDepth 100000 in
theorem jm_MD_readSun_al : ∀ w ∈ jx_al jm_MD_readSun, w ∈ jx_ws := jx_ws_of (ps := jm_MD_readSun_p) rfl (by decide +kernel)
set_option maxRecDepth 100000 in
theorem jm_MD_readCount_ck : jx_ck jm_MD_readCount = true := by decide +kernel
set_option maxRecDepth 100000 in
theorem jm_MD_readCount_al : ∀ w ∈ jx_al jm_MD_readCount, w ∈ jx_ws := jx_ws_of (ps := jm_MD_readCount_p) rfl (by decide +kernel)
set_option maxRecDepth 100000 in
theorem jm_MD_fault_ck : jx_ck jm_MD_fault = true := by decide +kernel
set_option maxRecDepth 100000 in
theorem jm_MD_fault_al : ∀ w ∈ jx_al jm_MD_fault, w ∈ jx_ws := jx_ws_of (ps := jm_MD_fault_p) rfl (by decide +kernel)
set_option maxRecDepth 100000 in
theorem jm_MD_drift_ck : jx_ck jm_MD_drift = true := by decide +kernel
set_option maxRecDepth 100000 in
theorem jm_MD_drift_al : ∀ w ∈ jx_al jm_MD_drift, w ∈ jx_ws := jx_ws_of (ps := jm_MD_drift_p) rfl (by decide +kernel)
set_option maxRecDepth 100000 in
theorem jm_MD_isIn_ck : jx_ck jm_MD_isIn = true := by decide +kernel
set_option maxRecDepth 100000 in
theorem jm_MD_isIn_al : ∀ w ∈ jx_al jm_MD_isIn, w ∈ jx_ws := jx_ws_of (ps := jm_MD_isIn_p) rfl (by decide +kernel)
set_option maxRecDepth 100000 in
theorem jm_MD_hasMonths_ck : jx_ck jm_MD_hasMonths = true := by decide +kernel
set_option maxRecDepth 100000 in
theorem jm_MD_hasMonths_al : ∀ w ∈ jx_al jm_MD_hasMonths, w ∈ jx_ws := jx_ws_of (ps := jm_MD_hasMonths_p) rfl (by decide +kernel)
set_option maxRecDepth 100000 in
theorem jm_MD_driftUpper_ck : jx_ck jm_MD_driftUpper = true := by decide +kernel
set_option maxRecDepth 100000 in
theorem jm_MD_driftUpper_al : ∀ w ∈ jx_al jm_MD_driftUpper, w ∈ jx_ws := jx_ws_of (ps := jm_MD_driftUpper_p) rfl (by decide +kernel)
set_option maxRecDepth 100000 in
theorem jm_MD_driftLower_ck : jx_ck jm_MD_driftLower = true := by decide +kernel
set_option maxRecDepth 100000 in
theorem jm_MD_driftLower_al : ∀ w ∈ jx_al jm_MD_driftLower, w ∈ jx_ws := jx_ws_of (ps := jm_MD_driftLower_p) rfl (by decide +kernel)
set_option maxRecDepth 100000 in
theorem jm_MD_sunLower_ck : jx_ck jm_MD_sunLower = true := by decide +kernel
set_option maxRecDepth 100000 in
theorem jm_MD_sunLower_al : ∀ w ∈ jx_al jm_MD_sunLower, w ∈ jx_ws := jx_ws_of (ps := jm_MD_sunLower_p) rfl (by decide +kernel)
set_option maxRecDepth 100000 in
theorem jm_MD_sunUpper_ck : jx_ck jm_MD_sunUpper = true := by decide +kernel
set_option maxRecDepth 100000 in
theorem jm_MD_sunUpper_al : ∀ w ∈ jx_al jm_MD_sunUpper, w ∈ jx_ws := jx_ws_of (ps := jm_MD_sunUpper_p) rfl (by decide +kernel)
set_option maxRecDepth 100000 in
theorem jm_MD_common_ck : jx_ck jm_MD_common = true := by decide +kernel
set_option maxRecDepth 100000 in
theorem jm_MD_common_al : ∀ w ∈ jx_al jm_MD_common, w ∈ jx_ws := jx_ws_of (ps := jm_MD_common_p) rfl (by decide +kernel)
set_option maxRecDepth 100000 in
theorem jm_MD_may_ck : jx_ck jm_MD_may = true := by decide +kernel
set_option maxRecDepth 100000 in
theorem jm_MD_may_al : ∀ w ∈ jx_al jm_MD_may, w ∈ jx_ws := jx_ws_of (ps := jm_MD_may_p) rfl (by decide +kernel)
set_option maxRecDepth 100000 in
theorem jm_MD_layMay_ck : jx_ck jm_MD_layMay = true := by decide +kernel
set_option maxRecDepth 100000 in
theorem jm_MD_layMay_al : ∀ w ∈ jx_al jm_MD_layMay, w ∈ jx_ws := jx_ws_of (ps := jm_MD_layMay_p) rfl (by decide +kernel)
set_option maxRecDepth 100000 in
theorem jm_MD_month_ck : jx_ck jm_MD_month = true := by decide +kernel
set_option maxRecDepth 100000 in
theorem jm_MD_month_al : ∀ w ∈ jx_al jm_MD_month, w ∈ jx_ws := jx_ws_of (ps := jm_MD_month_p) rfl (by decide +kernel)
set_option maxRecDepth 100000 in
theorem jm_MD_ask_ck : jx_ck jm_MD_ask = true := by decide +kernel
set_option maxRecDepth 100000 in
theorem jm_MD_ask_al : ∀ w ∈ jx_al jm_MD_ask, w ∈ jx_ws := jx_ws_of (ps := jm_MD_ask_p) rfl (by decide +kernel)
set_option maxRecDepth 100000 in
theorem jm_MD_down_ck : jx_ck jm_MD_down = true := by decide +kernel
set_option maxRecDepth 100000 in
theorem jm_MD_down_al : ∀ w ∈ jx_al jm_MD_down, w ∈ jx_ws := jx_ws_of (ps := jm_MD_down_p) rfl (by decide +kernel)
set_option maxRecDepth 100000 in
theorem jm_MD_comes_ck : jx_ck jm_MD_comes = true := by decide +kernel
set_option maxRecDepth 100000 in
theorem jm_MD_comes_al : ∀ w ∈ jx_al jm_MD_comes, w ∈ jx_ws := jx_ws_of (ps := jm_MD_comes_p) rfl (by decide +kernel)
set_option maxRecDepth 100000 in
theorem jm_MD_asked_ck : jx_ck jm_MD_asked = true := by decide +kernel
set_option maxRecDepth 100000 in
theorem jm_MD_asked_al : ∀ w ∈ jx_al jm_MD_asked, w ∈ jx_ws := jx_ws_of (ps := jm_MD_asked_p) rfl (by decide +kernel)
set_option maxRecDepth 100000 in
theorem jm_MD_two_ck : jx_ck jm_MD_two = true := by decide +kernel
set_option maxRecDepth 100000 in
theorem jm_MD_two_al : ∀ w ∈ jx_al jm_MD_two, w ∈ jx_ws := jx_ws_of (ps := jm_MD_two_p) rfl (by decide +kernel)
set_option maxRecDepth 100000 in
theorem jm_MD_worth_ck : jx_ck jm_MD_worth = true := by decide +kernel
set_option maxRecDepth 100000 in
theorem jm_MD_worth_al : ∀ w ∈ jx_al jm_MD_worth, w ∈ jx_ws := jx_ws_of (ps := jm_MD_worth_p) rfl (by decide +kernel)
set_option maxRecDepth 100000 in
theorem jm_MD_isPerson_ck : jx_ck jm_MD_isPerson = true := by decide +kernel
set_option maxRecDepth 100000 in
theorem jm_MD_isPerson_al : ∀ w ∈ jx_al jm_MD_isPerson, w ∈ jx_ws := jx_ws_of (ps := jm_MD_isPerson_p) rfl (by decide +kernel)
set_option maxRecDepth 100000 in
theorem jm_MD_worthOf_ck : jx_ck jm_MD_worthOf = true := by decide +kernel
set_option maxRecDepth 100000 in
theorem jm_MD_worthOf_al : ∀ w ∈ jx_al jm_MD_worthOf, w ∈ jx_ws := jx_ws_of (ps := jm_MD_worthOf_p) rfl (by decide +kernel)
set_option maxRecDepth 100000 in
theorem jm_MD_dueMany_ck : jx_ck jm_MD_dueMany = true := by decide +kernel
set_option maxRecDepth 100000 in
theorem jm_MD_dueMany_al : ∀ w ∈ jx_al jm_MD_dueMany, w ∈ jx_ws := jx_ws_of (ps := jm_MD_dueMany_p) rfl (by decide +kernel)
set_option maxRecDepth 100000 in
theorem jm_MD_isForgiven_ck : jx_ck jm_MD_isForgiven = true := by decide +kernel
set_option maxRecDepth 100000 in
theorem jm_MD_isForgiven_al : ∀ w ∈ jx_al jm_MD_isForgiven, w ∈ jx_ws := jx_ws_of (ps := jm_MD_isForgiven_p) rfl (by decide +kernel)
set_option maxRecDepth 100000 in
theorem jm_MD_paidOn_ck : jx_ck jm_MD_paidOn = true := by decide +kernel
set_option maxRecDepth 100000 in
theorem jm_MD_paidOn_al : ∀ w ∈ jx_al jm_MD_paidOn, w ∈ jx_ws := jx_ws_of (ps := jm_MD_paidOn_p) rfl (by decide +kernel)
set_option maxRecDepth 100000 in
theorem jm_MD_votes_ck : jx_ck jm_MD_votes = true := by decide +kernel
set_option maxRecDepth 100000 in
theorem jm_MD_votes_al : ∀ w ∈ jx_al jm_MD_votes, w ∈ jx_ws := jx_ws_of (ps := jm_MD_votes_p) rfl (by decide +kernel)
set_option maxRecDepth 100000 in
theorem jm_MD_voteOf_ck : jx_ck jm_MD_voteOf = true := by decide +kernel
set_option maxRecDepth 100000 in
theorem jm_MD_voteOf_al : ∀ w ∈ jx_al jm_MD_voteOf, w ∈ jx_ws := jx_ws_of (ps := jm_MD_voteOf_p) rfl (by decide +kernel)
set_option maxRecDepth 100000 in
theorem jm_MD_counted_ck : jx_ck jm_MD_counted = true := by decide +kernel
set_option maxRecDepth 100000 in
theorem jm_MD_counted_al : ∀ w ∈ jx_al jm_MD_counted, w ∈ jx_ws := jx_ws_of (ps := jm_MD_counted_p) rfl (by decide +kernel)
set_option maxRecDepth 100000 in
theorem jm_MD_countedNow_ck : jx_ck jm_MD_countedNow = true := by decide +kernel
set_option maxRecDepth 100000 in
theorem jm_MD_countedNow_al : ∀ w ∈ jx_al jm_MD_countedNow, w ∈ jx_ws := jx_ws_of (ps := jm_MD_countedNow_p) rfl (by decide +kernel)
set_option maxRecDepth 100000 in
theorem jm_MD_layVotes_ck : jx_ck jm_MD_layVotes = true := by decide +kernel
set_option maxRecDepth 100000 in
theorem jm_MD_layVotes_al : ∀ w ∈ jx_al jm_MD_layVotes, w ∈ jx_ws := jx_ws_of (ps := jm_MD_layVotes_p) rfl (by decide +kernel)
set_option maxRecDepth 100000 in
theorem jm_MD_countedBy_ck : jx_ck jm_MD_countedBy = true := by decide +kernel
set_option maxRecDepth 100000 in
theorem jm_MD_countedBy_al : ∀ w ∈ jx_al jm_MD_countedBy, w ∈ jx_ws := jx_ws_of (ps := jm_MD_countedBy_p) rfl (by decide +kernel)
set_option maxRecDepth 100000 in
theorem jm_MD_leastMay_ck : jx_ck jm_MD_leastMay = true := by decide +kernel
set_option maxRecDepth 100000 in
theorem jm_MD_leastMay_al : ∀ w ∈ jx_al jm_MD_leastMay, w ∈ jx_ws := jx_ws_of (ps := jm_MD_leastMay_p) rfl (by decide +kernel)
set_option maxRecDepth 100000 in
theorem jm_MD_person_ck : jx_ck jm_MD_person = true := by decide +kernel
set_option maxRecDepth 100000 in
theorem jm_MD_person_al : ∀ w ∈ jx_al jm_MD_person, w ∈ jx_ws := jx_ws_of (ps := jm_MD_person_p) rfl (by decide +kernel)
set_option maxRecDepth 100000 in
theorem jm_MD_due_ck : jx_ck jm_MD_due = true := by decide +kernel
set_option maxRecDepth 100000 in
theorem jm_MD_due_al : ∀ w ∈ jx_al jm_MD_due, w ∈ jx_ws := jx_ws_of (ps := jm_MD_due_p) rfl (by decide +kernel)
set_option maxRecDepth 100000 in
theorem jm_MD_isDue_ck : jx_ck jm_MD_isDue = true := by decide +kernel
set_option maxRecDepth 100000 in
theorem jm_MD_isDue_al : ∀ w ∈ jx_al jm_MD_isDue, w ∈ jx_ws := jx_ws_of (ps := jm_MD_isDue_p) rfl (by decide +kernel)
set_option maxRecDepth 100000 in
theorem jm_MD_length_ck : jx_ck jm_MD_length = true := by decide +kernel
set_option maxRecDepth 100000 in
theorem jm_MD_length_al : ∀ w ∈ jx_al jm_MD_length, w ∈ jx_ws := jx_ws_of (ps := jm_MD_length_p) rfl (by decide +kernel)
set_option maxRecDepth 100000 in
theorem jm_MD_date_ck : jx_ck jm_MD_date = true := by decide +kernel
set_option maxRecDepth 100000 in
theorem jm_MD_date_al : ∀ w ∈ jx_al jm_MD_date, w ∈ jx_ws := jx_ws_of (ps := jm_MD_date_p) rfl (by decide +kernel)
set_option maxRecDepth 100000 in
theorem jm_MD_number_ck : jx_ck jm_MD_number = true := by decide +kernel
set_option maxRecDepth 100000 in
theorem jm_MD_number_al : ∀ w ∈ jx_al jm_MD_number, w ∈ jx_ws := jx_ws_of (ps := jm_MD_number_p) rfl (by decide +kernel)
set_option maxRecDepth 100000 in
theorem jm_MD_run_ck : jx_ck jm_MD_run = true := by decide +kernel
set_option maxRecDepth 100000 in
theorem jm_MD_run_al : ∀ w ∈ jx_al jm_MD_run, w ∈ jx_ws := jx_ws_of (ps := jm_MD_run_p) rfl (by decide +kernel)
set_option maxRecDepth 100000 in
theorem jm_MD_keepAct_ck : jx_ck jm_MD_keepAct = true := by decide +kernel
set_option maxRecDepth 100000 in
theorem jm_MD_keepAct_al : ∀ w ∈ jx_al jm_MD_keepAct, w ∈ jx_ws := jx_ws_of (ps := jm_MD_keepAct_p) rfl (by decide +kernel)
set_option maxRecDepth 100000 in
theorem jm_MD_real_ck : jx_ck jm_MD_real = true := by decide +kernel
set_option maxRecDepth 100000 in
theorem jm_MD_real_al : ∀ w ∈ jx_al jm_MD_real, w ∈ jx_ws := jx_ws_of (ps := jm_MD_real_p) rfl (by decide +kernel)
set_option maxRecDepth 100000 in
theorem jm_MD_goesBy_ck : jx_ck jm_MD_goesBy = true := by decide +kernel
set_option maxRecDepth 100000 in
theorem jm_MD_goesBy_al : ∀ w ∈ jx_al jm_MD_goesBy, w ∈ jx_ws := jx_ws_of (ps := jm_MD_goesBy_p) rfl (by decide +kernel)
set_option maxRecDepth 100000 in
theorem jm_MD_decree_ck : jx_ck jm_MD_decree = true := by decide +kernel
set_option maxRecDepth 100000 in
theorem jm_MD_decree_al : ∀ w ∈ jx_al jm_MD_decree, w ∈ jx_ws := jx_ws_of (ps := jm_MD_decree_p) rfl (by decide +kernel)
set_option maxRecDepth 100000 in
theorem jm_MD_forgive_ck : jx_ck jm_MD_forgive = true := by decide +kernel
set_option maxRecDepth 100000 in
theorem jm_MD_forgive_al : ∀ w ∈ jx_al jm_MD_forgive, w ∈ jx_ws := jx_ws_of (ps := jm_MD_forgive_p) rfl (by decide +kernel)
set_option maxRecDepth 100000 in
theorem jm_MD_endow_ck : jx_ck jm_MD_endow = true := by decide +kernel
set_option maxRecDepth 100000 in
theorem jm_MD_endow_al : ∀ w ∈ jx_al jm_MD_endow, w ∈ jx_ws := jx_ws_of (ps := jm_MD_endow_p) rfl (by decide +kernel)
set_option maxRecDepth 100000 in
theorem jm_MD_undo_ck : jx_ck jm_MD_undo = true := by decide +kernel
set_option maxRecDepth 100000 in
theorem jm_MD_undo_al : ∀ w ∈ jx_al jm_MD_undo, w ∈ jx_ws := jx_ws_of (ps := jm_MD_undo_p) rfl (by decide +kernel)
