set_option maxRecDepth 100000 in
theorem jm_JV_init_ck : jx_ck jm_JV_init = true := by decide +kernel
set_option maxRecDepth 100000 in
theorem jm_JV_init_al : ∀ w ∈ jx_al jm_JV_init, w ∈ jx_ws := jx_ws_of (ps := jm_JV_init_p) rfl (by decide +kernel)
set_option maxRecDepth 100000 in
theorem jm_Tape_init_ck : jx_ck jm_Tape_init = true := by decide +kernel
set_option maxRecDepth 100000 in
theorem jm_Tape_init_al : ∀ w ∈ jx_al jm_Tape_init, w ∈ jx_ws := jx_ws_of (ps := jm_Tape_init_p) rfl (by decide +kernel)
set_option maxRecDepth 100000 in
theorem jm_Tape_keyWith_ck : jx_ck jm_Tape_keyWith = true := by decide +kernel
set_option maxRecDepth 100000 in
theorem jm_Tape_keyWith_al : ∀ w ∈ jx_al jm_Tape_keyWith, w ∈ jx_ws := jx_ws_of (ps := jm_Tape_keyWith_p) rfl (by decide +kernel)
set_option maxRecDepth 100000 in
theorem jm_Rep_init_ck : jx_ck jm_Rep_init = true := by decide +kernel
set_option maxRecDepth 100000 in
theorem jm_Rep_init_al : ∀ w ∈ jx_al jm_Rep_init, w ∈ jx_ws := jx_ws_of (ps := jm_Rep_init_p) rfl (by decide +kernel)
set_option maxRecDepth 100000 in
theorem jm_Due_init_ck : jx_ck jm_Due_init = true := by decide +kernel
set_option maxRecDepth 100000 in
theorem jm_Due_init_al : ∀ w ∈ jx_al jm_Due_init, w ∈ jx_ws := jx_ws_of (ps := jm_Due_init_p) rfl (by decide +kernel)
set_option maxRecDepth 100000 in
theorem jm_Rep_clear_ck : jx_ck jm_Rep_clear = true := by decide +kernel
set_option maxRecDepth 100000 in
theorem jm_Rep_clear_al : ∀ w ∈ jx_al jm_Rep_clear, w ∈ jx_ws := jx_ws_of (ps := jm_Rep_clear_p) rfl (by decide +kernel)
set_option maxRecDepth 100000 in
theorem jm_Rdr_init_ck : jx_ck jm_Rdr_init = true := by decide +kernel
set_option maxRecDepth 100000 in
theorem jm_Rdr_init_al : ∀ w ∈ jx_al jm_Rdr_init, w ∈ jx_ws := jx_ws_of (ps := jm_Rdr_init_p) rfl (by decide +kernel)
set_option maxRecDepth 100000 in
theorem jm_Cal_init_ck : jx_ck jm_Cal_init = true := by decide +kernel
set_option maxRecDepth 100000 in
theorem jm_Cal_init_al : ∀ w ∈ jx_al jm_Cal_init, w ∈ jx_ws := jx_ws_of (ps := jm_Cal_init_p) rfl (by decide +kernel)
set_option maxRecDepth 100000 in
theorem jm_Poll_init_ck : jx_ck jm_Poll_init = true := by decide +kernel
set_option maxRecDepth 100000 in
theorem jm_Poll_init_al : ∀ w ∈ jx_al jm_Poll_init, w ∈ jx_ws := jx_ws_of (ps := jm_Poll_init_p) rfl (by decide +kernel)
set_option maxRecDepth 100000 in
theorem jm_Sway_init_ck : jx_ck jm_Sway_init = true := by decide +kernel
set_option maxRecDepth 100000 in
theorem jm_Sway_init_al : ∀ w ∈ jx_al jm_Sway_init, w ∈ jx_ws := jx_ws_of (ps := jm_Sway_init_p) rfl (by decide +kernel)
set_option maxRecDepth 100000 in
theorem jm_For_init_ck : jx_ck jm_For_init = true := by decide +kernel
set_option maxRecDepth 100000 in
theorem jm_For_init_al : ∀ w ∈ jx_al jm_For_init, w ∈ jx_ws := jx_ws_of (ps := jm_For_init_p) rfl (by decide +kernel)
set_option maxRecDepth 100000 in
theorem jm_Acts_init_ck : jx_ck jm_Acts_init = true := by decide +kernel
set_option maxRecDepth 100000 in
theorem jm_Acts_init_al : ∀ w ∈ jx_al jm_Acts_init, w ∈ jx_ws := jx_ws_of (ps := jm_Acts_init_p) rfl (by decide +kernel)
set_option maxRecDepth 100000 in
theorem jm_Led_init_ck : jx_ck jm_Led_init = true := by decide +kernel
set_option maxRecDepth 100000 in
theorem jm_Led_init_al : ∀ w ∈ jx_al jm_Led_init, w ∈ jx_ws := jx_ws_of (ps := jm_Led_init_p) rfl (by decide +kernel)
set_option maxRecDepth 100000 in
theorem jm_JV_feed_ck : jx_ck jm_JV_feed = true := by decide +kernel
set_option maxRecDepth 100000 in
theorem jm_JV_feed_al : ∀ w ∈ jx_al jm_JV_feed, w ∈ jx_ws := jx_ws_of (ps := jm_JV_feed_p) rfl (by decide +kernel)
set_option maxRecDepth 100000 in
theorem jm_Tape_put_ck : jx_ck jm_Tape_put = true := by decide +kernel
set_option maxRecDepth 100000 in
theorem jm_Tape_put_al : ∀ w ∈ jx_al jm_Tape_put, w ∈ jx_ws := jx_ws_of (ps := jm_Tape_put_p) rfl (by decide +kernel)
set_option maxRecDepth 100000 in
theorem jm_JV_end_ck : jx_ck jm_JV_end = true := by decide +kernel
set_option maxRecDepth 100000 in
theorem jm_JV_end_al : ∀ w ∈ jx_al jm_JV_end, w ∈ jx_ws := jx_ws_of (ps := jm_JV_end_p) rfl (by decide +kernel)
set_option maxRecDepth 100000 in
theorem jm_JV_republic_ck : jx_ck jm_JV_republic = true := by decide +kernel
set_option maxRecDepth 100000 in
theorem jm_JV_republic_al : ∀ w ∈ jx_al jm_JV_republic, w ∈ jx_ws := jx_ws_of (ps := jm_JV_republic_p) rfl (by decide +kernel)
set_option maxRecDepth 100000 in
theorem jm_Rdr_readInto_ck : jx_ck jm_Rdr_readInto = true := by decide +kernel
set_option maxRecDepth 100000 in
theorem jm_Rdr_readInto_al : ∀ w ∈ jx_al jm_Rdr_readInto, w ∈ jx_ws := jx_ws_of (ps := jm_Rdr_readInto_p) rfl (by decide +kernel)
set_option maxRecDepth 100000 in
theorem jm_Tape_cut_ck : jx_ck jm_Tape_cut = true := by decide +kernel
set_option maxRecDepth 100000 in
theorem jm_Tape_cut_al : ∀ w ∈ jx_al jm_Tape_cut, w ∈ jx_ws := jx_ws_of (ps := jm_Tape_cut_p) rfl (by decide +kernel)
set_option maxRecDepth 100000 in
theorem jm_Tape_at_ck : jx_ck jm_Tape_at = true := by decide +kernel
set_option maxRecDepth 100000 in
theorem jm_Tape_at_al : ∀ w ∈ jx_al jm_Tape_at, w ∈ jx_ws := jx_ws_of (ps := jm_Tape_at_p) rfl (by decide +kernel)
set_option maxRecDepth 100000 in
theorem jm_Tape_isBlank_ck : jx_ck jm_Tape_isBlank = true := by decide +kernel
set_option maxRecDepth 100000 in
theorem jm_Tape_isBlank_al : ∀ w ∈ jx_al jm_Tape_isBlank, w ∈ jx_ws := jx_ws_of (ps := jm_Tape_isBlank_p) rfl (by decide +kernel)
set_option maxRecDepth 100000 in
theorem jm_Tape_isLetter_ck : jx_ck jm_Tape_isLetter = true := by decide +kernel
set_option maxRecDepth 100000 in
theorem jm_Tape_isLetter_al : ∀ w ∈ jx_al jm_Tape_isLetter, w ∈ jx_ws := jx_ws_of (ps := jm_Tape_isLetter_p) rfl (by decide +kernel)
set_option maxRecDepth 100000 in
theorem jm_Tape_cutWord_ck : jx_ck jm_Tape_cutWord = true := by decide +kernel
set_option maxRecDepth 100000 in
theorem jm_Tape_cutWord_al : ∀ w ∈ jx_al jm_Tape_cutWord, w ∈ jx_ws := jx_ws_of (ps := jm_Tape_cutWord_p) rfl (by decide +kernel)
set_option maxRecDepth 100000 in
theorem jm_Tape_kindOfWord_ck : jx_ck jm_Tape_kindOfWord = true := by decide +kernel
set_option maxRecDepth 100000 in
theorem jm_Tape_kindOfWord_al : ∀ w ∈ jx_al jm_Tape_kindOfWord, w ∈ jx_ws := jx_ws_of (ps := jm_Tape_kindOfWord_p) rfl (by decide +kernel)
set_option maxRecDepth 100000 in
theorem jm_Tape_lay_ck : jx_ck jm_Tape_lay = true := by decide +kernel
set_option maxRecDepth 100000 in
theorem jm_Tape_lay_al : ∀ w ∈ jx_al jm_Tape_lay, w ∈ jx_ws := jx_ws_of (ps := jm_Tape_lay_p) rfl (by decide +kernel)
set_option maxRecDepth 100000 in
theorem jm_Tape_isDigit_ck : jx_ck jm_Tape_isDigit = true := by decide +kernel
set_option maxRecDepth 100000 in
theorem jm_Tape_isDigit_al : ∀ w ∈ jx_al jm_Tape_isDigit, w ∈ jx_ws := jx_ws_of (ps := jm_Tape_isDigit_p) rfl (by decide +kernel)
set_option maxRecDepth 100000 in
theorem jm_Tape_cutNumber_ck : jx_ck jm_Tape_cutNumber = true := by decide +kernel
set_option maxRecDepth 100000 in
theorem jm_Tape_cutNumber_al : ∀ w ∈ jx_al jm_Tape_cutNumber, w ∈ jx_ws := jx_ws_of (ps := jm_Tape_cutNumber_p) rfl (by decide +kernel)
set_option maxRecDepth 100000 in
theorem jm_Tape_take_ck : jx_ck jm_Tape_take = true := by decide +kernel
set_option maxRecDepth 100000 in
theorem jm_Tape_take_al : ∀ w ∈ jx_al jm_Tape_take, w ∈ jx_ws := jx_ws_of (ps := jm_Tape_take_p) rfl (by decide +kernel)
set_option maxRecDepth 100000 in
theorem jm_Rdr_readLine_ck : jx_ck jm_Rdr_readLine = true := by decide +kernel
set_option maxRecDepth 100000 in
theorem jm_Rdr_readLine_al : ∀ w ∈ jx_al jm_Rdr_readLine, w ∈ jx_ws := jx_ws_of (ps := jm_Rdr_readLine_p) rfl (by decide +kernel)
set_option maxRecDepth 100000 in
theorem jm_Rdr_beginLine_ck : jx_ck jm_Rdr_beginLine = true := by decide +kernel
set_option maxRecDepth 100000 in
theorem jm_Rdr_beginLine_al : ∀ w ∈ jx_al jm_Rdr_beginLine, w ∈ jx_ws := jx_ws_of (ps := jm_Rdr_beginLine_p) rfl (by decide +kernel)
set_option maxRecDepth 100000 in
theorem jm_Rdr_refuse_ck : jx_ck jm_Rdr_refuse = true := by decide +kernel
set_option maxRecDepth 100000 in
theorem jm_Rdr_refuse_al : ∀ w ∈ jx_al jm_Rdr_refuse, w ∈ jx_ws := jx_ws_of (ps := jm_Rdr_refuse_p) rfl (by decide +kernel)
set_option maxRecDepth 100000 in
theorem jm_Rdr_readMonth_ck : jx_ck jm_Rdr_readMonth = true := by decide +kernel
set_option maxRecDepth 100000 in
theorem jm_Rdr_readMonth_al : ∀ w ∈ jx_al jm_Rdr_readMonth, w ∈ jx_ws := jx_ws_of (ps := jm_Rdr_readMonth_p) rfl (by decide +kernel)
set_option maxRecDepth 100000 in
theorem jm_Rdr_wantNewName_ck : jx_ck jm_Rdr_wantNewName = true := by decide +kernel
set_option maxRecDepth 100000 in
theorem jm_Rdr_wantNewName_al : ∀ w ∈ jx_al jm_Rdr_wantNewName, w ∈ jx_ws := jx_ws_of (ps := jm_Rdr_wantNewName_p) rfl (by decide +kernel)
set_option maxRecDepth 100000 in
theorem jm_Rdr_placeOfName_ck : jx_ck jm_Rdr_placeOfName = true := by decide +kernel
set_option maxRecDepth 100000 in
theorem jm_Rdr_placeOfName_al : ∀ w ∈ jx_al jm_Rdr_placeOfName, w ∈ jx_ws := jx_ws_of (ps := jm_Rdr_placeOfName_p) rfl (by decide +kernel)
set_option maxRecDepth 100000 in
theorem jm_Rdr_want_ck : jx_ck jm_Rdr_want = true := by decide +kernel
set_option maxRecDepth 100000 in
theorem jm_Rdr_want_al : ∀ w ∈ jx_al jm_Rdr_want, w ∈ jx_ws := jx_ws_of (ps := jm_Rdr_want_p) rfl (by decide +kernel)
set_option maxRecDepth 100000 in
theorem jm_Rdr_wantNumber_ck : jx_ck jm_Rdr_wantNumber = true := by decide +kernel
set_option maxRecDepth 100000 in
theorem jm_Rdr_wantNumber_al : ∀ w ∈ jx_al jm_Rdr_wantNumber, w ∈ jx_ws := jx_ws_of (ps := jm_Rdr_wantNumber_p) rfl (by decide +kernel)
set_option maxRecDepth 100000 in
theorem jm_Rep_addMonth_ck : jx_ck jm_Rep_addMonth = true := by decide +kernel
set_option maxRecDepth 100000 in
theorem jm_Rep_addMonth_al : ∀ w ∈ jx_al jm_Rep_addMonth, w ∈ jx_ws := jx_ws_of (ps := jm_Rep_addMonth_p) rfl (by decide +kernel)
set_option maxRecDepth 100000 in
theorem jm_Rdr_readPerson_ck : jx_ck jm_Rdr_readPerson = true := by decide +kernel
set_option maxRecDepth 100000 in
theorem jm_Rdr_readPerson_al : ∀ w ∈ jx_al jm_Rdr_readPerson, w ∈ jx_ws := jx_ws_of (ps := jm_Rdr_readPerson_p) rfl (by decide +kernel)
set_option maxRecDepth 100000 in
theorem jm_Rep_addPerson_ck : jx_ck jm_Rep_addPerson = true := by decide +kernel
set_option maxRecDepth 100000 in
theorem jm_Rep_addPerson_al : ∀ w ∈ jx_al jm_Rep_addPerson, w ∈ jx_ws := jx_ws_of (ps := jm_Rep_addPerson_p) rfl (by decide +kernel)
set_option maxRecDepth 100000 in
theorem jm_Rdr_readFormula_ck : jx_ck jm_Rdr_readFormula = true := by decide +kernel
set_option maxRecDepth 100000 in
theorem jm_Rdr_readFormula_al : ∀ w ∈ jx_al jm_Rdr_readFormula, w ∈ jx_ws := jx_ws_of (ps := jm_Rdr_readFormula_p) rfl (by decide +kernel)
set_option maxRecDepth 100000 in
theorem jm_Rep_beginFormula_ck : jx_ck jm_Rep_beginFormula = true := by decide +kernel
set_option maxRecDepth 100000 in
theorem jm_Rep_beginFormula_al : ∀ w ∈ jx_al jm_Rep_beginFormula, w ∈ jx_ws := jx_ws_of (ps := jm_Rep_beginFormula_p) rfl (by decide +kernel)
set_option maxRecDepth 100000 in
theorem jm_Rdr_readChain_ck : jx_ck jm_Rdr_readChain = true := by decide +kernel
set_option maxRecDepth 100000 in
theorem jm_Rdr_readChain_al : ∀ w ∈ jx_al jm_Rdr_readChain, w ∈ jx_ws := jx_ws_of (ps := jm_Rdr_readChain_p) rfl (by decide +kernel)
set_option maxRecDepth 100000 in
theorem jm_Rdr_readOne_ck : jx_ck jm_Rdr_readOne = true := by decide +kernel
set_option maxRecDepth 100000 in
theorem jm_Rdr_readOne_al : ∀ w ∈ jx_al jm_Rdr_readOne, w ∈ jx_ws := jx_ws_of (ps := jm_Rdr_readOne_p) rfl (by decide +kernel)
set_option maxRecDepth 100000 in
theorem jm_Rdr_readNot_ck : jx_ck jm_Rdr_readNot = true := by decide +kernel
set_option maxRecDepth 100000 in
theorem jm_Rdr_readNot_al : ∀ w ∈ jx_al jm_Rdr_readNot, w ∈ jx_ws := jx_ws_of (ps := jm_Rdr_readNot_p) rfl (by decide +kernel)
set_option maxRecDepth 100000 in
theorem jm_Rep_emit_ck : jx_ck jm_Rep_emit = true := by decide +kernel
set_option maxRecDepth 100000 in
theorem jm_Rep_emit_al : ∀ w ∈ jx_al jm_Rep_emit, w ∈ jx_ws := jx_ws_of (ps := jm_Rep_emit_p) rfl (by decide +kernel)
set_option maxRecDepth 100000 in
theorem jm_Rdr_readUnit_ck : jx_ck jm_Rdr_readUnit = true := by decide +kernel
set_option maxRecDepth 100000 in
theorem jm_Rdr_readUnit_al : ∀ w ∈ jx_al jm_Rdr_readUnit, w ∈ jx_ws := jx_ws_of (ps := jm_Rdr_readUnit_p) rfl (by decide +kernel)
set_option maxRecDepth 100000 in
theorem jm_Rdr_chainOf_ck : jx_ck jm_Rdr_chainOf = true := by decide +kernel
set_option maxRecDepth 100000 in
theorem jm_Rdr_chainOf_al : ∀ w ∈ jx_al jm_Rdr_chainOf, w ∈ jx_ws := jx_ws_of (ps := jm_Rdr_chainOf_p) rfl (by decide +kernel)
set_option maxRecDepth 100000 in
theorem jm_Rep_endFormula_ck : jx_ck jm_Rep_endFormula = true := by decide +kernel
set_option maxRecDepth 100000 in
theorem jm_Rep_endFormula_al : ∀ w ∈ jx_al jm_Rep_endFormula, w ∈ jx_ws := jx_ws_of (ps := jm_Rep_endFormula_p) rfl (by decide +kernel)
set_option maxRecDepth 100000 in
theorem jm_Rdr_readDue_ck : jx_ck jm_Rdr_readDue = true := by decide +kernel
set_option maxRecDepth 100000 in
theorem jm_Rdr_readDue_al : ∀ w ∈ jx_al jm_Rdr_readDue, w ∈ jx_ws := jx_ws_of (ps := jm_Rdr_readDue_p) rfl (by decide +kernel)
set_option maxRecDepth 100000 in
theorem jm_Rep_dueAt_ck : jx_ck jm_Rep_dueAt = true := by decide +kernel
set_option maxRecDepth 100000 in
theorem jm_Rep_dueAt_al : ∀ w ∈ jx_al jm_Rep_dueAt, w ∈ jx_ws := jx_ws_of (ps := jm_Rep_dueAt_p) rfl (by decide +kernel)
set_option maxRecDepth 100000 in
theorem jm_Rdr_wantKnownName_ck : jx_ck jm_Rdr_wantKnownName = true := by decide +kernel
set_option maxRecDepth 100000 in
theorem jm_Rdr_wantKnownName_al : ∀ w ∈ jx_al jm_Rdr_wantKnownName, w ∈ jx_ws := jx_ws_of (ps := jm_Rdr_wantKnownName_p) rfl (by decide +kernel)
set_option maxRecDepth 100000 in
theorem jm_Rdr_readDueDay_ck : jx_ck jm_Rdr_readDueDay = true := by decide +kernel
set_option maxRecDepth 100000 in
theorem jm_Rdr_readDueDay_al : ∀ w ∈ jx_al jm_Rdr_readDueDay, w ∈ jx_ws := jx_ws_of (ps := jm_Rdr_readDueDay_p) rfl (by decide +kernel)
set_option maxRecDepth 100000 in
theorem jm_Rdr_beginOnce_ck : jx_ck jm_Rdr_beginOnce = true := by decide +kernel
set_option maxRecDepth 100000 in
theorem jm_Rdr_beginOnce_al : ∀ w ∈ jx_al jm_Rdr_beginOnce, w ∈ jx_ws := jx_ws_of (ps := jm_Rdr_beginOnce_p) rfl (by decide +kernel)
set_option maxRecDepth 100000 in
theorem jm_Rdr_readSun_ck : jx_ck jm_Rdr_readSun = true := by decide +kernel
set_option maxRecDepth 100000 in
theorem jm_Rdr_readSun_al : ∀ w ∈ jx_al jm_Rdr_readSun, w ∈ jx_ws := jx_ws_of (ps := jm_Rdr_readSun_p) rfl (by decide +kernel)
set_option maxRecDepth 100000 in
theorem jm_Rep_setSun_ck : jx_ck jm_Rep_setSun = true := by decide +kernel
set_option maxRecDepth 100000 in
theorem jm_Rep_setSun_al : ∀ w ∈ jx_al jm_Rep_setSun, w ∈ jx_ws := jx_ws_of (ps := jm_Rep_setSun_p) rfl (by decide +kernel)
set_option maxRecDepth 100000 in
theorem jm_Rdr_readCount_ck : jx_ck jm_Rdr_readCount = true := by decide +kernel
set_option maxRecDepth 100000 in
theorem jm_Rdr_readCount_al : ∀ w ∈ jx_al jm_Rdr_readCount, w ∈ jx_ws := jx_ws_of (ps := jm_Rdr_readCount_p) rfl (by decide +kernel)
set_option maxRecDepth 100000 in
theorem jm_Rdr_readWeek_ck : jx_ck jm_Rdr_readWeek = true := by decide +kernel
set_option maxRecDepth 100000 in
theorem jm_Rdr_readWeek_al : ∀ w ∈ jx_al jm_Rdr_readWeek, w ∈ jx_ws := jx_ws_of (ps := jm_Rdr_readWeek_p) rfl (by decide +kernel)
set_option maxRecDepth 100000 in
theorem jm_Rep_settleSun_ck : jx_ck jm_Rep_settleSun = true := by decide +kernel
set_option maxRecDepth 100000 in
theorem jm_Rep_settleSun_al : ∀ w ∈ jx_al jm_Rep_settleSun, w ∈ jx_ws := jx_ws_of (ps := jm_Rep_settleSun_p) rfl (by decide +kernel)
set_option maxRecDepth 100000 in
theorem jm_JV_beginAnew_ck : jx_ck jm_JV_beginAnew = true := by decide +kernel
set_option maxRecDepth 100000 in
theorem jm_JV_beginAnew_al : ∀ w ∈ jx_al jm_JV_beginAnew, w ∈ jx_ws := jx_ws_of (ps := jm_JV_beginAnew_p) rfl (by decide +kernel)
set_option maxRecDepth 100000 in
theorem jm_Cal_begin_ck : jx_ck jm_Cal_begin = true := by decide +kernel
set_option maxRecDepth 100000 in
theorem jm_Cal_begin_al : ∀ w ∈ jx_al jm_Cal_begin, w ∈ jx_ws := jx_ws_of (ps := jm_Cal_begin_p) rfl (by decide +kernel)
set_option maxRecDepth 100000 in
theorem jm_Acts_forgetAll_ck : jx_ck jm_Acts_forgetAll = true := by decide +kernel
set_option maxRecDepth 100000 in
theorem jm_Acts_forgetAll_al : ∀ w ∈ jx_al jm_Acts_forgetAll, w ∈ jx_ws := jx_ws_of (ps := jm_Acts_forgetAll_p) rfl (by decide +kernel)
set_option maxRecDepth 100000 in
theorem jm_JV_fault_ck : jx_ck jm_JV_fault = true := by decide +kernel
set_option maxRecDepth 100000 in
theorem jm_JV_fault_al : ∀ w ∈ jx_al jm_JV_fault, w ∈ jx_ws := jx_ws_of (ps := jm_JV_fault_p) rfl (by decide +kernel)
set_option maxRecDepth 100000 in
theorem jm_JV_person_ck : jx_ck jm_JV_person = true := by decide +kernel
set_option maxRecDepth 100000 in
theorem jm_JV_person_al : ∀ w ∈ jx_al jm_JV_person, w ∈ jx_ws := jx_ws_of (ps := jm_JV_person_p) rfl (by decide +kernel)
set_option maxRecDepth 100000 in
theorem jm_Rep_hasPerson_ck : jx_ck jm_Rep_hasPerson = true := by decide +kernel
set_option maxRecDepth 100000 in
theorem jm_Rep_hasPerson_al : ∀ w ∈ jx_al jm_Rep_hasPerson, w ∈ jx_ws := jx_ws_of (ps := jm_Rep_hasPerson_p) rfl (by decide +kernel)
set_option maxRecDepth 100000 in
theorem jm_JV_due_ck : jx_ck jm_JV_due = true := by decide +kernel
set_option maxRecDepth 100000 in
theorem jm_JV_due_al : ∀ w ∈ jx_al jm_JV_due, w ∈ jx_ws := jx_ws_of (ps := jm_JV_due_p) rfl (by decide +kernel)
set_option maxRecDepth 100000 in
theorem jm_Rep_hasDue_ck : jx_ck jm_Rep_hasDue = true := by decide +kernel
set_option maxRecDepth 100000 in
theorem jm_Rep_hasDue_al : ∀ w ∈ jx_al jm_Rep_hasDue, w ∈ jx_ws := jx_ws_of (ps := jm_Rep_hasDue_p) rfl (by decide +kernel)
set_option maxRecDepth 100000 in
theorem jm_JV_length_ck : jx_ck jm_JV_length = true := by decide +kernel
set_option maxRecDepth 100000 in
theorem jm_JV_length_al : ∀ w ∈ jx_al jm_JV_length, w ∈ jx_ws := jx_ws_of (ps := jm_JV_length_p) rfl (by decide +kernel)
set_option maxRecDepth 100000 in
theorem jm_Cal_hadMonth_ck : jx_ck jm_Cal_hadMonth = true := by decide +kernel
set_option maxRecDepth 100000 in
theorem jm_Cal_hadMonth_al : ∀ w ∈ jx_al jm_Cal_hadMonth, w ∈ jx_ws := jx_ws_of (ps := jm_Cal_hadMonth_p) rfl (by decide +kernel)
set_option maxRecDepth 100000 in
theorem jm_JV_date_ck : jx_ck jm_JV_date = true := by decide +kernel
set_option maxRecDepth 100000 in
theorem jm_JV_date_al : ∀ w ∈ jx_al jm_JV_date, w ∈ jx_ws := jx_ws_of (ps := jm_JV_date_p) rfl (by decide +kernel)
set_option maxRecDepth 100000 in
theorem jm_Cal_monthHolding_ck : jx_ck jm_Cal_monthHolding = true := by decide +kernel
set_option maxRecDepth 100000 in
theorem jm_Cal_monthHolding_al : ∀ w ∈ jx_al jm_Cal_monthHolding, w ∈ jx_ws := jx_ws_of (ps := jm_Cal_monthHolding_p) rfl (by decide +kernel)
