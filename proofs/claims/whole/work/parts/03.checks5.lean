set_option maxRecDepth 100000 in
theorem jm_MD_exchange_ck : jx_ck jm_MD_exchange = true := by decide +kernel
set_option maxRecDepth 100000 in
theorem jm_MD_exchange_al : ∀ w ∈ jx_al jm_MD_exchange, w ∈ jx_ws := jx_ws_of (ps := jm_MD_exchange_p) rfl (by decide +kernel)
set_option maxRecDepth 100000 in
theorem jm_MD_redo_ck : jx_ck jm_MD_redo = true := by decide +kernel
set_option maxRecDepth 100000 in
theorem jm_MD_redo_al : ∀ w ∈ jx_al jm_MD_redo, w ∈ jx_ws := jx_ws_of (ps := jm_MD_redo_p) rfl (by decide +kernel)
set_option maxRecDepth 100000 in
theorem jm_MD_turned_ck : jx_ck jm_MD_turned = true := by decide +kernel
set_option maxRecDepth 100000 in
theorem jm_MD_turned_al : ∀ w ∈ jx_al jm_MD_turned, w ∈ jx_ws := jx_ws_of (ps := jm_MD_turned_p) rfl (by decide +kernel)
set_option maxRecDepth 100000 in
theorem jm_MD_canTurnTo_ck : jx_ck jm_MD_canTurnTo = true := by decide +kernel
set_option maxRecDepth 100000 in
theorem jm_MD_canTurnTo_al : ∀ w ∈ jx_al jm_MD_canTurnTo, w ∈ jx_ws := jx_ws_of (ps := jm_MD_canTurnTo_p) rfl (by decide +kernel)
set_option maxRecDepth 100000 in
theorem jm_MD_isTurnedBy_ck : jx_ck jm_MD_isTurnedBy = true := by decide +kernel
set_option maxRecDepth 100000 in
theorem jm_MD_isTurnedBy_al : ∀ w ∈ jx_al jm_MD_isTurnedBy, w ∈ jx_ws := jx_ws_of (ps := jm_MD_isTurnedBy_p) rfl (by decide +kernel)
set_option maxRecDepth 100000 in
theorem jm_MD_least_ck : jx_ck jm_MD_least = true := by decide +kernel
set_option maxRecDepth 100000 in
theorem jm_MD_least_al : ∀ w ∈ jx_al jm_MD_least, w ∈ jx_ws := jx_ws_of (ps := jm_MD_least_p) rfl (by decide +kernel)
set_option maxRecDepth 100000 in
theorem jm_MD_bitsOf_ck : jx_ck jm_MD_bitsOf = true := by decide +kernel
set_option maxRecDepth 100000 in
theorem jm_MD_bitsOf_al : ∀ w ∈ jx_al jm_MD_bitsOf, w ∈ jx_ws := jx_ws_of (ps := jm_MD_bitsOf_p) rfl (by decide +kernel)
set_option maxRecDepth 100000 in
theorem jm_MD_bribe_ck : jx_ck jm_MD_bribe = true := by decide +kernel
set_option maxRecDepth 100000 in
theorem jm_MD_bribe_al : ∀ w ∈ jx_al jm_MD_bribe, w ∈ jx_ws := jx_ws_of (ps := jm_MD_bribe_p) rfl (by decide +kernel)
set_option maxRecDepth 100000 in
theorem jm_MD_lies_ck : jx_ck jm_MD_lies = true := by decide +kernel
set_option maxRecDepth 100000 in
theorem jm_MD_lies_al : ∀ w ∈ jx_al jm_MD_lies, w ∈ jx_ws := jx_ws_of (ps := jm_MD_lies_p) rfl (by decide +kernel)
set_option maxRecDepth 100000 in
theorem jm_MD_rest_ck : jx_ck jm_MD_rest = true := by decide +kernel
set_option maxRecDepth 100000 in
theorem jm_MD_rest_al : ∀ w ∈ jx_al jm_MD_rest, w ∈ jx_ws := jx_ws_of (ps := jm_MD_rest_p) rfl (by decide +kernel)
set_option maxRecDepth 100000 in
theorem jm_MD_betterVote_ck : jx_ck jm_MD_betterVote = true := by decide +kernel
set_option maxRecDepth 100000 in
theorem jm_MD_betterVote_al : ∀ w ∈ jx_al jm_MD_betterVote, w ∈ jx_ws := jx_ws_of (ps := jm_MD_betterVote_p) rfl (by decide +kernel)
set_option maxRecDepth 100000 in
theorem jm_MD_worthBy_ck : jx_ck jm_MD_worthBy = true := by decide +kernel
set_option maxRecDepth 100000 in
theorem jm_MD_worthBy_al : ∀ w ∈ jx_al jm_MD_worthBy, w ∈ jx_ws := jx_ws_of (ps := jm_MD_worthBy_p) rfl (by decide +kernel)
set_option maxRecDepth 100000 in
theorem jm_MD_plan_ck : jx_ck jm_MD_plan = true := by decide +kernel
set_option maxRecDepth 100000 in
theorem jm_MD_plan_al : ∀ w ∈ jx_al jm_MD_plan, w ∈ jx_ws := jx_ws_of (ps := jm_MD_plan_p) rfl (by decide +kernel)
set_option maxRecDepth 100000 in
theorem jm_MD_keepPlace_ck : jx_ck jm_MD_keepPlace = true := by decide +kernel
set_option maxRecDepth 100000 in
theorem jm_MD_keepPlace_al : ∀ w ∈ jx_al jm_MD_keepPlace, w ∈ jx_ws := jx_ws_of (ps := jm_MD_keepPlace_p) rfl (by decide +kernel)
set_option maxRecDepth 100000 in
theorem jm_MD_bringPlace_ck : jx_ck jm_MD_bringPlace = true := by decide +kernel
set_option maxRecDepth 100000 in
theorem jm_MD_bringPlace_al : ∀ w ∈ jx_al jm_MD_bringPlace, w ∈ jx_ws := jx_ws_of (ps := jm_MD_bringPlace_p) rfl (by decide +kernel)
set_option maxRecDepth 100000 in
theorem jm_MD_span_ck : jx_ck jm_MD_span = true := by decide +kernel
set_option maxRecDepth 100000 in
theorem jm_MD_span_al : ∀ w ∈ jx_al jm_MD_span, w ∈ jx_ws := jx_ws_of (ps := jm_MD_span_p) rfl (by decide +kernel)
set_option maxRecDepth 100000 in
theorem jm_MD_skew_ck : jx_ck jm_MD_skew = true := by decide +kernel
set_option maxRecDepth 100000 in
theorem jm_MD_skew_al : ∀ w ∈ jx_al jm_MD_skew, w ∈ jx_ws := jx_ws_of (ps := jm_MD_skew_p) rfl (by decide +kernel)
set_option maxRecDepth 100000 in
theorem jm_MD_keepHead_ck : jx_ck jm_MD_keepHead = true := by decide +kernel
set_option maxRecDepth 100000 in
theorem jm_MD_keepHead_al : ∀ w ∈ jx_al jm_MD_keepHead, w ∈ jx_ws := jx_ws_of (ps := jm_MD_keepHead_p) rfl (by decide +kernel)
set_option maxRecDepth 100000 in
theorem jm_MD_repaired_ck : jx_ck jm_MD_repaired = true := by decide +kernel
set_option maxRecDepth 100000 in
theorem jm_MD_repaired_al : ∀ w ∈ jx_al jm_MD_repaired, w ∈ jx_ws := jx_ws_of (ps := jm_MD_repaired_p) rfl (by decide +kernel)
set_option maxRecDepth 100000 in
theorem jm_MD_isOff_ck : jx_ck jm_MD_isOff = true := by decide +kernel
set_option maxRecDepth 100000 in
theorem jm_MD_isOff_al : ∀ w ∈ jx_al jm_MD_isOff, w ∈ jx_ws := jx_ws_of (ps := jm_MD_isOff_p) rfl (by decide +kernel)
set_option maxRecDepth 100000 in
theorem jm_MD_bringHead_ck : jx_ck jm_MD_bringHead = true := by decide +kernel
set_option maxRecDepth 100000 in
theorem jm_MD_bringHead_al : ∀ w ∈ jx_al jm_MD_bringHead, w ∈ jx_ws := jx_ws_of (ps := jm_MD_bringHead_p) rfl (by decide +kernel)
set_option maxRecDepth 100000 in
theorem jm_MD_again_ck : jx_ck jm_MD_again = true := by decide +kernel
set_option maxRecDepth 100000 in
theorem jm_MD_again_al : ∀ w ∈ jx_al jm_MD_again, w ∈ jx_ws := jx_ws_of (ps := jm_MD_again_p) rfl (by decide +kernel)
set_option maxRecDepth 100000 in
theorem jm_MD_againBy_ck : jx_ck jm_MD_againBy = true := by decide +kernel
set_option maxRecDepth 100000 in
theorem jm_MD_againBy_al : ∀ w ∈ jx_al jm_MD_againBy, w ∈ jx_ws := jx_ws_of (ps := jm_MD_againBy_p) rfl (by decide +kernel)
set_option maxRecDepth 100000 in
theorem jm_MD_areLike_ck : jx_ck jm_MD_areLike = true := by decide +kernel
set_option maxRecDepth 100000 in
theorem jm_MD_areLike_al : ∀ w ∈ jx_al jm_MD_areLike, w ∈ jx_ws := jx_ws_of (ps := jm_MD_areLike_p) rfl (by decide +kernel)
set_option maxRecDepth 100000 in
theorem jm_MD_ahead_ck : jx_ck jm_MD_ahead = true := by decide +kernel
set_option maxRecDepth 100000 in
theorem jm_MD_ahead_al : ∀ w ∈ jx_al jm_MD_ahead, w ∈ jx_ws := jx_ws_of (ps := jm_MD_ahead_p) rfl (by decide +kernel)
set_option maxRecDepth 100000 in
theorem jm_MD_lapsesSoFar_ck : jx_ck jm_MD_lapsesSoFar = true := by decide +kernel
set_option maxRecDepth 100000 in
theorem jm_MD_lapsesSoFar_al : ∀ w ∈ jx_al jm_MD_lapsesSoFar, w ∈ jx_ws := jx_ws_of (ps := jm_MD_lapsesSoFar_p) rfl (by decide +kernel)
set_option maxRecDepth 100000 in
theorem jm_MD_net_ck : jx_ck jm_MD_net = true := by decide +kernel
set_option maxRecDepth 100000 in
theorem jm_MD_net_al : ∀ w ∈ jx_al jm_MD_net, w ∈ jx_ws := jx_ws_of (ps := jm_MD_net_p) rfl (by decide +kernel)
set_option maxRecDepth 100000 in
theorem jm_MD_ledger_ck : jx_ck jm_MD_ledger = true := by decide +kernel
set_option maxRecDepth 100000 in
theorem jm_MD_ledger_al : ∀ w ∈ jx_al jm_MD_ledger, w ∈ jx_ws := jx_ws_of (ps := jm_MD_ledger_p) rfl (by decide +kernel)
set_option maxRecDepth 100000 in
theorem jm_MD_untell_ck : jx_ck jm_MD_untell = true := by decide +kernel
set_option maxRecDepth 100000 in
theorem jm_MD_untell_al : ∀ w ∈ jx_al jm_MD_untell, w ∈ jx_ws := jx_ws_of (ps := jm_MD_untell_p) rfl (by decide +kernel)
set_option maxRecDepth 100000 in
theorem jm_MD_later_ck : jx_ck jm_MD_later = true := by decide +kernel
set_option maxRecDepth 100000 in
theorem jm_MD_later_al : ∀ w ∈ jx_al jm_MD_later, w ∈ jx_ws := jx_ws_of (ps := jm_MD_later_p) rfl (by decide +kernel)
set_option maxRecDepth 100000 in
theorem jm_MD_lengths_ck : jx_ck jm_MD_lengths = true := by decide +kernel
set_option maxRecDepth 100000 in
theorem jm_MD_lengths_al : ∀ w ∈ jx_al jm_MD_lengths, w ∈ jx_ws := jx_ws_of (ps := jm_MD_lengths_p) rfl (by decide +kernel)
set_option maxRecDepth 100000 in
theorem jm_MD_countRows_ck : jx_ck jm_MD_countRows = true := by decide +kernel
set_option maxRecDepth 100000 in
theorem jm_MD_countRows_al : ∀ w ∈ jx_al jm_MD_countRows, w ∈ jx_ws := jx_ws_of (ps := jm_MD_countRows_p) rfl (by decide +kernel)
set_option maxRecDepth 100000 in
theorem jm_MD_wide_ck : jx_ck jm_MD_wide = true := by decide +kernel
set_option maxRecDepth 100000 in
theorem jm_MD_wide_al : ∀ w ∈ jx_al jm_MD_wide, w ∈ jx_ws := jx_ws_of (ps := jm_MD_wide_p) rfl (by decide +kernel)
set_option maxRecDepth 100000 in
theorem jm_MD_fromOf_ck : jx_ck jm_MD_fromOf = true := by decide +kernel
set_option maxRecDepth 100000 in
theorem jm_MD_fromOf_al : ∀ w ∈ jx_al jm_MD_fromOf, w ∈ jx_ws := jx_ws_of (ps := jm_MD_fromOf_p) rfl (by decide +kernel)
set_option maxRecDepth 100000 in
theorem jm_MD_areSo_ck : jx_ck jm_MD_areSo = true := by decide +kernel
set_option maxRecDepth 100000 in
theorem jm_MD_areSo_al : ∀ w ∈ jx_al jm_MD_areSo, w ∈ jx_ws := jx_ws_of (ps := jm_MD_areSo_p) rfl (by decide +kernel)
set_option maxRecDepth 100000 in
theorem jm_MD_counts_ck : jx_ck jm_MD_counts = true := by decide +kernel
set_option maxRecDepth 100000 in
theorem jm_MD_counts_al : ∀ w ∈ jx_al jm_MD_counts, w ∈ jx_ws := jx_ws_of (ps := jm_MD_counts_p) rfl (by decide +kernel)
set_option maxRecDepth 100000 in
theorem jm_MD_isSo_ck : jx_ck jm_MD_isSo = true := by decide +kernel
set_option maxRecDepth 100000 in
theorem jm_MD_isSo_al : ∀ w ∈ jx_al jm_MD_isSo, w ∈ jx_ws := jx_ws_of (ps := jm_MD_isSo_p) rfl (by decide +kernel)
set_option maxRecDepth 100000 in
theorem jm_MD_known_ck : jx_ck jm_MD_known = true := by decide +kernel
set_option maxRecDepth 100000 in
theorem jm_MD_known_al : ∀ w ∈ jx_al jm_MD_known, w ∈ jx_ws := jx_ws_of (ps := jm_MD_known_p) rfl (by decide +kernel)
set_option maxRecDepth 100000 in
theorem jm_MD_image_ck : jx_ck jm_MD_image = true := by decide +kernel
set_option maxRecDepth 100000 in
theorem jm_MD_image_al : ∀ w ∈ jx_al jm_MD_image, w ∈ jx_ws := jx_ws_of (ps := jm_MD_image_p) rfl (by decide +kernel)
set_option maxRecDepth 100000 in
theorem jm_MD_back_ck : jx_ck jm_MD_back = true := by decide +kernel
set_option maxRecDepth 100000 in
theorem jm_MD_back_al : ∀ w ∈ jx_al jm_MD_back, w ∈ jx_ws := jx_ws_of (ps := jm_MD_back_p) rfl (by decide +kernel)
set_option maxRecDepth 100000 in
theorem jm_MD_about_ck : jx_ck jm_MD_about = true := by decide +kernel
set_option maxRecDepth 100000 in
theorem jm_MD_about_al : ∀ w ∈ jx_al jm_MD_about, w ∈ jx_ws := jx_ws_of (ps := jm_MD_about_p) rfl (by decide +kernel)
set_option maxRecDepth 100000 in
theorem jm_MD_feed_ck : jx_ck jm_MD_feed = true := by decide +kernel
set_option maxRecDepth 100000 in
theorem jm_MD_feed_al : ∀ w ∈ jx_al jm_MD_feed, w ∈ jx_ws := jx_ws_of (ps := jm_MD_feed_p) rfl (by decide +kernel)
set_option maxRecDepth 100000 in
theorem jm_MD_end_ck : jx_ck jm_MD_end = true := by decide +kernel
set_option maxRecDepth 100000 in
theorem jm_MD_end_al : ∀ w ∈ jx_al jm_MD_end, w ∈ jx_ws := jx_ws_of (ps := jm_MD_end_p) rfl (by decide +kernel)
set_option maxRecDepth 100000 in
theorem jm_Math_max_ck : jx_ck jm_Math_max = true := by decide +kernel
set_option maxRecDepth 100000 in
theorem jm_Math_max_al : ∀ w ∈ jx_al jm_Math_max, w ∈ jx_ws := jx_ws_of (ps := jm_Math_max_p) rfl (by decide +kernel)
set_option maxRecDepth 100000 in
theorem jm_Math_min_ck : jx_ck jm_Math_min = true := by decide +kernel
set_option maxRecDepth 100000 in
theorem jm_Math_min_al : ∀ w ∈ jx_al jm_Math_min, w ∈ jx_ws := jx_ws_of (ps := jm_Math_min_p) rfl (by decide +kernel)
set_option maxRecDepth 100000 in
theorem jm_Math_abs_ck : jx_ck jm_Math_abs = true := by decide +kernel
set_option maxRecDepth 100000 in
theorem jm_Math_abs_al : ∀ w ∈ jx_al jm_Math_abs, w ∈ jx_ws := jx_ws_of (ps := jm_Math_abs_p) rfl (by decide +kernel)
set_option maxRecDepth 100000 in
theorem jm_Math_floorMod_ck : jx_ck jm_Math_floorMod = true := by decide +kernel
set_option maxRecDepth 100000 in
theorem jm_Math_floorMod_al : ∀ w ∈ jx_al jm_Math_floorMod, w ∈ jx_ws := jx_ws_of (ps := jm_Math_floorMod_p) rfl (by decide +kernel)
set_option maxRecDepth 100000 in
theorem jm_Math_floorDiv_ck : jx_ck jm_Math_floorDiv = true := by decide +kernel
set_option maxRecDepth 100000 in
theorem jm_Math_floorDiv_al : ∀ w ∈ jx_al jm_Math_floorDiv, w ∈ jx_ws := jx_ws_of (ps := jm_Math_floorDiv_p) rfl (by decide +kernel)
set_option maxRecDepth 100000 in
theorem jm_Int_bitCount_ck : jx_ck jm_Int_bitCount = true := by decide +kernel
set_option maxRecDepth 100000 in
theorem jm_Int_bitCount_al : ∀ w ∈ jx_al jm_Int_bitCount, w ∈ jx_ws := jx_ws_of (ps := jm_Int_bitCount_p) rfl (by decide +kernel)
set_option maxRecDepth 100000 in
theorem jm_Str_length_ck : jx_ck jm_Str_length = true := by decide +kernel
set_option maxRecDepth 100000 in
theorem jm_Str_length_al : ∀ w ∈ jx_al jm_Str_length, w ∈ jx_ws := jx_ws_of (ps := jm_Str_length_p) rfl (by decide +kernel)
set_option maxRecDepth 100000 in
theorem jm_Str_coder_ck : jx_ck jm_Str_coder = true := by decide +kernel
set_option maxRecDepth 100000 in
theorem jm_Str_coder_al : ∀ w ∈ jx_al jm_Str_coder, w ∈ jx_ws := jx_ws_of (ps := jm_Str_coder_p) rfl (by decide +kernel)
set_option maxRecDepth 100000 in
theorem jm_Str_isLatin1_ck : jx_ck jm_Str_isLatin1 = true := by decide +kernel
set_option maxRecDepth 100000 in
theorem jm_Str_isLatin1_al : ∀ w ∈ jx_al jm_Str_isLatin1, w ∈ jx_ws := jx_ws_of (ps := jm_Str_isLatin1_p) rfl (by decide +kernel)
set_option maxRecDepth 100000 in
theorem jm_Str_charAt_ck : jx_ck jm_Str_charAt = true := by decide +kernel
set_option maxRecDepth 100000 in
theorem jm_Str_charAt_al : ∀ w ∈ jx_al jm_Str_charAt, w ∈ jx_ws := jx_ws_of (ps := jm_Str_charAt_p) rfl (by decide +kernel)
set_option maxRecDepth 100000 in
theorem jm_Str_checkIndex_ck : jx_ck jm_Str_checkIndex = true := by decide +kernel
set_option maxRecDepth 100000 in
theorem jm_Str_checkIndex_al : ∀ w ∈ jx_al jm_Str_checkIndex, w ∈ jx_ws := jx_ws_of (ps := jm_Str_checkIndex_p) rfl (by decide +kernel)
set_option maxRecDepth 100000 in
theorem jm_Str_indexOf_ck : jx_ck jm_Str_indexOf = true := by decide +kernel
set_option maxRecDepth 100000 in
theorem jm_Str_indexOf_al : ∀ w ∈ jx_al jm_Str_indexOf, w ∈ jx_ws := jx_ws_of (ps := jm_Str_indexOf_p) rfl (by decide +kernel)
set_option maxRecDepth 100000 in
theorem jm_Str_indexOf2_ck : jx_ck jm_Str_indexOf2 = true := by decide +kernel
set_option maxRecDepth 100000 in
theorem jm_Str_indexOf2_al : ∀ w ∈ jx_al jm_Str_indexOf2, w ∈ jx_ws := jx_ws_of (ps := jm_Str_indexOf2_p) rfl (by decide +kernel)
set_option maxRecDepth 100000 in
theorem jm_Lat_charAt_ck : jx_ck jm_Lat_charAt = true := by decide +kernel
set_option maxRecDepth 100000 in
theorem jm_Lat_charAt_al : ∀ w ∈ jx_al jm_Lat_charAt, w ∈ jx_ws := jx_ws_of (ps := jm_Lat_charAt_p) rfl (by decide +kernel)
set_option maxRecDepth 100000 in
theorem jm_Lat_indexOf_ck : jx_ck jm_Lat_indexOf = true := by decide +kernel
set_option maxRecDepth 100000 in
theorem jm_Lat_indexOf_al : ∀ w ∈ jx_al jm_Lat_indexOf, w ∈ jx_ws := jx_ws_of (ps := jm_Lat_indexOf_p) rfl (by decide +kernel)
set_option maxRecDepth 100000 in
theorem jm_Lat_canEncode_ck : jx_ck jm_Lat_canEncode = true := by decide +kernel
set_option maxRecDepth 100000 in
theorem jm_Lat_canEncode_al : ∀ w ∈ jx_al jm_Lat_canEncode, w ∈ jx_ws := jx_ws_of (ps := jm_Lat_canEncode_p) rfl (by decide +kernel)
set_option maxRecDepth 100000 in
theorem jm_Lat_indexOfChar_ck : jx_ck jm_Lat_indexOfChar = true := by decide +kernel
set_option maxRecDepth 100000 in
theorem jm_Lat_indexOfChar_al : ∀ w ∈ jx_al jm_Lat_indexOfChar, w ∈ jx_ws := jx_ws_of (ps := jm_Lat_indexOfChar_p) rfl (by decide +kernel)
set_option maxRecDepth 100000 in
theorem jm_Pre_checkIndex_ck : jx_ck jm_Pre_checkIndex = true := by decide +kernel
set_option maxRecDepth 100000 in
theorem jm_Pre_checkIndex_al : ∀ w ∈ jx_al jm_Pre_checkIndex, w ∈ jx_ws := jx_ws_of (ps := jm_Pre_checkIndex_p) rfl (by decide +kernel)
