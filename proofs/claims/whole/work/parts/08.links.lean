/-! what each entry of a pool links: by the words' places in the tables -/
abbrev mX0_init : zM := (yX0_init, cX0_init, 1, none)
abbrev mX0_restart : zM := (yX0_restart, cX0_restart, 1, none)
abbrev mX0_enlist : zM := (yX0_enlist, cX0_enlist, 4, none)
abbrev mX0_become : zM := (yX0_become, cX0_become, 3, none)
abbrev mX0_all : zM := (yX0_all, cX0_all, 1, some .int)
abbrev mX0_trusted : zM := (yX0_trusted, cX0_trusted, 2, some .int)
abbrev mX0_isOnDeck : zM := (yX0_isOnDeck, cX0_isOnDeck, 3, some .boolean)
abbrev mX0_dares : zM := (yX0_dares, cX0_dares, 4, some .boolean)
abbrev mX0_inkBehind : zM := (yX0_inkBehind, cX0_inkBehind, 2, some .int)
abbrev mX0_signedInTheEnd : zM := (yX0_signedInTheEnd, cX0_signedInTheEnd, 5, some .int)
abbrev mX0_largestClique : zM := (yX0_largestClique, cX0_largestClique, 3, some .int)
abbrev mX0_isClique : zM := (yX0_isClique, cX0_isClique, 3, some .boolean)
abbrev mX1_init : zM := (yX1_init, cX1_init, 1, none)
abbrev mX1_restart : zM := (yX1_restart, cX1_restart, 1, none)
abbrev mX1_become : zM := (yX1_become, cX1_become, 3, none)
abbrev mX1_write : zM := (yX1_write, cX1_write, 4, none)
abbrev mX1_there : zM := (yX1_there, cX1_there, 4, some .int)
abbrev mX1_seatOf : zM := (yX1_seatOf, cX1_seatOf, 3, some .int)
abbrev mX1_inkOf : zM := (yX1_inkOf, cX1_inkOf, 3, some .int)
abbrev mX2_init : zM := (yX2_init, cX2_init, 1, none)
abbrev mX2_find : zM := (yX2_find, cX2_find, 6, none)
abbrev mX2_extend : zM := (yX2_extend, cX2_extend, 10, none)
abbrev mX2_add : zM := (yX2_add, cX2_add, 2, none)
abbrev mX2_placeOf : zM := (yX2_placeOf, cX2_placeOf, 2, some .int)
abbrev mX2_firstOf : zM := (yX2_firstOf, cX2_firstOf, 1, some .int)
abbrev mX2_firsts : zM := (yX2_firsts, cX2_firsts, 3, some .int)
abbrev mX2_timesFirst : zM := (yX2_timesFirst, cX2_timesFirst, 4, some .int)
abbrev mX2_likeliestFirst : zM := (yX2_likeliestFirst, cX2_likeliestFirst, 5, some .int)
abbrev mX2_alwaysAheadOf : zM := (yX2_alwaysAheadOf, cX2_alwaysAheadOf, 4, some .int)
abbrev mX2_aheadOf : zM := (yX2_aheadOf, cX2_aheadOf, 6, some .int)
abbrev mX2_fewestToAsk : zM := (yX2_fewestToAsk, cX2_fewestToAsk, 3, some .int)
abbrev mX2_tellWhoWasFirst : zM := (yX2_tellWhoWasFirst, cX2_tellWhoWasFirst, 7, some .boolean)
abbrev mX2_rankOfPlaces : zM := (yX2_rankOfPlaces, cX2_rankOfPlaces, 8, some .int)
abbrev mX3_init : zM := (yX3_init, cX3_init, 2, none)
abbrev mX3_remember : zM := (yX3_remember, cX3_remember, 3, none)
abbrev mX3_giveBack : zM := (yX3_giveBack, cX3_giveBack, 4, some .boolean)
abbrev mX3_forget : zM := (yX3_forget, cX3_forget, 1, none)
abbrev mX3_slotAt : zM := (yX3_slotAt, cX3_slotAt, 2, some (.object RX1))
abbrev mX4_init : zM := (yX4_init, cX4_init, 1, none)
abbrev mX4_append : zM := (yX4_append, cX4_append, 2, some .boolean)
abbrev mX4_readInto : zM := (yX4_readInto, cX4_readInto, 4, some .int)
abbrev mX4_readSailor : zM := (yX4_readSailor, cX4_readSailor, 5, some .boolean)
abbrev mX4_readDip : zM := (yX4_readDip, cX4_readDip, 2, some .boolean)
abbrev mX4_readSeats : zM := (yX4_readSeats, cX4_readSeats, 2, some .boolean)
abbrev mX4_itemEnds : zM := (yX4_itemEnds, cX4_itemEnds, 1, some .boolean)
abbrev mX4_numberFrom : zM := (yX4_numberFrom, cX4_numberFrom, 4, some .int)
abbrev mX4_next : zM := (yX4_next, cX4_next, 3, some .int)
abbrev mX4_nextNumber : zM := (yX4_nextNumber, cX4_nextNumber, 4, some .int)
abbrev mX4_isDigit : zM := (yX4_isDigit, cX4_isDigit, 1, some .boolean)
abbrev mX5_init : zM := (yX5_init, cX5_init, 1, none)
abbrev mX5_type : zM := (yX5_type, cX5_type, 2, some .int)
abbrev mX5_clear : zM := (yX5_clear, cX5_clear, 2, some .int)
abbrev mX5_crew : zM := (yX5_crew, cX5_crew, 2, some .int)
abbrev mX5_sailor : zM := (yX5_sailor, cX5_sailor, 3, some .int)
abbrev mX5_seat : zM := (yX5_seat, cX5_seat, 3, some .int)
abbrev mX5_now : zM := (yX5_now, cX5_now, 2, some .int)
abbrev mX5_signs : zM := (yX5_signs, cX5_signs, 4, some .int)
abbrev mX5_hour : zM := (yX5_hour, cX5_hour, 1, some .int)
abbrev mX5_scrape : zM := (yX5_scrape, cX5_scrape, 3, some .int)
abbrev mX5_undo : zM := (yX5_undo, cX5_undo, 1, some .int)
abbrev mX5_will : zM := (yX5_will, cX5_will, 1, some .int)
abbrev mX5_begin : zM := (yX5_begin, cX5_begin, 5, some .int)
abbrev mX5_orders : zM := (yX5_orders, cX5_orders, 1, some .int)
abbrev mX5_first : zM := (yX5_first, cX5_first, 1, some .int)
abbrev mX5_sure : zM := (yX5_sure, cX5_sure, 2, some .int)
abbrev mX5_chance : zM := (yX5_chance, cX5_chance, 3, some .int)
abbrev mX5_ask : zM := (yX5_ask, cX5_ask, 1, some .int)
abbrev mX5_hang : zM := (yX5_hang, cX5_hang, 1, some .int)
abbrev mX5_shift : zM := (yX5_shift, cX5_shift, 6, some .int)
abbrev mX5_odds : zM := (yX5_odds, cX5_odds, 8, some .int)
abbrev mX5_bold : zM := (yX5_bold, cX5_bold, 4, some .int)
abbrev mX5_clique : zM := (yX5_clique, cX5_clique, 3, some .int)
abbrev mX5_rate : zM := (yX5_rate, cX5_rate, 3, some .int)
abbrev mX5_keep : zM := (yX5_keep, cX5_keep, 2, some .int)
abbrev mX5_back : zM := (yX5_back, cX5_back, 2, some .int)
abbrev mX5_count : zM := (yX5_count, cX5_count, 2, some .int)
abbrev mX5_trace : zM := (yX5_trace, cX5_trace, 1, some .long)
abbrev mX5_isSailor : zM := (yX5_isSailor, cX5_isSailor, 2, some .boolean)
abbrev mX5_isSeat : zM := (yX5_isSeat, cX5_isSeat, 2, some .boolean)
abbrev mX5_isThere : zM := (yX5_isThere, cX5_isThere, 2, some .boolean)
abbrev mX5_isPart : zM := (yX5_isPart, cX5_isPart, 1, some .boolean)
abbrev mX5_wouldSign : zM := (yX5_wouldSign, cX5_wouldSign, 2, some .boolean)
abbrev mX5_thoseWhoWould : zM := (yX5_thoseWhoWould, cX5_thoseWhoWould, 3, some .int)
abbrev mX5_imageAt : zM := (yX5_imageAt, cX5_imageAt, 2, some (.object RX1))
abbrev mX5_asSailor : zM := (yX5_asSailor, cX5_asSailor, 2, some .int)
abbrev mX5_asCook : zM := (yX5_asCook, cX5_asCook, 2, some .int)
abbrev mX5_asMate : zM := (yX5_asMate, cX5_asMate, 2, some .int)
abbrev mX5_asBosun : zM := (yX5_asBosun, cX5_asBosun, 2, some .int)
abbrev mX5_asGunner : zM := (yX5_asGunner, cX5_asGunner, 2, some .int)
abbrev mX5_asBoy : zM := (yX5_asBoy, cX5_asBoy, 2, some .int)
abbrev mX5_has : zM := (yX5_has, cX5_has, 2, some .boolean)
abbrev mX5_at : zM := (yX5_at, cX5_at, 2, some .int)
abbrev mX5_put : zM := (yX5_put, cX5_put, 3, none)
abbrev mX5_power : zM := (yX5_power, cX5_power, 4, some .int)
abbrev mX5_inLeastTerms : zM := (yX5_inLeastTerms, cX5_inLeastTerms, 5, some .int)
abbrev mX5_commonDivisor : zM := (yX5_commonDivisor, cX5_commonDivisor, 6, some .int)
abbrev mX6_init : zM := (yX6_init, cX6_init, 1, none)
abbrev mX6_in : zM := (yX6_in, cX6_in, 3, some .boolean)
abbrev mX6_isSailor : zM := (yX6_isSailor, cX6_isSailor, 2, some .boolean)
abbrev mX6_isSeat : zM := (yX6_isSeat, cX6_isSeat, 2, some .boolean)
abbrev mX6_ones : zM := (yX6_ones, cX6_ones, 3, some .int)
abbrev mX6_type : zM := (yX6_type, cX6_type, 2, some .int)
abbrev mX6_clear : zM := (yX6_clear, cX6_clear, 2, some .int)
abbrev mX6_letterAt : zM := (yX6_letterAt, cX6_letterAt, 2, some .int)
abbrev mX6_isDigit : zM := (yX6_isDigit, cX6_isDigit, 1, some .boolean)
abbrev mX6_token : zM := (yX6_token, cX6_token, 2, none)
abbrev mX6_number : zM := (yX6_number, cX6_number, 4, some .boolean)
abbrev mX6_once : zM := (yX6_once, cX6_once, 4, some .boolean)
abbrev mX6_readsItem : zM := (yX6_readsItem, cX6_readsItem, 3, some .boolean)
abbrev mX6_reads : zM := (yX6_reads, cX6_reads, 2, some .boolean)
abbrev mX6_tells : zM := (yX6_tells, cX6_tells, 2, none)
abbrev mX6_crew : zM := (yX6_crew, cX6_crew, 1, some .int)
abbrev mX6_seatOf : zM := (yX6_seatOf, cX6_seatOf, 4, some .int)
abbrev mX6_would : zM := (yX6_would, cX6_would, 3, some .boolean)
abbrev mX6_wouldNow : zM := (yX6_wouldNow, cX6_wouldNow, 2, some .boolean)
abbrev mX6_sailor : zM := (yX6_sailor, cX6_sailor, 3, some .int)
abbrev mX6_seat : zM := (yX6_seat, cX6_seat, 3, some .int)
abbrev mX6_there : zM := (yX6_there, cX6_there, 3, some .int)
abbrev mX6_now : zM := (yX6_now, cX6_now, 4, some .int)
abbrev mX6_keeps : zM := (yX6_keeps, cX6_keeps, 2, none)
abbrev mX6_signs : zM := (yX6_signs, cX6_signs, 3, some .int)
abbrev mX6_hour : zM := (yX6_hour, cX6_hour, 1, some .int)
abbrev mX6_scrape : zM := (yX6_scrape, cX6_scrape, 3, some .int)
abbrev mX6_undo : zM := (yX6_undo, cX6_undo, 2, some .int)
abbrev mX6_closed : zM := (yX6_closed, cX6_closed, 5, some .int)
abbrev mX6_will : zM := (yX6_will, cX6_will, 1, some .int)
abbrev mX6_begin : zM := (yX6_begin, cX6_begin, 5, some .int)
abbrev mX6_inkOf : zM := (yX6_inkOf, cX6_inkOf, 2, some .int)
abbrev mX6_lays : zM := (yX6_lays, cX6_lays, 9, none)
abbrev mX6_of : zM := (yX6_of, cX6_of, 2, some .int)
abbrev mX6_placeIn : zM := (yX6_placeIn, cX6_placeIn, 5, some .int)
abbrev mX6_orders : zM := (yX6_orders, cX6_orders, 1, some .int)
abbrev mX6_firsts : zM := (yX6_firsts, cX6_firsts, 4, some .int)
abbrev mX6_first : zM := (yX6_first, cX6_first, 1, some .int)
abbrev mX6_isThere : zM := (yX6_isThere, cX6_isThere, 2, some .boolean)
abbrev mX6_sure : zM := (yX6_sure, cX6_sure, 7, some .int)
abbrev mX6_leads : zM := (yX6_leads, cX6_leads, 4, some .int)
abbrev mX6_common : zM := (yX6_common, cX6_common, 5, some .int)
abbrev mX6_chance : zM := (yX6_chance, cX6_chance, 6, some .int)
abbrev mX6_isKnown : zM := (yX6_isKnown, cX6_isKnown, 7, some .boolean)
abbrev mX6_ask : zM := (yX6_ask, cX6_ask, 6, some .int)
abbrev mX6_hang : zM := (yX6_hang, cX6_hang, 5, some .int)
abbrev mX6_shift : zM := (yX6_shift, cX6_shift, 7, some .int)
abbrev mX6_odds : zM := (yX6_odds, cX6_odds, 10, some .int)
abbrev mX6_bold : zM := (yX6_bold, cX6_bold, 4, some .int)
abbrev mX6_clique : zM := (yX6_clique, cX6_clique, 6, some .int)
abbrev mX6_rate : zM := (yX6_rate, cX6_rate, 6, some .int)
abbrev mX6_keep : zM := (yX6_keep, cX6_keep, 3, some .int)
abbrev mX6_back : zM := (yX6_back, cX6_back, 3, some .int)
abbrev mX6_count : zM := (yX6_count, cX6_count, 2, some .int)
abbrev mX6_trace : zM := (yX6_trace, cX6_trace, 1, some .long)
abbrev mJ6_bitCount_0f7a4 : zM := (yJ6_bitCount_0f7a4, cJ6_bitCount_0f7a4, 1, some .int)
abbrev mJ9_max_7cf53 : zM := (yJ9_max_7cf53, cJ9_max_7cf53, 2, some .int)
abbrev mJ9_min_7cf53 : zM := (yJ9_min_7cf53, cJ9_min_7cf53, 2, some .int)
abbrev mJ7_fill_53178 : zM := (yJ7_fill_53178, cJ7_fill_53178, 4, none)

set_option maxRecDepth 100000 in
theorem kcX0_init : Cond.code mX0_init.1 mX0_init.2.1 mX0_init.2.2.1 mX0_init.2.2.2 ∈ tb := tb_in 96 (by decide +kernel) rfl
set_option maxRecDepth 100000 in
theorem kiX0_init : Cond.initialized mX0_init.1.cls ∈ tb := tb_in 49 (by decide +kernel) rfl
theorem koX0_init : z_mOK mX0_init 0 := ⟨by decide +kernel, by decide⟩
set_option maxRecDepth 100000 in
theorem kcX0_restart : Cond.code mX0_restart.1 mX0_restart.2.1 mX0_restart.2.2.1 mX0_restart.2.2.2 ∈ tb := tb_in 257 (by decide +kernel) rfl
set_option maxRecDepth 100000 in
theorem kiX0_restart : Cond.initialized mX0_restart.1.cls ∈ tb := tb_in 49 (by decide +kernel) rfl
theorem koX0_restart : z_mOK mX0_restart 0 := ⟨by decide +kernel, by decide⟩
set_option maxRecDepth 100000 in
theorem kcX0_enlist : Cond.code mX0_enlist.1 mX0_enlist.2.1 mX0_enlist.2.2.1 mX0_enlist.2.2.2 ∈ tb := tb_in 286 (by decide +kernel) rfl
set_option maxRecDepth 100000 in
theorem kiX0_enlist : Cond.initialized mX0_enlist.1.cls ∈ tb := tb_in 49 (by decide +kernel) rfl
theorem koX0_enlist : z_mOK mX0_enlist 3 := ⟨by decide +kernel, by decide⟩
set_option maxRecDepth 100000 in
theorem kcX0_become : Cond.code mX0_become.1 mX0_become.2.1 mX0_become.2.2.1 mX0_become.2.2.2 ∈ tb := tb_in 303 (by decide +kernel) rfl
set_option maxRecDepth 100000 in
theorem kiX0_become : Cond.initialized mX0_become.1.cls ∈ tb := tb_in 49 (by decide +kernel) rfl
theorem koX0_become : z_mOK mX0_become 1 := ⟨by decide +kernel, by decide⟩
set_option maxRecDepth 100000 in
theorem kcX0_all : Cond.code mX0_all.1 mX0_all.2.1 mX0_all.2.2.1 mX0_all.2.2.2 ∈ tb := tb_in 331 (by decide +kernel) rfl
set_option maxRecDepth 100000 in
theorem kiX0_all : Cond.initialized mX0_all.1.cls ∈ tb := tb_in 49 (by decide +kernel) rfl
theorem koX0_all : z_mOK mX0_all 0 := ⟨by decide +kernel, by decide⟩
set_option maxRecDepth 100000 in
theorem kcX0_trusted : Cond.code mX0_trusted.1 mX0_trusted.2.1 mX0_trusted.2.2.1 mX0_trusted.2.2.2 ∈ tb := tb_in 327 (by decide +kernel) rfl
set_option maxRecDepth 100000 in
theorem kiX0_trusted : Cond.initialized mX0_trusted.1.cls ∈ tb := tb_in 49 (by decide +kernel) rfl
theorem koX0_trusted : z_mOK mX0_trusted 1 := ⟨by decide +kernel, by decide⟩
set_option maxRecDepth 100000 in
theorem kcX0_isOnDeck : Cond.code mX0_isOnDeck.1 mX0_isOnDeck.2.1 mX0_isOnDeck.2.2.1 mX0_isOnDeck.2.2.2 ∈ tb := tb_in 347 (by decide +kernel) rfl
set_option maxRecDepth 100000 in
theorem kiX0_isOnDeck : Cond.initialized mX0_isOnDeck.1.cls ∈ tb := tb_in 49 (by decide +kernel) rfl
theorem koX0_isOnDeck : z_mOK mX0_isOnDeck 2 := ⟨by decide +kernel, by decide⟩
set_option maxRecDepth 100000 in
theorem kcX0_dares : Cond.code mX0_dares.1 mX0_dares.2.1 mX0_dares.2.2.1 mX0_dares.2.2.2 ∈ tb := tb_in 351 (by decide +kernel) rfl
set_option maxRecDepth 100000 in
theorem kiX0_dares : Cond.initialized mX0_dares.1.cls ∈ tb := tb_in 49 (by decide +kernel) rfl
theorem koX0_dares : z_mOK mX0_dares 2 := ⟨by decide +kernel, by decide⟩
set_option maxRecDepth 100000 in
theorem kcX0_inkBehind : Cond.code mX0_inkBehind.1 mX0_inkBehind.2.1 mX0_inkBehind.2.2.1 mX0_inkBehind.2.2.2 ∈ tb := tb_in 405 (by decide +kernel) rfl
set_option maxRecDepth 100000 in
theorem kiX0_inkBehind : Cond.initialized mX0_inkBehind.1.cls ∈ tb := tb_in 49 (by decide +kernel) rfl
theorem koX0_inkBehind : z_mOK mX0_inkBehind 1 := ⟨by decide +kernel, by decide⟩
set_option maxRecDepth 100000 in
theorem kcX0_signedInTheEnd : Cond.code mX0_signedInTheEnd.1 mX0_signedInTheEnd.2.1 mX0_signedInTheEnd.2.2.1 mX0_signedInTheEnd.2.2.2 ∈ tb := tb_in 430 (by decide +kernel) rfl
set_option maxRecDepth 100000 in
theorem kiX0_signedInTheEnd : Cond.initialized mX0_signedInTheEnd.1.cls ∈ tb := tb_in 49 (by decide +kernel) rfl
theorem koX0_signedInTheEnd : z_mOK mX0_signedInTheEnd 1 := ⟨by decide +kernel, by decide⟩
set_option maxRecDepth 100000 in
theorem kcX0_largestClique : Cond.code mX0_largestClique.1 mX0_largestClique.2.1 mX0_largestClique.2.2.1 mX0_largestClique.2.2.2 ∈ tb := tb_in 558 (by decide +kernel) rfl
set_option maxRecDepth 100000 in
theorem kiX0_largestClique : Cond.initialized mX0_largestClique.1.cls ∈ tb := tb_in 49 (by decide +kernel) rfl
theorem koX0_largestClique : z_mOK mX0_largestClique 0 := ⟨by decide +kernel, by decide⟩
set_option maxRecDepth 100000 in
theorem kcX0_isClique : Cond.code mX0_isClique.1 mX0_isClique.2.1 mX0_isClique.2.2.1 mX0_isClique.2.2.2 ∈ tb := tb_in 562 (by decide +kernel) rfl
set_option maxRecDepth 100000 in
theorem kiX0_isClique : Cond.initialized mX0_isClique.1.cls ∈ tb := tb_in 49 (by decide +kernel) rfl
theorem koX0_isClique : z_mOK mX0_isClique 1 := ⟨by decide +kernel, by decide⟩
set_option maxRecDepth 100000 in
theorem kcX1_init : Cond.code mX1_init.1 mX1_init.2.1 mX1_init.2.2.1 mX1_init.2.2.2 ∈ tb := tb_in 129 (by decide +kernel) rfl
set_option maxRecDepth 100000 in
theorem kiX1_init : Cond.initialized mX1_init.1.cls ∈ tb := tb_in 50 (by decide +kernel) rfl
theorem koX1_init : z_mOK mX1_init 0 := ⟨by decide +kernel, by decide⟩
set_option maxRecDepth 100000 in
theorem kcX1_restart : Cond.code mX1_restart.1 mX1_restart.2.1 mX1_restart.2.2.1 mX1_restart.2.2.2 ∈ tb := tb_in 310 (by decide +kernel) rfl
set_option maxRecDepth 100000 in
theorem kiX1_restart : Cond.initialized mX1_restart.1.cls ∈ tb := tb_in 50 (by decide +kernel) rfl
theorem koX1_restart : z_mOK mX1_restart 0 := ⟨by decide +kernel, by decide⟩
set_option maxRecDepth 100000 in
theorem kcX1_become : Cond.code mX1_become.1 mX1_become.2.1 mX1_become.2.2.1 mX1_become.2.2.2 ∈ tb := tb_in 394 (by decide +kernel) rfl
set_option maxRecDepth 100000 in
theorem kiX1_become : Cond.initialized mX1_become.1.cls ∈ tb := tb_in 50 (by decide +kernel) rfl
theorem koX1_become : z_mOK mX1_become 1 := ⟨by decide +kernel, by decide⟩
set_option maxRecDepth 100000 in
theorem kcX1_write : Cond.code mX1_write.1 mX1_write.2.1 mX1_write.2.2.1 mX1_write.2.2.2 ∈ tb := tb_in 398 (by decide +kernel) rfl
set_option maxRecDepth 100000 in
theorem kiX1_write : Cond.initialized mX1_write.1.cls ∈ tb := tb_in 50 (by decide +kernel) rfl
theorem koX1_write : z_mOK mX1_write 3 := ⟨by decide +kernel, by decide⟩
set_option maxRecDepth 100000 in
theorem kcX1_there : Cond.code mX1_there.1 mX1_there.2.1 mX1_there.2.2.1 mX1_there.2.2.2 ∈ tb := tb_in 374 (by decide +kernel) rfl
set_option maxRecDepth 100000 in
theorem kiX1_there : Cond.initialized mX1_there.1.cls ∈ tb := tb_in 50 (by decide +kernel) rfl
theorem koX1_there : z_mOK mX1_there 0 := ⟨by decide +kernel, by decide⟩
set_option maxRecDepth 100000 in
theorem kcX1_seatOf : Cond.code mX1_seatOf.1 mX1_seatOf.2.1 mX1_seatOf.2.2.1 mX1_seatOf.2.2.2 ∈ tb := tb_in 338 (by decide +kernel) rfl
set_option maxRecDepth 100000 in
theorem kiX1_seatOf : Cond.initialized mX1_seatOf.1.cls ∈ tb := tb_in 50 (by decide +kernel) rfl
theorem koX1_seatOf : z_mOK mX1_seatOf 1 := ⟨by decide +kernel, by decide⟩
set_option maxRecDepth 100000 in
theorem kcX1_inkOf : Cond.code mX1_inkOf.1 mX1_inkOf.2.1 mX1_inkOf.2.2.1 mX1_inkOf.2.2.2 ∈ tb := tb_in 581 (by decide +kernel) rfl
set_option maxRecDepth 100000 in
theorem kiX1_inkOf : Cond.initialized mX1_inkOf.1.cls ∈ tb := tb_in 50 (by decide +kernel) rfl
theorem koX1_inkOf : z_mOK mX1_inkOf 1 := ⟨by decide +kernel, by decide⟩
set_option maxRecDepth 100000 in
theorem kcX2_init : Cond.code mX2_init.1 mX2_init.2.1 mX2_init.2.2.1 mX2_init.2.2.2 ∈ tb := tb_in 178 (by decide +kernel) rfl
set_option maxRecDepth 100000 in
theorem kiX2_init : Cond.initialized mX2_init.1.cls ∈ tb := tb_in 53 (by decide +kernel) rfl
theorem koX2_init : z_mOK mX2_init 0 := ⟨by decide +kernel, by decide⟩
set_option maxRecDepth 100000 in
theorem kcX2_find : Cond.code mX2_find.1 mX2_find.2.1 mX2_find.2.2.1 mX2_find.2.2.2 ∈ tb := tb_in 444 (by decide +kernel) rfl
set_option maxRecDepth 100000 in
theorem kiX2_find : Cond.initialized mX2_find.1.cls ∈ tb := tb_in 53 (by decide +kernel) rfl
theorem koX2_find : z_mOK mX2_find 3 := ⟨by decide +kernel, by decide⟩
set_option maxRecDepth 100000 in
theorem kcX2_extend : Cond.code mX2_extend.1 mX2_extend.2.1 mX2_extend.2.2.1 mX2_extend.2.2.2 ∈ tb := tb_in 450 (by decide +kernel) rfl
set_option maxRecDepth 100000 in
theorem kiX2_extend : Cond.initialized mX2_extend.1.cls ∈ tb := tb_in 53 (by decide +kernel) rfl
theorem koX2_extend : z_mOK mX2_extend 6 := ⟨by decide +kernel, by decide⟩
set_option maxRecDepth 100000 in
theorem kcX2_add : Cond.code mX2_add.1 mX2_add.2.1 mX2_add.2.2.1 mX2_add.2.2.2 ∈ tb := tb_in 454 (by decide +kernel) rfl
set_option maxRecDepth 100000 in
theorem kiX2_add : Cond.initialized mX2_add.1.cls ∈ tb := tb_in 53 (by decide +kernel) rfl
theorem koX2_add : z_mOK mX2_add 1 := ⟨by decide +kernel, by decide⟩
set_option maxRecDepth 100000 in
theorem kcX2_placeOf : Cond.code mX2_placeOf.1 mX2_placeOf.2.1 mX2_placeOf.2.2.1 mX2_placeOf.2.2.2 ∈ tb := tb_in 488 (by decide +kernel) rfl
set_option maxRecDepth 100000 in
theorem kiX2_placeOf : Cond.initialized mX2_placeOf.1.cls ∈ tb := tb_in 53 (by decide +kernel) rfl
theorem koX2_placeOf : z_mOK mX2_placeOf 2 := ⟨by decide +kernel, by decide⟩
set_option maxRecDepth 100000 in
theorem kcX2_firstOf : Cond.code mX2_firstOf.1 mX2_firstOf.2.1 mX2_firstOf.2.2.1 mX2_firstOf.2.2.2 ∈ tb := tb_in 469 (by decide +kernel) rfl
set_option maxRecDepth 100000 in
theorem kiX2_firstOf : Cond.initialized mX2_firstOf.1.cls ∈ tb := tb_in 53 (by decide +kernel) rfl
theorem koX2_firstOf : z_mOK mX2_firstOf 1 := ⟨by decide +kernel, by decide⟩
set_option maxRecDepth 100000 in
theorem kcX2_firsts : Cond.code mX2_firsts.1 mX2_firsts.2.1 mX2_firsts.2.2.1 mX2_firsts.2.2.2 ∈ tb := tb_in 466 (by decide +kernel) rfl
set_option maxRecDepth 100000 in
theorem kiX2_firsts : Cond.initialized mX2_firsts.1.cls ∈ tb := tb_in 53 (by decide +kernel) rfl
theorem koX2_firsts : z_mOK mX2_firsts 0 := ⟨by decide +kernel, by decide⟩
set_option maxRecDepth 100000 in
theorem kcX2_timesFirst : Cond.code mX2_timesFirst.1 mX2_timesFirst.2.1 mX2_timesFirst.2.2.1 mX2_timesFirst.2.2.2 ∈ tb := tb_in 499 (by decide +kernel) rfl
set_option maxRecDepth 100000 in
theorem kiX2_timesFirst : Cond.initialized mX2_timesFirst.1.cls ∈ tb := tb_in 53 (by decide +kernel) rfl
theorem koX2_timesFirst : z_mOK mX2_timesFirst 1 := ⟨by decide +kernel, by decide⟩
set_option maxRecDepth 100000 in
theorem kcX2_likeliestFirst : Cond.code mX2_likeliestFirst.1 mX2_likeliestFirst.2.1 mX2_likeliestFirst.2.2.1 mX2_likeliestFirst.2.2.2 ∈ tb := tb_in 534 (by decide +kernel) rfl
set_option maxRecDepth 100000 in
theorem kiX2_likeliestFirst : Cond.initialized mX2_likeliestFirst.1.cls ∈ tb := tb_in 53 (by decide +kernel) rfl
theorem koX2_likeliestFirst : z_mOK mX2_likeliestFirst 0 := ⟨by decide +kernel, by decide⟩
set_option maxRecDepth 100000 in
theorem kcX2_alwaysAheadOf : Cond.code mX2_alwaysAheadOf.1 mX2_alwaysAheadOf.2.1 mX2_alwaysAheadOf.2.2.1 mX2_alwaysAheadOf.2.2.2 ∈ tb := tb_in 481 (by decide +kernel) rfl
set_option maxRecDepth 100000 in
theorem kiX2_alwaysAheadOf : Cond.initialized mX2_alwaysAheadOf.1.cls ∈ tb := tb_in 53 (by decide +kernel) rfl
theorem koX2_alwaysAheadOf : z_mOK mX2_alwaysAheadOf 1 := ⟨by decide +kernel, by decide⟩
set_option maxRecDepth 100000 in
theorem kcX2_aheadOf : Cond.code mX2_aheadOf.1 mX2_aheadOf.2.1 mX2_aheadOf.2.2.1 mX2_aheadOf.2.2.2 ∈ tb := tb_in 485 (by decide +kernel) rfl
set_option maxRecDepth 100000 in
theorem kiX2_aheadOf : Cond.initialized mX2_aheadOf.1.cls ∈ tb := tb_in 53 (by decide +kernel) rfl
theorem koX2_aheadOf : z_mOK mX2_aheadOf 2 := ⟨by decide +kernel, by decide⟩
set_option maxRecDepth 100000 in
theorem kcX2_fewestToAsk : Cond.code mX2_fewestToAsk.1 mX2_fewestToAsk.2.1 mX2_fewestToAsk.2.2.1 mX2_fewestToAsk.2.2.2 ∈ tb := tb_in 516 (by decide +kernel) rfl
set_option maxRecDepth 100000 in
theorem kiX2_fewestToAsk : Cond.initialized mX2_fewestToAsk.1.cls ∈ tb := tb_in 53 (by decide +kernel) rfl
theorem koX2_fewestToAsk : z_mOK mX2_fewestToAsk 0 := ⟨by decide +kernel, by decide⟩
set_option maxRecDepth 100000 in
theorem kcX2_tellWhoWasFirst : Cond.code mX2_tellWhoWasFirst.1 mX2_tellWhoWasFirst.2.1 mX2_tellWhoWasFirst.2.2.1 mX2_tellWhoWasFirst.2.2.2 ∈ tb := tb_in 522 (by decide +kernel) rfl
set_option maxRecDepth 100000 in
theorem kiX2_tellWhoWasFirst : Cond.initialized mX2_tellWhoWasFirst.1.cls ∈ tb := tb_in 53 (by decide +kernel) rfl
theorem koX2_tellWhoWasFirst : z_mOK mX2_tellWhoWasFirst 1 := ⟨by decide +kernel, by decide⟩
set_option maxRecDepth 100000 in
theorem kcX2_rankOfPlaces : Cond.code mX2_rankOfPlaces.1 mX2_rankOfPlaces.2.1 mX2_rankOfPlaces.2.2.1 mX2_rankOfPlaces.2.2.2 ∈ tb := tb_in 526 (by decide +kernel) rfl
set_option maxRecDepth 100000 in
theorem kiX2_rankOfPlaces : Cond.initialized mX2_rankOfPlaces.1.cls ∈ tb := tb_in 53 (by decide +kernel) rfl
theorem koX2_rankOfPlaces : z_mOK mX2_rankOfPlaces 2 := ⟨by decide +kernel, by decide⟩
set_option maxRecDepth 100000 in
theorem kcX3_init : Cond.code mX3_init.1 mX3_init.2.1 mX3_init.2.2.1 mX3_init.2.2.2 ∈ tb := tb_in 158 (by decide +kernel) rfl
set_option maxRecDepth 100000 in
theorem kiX3_init : Cond.initialized mX3_init.1.cls ∈ tb := tb_in 52 (by decide +kernel) rfl
theorem koX3_init : z_mOK mX3_init 0 := ⟨by decide +kernel, by decide⟩
set_option maxRecDepth 100000 in
theorem kcX3_remember : Cond.code mX3_remember.1 mX3_remember.2.1 mX3_remember.2.2.1 mX3_remember.2.2.2 ∈ tb := tb_in 386 (by decide +kernel) rfl
set_option maxRecDepth 100000 in
theorem kiX3_remember : Cond.initialized mX3_remember.1.cls ∈ tb := tb_in 52 (by decide +kernel) rfl
theorem koX3_remember : z_mOK mX3_remember 1 := ⟨by decide +kernel, by decide⟩
set_option maxRecDepth 100000 in
theorem kcX3_giveBack : Cond.code mX3_giveBack.1 mX3_giveBack.2.1 mX3_giveBack.2.2.1 mX3_giveBack.2.2.2 ∈ tb := tb_in 422 (by decide +kernel) rfl
set_option maxRecDepth 100000 in
theorem kiX3_giveBack : Cond.initialized mX3_giveBack.1.cls ∈ tb := tb_in 52 (by decide +kernel) rfl
theorem koX3_giveBack : z_mOK mX3_giveBack 1 := ⟨by decide +kernel, by decide⟩
set_option maxRecDepth 100000 in
theorem kcX3_forget : Cond.code mX3_forget.1 mX3_forget.2.1 mX3_forget.2.2.1 mX3_forget.2.2.2 ∈ tb := tb_in 314 (by decide +kernel) rfl
set_option maxRecDepth 100000 in
theorem kiX3_forget : Cond.initialized mX3_forget.1.cls ∈ tb := tb_in 52 (by decide +kernel) rfl
theorem koX3_forget : z_mOK mX3_forget 0 := ⟨by decide +kernel, by decide⟩
set_option maxRecDepth 100000 in
theorem kcX3_slotAt : Cond.code mX3_slotAt.1 mX3_slotAt.2.1 mX3_slotAt.2.2.1 mX3_slotAt.2.2.2 ∈ tb := tb_in 390 (by decide +kernel) rfl
set_option maxRecDepth 100000 in
theorem kiX3_slotAt : Cond.initialized mX3_slotAt.1.cls ∈ tb := tb_in 52 (by decide +kernel) rfl
theorem koX3_slotAt : z_mOK mX3_slotAt 1 := ⟨by decide +kernel, by decide⟩
set_option maxRecDepth 100000 in
theorem kcX4_init : Cond.code mX4_init.1 mX4_init.2.1 mX4_init.2.2.1 mX4_init.2.2.2 ∈ tb := tb_in 69 (by decide +kernel) rfl
set_option maxRecDepth 100000 in
theorem kiX4_init : Cond.initialized mX4_init.1.cls ∈ tb := tb_in 48 (by decide +kernel) rfl
theorem koX4_init : z_mOK mX4_init 0 := ⟨by decide +kernel, by decide⟩
set_option maxRecDepth 100000 in
theorem kcX4_append : Cond.code mX4_append.1 mX4_append.2.1 mX4_append.2.2.1 mX4_append.2.2.2 ∈ tb := tb_in 238 (by decide +kernel) rfl
set_option maxRecDepth 100000 in
theorem kiX4_append : Cond.initialized mX4_append.1.cls ∈ tb := tb_in 48 (by decide +kernel) rfl
theorem koX4_append : z_mOK mX4_append 1 := ⟨by decide +kernel, by decide⟩
set_option maxRecDepth 100000 in
theorem kcX4_readInto : Cond.code mX4_readInto.1 mX4_readInto.2.1 mX4_readInto.2.2.1 mX4_readInto.2.2.2 ∈ tb := tb_in 253 (by decide +kernel) rfl
set_option maxRecDepth 100000 in
theorem kiX4_readInto : Cond.initialized mX4_readInto.1.cls ∈ tb := tb_in 48 (by decide +kernel) rfl
theorem koX4_readInto : z_mOK mX4_readInto 1 := ⟨by decide +kernel, by decide⟩
set_option maxRecDepth 100000 in
theorem kcX4_readSailor : Cond.code mX4_readSailor.1 mX4_readSailor.2.1 mX4_readSailor.2.2.1 mX4_readSailor.2.2.2 ∈ tb := tb_in 278 (by decide +kernel) rfl
set_option maxRecDepth 100000 in
theorem kiX4_readSailor : Cond.initialized mX4_readSailor.1.cls ∈ tb := tb_in 48 (by decide +kernel) rfl
theorem koX4_readSailor : z_mOK mX4_readSailor 1 := ⟨by decide +kernel, by decide⟩
set_option maxRecDepth 100000 in
theorem kcX4_readDip : Cond.code mX4_readDip.1 mX4_readDip.2.1 mX4_readDip.2.2.1 mX4_readDip.2.2.2 ∈ tb := tb_in 295 (by decide +kernel) rfl
set_option maxRecDepth 100000 in
theorem kiX4_readDip : Cond.initialized mX4_readDip.1.cls ∈ tb := tb_in 48 (by decide +kernel) rfl
theorem koX4_readDip : z_mOK mX4_readDip 1 := ⟨by decide +kernel, by decide⟩
set_option maxRecDepth 100000 in
theorem kcX4_readSeats : Cond.code mX4_readSeats.1 mX4_readSeats.2.1 mX4_readSeats.2.2.1 mX4_readSeats.2.2.2 ∈ tb := tb_in 299 (by decide +kernel) rfl
set_option maxRecDepth 100000 in
theorem kiX4_readSeats : Cond.initialized mX4_readSeats.1.cls ∈ tb := tb_in 48 (by decide +kernel) rfl
theorem koX4_readSeats : z_mOK mX4_readSeats 1 := ⟨by decide +kernel, by decide⟩
set_option maxRecDepth 100000 in
theorem kcX4_itemEnds : Cond.code mX4_itemEnds.1 mX4_itemEnds.2.1 mX4_itemEnds.2.2.1 mX4_itemEnds.2.2.2 ∈ tb := tb_in 291 (by decide +kernel) rfl
set_option maxRecDepth 100000 in
theorem kiX4_itemEnds : Cond.initialized mX4_itemEnds.1.cls ∈ tb := tb_in 48 (by decide +kernel) rfl
theorem koX4_itemEnds : z_mOK mX4_itemEnds 0 := ⟨by decide +kernel, by decide⟩
set_option maxRecDepth 100000 in
theorem kcX4_numberFrom : Cond.code mX4_numberFrom.1 mX4_numberFrom.2.1 mX4_numberFrom.2.2.1 mX4_numberFrom.2.2.2 ∈ tb := tb_in 282 (by decide +kernel) rfl
set_option maxRecDepth 100000 in
theorem kiX4_numberFrom : Cond.initialized mX4_numberFrom.1.cls ∈ tb := tb_in 48 (by decide +kernel) rfl
theorem koX4_numberFrom : z_mOK mX4_numberFrom 2 := ⟨by decide +kernel, by decide⟩
set_option maxRecDepth 100000 in
theorem kcX4_next : Cond.code mX4_next.1 mX4_next.2.1 mX4_next.2.2.1 mX4_next.2.2.2 ∈ tb := tb_in 261 (by decide +kernel) rfl
set_option maxRecDepth 100000 in
theorem kiX4_next : Cond.initialized mX4_next.1.cls ∈ tb := tb_in 48 (by decide +kernel) rfl
theorem koX4_next : z_mOK mX4_next 0 := ⟨by decide +kernel, by decide⟩
set_option maxRecDepth 100000 in
theorem kcX4_nextNumber : Cond.code mX4_nextNumber.1 mX4_nextNumber.2.1 mX4_nextNumber.2.2.1 mX4_nextNumber.2.2.2 ∈ tb := tb_in 271 (by decide +kernel) rfl
set_option maxRecDepth 100000 in
theorem kiX4_nextNumber : Cond.initialized mX4_nextNumber.1.cls ∈ tb := tb_in 48 (by decide +kernel) rfl
theorem koX4_nextNumber : z_mOK mX4_nextNumber 0 := ⟨by decide +kernel, by decide⟩
set_option maxRecDepth 100000 in
theorem kcX4_isDigit : Cond.code mX4_isDigit.1 mX4_isDigit.2.1 mX4_isDigit.2.2.1 mX4_isDigit.2.2.2 ∈ tb := tb_in 267 (by decide +kernel) rfl
set_option maxRecDepth 100000 in
theorem kiX4_isDigit : Cond.initialized mX4_isDigit.1.cls ∈ tb := tb_in 48 (by decide +kernel) rfl
theorem koX4_isDigit : z_mOK mX4_isDigit 1 := ⟨by decide +kernel, by decide⟩
set_option maxRecDepth 100000 in
theorem kcX5_init : Cond.code mX5_init.1 mX5_init.2.1 mX5_init.2.2.1 mX5_init.2.2.2 ∈ tb := tb_in 61 (by decide +kernel) rfl
set_option maxRecDepth 100000 in
theorem kiX5_init : Cond.initialized mX5_init.1.cls ∈ tb := tb_in 47 (by decide +kernel) rfl
theorem koX5_init : z_mOK mX5_init 0 := ⟨by decide +kernel, by decide⟩
set_option maxRecDepth 100000 in
theorem kcX5_type : Cond.code mX5_type.1 mX5_type.2.1 mX5_type.2.2.1 mX5_type.2.2.2 ∈ tb := tb_in 234 (by decide +kernel) rfl
set_option maxRecDepth 100000 in
theorem kiX5_type : Cond.initialized mX5_type.1.cls ∈ tb := tb_in 47 (by decide +kernel) rfl
theorem koX5_type : z_mOK mX5_type 1 := ⟨by decide +kernel, by decide⟩
set_option maxRecDepth 100000 in
theorem kcX5_clear : Cond.code mX5_clear.1 mX5_clear.2.1 mX5_clear.2.2.1 mX5_clear.2.2.2 ∈ tb := tb_in 245 (by decide +kernel) rfl
set_option maxRecDepth 100000 in
theorem kiX5_clear : Cond.initialized mX5_clear.1.cls ∈ tb := tb_in 47 (by decide +kernel) rfl
theorem koX5_clear : z_mOK mX5_clear 0 := ⟨by decide +kernel, by decide⟩
set_option maxRecDepth 100000 in
theorem kcX5_crew : Cond.code mX5_crew.1 mX5_crew.2.1 mX5_crew.2.2.1 mX5_crew.2.2.2 ∈ tb := tb_in 249 (by decide +kernel) rfl
set_option maxRecDepth 100000 in
theorem kiX5_crew : Cond.initialized mX5_crew.1.cls ∈ tb := tb_in 47 (by decide +kernel) rfl
theorem koX5_crew : z_mOK mX5_crew 0 := ⟨by decide +kernel, by decide⟩
set_option maxRecDepth 100000 in
theorem kcX5_sailor : Cond.code mX5_sailor.1 mX5_sailor.2.1 mX5_sailor.2.2.1 mX5_sailor.2.2.2 ∈ tb := tb_in 318 (by decide +kernel) rfl
set_option maxRecDepth 100000 in
theorem kiX5_sailor : Cond.initialized mX5_sailor.1.cls ∈ tb := tb_in 47 (by decide +kernel) rfl
theorem koX5_sailor : z_mOK mX5_sailor 2 := ⟨by decide +kernel, by decide⟩
set_option maxRecDepth 100000 in
theorem kcX5_seat : Cond.code mX5_seat.1 mX5_seat.2.1 mX5_seat.2.2.1 mX5_seat.2.2.2 ∈ tb := tb_in 362 (by decide +kernel) rfl
set_option maxRecDepth 100000 in
theorem kiX5_seat : Cond.initialized mX5_seat.1.cls ∈ tb := tb_in 47 (by decide +kernel) rfl
theorem koX5_seat : z_mOK mX5_seat 2 := ⟨by decide +kernel, by decide⟩
set_option maxRecDepth 100000 in
theorem kcX5_now : Cond.code mX5_now.1 mX5_now.2.1 mX5_now.2.2.1 mX5_now.2.2.2 ∈ tb := tb_in 370 (by decide +kernel) rfl
set_option maxRecDepth 100000 in
theorem kiX5_now : Cond.initialized mX5_now.1.cls ∈ tb := tb_in 47 (by decide +kernel) rfl
theorem koX5_now : z_mOK mX5_now 1 := ⟨by decide +kernel, by decide⟩
set_option maxRecDepth 100000 in
theorem kcX5_signs : Cond.code mX5_signs.1 mX5_signs.2.1 mX5_signs.2.2.1 mX5_signs.2.2.2 ∈ tb := tb_in 382 (by decide +kernel) rfl
set_option maxRecDepth 100000 in
theorem kiX5_signs : Cond.initialized mX5_signs.1.cls ∈ tb := tb_in 47 (by decide +kernel) rfl
theorem koX5_signs : z_mOK mX5_signs 2 := ⟨by decide +kernel, by decide⟩
set_option maxRecDepth 100000 in
theorem kcX5_hour : Cond.code mX5_hour.1 mX5_hour.2.1 mX5_hour.2.2.1 mX5_hour.2.2.2 ∈ tb := tb_in 410 (by decide +kernel) rfl
set_option maxRecDepth 100000 in
theorem kiX5_hour : Cond.initialized mX5_hour.1.cls ∈ tb := tb_in 47 (by decide +kernel) rfl
theorem koX5_hour : z_mOK mX5_hour 0 := ⟨by decide +kernel, by decide⟩
set_option maxRecDepth 100000 in
theorem kcX5_scrape : Cond.code mX5_scrape.1 mX5_scrape.2.1 mX5_scrape.2.2.1 mX5_scrape.2.2.2 ∈ tb := tb_in 414 (by decide +kernel) rfl
set_option maxRecDepth 100000 in
theorem kiX5_scrape : Cond.initialized mX5_scrape.1.cls ∈ tb := tb_in 47 (by decide +kernel) rfl
theorem koX5_scrape : z_mOK mX5_scrape 1 := ⟨by decide +kernel, by decide⟩
set_option maxRecDepth 100000 in
theorem kcX5_undo : Cond.code mX5_undo.1 mX5_undo.2.1 mX5_undo.2.2.1 mX5_undo.2.2.2 ∈ tb := tb_in 418 (by decide +kernel) rfl
set_option maxRecDepth 100000 in
theorem kiX5_undo : Cond.initialized mX5_undo.1.cls ∈ tb := tb_in 47 (by decide +kernel) rfl
theorem koX5_undo : z_mOK mX5_undo 0 := ⟨by decide +kernel, by decide⟩
set_option maxRecDepth 100000 in
theorem kcX5_will : Cond.code mX5_will.1 mX5_will.2.1 mX5_will.2.2.1 mX5_will.2.2.2 ∈ tb := tb_in 426 (by decide +kernel) rfl
set_option maxRecDepth 100000 in
theorem kiX5_will : Cond.initialized mX5_will.1.cls ∈ tb := tb_in 47 (by decide +kernel) rfl
theorem koX5_will : z_mOK mX5_will 0 := ⟨by decide +kernel, by decide⟩
set_option maxRecDepth 100000 in
theorem kcX5_begin : Cond.code mX5_begin.1 mX5_begin.2.1 mX5_begin.2.2.1 mX5_begin.2.2.2 ∈ tb := tb_in 435 (by decide +kernel) rfl
set_option maxRecDepth 100000 in
theorem kiX5_begin : Cond.initialized mX5_begin.1.cls ∈ tb := tb_in 47 (by decide +kernel) rfl
theorem koX5_begin : z_mOK mX5_begin 0 := ⟨by decide +kernel, by decide⟩
set_option maxRecDepth 100000 in
theorem kcX5_orders : Cond.code mX5_orders.1 mX5_orders.2.1 mX5_orders.2.2.1 mX5_orders.2.2.2 ∈ tb := tb_in 440 (by decide +kernel) rfl
set_option maxRecDepth 100000 in
theorem kiX5_orders : Cond.initialized mX5_orders.1.cls ∈ tb := tb_in 47 (by decide +kernel) rfl
theorem koX5_orders : z_mOK mX5_orders 0 := ⟨by decide +kernel, by decide⟩
set_option maxRecDepth 100000 in
theorem kcX5_first : Cond.code mX5_first.1 mX5_first.2.1 mX5_first.2.2.1 mX5_first.2.2.2 ∈ tb := tb_in 462 (by decide +kernel) rfl
set_option maxRecDepth 100000 in
theorem kiX5_first : Cond.initialized mX5_first.1.cls ∈ tb := tb_in 47 (by decide +kernel) rfl
theorem koX5_first : z_mOK mX5_first 0 := ⟨by decide +kernel, by decide⟩
set_option maxRecDepth 100000 in
theorem kcX5_sure : Cond.code mX5_sure.1 mX5_sure.2.1 mX5_sure.2.2.1 mX5_sure.2.2.2 ∈ tb := tb_in 473 (by decide +kernel) rfl
set_option maxRecDepth 100000 in
theorem kiX5_sure : Cond.initialized mX5_sure.1.cls ∈ tb := tb_in 47 (by decide +kernel) rfl
theorem koX5_sure : z_mOK mX5_sure 1 := ⟨by decide +kernel, by decide⟩
set_option maxRecDepth 100000 in
theorem kcX5_chance : Cond.code mX5_chance.1 mX5_chance.2.1 mX5_chance.2.2.1 mX5_chance.2.2.2 ∈ tb := tb_in 492 (by decide +kernel) rfl
set_option maxRecDepth 100000 in
theorem kiX5_chance : Cond.initialized mX5_chance.1.cls ∈ tb := tb_in 47 (by decide +kernel) rfl
theorem koX5_chance : z_mOK mX5_chance 2 := ⟨by decide +kernel, by decide⟩
set_option maxRecDepth 100000 in
theorem kcX5_ask : Cond.code mX5_ask.1 mX5_ask.2.1 mX5_ask.2.2.1 mX5_ask.2.2.2 ∈ tb := tb_in 512 (by decide +kernel) rfl
set_option maxRecDepth 100000 in
theorem kiX5_ask : Cond.initialized mX5_ask.1.cls ∈ tb := tb_in 47 (by decide +kernel) rfl
theorem koX5_ask : z_mOK mX5_ask 0 := ⟨by decide +kernel, by decide⟩
set_option maxRecDepth 100000 in
theorem kcX5_hang : Cond.code mX5_hang.1 mX5_hang.2.1 mX5_hang.2.2.1 mX5_hang.2.2.2 ∈ tb := tb_in 530 (by decide +kernel) rfl
set_option maxRecDepth 100000 in
theorem kiX5_hang : Cond.initialized mX5_hang.1.cls ∈ tb := tb_in 47 (by decide +kernel) rfl
theorem koX5_hang : z_mOK mX5_hang 0 := ⟨by decide +kernel, by decide⟩
set_option maxRecDepth 100000 in
theorem kcX5_shift : Cond.code mX5_shift.1 mX5_shift.2.1 mX5_shift.2.2.1 mX5_shift.2.2.2 ∈ tb := tb_in 539 (by decide +kernel) rfl
set_option maxRecDepth 100000 in
theorem kiX5_shift : Cond.initialized mX5_shift.1.cls ∈ tb := tb_in 47 (by decide +kernel) rfl
theorem koX5_shift : z_mOK mX5_shift 1 := ⟨by decide +kernel, by decide⟩
set_option maxRecDepth 100000 in
theorem kcX5_odds : Cond.code mX5_odds.1 mX5_odds.2.1 mX5_odds.2.2.1 mX5_odds.2.2.2 ∈ tb := tb_in 543 (by decide +kernel) rfl
set_option maxRecDepth 100000 in
theorem kiX5_odds : Cond.initialized mX5_odds.1.cls ∈ tb := tb_in 47 (by decide +kernel) rfl
theorem koX5_odds : z_mOK mX5_odds 3 := ⟨by decide +kernel, by decide⟩
set_option maxRecDepth 100000 in
theorem kcX5_bold : Cond.code mX5_bold.1 mX5_bold.2.1 mX5_bold.2.2.1 mX5_bold.2.2.2 ∈ tb := tb_in 550 (by decide +kernel) rfl
set_option maxRecDepth 100000 in
theorem kiX5_bold : Cond.initialized mX5_bold.1.cls ∈ tb := tb_in 47 (by decide +kernel) rfl
theorem koX5_bold : z_mOK mX5_bold 1 := ⟨by decide +kernel, by decide⟩
set_option maxRecDepth 100000 in
theorem kcX5_clique : Cond.code mX5_clique.1 mX5_clique.2.1 mX5_clique.2.2.1 mX5_clique.2.2.2 ∈ tb := tb_in 554 (by decide +kernel) rfl
set_option maxRecDepth 100000 in
theorem kiX5_clique : Cond.initialized mX5_clique.1.cls ∈ tb := tb_in 47 (by decide +kernel) rfl
theorem koX5_clique : z_mOK mX5_clique 1 := ⟨by decide +kernel, by decide⟩
set_option maxRecDepth 100000 in
theorem kcX5_rate : Cond.code mX5_rate.1 mX5_rate.2.1 mX5_rate.2.2.1 mX5_rate.2.2.2 ∈ tb := tb_in 567 (by decide +kernel) rfl
set_option maxRecDepth 100000 in
theorem kiX5_rate : Cond.initialized mX5_rate.1.cls ∈ tb := tb_in 47 (by decide +kernel) rfl
theorem koX5_rate : z_mOK mX5_rate 2 := ⟨by decide +kernel, by decide⟩
set_option maxRecDepth 100000 in
theorem kcX5_keep : Cond.code mX5_keep.1 mX5_keep.2.1 mX5_keep.2.2.1 mX5_keep.2.2.2 ∈ tb := tb_in 606 (by decide +kernel) rfl
set_option maxRecDepth 100000 in
theorem kiX5_keep : Cond.initialized mX5_keep.1.cls ∈ tb := tb_in 47 (by decide +kernel) rfl
theorem koX5_keep : z_mOK mX5_keep 1 := ⟨by decide +kernel, by decide⟩
set_option maxRecDepth 100000 in
theorem kcX5_back : Cond.code mX5_back.1 mX5_back.2.1 mX5_back.2.2.1 mX5_back.2.2.2 ∈ tb := tb_in 615 (by decide +kernel) rfl
set_option maxRecDepth 100000 in
theorem kiX5_back : Cond.initialized mX5_back.1.cls ∈ tb := tb_in 47 (by decide +kernel) rfl
theorem koX5_back : z_mOK mX5_back 1 := ⟨by decide +kernel, by decide⟩
set_option maxRecDepth 100000 in
theorem kcX5_count : Cond.code mX5_count.1 mX5_count.2.1 mX5_count.2.2.1 mX5_count.2.2.2 ∈ tb := tb_in 619 (by decide +kernel) rfl
set_option maxRecDepth 100000 in
theorem kiX5_count : Cond.initialized mX5_count.1.cls ∈ tb := tb_in 47 (by decide +kernel) rfl
theorem koX5_count : z_mOK mX5_count 1 := ⟨by decide +kernel, by decide⟩
set_option maxRecDepth 100000 in
theorem kcX5_trace : Cond.code mX5_trace.1 mX5_trace.2.1 mX5_trace.2.2.1 mX5_trace.2.2.2 ∈ tb := tb_in 623 (by decide +kernel) rfl
set_option maxRecDepth 100000 in
theorem kiX5_trace : Cond.initialized mX5_trace.1.cls ∈ tb := tb_in 47 (by decide +kernel) rfl
theorem koX5_trace : z_mOK mX5_trace 0 := ⟨by decide +kernel, by decide⟩
set_option maxRecDepth 100000 in
theorem kcX5_isSailor : Cond.code mX5_isSailor.1 mX5_isSailor.2.1 mX5_isSailor.2.2.1 mX5_isSailor.2.2.2 ∈ tb := tb_in 322 (by decide +kernel) rfl
set_option maxRecDepth 100000 in
theorem kiX5_isSailor : Cond.initialized mX5_isSailor.1.cls ∈ tb := tb_in 47 (by decide +kernel) rfl
theorem koX5_isSailor : z_mOK mX5_isSailor 1 := ⟨by decide +kernel, by decide⟩
set_option maxRecDepth 100000 in
theorem kcX5_isSeat : Cond.code mX5_isSeat.1 mX5_isSeat.2.1 mX5_isSeat.2.2.1 mX5_isSeat.2.2.2 ∈ tb := tb_in 366 (by decide +kernel) rfl
set_option maxRecDepth 100000 in
theorem kiX5_isSeat : Cond.initialized mX5_isSeat.1.cls ∈ tb := tb_in 47 (by decide +kernel) rfl
theorem koX5_isSeat : z_mOK mX5_isSeat 1 := ⟨by decide +kernel, by decide⟩
set_option maxRecDepth 100000 in
theorem kcX5_isThere : Cond.code mX5_isThere.1 mX5_isThere.2.1 mX5_isThere.2.2.1 mX5_isThere.2.2.2 ∈ tb := tb_in 477 (by decide +kernel) rfl
set_option maxRecDepth 100000 in
theorem kiX5_isThere : Cond.initialized mX5_isThere.1.cls ∈ tb := tb_in 47 (by decide +kernel) rfl
theorem koX5_isThere : z_mOK mX5_isThere 1 := ⟨by decide +kernel, by decide⟩
set_option maxRecDepth 100000 in
theorem kcX5_isPart : Cond.code mX5_isPart.1 mX5_isPart.2.1 mX5_isPart.2.2.1 mX5_isPart.2.2.2 ∈ tb := tb_in 495 (by decide +kernel) rfl
set_option maxRecDepth 100000 in
theorem kiX5_isPart : Cond.initialized mX5_isPart.1.cls ∈ tb := tb_in 47 (by decide +kernel) rfl
theorem koX5_isPart : z_mOK mX5_isPart 1 := ⟨by decide +kernel, by decide⟩
set_option maxRecDepth 100000 in
theorem kcX5_wouldSign : Cond.code mX5_wouldSign.1 mX5_wouldSign.2.1 mX5_wouldSign.2.2.1 mX5_wouldSign.2.2.2 ∈ tb := tb_in 343 (by decide +kernel) rfl
set_option maxRecDepth 100000 in
theorem kiX5_wouldSign : Cond.initialized mX5_wouldSign.1.cls ∈ tb := tb_in 47 (by decide +kernel) rfl
theorem koX5_wouldSign : z_mOK mX5_wouldSign 1 := ⟨by decide +kernel, by decide⟩
set_option maxRecDepth 100000 in
theorem kcX5_thoseWhoWould : Cond.code mX5_thoseWhoWould.1 mX5_thoseWhoWould.2.1 mX5_thoseWhoWould.2.2.1 mX5_thoseWhoWould.2.2.2 ∈ tb := tb_in 378 (by decide +kernel) rfl
set_option maxRecDepth 100000 in
theorem kiX5_thoseWhoWould : Cond.initialized mX5_thoseWhoWould.1.cls ∈ tb := tb_in 47 (by decide +kernel) rfl
theorem koX5_thoseWhoWould : z_mOK mX5_thoseWhoWould 0 := ⟨by decide +kernel, by decide⟩
set_option maxRecDepth 100000 in
theorem kcX5_imageAt : Cond.code mX5_imageAt.1 mX5_imageAt.2.1 mX5_imageAt.2.2.1 mX5_imageAt.2.2.2 ∈ tb := tb_in 610 (by decide +kernel) rfl
set_option maxRecDepth 100000 in
theorem kiX5_imageAt : Cond.initialized mX5_imageAt.1.cls ∈ tb := tb_in 47 (by decide +kernel) rfl
theorem koX5_imageAt : z_mOK mX5_imageAt 1 := ⟨by decide +kernel, by decide⟩
set_option maxRecDepth 100000 in
theorem kcX5_asSailor : Cond.code mX5_asSailor.1 mX5_asSailor.2.1 mX5_asSailor.2.2.1 mX5_asSailor.2.2.2 ∈ tb := tb_in 572 (by decide +kernel) rfl
set_option maxRecDepth 100000 in
theorem kiX5_asSailor : Cond.initialized mX5_asSailor.1.cls ∈ tb := tb_in 47 (by decide +kernel) rfl
theorem koX5_asSailor : z_mOK mX5_asSailor 1 := ⟨by decide +kernel, by decide⟩
set_option maxRecDepth 100000 in
theorem kcX5_asCook : Cond.code mX5_asCook.1 mX5_asCook.2.1 mX5_asCook.2.2.1 mX5_asCook.2.2.2 ∈ tb := tb_in 576 (by decide +kernel) rfl
set_option maxRecDepth 100000 in
theorem kiX5_asCook : Cond.initialized mX5_asCook.1.cls ∈ tb := tb_in 47 (by decide +kernel) rfl
theorem koX5_asCook : z_mOK mX5_asCook 1 := ⟨by decide +kernel, by decide⟩
set_option maxRecDepth 100000 in
theorem kcX5_asMate : Cond.code mX5_asMate.1 mX5_asMate.2.1 mX5_asMate.2.2.1 mX5_asMate.2.2.2 ∈ tb := tb_in 586 (by decide +kernel) rfl
set_option maxRecDepth 100000 in
theorem kiX5_asMate : Cond.initialized mX5_asMate.1.cls ∈ tb := tb_in 47 (by decide +kernel) rfl
theorem koX5_asMate : z_mOK mX5_asMate 1 := ⟨by decide +kernel, by decide⟩
set_option maxRecDepth 100000 in
theorem kcX5_asBosun : Cond.code mX5_asBosun.1 mX5_asBosun.2.1 mX5_asBosun.2.2.1 mX5_asBosun.2.2.2 ∈ tb := tb_in 591 (by decide +kernel) rfl
set_option maxRecDepth 100000 in
theorem kiX5_asBosun : Cond.initialized mX5_asBosun.1.cls ∈ tb := tb_in 47 (by decide +kernel) rfl
theorem koX5_asBosun : z_mOK mX5_asBosun 1 := ⟨by decide +kernel, by decide⟩
set_option maxRecDepth 100000 in
theorem kcX5_asGunner : Cond.code mX5_asGunner.1 mX5_asGunner.2.1 mX5_asGunner.2.2.1 mX5_asGunner.2.2.2 ∈ tb := tb_in 596 (by decide +kernel) rfl
set_option maxRecDepth 100000 in
theorem kiX5_asGunner : Cond.initialized mX5_asGunner.1.cls ∈ tb := tb_in 47 (by decide +kernel) rfl
theorem koX5_asGunner : z_mOK mX5_asGunner 1 := ⟨by decide +kernel, by decide⟩
set_option maxRecDepth 100000 in
theorem kcX5_asBoy : Cond.code mX5_asBoy.1 mX5_asBoy.2.1 mX5_asBoy.2.2.1 mX5_asBoy.2.2.2 ∈ tb := tb_in 601 (by decide +kernel) rfl
set_option maxRecDepth 100000 in
theorem kiX5_asBoy : Cond.initialized mX5_asBoy.1.cls ∈ tb := tb_in 47 (by decide +kernel) rfl
theorem koX5_asBoy : z_mOK mX5_asBoy 1 := ⟨by decide +kernel, by decide⟩
set_option maxRecDepth 100000 in
theorem kcX5_has : Cond.code mX5_has.1 mX5_has.2.1 mX5_has.2.2.1 mX5_has.2.2.2 ∈ tb := tb_in 334 (by decide +kernel) rfl
set_option maxRecDepth 100000 in
theorem kiX5_has : Cond.initialized mX5_has.1.cls ∈ tb := tb_in 47 (by decide +kernel) rfl
theorem koX5_has : z_mOK mX5_has 2 := ⟨by decide +kernel, by decide⟩
set_option maxRecDepth 100000 in
theorem kcX5_at : Cond.code mX5_at.1 mX5_at.2.1 mX5_at.2.2.1 mX5_at.2.2.2 ∈ tb := tb_in 264 (by decide +kernel) rfl
set_option maxRecDepth 100000 in
theorem kiX5_at : Cond.initialized mX5_at.1.cls ∈ tb := tb_in 47 (by decide +kernel) rfl
theorem koX5_at : z_mOK mX5_at 2 := ⟨by decide +kernel, by decide⟩
set_option maxRecDepth 100000 in
theorem kcX5_put : Cond.code mX5_put.1 mX5_put.2.1 mX5_put.2.2.1 mX5_put.2.2.2 ∈ tb := tb_in 241 (by decide +kernel) rfl
set_option maxRecDepth 100000 in
theorem kiX5_put : Cond.initialized mX5_put.1.cls ∈ tb := tb_in 47 (by decide +kernel) rfl
theorem koX5_put : z_mOK mX5_put 3 := ⟨by decide +kernel, by decide⟩
set_option maxRecDepth 100000 in
theorem kcX5_power : Cond.code mX5_power.1 mX5_power.2.1 mX5_power.2.2.1 mX5_power.2.2.2 ∈ tb := tb_in 546 (by decide +kernel) rfl
set_option maxRecDepth 100000 in
theorem kiX5_power : Cond.initialized mX5_power.1.cls ∈ tb := tb_in 47 (by decide +kernel) rfl
theorem koX5_power : z_mOK mX5_power 2 := ⟨by decide +kernel, by decide⟩
set_option maxRecDepth 100000 in
theorem kcX5_inLeastTerms : Cond.code mX5_inLeastTerms.1 mX5_inLeastTerms.2.1 mX5_inLeastTerms.2.2.1 mX5_inLeastTerms.2.2.2 ∈ tb := tb_in 505 (by decide +kernel) rfl
set_option maxRecDepth 100000 in
theorem kiX5_inLeastTerms : Cond.initialized mX5_inLeastTerms.1.cls ∈ tb := tb_in 47 (by decide +kernel) rfl
theorem koX5_inLeastTerms : z_mOK mX5_inLeastTerms 3 := ⟨by decide +kernel, by decide⟩
set_option maxRecDepth 100000 in
theorem kcX5_commonDivisor : Cond.code mX5_commonDivisor.1 mX5_commonDivisor.2.1 mX5_commonDivisor.2.2.1 mX5_commonDivisor.2.2.2 ∈ tb := tb_in 508 (by decide +kernel) rfl
set_option maxRecDepth 100000 in
theorem kiX5_commonDivisor : Cond.initialized mX5_commonDivisor.1.cls ∈ tb := tb_in 47 (by decide +kernel) rfl
theorem koX5_commonDivisor : z_mOK mX5_commonDivisor 2 := ⟨by decide +kernel, by decide⟩
set_option maxRecDepth 100000 in
theorem kcX6_init : Cond.code mX6_init.1 mX6_init.2.1 mX6_init.2.2.1 mX6_init.2.2.2 ∈ tb := tb_in 628 (by decide +kernel) rfl
set_option maxRecDepth 100000 in
theorem kiX6_init : Cond.initialized mX6_init.1.cls ∈ tb := tb_in 54 (by decide +kernel) rfl
theorem koX6_init : z_mOK mX6_init 0 := ⟨by decide +kernel, by decide⟩
set_option maxRecDepth 100000 in
theorem kcX6_in : Cond.code mX6_in.1 mX6_in.2.1 mX6_in.2.2.1 mX6_in.2.2.2 ∈ tb := tb_in 648 (by decide +kernel) rfl
set_option maxRecDepth 100000 in
theorem kiX6_in : Cond.initialized mX6_in.1.cls ∈ tb := tb_in 54 (by decide +kernel) rfl
theorem koX6_in : z_mOK mX6_in 3 := ⟨by decide +kernel, by decide⟩
set_option maxRecDepth 100000 in
theorem kcX6_isSailor : Cond.code mX6_isSailor.1 mX6_isSailor.2.1 mX6_isSailor.2.2.1 mX6_isSailor.2.2.2 ∈ tb := tb_in 743 (by decide +kernel) rfl
set_option maxRecDepth 100000 in
theorem kiX6_isSailor : Cond.initialized mX6_isSailor.1.cls ∈ tb := tb_in 54 (by decide +kernel) rfl
theorem koX6_isSailor : z_mOK mX6_isSailor 1 := ⟨by decide +kernel, by decide⟩
set_option maxRecDepth 100000 in
theorem kcX6_isSeat : Cond.code mX6_isSeat.1 mX6_isSeat.2.1 mX6_isSeat.2.2.1 mX6_isSeat.2.2.2 ∈ tb := tb_in 766 (by decide +kernel) rfl
set_option maxRecDepth 100000 in
theorem kiX6_isSeat : Cond.initialized mX6_isSeat.1.cls ∈ tb := tb_in 54 (by decide +kernel) rfl
theorem koX6_isSeat : z_mOK mX6_isSeat 1 := ⟨by decide +kernel, by decide⟩
set_option maxRecDepth 100000 in
theorem kcX6_ones : Cond.code mX6_ones.1 mX6_ones.2.1 mX6_ones.2.2.1 mX6_ones.2.2.2 ∈ tb := tb_in 758 (by decide +kernel) rfl
set_option maxRecDepth 100000 in
theorem kiX6_ones : Cond.initialized mX6_ones.1.cls ∈ tb := tb_in 54 (by decide +kernel) rfl
theorem koX6_ones : z_mOK mX6_ones 1 := ⟨by decide +kernel, by decide⟩
set_option maxRecDepth 100000 in
theorem kcX6_type : Cond.code mX6_type.1 mX6_type.2.1 mX6_type.2.2.1 mX6_type.2.2.2 ∈ tb := tb_in 727 (by decide +kernel) rfl
set_option maxRecDepth 100000 in
theorem kiX6_type : Cond.initialized mX6_type.1.cls ∈ tb := tb_in 54 (by decide +kernel) rfl
theorem koX6_type : z_mOK mX6_type 1 := ⟨by decide +kernel, by decide⟩
set_option maxRecDepth 100000 in
theorem kcX6_clear : Cond.code mX6_clear.1 mX6_clear.2.1 mX6_clear.2.2.1 mX6_clear.2.2.2 ∈ tb := tb_in 731 (by decide +kernel) rfl
set_option maxRecDepth 100000 in
theorem kiX6_clear : Cond.initialized mX6_clear.1.cls ∈ tb := tb_in 54 (by decide +kernel) rfl
theorem koX6_clear : z_mOK mX6_clear 0 := ⟨by decide +kernel, by decide⟩
set_option maxRecDepth 100000 in
theorem kcX6_letterAt : Cond.code mX6_letterAt.1 mX6_letterAt.2.1 mX6_letterAt.2.2.1 mX6_letterAt.2.2.2 ∈ tb := tb_in 642 (by decide +kernel) rfl
set_option maxRecDepth 100000 in
theorem kiX6_letterAt : Cond.initialized mX6_letterAt.1.cls ∈ tb := tb_in 54 (by decide +kernel) rfl
theorem koX6_letterAt : z_mOK mX6_letterAt 1 := ⟨by decide +kernel, by decide⟩
set_option maxRecDepth 100000 in
theorem kcX6_isDigit : Cond.code mX6_isDigit.1 mX6_isDigit.2.1 mX6_isDigit.2.2.1 mX6_isDigit.2.2.2 ∈ tb := tb_in 645 (by decide +kernel) rfl
set_option maxRecDepth 100000 in
theorem kiX6_isDigit : Cond.initialized mX6_isDigit.1.cls ∈ tb := tb_in 54 (by decide +kernel) rfl
theorem koX6_isDigit : z_mOK mX6_isDigit 1 := ⟨by decide +kernel, by decide⟩
set_option maxRecDepth 100000 in
theorem kcX6_token : Cond.code mX6_token.1 mX6_token.2.1 mX6_token.2.2.1 mX6_token.2.2.2 ∈ tb := tb_in 638 (by decide +kernel) rfl
set_option maxRecDepth 100000 in
theorem kiX6_token : Cond.initialized mX6_token.1.cls ∈ tb := tb_in 54 (by decide +kernel) rfl
theorem koX6_token : z_mOK mX6_token 0 := ⟨by decide +kernel, by decide⟩
set_option maxRecDepth 100000 in
theorem kcX6_number : Cond.code mX6_number.1 mX6_number.2.1 mX6_number.2.2.1 mX6_number.2.2.2 ∈ tb := tb_in 656 (by decide +kernel) rfl
set_option maxRecDepth 100000 in
theorem kiX6_number : Cond.initialized mX6_number.1.cls ∈ tb := tb_in 54 (by decide +kernel) rfl
theorem koX6_number : z_mOK mX6_number 3 := ⟨by decide +kernel, by decide⟩
set_option maxRecDepth 100000 in
theorem kcX6_once : Cond.code mX6_once.1 mX6_once.2.1 mX6_once.2.2.1 mX6_once.2.2.2 ∈ tb := tb_in 660 (by decide +kernel) rfl
set_option maxRecDepth 100000 in
theorem kiX6_once : Cond.initialized mX6_once.1.cls ∈ tb := tb_in 54 (by decide +kernel) rfl
theorem koX6_once : z_mOK mX6_once 3 := ⟨by decide +kernel, by decide⟩
set_option maxRecDepth 100000 in
theorem kcX6_readsItem : Cond.code mX6_readsItem.1 mX6_readsItem.2.1 mX6_readsItem.2.2.1 mX6_readsItem.2.2.2 ∈ tb := tb_in 652 (by decide +kernel) rfl
set_option maxRecDepth 100000 in
theorem kiX6_readsItem : Cond.initialized mX6_readsItem.1.cls ∈ tb := tb_in 54 (by decide +kernel) rfl
theorem koX6_readsItem : z_mOK mX6_readsItem 0 := ⟨by decide +kernel, by decide⟩
set_option maxRecDepth 100000 in
theorem kcX6_reads : Cond.code mX6_reads.1 mX6_reads.2.1 mX6_reads.2.2.1 mX6_reads.2.2.2 ∈ tb := tb_in 634 (by decide +kernel) rfl
set_option maxRecDepth 100000 in
theorem kiX6_reads : Cond.initialized mX6_reads.1.cls ∈ tb := tb_in 54 (by decide +kernel) rfl
theorem koX6_reads : z_mOK mX6_reads 0 := ⟨by decide +kernel, by decide⟩
set_option maxRecDepth 100000 in
theorem kcX6_tells : Cond.code mX6_tells.1 mX6_tells.2.1 mX6_tells.2.2.1 mX6_tells.2.2.2 ∈ tb := tb_in 664 (by decide +kernel) rfl
set_option maxRecDepth 100000 in
theorem kiX6_tells : Cond.initialized mX6_tells.1.cls ∈ tb := tb_in 54 (by decide +kernel) rfl
theorem koX6_tells : z_mOK mX6_tells 0 := ⟨by decide +kernel, by decide⟩
set_option maxRecDepth 100000 in
theorem kcX6_crew : Cond.code mX6_crew.1 mX6_crew.2.1 mX6_crew.2.2.1 mX6_crew.2.2.2 ∈ tb := tb_in 735 (by decide +kernel) rfl
set_option maxRecDepth 100000 in
theorem kiX6_crew : Cond.initialized mX6_crew.1.cls ∈ tb := tb_in 54 (by decide +kernel) rfl
theorem koX6_crew : z_mOK mX6_crew 0 := ⟨by decide +kernel, by decide⟩
set_option maxRecDepth 100000 in
theorem kcX6_seatOf : Cond.code mX6_seatOf.1 mX6_seatOf.2.1 mX6_seatOf.2.2.1 mX6_seatOf.2.2.2 ∈ tb := tb_in 747 (by decide +kernel) rfl
set_option maxRecDepth 100000 in
theorem kiX6_seatOf : Cond.initialized mX6_seatOf.1.cls ∈ tb := tb_in 54 (by decide +kernel) rfl
theorem koX6_seatOf : z_mOK mX6_seatOf 1 := ⟨by decide +kernel, by decide⟩
set_option maxRecDepth 100000 in
theorem kcX6_would : Cond.code mX6_would.1 mX6_would.2.1 mX6_would.2.2.1 mX6_would.2.2.2 ∈ tb := tb_in 755 (by decide +kernel) rfl
set_option maxRecDepth 100000 in
theorem kiX6_would : Cond.initialized mX6_would.1.cls ∈ tb := tb_in 54 (by decide +kernel) rfl
theorem koX6_would : z_mOK mX6_would 2 := ⟨by decide +kernel, by decide⟩
set_option maxRecDepth 100000 in
theorem kcX6_wouldNow : Cond.code mX6_wouldNow.1 mX6_wouldNow.2.1 mX6_wouldNow.2.2.1 mX6_wouldNow.2.2.2 ∈ tb := tb_in 751 (by decide +kernel) rfl
set_option maxRecDepth 100000 in
theorem kiX6_wouldNow : Cond.initialized mX6_wouldNow.1.cls ∈ tb := tb_in 54 (by decide +kernel) rfl
theorem koX6_wouldNow : z_mOK mX6_wouldNow 1 := ⟨by decide +kernel, by decide⟩
set_option maxRecDepth 100000 in
theorem kcX6_sailor : Cond.code mX6_sailor.1 mX6_sailor.2.1 mX6_sailor.2.2.1 mX6_sailor.2.2.2 ∈ tb := tb_in 739 (by decide +kernel) rfl
set_option maxRecDepth 100000 in
theorem kiX6_sailor : Cond.initialized mX6_sailor.1.cls ∈ tb := tb_in 54 (by decide +kernel) rfl
theorem koX6_sailor : z_mOK mX6_sailor 2 := ⟨by decide +kernel, by decide⟩
set_option maxRecDepth 100000 in
theorem kcX6_seat : Cond.code mX6_seat.1 mX6_seat.2.1 mX6_seat.2.2.1 mX6_seat.2.2.2 ∈ tb := tb_in 762 (by decide +kernel) rfl
set_option maxRecDepth 100000 in
theorem kiX6_seat : Cond.initialized mX6_seat.1.cls ∈ tb := tb_in 54 (by decide +kernel) rfl
theorem koX6_seat : z_mOK mX6_seat 2 := ⟨by decide +kernel, by decide⟩
set_option maxRecDepth 100000 in
theorem kcX6_there : Cond.code mX6_there.1 mX6_there.2.1 mX6_there.2.2.1 mX6_there.2.2.2 ∈ tb := tb_in 774 (by decide +kernel) rfl
set_option maxRecDepth 100000 in
theorem kiX6_there : Cond.initialized mX6_there.1.cls ∈ tb := tb_in 54 (by decide +kernel) rfl
theorem koX6_there : z_mOK mX6_there 0 := ⟨by decide +kernel, by decide⟩
set_option maxRecDepth 100000 in
theorem kcX6_now : Cond.code mX6_now.1 mX6_now.2.1 mX6_now.2.2.1 mX6_now.2.2.2 ∈ tb := tb_in 770 (by decide +kernel) rfl
set_option maxRecDepth 100000 in
theorem kiX6_now : Cond.initialized mX6_now.1.cls ∈ tb := tb_in 54 (by decide +kernel) rfl
theorem koX6_now : z_mOK mX6_now 1 := ⟨by decide +kernel, by decide⟩
set_option maxRecDepth 100000 in
theorem kcX6_keeps : Cond.code mX6_keeps.1 mX6_keeps.2.1 mX6_keeps.2.2.1 mX6_keeps.2.2.2 ∈ tb := tb_in 782 (by decide +kernel) rfl
set_option maxRecDepth 100000 in
theorem kiX6_keeps : Cond.initialized mX6_keeps.1.cls ∈ tb := tb_in 54 (by decide +kernel) rfl
theorem koX6_keeps : z_mOK mX6_keeps 0 := ⟨by decide +kernel, by decide⟩
set_option maxRecDepth 100000 in
theorem kcX6_signs : Cond.code mX6_signs.1 mX6_signs.2.1 mX6_signs.2.2.1 mX6_signs.2.2.2 ∈ tb := tb_in 778 (by decide +kernel) rfl
set_option maxRecDepth 100000 in
theorem kiX6_signs : Cond.initialized mX6_signs.1.cls ∈ tb := tb_in 54 (by decide +kernel) rfl
theorem koX6_signs : z_mOK mX6_signs 2 := ⟨by decide +kernel, by decide⟩
set_option maxRecDepth 100000 in
theorem kcX6_hour : Cond.code mX6_hour.1 mX6_hour.2.1 mX6_hour.2.2.1 mX6_hour.2.2.2 ∈ tb := tb_in 786 (by decide +kernel) rfl
set_option maxRecDepth 100000 in
theorem kiX6_hour : Cond.initialized mX6_hour.1.cls ∈ tb := tb_in 54 (by decide +kernel) rfl
theorem koX6_hour : z_mOK mX6_hour 0 := ⟨by decide +kernel, by decide⟩
set_option maxRecDepth 100000 in
theorem kcX6_scrape : Cond.code mX6_scrape.1 mX6_scrape.2.1 mX6_scrape.2.2.1 mX6_scrape.2.2.2 ∈ tb := tb_in 790 (by decide +kernel) rfl
set_option maxRecDepth 100000 in
theorem kiX6_scrape : Cond.initialized mX6_scrape.1.cls ∈ tb := tb_in 54 (by decide +kernel) rfl
theorem koX6_scrape : z_mOK mX6_scrape 1 := ⟨by decide +kernel, by decide⟩
set_option maxRecDepth 100000 in
theorem kcX6_undo : Cond.code mX6_undo.1 mX6_undo.2.1 mX6_undo.2.2.1 mX6_undo.2.2.2 ∈ tb := tb_in 794 (by decide +kernel) rfl
set_option maxRecDepth 100000 in
theorem kiX6_undo : Cond.initialized mX6_undo.1.cls ∈ tb := tb_in 54 (by decide +kernel) rfl
theorem koX6_undo : z_mOK mX6_undo 0 := ⟨by decide +kernel, by decide⟩
set_option maxRecDepth 100000 in
theorem kcX6_closed : Cond.code mX6_closed.1 mX6_closed.2.1 mX6_closed.2.2.1 mX6_closed.2.2.2 ∈ tb := tb_in 802 (by decide +kernel) rfl
set_option maxRecDepth 100000 in
theorem kiX6_closed : Cond.initialized mX6_closed.1.cls ∈ tb := tb_in 54 (by decide +kernel) rfl
theorem koX6_closed : z_mOK mX6_closed 1 := ⟨by decide +kernel, by decide⟩
set_option maxRecDepth 100000 in
theorem kcX6_will : Cond.code mX6_will.1 mX6_will.2.1 mX6_will.2.2.1 mX6_will.2.2.2 ∈ tb := tb_in 798 (by decide +kernel) rfl
set_option maxRecDepth 100000 in
theorem kiX6_will : Cond.initialized mX6_will.1.cls ∈ tb := tb_in 54 (by decide +kernel) rfl
theorem koX6_will : z_mOK mX6_will 0 := ⟨by decide +kernel, by decide⟩
set_option maxRecDepth 100000 in
theorem kcX6_begin : Cond.code mX6_begin.1 mX6_begin.2.1 mX6_begin.2.2.1 mX6_begin.2.2.2 ∈ tb := tb_in 806 (by decide +kernel) rfl
set_option maxRecDepth 100000 in
theorem kiX6_begin : Cond.initialized mX6_begin.1.cls ∈ tb := tb_in 54 (by decide +kernel) rfl
theorem koX6_begin : z_mOK mX6_begin 0 := ⟨by decide +kernel, by decide⟩
set_option maxRecDepth 100000 in
theorem kcX6_inkOf : Cond.code mX6_inkOf.1 mX6_inkOf.2.1 mX6_inkOf.2.2.1 mX6_inkOf.2.2.2 ∈ tb := tb_in 818 (by decide +kernel) rfl
set_option maxRecDepth 100000 in
theorem kiX6_inkOf : Cond.initialized mX6_inkOf.1.cls ∈ tb := tb_in 54 (by decide +kernel) rfl
theorem koX6_inkOf : z_mOK mX6_inkOf 1 := ⟨by decide +kernel, by decide⟩
set_option maxRecDepth 100000 in
theorem kcX6_lays : Cond.code mX6_lays.1 mX6_lays.2.1 mX6_lays.2.2.1 mX6_lays.2.2.2 ∈ tb := tb_in 814 (by decide +kernel) rfl
set_option maxRecDepth 100000 in
theorem kiX6_lays : Cond.initialized mX6_lays.1.cls ∈ tb := tb_in 54 (by decide +kernel) rfl
theorem koX6_lays : z_mOK mX6_lays 1 := ⟨by decide +kernel, by decide⟩
set_option maxRecDepth 100000 in
theorem kcX6_of : Cond.code mX6_of.1 mX6_of.2.1 mX6_of.2.2.1 mX6_of.2.2.2 ∈ tb := tb_in 829 (by decide +kernel) rfl
set_option maxRecDepth 100000 in
theorem kiX6_of : Cond.initialized mX6_of.1.cls ∈ tb := tb_in 54 (by decide +kernel) rfl
theorem koX6_of : z_mOK mX6_of 2 := ⟨by decide +kernel, by decide⟩
set_option maxRecDepth 100000 in
theorem kcX6_placeIn : Cond.code mX6_placeIn.1 mX6_placeIn.2.1 mX6_placeIn.2.2.1 mX6_placeIn.2.2.2 ∈ tb := tb_in 840 (by decide +kernel) rfl
set_option maxRecDepth 100000 in
theorem kiX6_placeIn : Cond.initialized mX6_placeIn.1.cls ∈ tb := tb_in 54 (by decide +kernel) rfl
theorem koX6_placeIn : z_mOK mX6_placeIn 3 := ⟨by decide +kernel, by decide⟩
set_option maxRecDepth 100000 in
theorem kcX6_orders : Cond.code mX6_orders.1 mX6_orders.2.1 mX6_orders.2.2.1 mX6_orders.2.2.2 ∈ tb := tb_in 810 (by decide +kernel) rfl
set_option maxRecDepth 100000 in
theorem kiX6_orders : Cond.initialized mX6_orders.1.cls ∈ tb := tb_in 54 (by decide +kernel) rfl
theorem koX6_orders : z_mOK mX6_orders 0 := ⟨by decide +kernel, by decide⟩
set_option maxRecDepth 100000 in
theorem kcX6_firsts : Cond.code mX6_firsts.1 mX6_firsts.2.1 mX6_firsts.2.2.1 mX6_firsts.2.2.2 ∈ tb := tb_in 826 (by decide +kernel) rfl
set_option maxRecDepth 100000 in
theorem kiX6_firsts : Cond.initialized mX6_firsts.1.cls ∈ tb := tb_in 54 (by decide +kernel) rfl
theorem koX6_firsts : z_mOK mX6_firsts 1 := ⟨by decide +kernel, by decide⟩
set_option maxRecDepth 100000 in
theorem kcX6_first : Cond.code mX6_first.1 mX6_first.2.1 mX6_first.2.2.1 mX6_first.2.2.2 ∈ tb := tb_in 822 (by decide +kernel) rfl
set_option maxRecDepth 100000 in
theorem kiX6_first : Cond.initialized mX6_first.1.cls ∈ tb := tb_in 54 (by decide +kernel) rfl
theorem koX6_first : z_mOK mX6_first 0 := ⟨by decide +kernel, by decide⟩
set_option maxRecDepth 100000 in
theorem kcX6_isThere : Cond.code mX6_isThere.1 mX6_isThere.2.1 mX6_isThere.2.2.1 mX6_isThere.2.2.2 ∈ tb := tb_in 837 (by decide +kernel) rfl
set_option maxRecDepth 100000 in
theorem kiX6_isThere : Cond.initialized mX6_isThere.1.cls ∈ tb := tb_in 54 (by decide +kernel) rfl
theorem koX6_isThere : z_mOK mX6_isThere 1 := ⟨by decide +kernel, by decide⟩
set_option maxRecDepth 100000 in
theorem kcX6_sure : Cond.code mX6_sure.1 mX6_sure.2.1 mX6_sure.2.2.1 mX6_sure.2.2.2 ∈ tb := tb_in 833 (by decide +kernel) rfl
set_option maxRecDepth 100000 in
theorem kiX6_sure : Cond.initialized mX6_sure.1.cls ∈ tb := tb_in 54 (by decide +kernel) rfl
theorem koX6_sure : z_mOK mX6_sure 1 := ⟨by decide +kernel, by decide⟩
set_option maxRecDepth 100000 in
theorem kcX6_leads : Cond.code mX6_leads.1 mX6_leads.2.1 mX6_leads.2.2.1 mX6_leads.2.2.2 ∈ tb := tb_in 848 (by decide +kernel) rfl
set_option maxRecDepth 100000 in
theorem kiX6_leads : Cond.initialized mX6_leads.1.cls ∈ tb := tb_in 54 (by decide +kernel) rfl
theorem koX6_leads : z_mOK mX6_leads 1 := ⟨by decide +kernel, by decide⟩
set_option maxRecDepth 100000 in
theorem kcX6_common : Cond.code mX6_common.1 mX6_common.2.1 mX6_common.2.2.1 mX6_common.2.2.2 ∈ tb := tb_in 851 (by decide +kernel) rfl
set_option maxRecDepth 100000 in
theorem kiX6_common : Cond.initialized mX6_common.1.cls ∈ tb := tb_in 54 (by decide +kernel) rfl
theorem koX6_common : z_mOK mX6_common 2 := ⟨by decide +kernel, by decide⟩
set_option maxRecDepth 100000 in
theorem kcX6_chance : Cond.code mX6_chance.1 mX6_chance.2.1 mX6_chance.2.2.1 mX6_chance.2.2.2 ∈ tb := tb_in 844 (by decide +kernel) rfl
set_option maxRecDepth 100000 in
theorem kiX6_chance : Cond.initialized mX6_chance.1.cls ∈ tb := tb_in 54 (by decide +kernel) rfl
theorem koX6_chance : z_mOK mX6_chance 2 := ⟨by decide +kernel, by decide⟩
set_option maxRecDepth 100000 in
theorem kcX6_isKnown : Cond.code mX6_isKnown.1 mX6_isKnown.2.1 mX6_isKnown.2.2.1 mX6_isKnown.2.2.2 ∈ tb := tb_in 859 (by decide +kernel) rfl
set_option maxRecDepth 100000 in
theorem kiX6_isKnown : Cond.initialized mX6_isKnown.1.cls ∈ tb := tb_in 54 (by decide +kernel) rfl
theorem koX6_isKnown : z_mOK mX6_isKnown 2 := ⟨by decide +kernel, by decide⟩
set_option maxRecDepth 100000 in
theorem kcX6_ask : Cond.code mX6_ask.1 mX6_ask.2.1 mX6_ask.2.2.1 mX6_ask.2.2.2 ∈ tb := tb_in 855 (by decide +kernel) rfl
set_option maxRecDepth 100000 in
theorem kiX6_ask : Cond.initialized mX6_ask.1.cls ∈ tb := tb_in 54 (by decide +kernel) rfl
theorem koX6_ask : z_mOK mX6_ask 0 := ⟨by decide +kernel, by decide⟩
set_option maxRecDepth 100000 in
theorem kcX6_hang : Cond.code mX6_hang.1 mX6_hang.2.1 mX6_hang.2.2.1 mX6_hang.2.2.2 ∈ tb := tb_in 863 (by decide +kernel) rfl
set_option maxRecDepth 100000 in
theorem kiX6_hang : Cond.initialized mX6_hang.1.cls ∈ tb := tb_in 54 (by decide +kernel) rfl
theorem koX6_hang : z_mOK mX6_hang 0 := ⟨by decide +kernel, by decide⟩
set_option maxRecDepth 100000 in
theorem kcX6_shift : Cond.code mX6_shift.1 mX6_shift.2.1 mX6_shift.2.2.1 mX6_shift.2.2.2 ∈ tb := tb_in 867 (by decide +kernel) rfl
set_option maxRecDepth 100000 in
theorem kiX6_shift : Cond.initialized mX6_shift.1.cls ∈ tb := tb_in 54 (by decide +kernel) rfl
theorem koX6_shift : z_mOK mX6_shift 1 := ⟨by decide +kernel, by decide⟩
set_option maxRecDepth 100000 in
theorem kcX6_odds : Cond.code mX6_odds.1 mX6_odds.2.1 mX6_odds.2.2.1 mX6_odds.2.2.2 ∈ tb := tb_in 871 (by decide +kernel) rfl
set_option maxRecDepth 100000 in
theorem kiX6_odds : Cond.initialized mX6_odds.1.cls ∈ tb := tb_in 54 (by decide +kernel) rfl
theorem koX6_odds : z_mOK mX6_odds 3 := ⟨by decide +kernel, by decide⟩
set_option maxRecDepth 100000 in
theorem kcX6_bold : Cond.code mX6_bold.1 mX6_bold.2.1 mX6_bold.2.2.1 mX6_bold.2.2.2 ∈ tb := tb_in 875 (by decide +kernel) rfl
set_option maxRecDepth 100000 in
theorem kiX6_bold : Cond.initialized mX6_bold.1.cls ∈ tb := tb_in 54 (by decide +kernel) rfl
theorem koX6_bold : z_mOK mX6_bold 1 := ⟨by decide +kernel, by decide⟩
set_option maxRecDepth 100000 in
theorem kcX6_clique : Cond.code mX6_clique.1 mX6_clique.2.1 mX6_clique.2.2.1 mX6_clique.2.2.2 ∈ tb := tb_in 879 (by decide +kernel) rfl
set_option maxRecDepth 100000 in
theorem kiX6_clique : Cond.initialized mX6_clique.1.cls ∈ tb := tb_in 54 (by decide +kernel) rfl
theorem koX6_clique : z_mOK mX6_clique 1 := ⟨by decide +kernel, by decide⟩
set_option maxRecDepth 100000 in
theorem kcX6_rate : Cond.code mX6_rate.1 mX6_rate.2.1 mX6_rate.2.2.1 mX6_rate.2.2.2 ∈ tb := tb_in 883 (by decide +kernel) rfl
set_option maxRecDepth 100000 in
theorem kiX6_rate : Cond.initialized mX6_rate.1.cls ∈ tb := tb_in 54 (by decide +kernel) rfl
theorem koX6_rate : z_mOK mX6_rate 2 := ⟨by decide +kernel, by decide⟩
set_option maxRecDepth 100000 in
theorem kcX6_keep : Cond.code mX6_keep.1 mX6_keep.2.1 mX6_keep.2.2.1 mX6_keep.2.2.2 ∈ tb := tb_in 893 (by decide +kernel) rfl
set_option maxRecDepth 100000 in
theorem kiX6_keep : Cond.initialized mX6_keep.1.cls ∈ tb := tb_in 54 (by decide +kernel) rfl
theorem koX6_keep : z_mOK mX6_keep 1 := ⟨by decide +kernel, by decide⟩
set_option maxRecDepth 100000 in
theorem kcX6_back : Cond.code mX6_back.1 mX6_back.2.1 mX6_back.2.2.1 mX6_back.2.2.2 ∈ tb := tb_in 897 (by decide +kernel) rfl
set_option maxRecDepth 100000 in
theorem kiX6_back : Cond.initialized mX6_back.1.cls ∈ tb := tb_in 54 (by decide +kernel) rfl
theorem koX6_back : z_mOK mX6_back 1 := ⟨by decide +kernel, by decide⟩
set_option maxRecDepth 100000 in
theorem kcX6_count : Cond.code mX6_count.1 mX6_count.2.1 mX6_count.2.2.1 mX6_count.2.2.2 ∈ tb := tb_in 901 (by decide +kernel) rfl
set_option maxRecDepth 100000 in
theorem kiX6_count : Cond.initialized mX6_count.1.cls ∈ tb := tb_in 54 (by decide +kernel) rfl
theorem koX6_count : z_mOK mX6_count 1 := ⟨by decide +kernel, by decide⟩
set_option maxRecDepth 100000 in
theorem kcX6_trace : Cond.code mX6_trace.1 mX6_trace.2.1 mX6_trace.2.2.1 mX6_trace.2.2.2 ∈ tb := tb_in 905 (by decide +kernel) rfl
set_option maxRecDepth 100000 in
theorem kiX6_trace : Cond.initialized mX6_trace.1.cls ∈ tb := tb_in 54 (by decide +kernel) rfl
theorem koX6_trace : z_mOK mX6_trace 0 := ⟨by decide +kernel, by decide⟩
set_option maxRecDepth 100000 in
theorem kcJ6_bitCount_0f7a4 : Cond.code mJ6_bitCount_0f7a4.1 mJ6_bitCount_0f7a4.2.1 mJ6_bitCount_0f7a4.2.2.1 mJ6_bitCount_0f7a4.2.2.2 ∈ tb := tb_in 354 (by decide +kernel) rfl
set_option maxRecDepth 100000 in
theorem kiJ6_bitCount_0f7a4 : Cond.initialized mJ6_bitCount_0f7a4.1.cls ∈ tb := tb_in 56 (by decide +kernel) rfl
theorem koJ6_bitCount_0f7a4 : z_mOK mJ6_bitCount_0f7a4 1 := ⟨by decide +kernel, by decide⟩
set_option maxRecDepth 100000 in
theorem kcJ9_max_7cf53 : Cond.code mJ9_max_7cf53.1 mJ9_max_7cf53.2.1 mJ9_max_7cf53.2.2.1 mJ9_max_7cf53.2.2.2 ∈ tb := tb_in 502 (by decide +kernel) rfl
set_option maxRecDepth 100000 in
theorem kiJ9_max_7cf53 : Cond.initialized mJ9_max_7cf53.1.cls ∈ tb := tb_in 55 (by decide +kernel) rfl
theorem koJ9_max_7cf53 : z_mOK mJ9_max_7cf53 2 := ⟨by decide +kernel, by decide⟩
set_option maxRecDepth 100000 in
theorem kcJ9_min_7cf53 : Cond.code mJ9_min_7cf53.1 mJ9_min_7cf53.2.1 mJ9_min_7cf53.2.2.1 mJ9_min_7cf53.2.2.2 ∈ tb := tb_in 274 (by decide +kernel) rfl
set_option maxRecDepth 100000 in
theorem kiJ9_min_7cf53 : Cond.initialized mJ9_min_7cf53.1.cls ∈ tb := tb_in 55 (by decide +kernel) rfl
theorem koJ9_min_7cf53 : z_mOK mJ9_min_7cf53 2 := ⟨by decide +kernel, by decide⟩
set_option maxRecDepth 100000 in
theorem kcJ7_fill_53178 : Cond.code mJ7_fill_53178.1 mJ7_fill_53178.2.1 mJ7_fill_53178.2.2.1 mJ7_fill_53178.2.2.2 ∈ tb := tb_in 133 (by decide +kernel) rfl
set_option maxRecDepth 100000 in
theorem kiJ7_fill_53178 : Cond.initialized mJ7_fill_53178.1.cls ∈ tb := tb_in 51 (by decide +kernel) rfl
theorem koJ7_fill_53178 : z_mOK mJ7_fill_53178 2 := ⟨by decide +kernel, by decide⟩
set_option maxRecDepth 100000 in
theorem flX4_9 : z_FL RX4 9 4 0 := ⟨(RX4, TX4, 6), rfl, by decide, tb_in 71 (by decide +kernel) rfl⟩
set_option maxRecDepth 100000 in
theorem fpX4_9 : z_FP RX4 9 4 0 (.array .int) true := ⟨(RX4, TX4, 6), rfl, by decide, tb_in 71 (by decide +kernel) rfl, by decide +kernel, rfl, fun h => by first | cases h; done | rfl⟩
set_option maxRecDepth 100000 in
theorem flX4_15 : z_FL RX4 15 4 1 := ⟨(RX4, TX4, 6), rfl, by decide, tb_in 72 (by decide +kernel) rfl⟩
set_option maxRecDepth 100000 in
theorem fpX4_15 : z_FP RX4 15 4 1 (.int) false := ⟨(RX4, TX4, 6), rfl, by decide, tb_in 72 (by decide +kernel) rfl, by decide +kernel, rfl, fun h => by first | cases h; done | rfl⟩
set_option maxRecDepth 100000 in
theorem flX5_57 : z_FL RX5 57 4 1 := ⟨(RX4, TX4, 6), rfl, by decide, tb_in 73 (by decide +kernel) rfl⟩
set_option maxRecDepth 100000 in
theorem fpX5_57 : z_FP RX5 57 4 1 (.int) false := ⟨(RX4, TX4, 6), rfl, by decide, tb_in 73 (by decide +kernel) rfl, by decide +kernel, rfl, fun h => by first | cases h; done | rfl⟩
set_option maxRecDepth 100000 in
theorem flX4_28 : z_FL RX4 28 4 2 := ⟨(RX4, TX4, 6), rfl, by decide, tb_in 74 (by decide +kernel) rfl⟩
set_option maxRecDepth 100000 in
theorem fpX4_28 : z_FP RX4 28 4 2 (.int) false := ⟨(RX4, TX4, 6), rfl, by decide, tb_in 74 (by decide +kernel) rfl, by decide +kernel, rfl, fun h => by first | cases h; done | rfl⟩
set_option maxRecDepth 100000 in
theorem flX4_52 : z_FL RX4 52 4 3 := ⟨(RX4, TX4, 6), rfl, by decide, tb_in 75 (by decide +kernel) rfl⟩
set_option maxRecDepth 100000 in
theorem fpX4_52 : z_FP RX4 52 4 3 (.int) false := ⟨(RX4, TX4, 6), rfl, by decide, tb_in 75 (by decide +kernel) rfl, by decide +kernel, rfl, fun h => by first | cases h; done | rfl⟩
set_option maxRecDepth 100000 in
theorem flX4_31 : z_FL RX4 31 4 4 := ⟨(RX4, TX4, 6), rfl, by decide, tb_in 76 (by decide +kernel) rfl⟩
set_option maxRecDepth 100000 in
theorem fpX4_31 : z_FP RX4 31 4 4 (.boolean) false := ⟨(RX4, TX4, 6), rfl, by decide, tb_in 76 (by decide +kernel) rfl, by decide +kernel, rfl, fun h => by first | cases h; done | rfl⟩
set_option maxRecDepth 100000 in
theorem flX4_35 : z_FL RX4 35 4 5 := ⟨(RX4, TX4, 6), rfl, by decide, tb_in 77 (by decide +kernel) rfl⟩
set_option maxRecDepth 100000 in
theorem fpX4_35 : z_FP RX4 35 4 5 (.boolean) false := ⟨(RX4, TX4, 6), rfl, by decide, tb_in 77 (by decide +kernel) rfl, by decide +kernel, rfl, fun h => by first | cases h; done | rfl⟩
set_option maxRecDepth 100000 in
theorem flX0_9 : z_FL RX0 9 0 0 := ⟨(RX0, TX0, 6), rfl, by decide, tb_in 98 (by decide +kernel) rfl⟩
set_option maxRecDepth 100000 in
theorem fpX0_9 : z_FP RX0 9 0 0 (.array .int) true := ⟨(RX0, TX0, 6), rfl, by decide, tb_in 98 (by decide +kernel) rfl, by decide +kernel, rfl, fun h => by first | cases h; done | rfl⟩
set_option maxRecDepth 100000 in
theorem flX5_81 : z_FL RX5 81 0 0 := ⟨(RX0, TX0, 6), rfl, by decide, tb_in 99 (by decide +kernel) rfl⟩
set_option maxRecDepth 100000 in
theorem flX0_15 : z_FL RX0 15 0 1 := ⟨(RX0, TX0, 6), rfl, by decide, tb_in 100 (by decide +kernel) rfl⟩
set_option maxRecDepth 100000 in
theorem fpX0_15 : z_FP RX0 15 0 1 (.array .int) true := ⟨(RX0, TX0, 6), rfl, by decide, tb_in 100 (by decide +kernel) rfl, by decide +kernel, rfl, fun h => by first | cases h; done | rfl⟩
set_option maxRecDepth 100000 in
theorem flX5_89 : z_FL RX5 89 0 1 := ⟨(RX0, TX0, 6), rfl, by decide, tb_in 101 (by decide +kernel) rfl⟩
set_option maxRecDepth 100000 in
theorem flX0_18 : z_FL RX0 18 0 2 := ⟨(RX0, TX0, 6), rfl, by decide, tb_in 102 (by decide +kernel) rfl⟩
set_option maxRecDepth 100000 in
theorem fpX0_18 : z_FP RX0 18 0 2 (.array .int) true := ⟨(RX0, TX0, 6), rfl, by decide, tb_in 102 (by decide +kernel) rfl, by decide +kernel, rfl, fun h => by first | cases h; done | rfl⟩
set_option maxRecDepth 100000 in
theorem flX0_28 : z_FL RX0 28 0 3 := ⟨(RX0, TX0, 6), rfl, by decide, tb_in 103 (by decide +kernel) rfl⟩
set_option maxRecDepth 100000 in
theorem fpX0_28 : z_FP RX0 28 0 3 (.int) false := ⟨(RX0, TX0, 6), rfl, by decide, tb_in 103 (by decide +kernel) rfl, by decide +kernel, rfl, fun h => by first | cases h; done | rfl⟩
set_option maxRecDepth 100000 in
theorem flX4_55 : z_FL RX4 55 0 3 := ⟨(RX0, TX0, 6), rfl, by decide, tb_in 104 (by decide +kernel) rfl⟩
set_option maxRecDepth 100000 in
theorem fpX4_55 : z_FP RX4 55 0 3 (.int) false := ⟨(RX0, TX0, 6), rfl, by decide, tb_in 104 (by decide +kernel) rfl, by decide +kernel, rfl, fun h => by first | cases h; done | rfl⟩
set_option maxRecDepth 100000 in
theorem flX5_196 : z_FL RX5 196 0 3 := ⟨(RX0, TX0, 6), rfl, by decide, tb_in 105 (by decide +kernel) rfl⟩
set_option maxRecDepth 100000 in
theorem fpX5_196 : z_FP RX5 196 0 3 (.int) false := ⟨(RX0, TX0, 6), rfl, by decide, tb_in 105 (by decide +kernel) rfl, by decide +kernel, rfl, fun h => by first | cases h; done | rfl⟩
set_option maxRecDepth 100000 in
theorem flX0_21 : z_FL RX0 21 0 4 := ⟨(RX0, TX0, 6), rfl, by decide, tb_in 106 (by decide +kernel) rfl⟩
set_option maxRecDepth 100000 in
theorem fpX0_21 : z_FP RX0 21 0 4 (.int) false := ⟨(RX0, TX0, 6), rfl, by decide, tb_in 106 (by decide +kernel) rfl, by decide +kernel, rfl, fun h => by first | cases h; done | rfl⟩
set_option maxRecDepth 100000 in
theorem flX4_70 : z_FL RX4 70 0 4 := ⟨(RX0, TX0, 6), rfl, by decide, tb_in 107 (by decide +kernel) rfl⟩
set_option maxRecDepth 100000 in
theorem fpX4_70 : z_FP RX4 70 0 4 (.int) false := ⟨(RX0, TX0, 6), rfl, by decide, tb_in 107 (by decide +kernel) rfl, by decide +kernel, rfl, fun h => by first | cases h; done | rfl⟩
set_option maxRecDepth 100000 in
theorem flX5_225 : z_FL RX5 225 0 4 := ⟨(RX0, TX0, 6), rfl, by decide, tb_in 108 (by decide +kernel) rfl⟩
set_option maxRecDepth 100000 in
theorem fpX5_225 : z_FP RX5 225 0 4 (.int) false := ⟨(RX0, TX0, 6), rfl, by decide, tb_in 108 (by decide +kernel) rfl, by decide +kernel, rfl, fun h => by first | cases h; done | rfl⟩
set_option maxRecDepth 100000 in
theorem flX0_25 : z_FL RX0 25 0 5 := ⟨(RX0, TX0, 6), rfl, by decide, tb_in 109 (by decide +kernel) rfl⟩
set_option maxRecDepth 100000 in
theorem fpX0_25 : z_FP RX0 25 0 5 (.int) false := ⟨(RX0, TX0, 6), rfl, by decide, tb_in 109 (by decide +kernel) rfl, by decide +kernel, rfl, fun h => by first | cases h; done | rfl⟩
set_option maxRecDepth 100000 in
theorem flX4_73 : z_FL RX4 73 0 5 := ⟨(RX0, TX0, 6), rfl, by decide, tb_in 110 (by decide +kernel) rfl⟩
set_option maxRecDepth 100000 in
theorem fpX4_73 : z_FP RX4 73 0 5 (.int) false := ⟨(RX0, TX0, 6), rfl, by decide, tb_in 110 (by decide +kernel) rfl, by decide +kernel, rfl, fun h => by first | cases h; done | rfl⟩
set_option maxRecDepth 100000 in
theorem flX5_228 : z_FL RX5 228 0 5 := ⟨(RX0, TX0, 6), rfl, by decide, tb_in 111 (by decide +kernel) rfl⟩
set_option maxRecDepth 100000 in
theorem fpX5_228 : z_FP RX5 228 0 5 (.int) false := ⟨(RX0, TX0, 6), rfl, by decide, tb_in 111 (by decide +kernel) rfl, by decide +kernel, rfl, fun h => by first | cases h; done | rfl⟩
set_option maxRecDepth 100000 in
theorem flX1_9 : z_FL RX1 9 1 0 := ⟨(RX1, TX1, 4), rfl, by decide, tb_in 134 (by decide +kernel) rfl⟩
set_option maxRecDepth 100000 in
theorem fpX1_9 : z_FP RX1 9 1 0 (.array .int) true := ⟨(RX1, TX1, 4), rfl, by decide, tb_in 134 (by decide +kernel) rfl, by decide +kernel, rfl, fun h => by first | cases h; done | rfl⟩
set_option maxRecDepth 100000 in
theorem flX2_34 : z_FL RX2 34 1 0 := ⟨(RX1, TX1, 4), rfl, by decide, tb_in 135 (by decide +kernel) rfl⟩
set_option maxRecDepth 100000 in
theorem flX5_112 : z_FL RX5 112 1 0 := ⟨(RX1, TX1, 4), rfl, by decide, tb_in 136 (by decide +kernel) rfl⟩
set_option maxRecDepth 100000 in
theorem flX1_15 : z_FL RX1 15 1 1 := ⟨(RX1, TX1, 4), rfl, by decide, tb_in 137 (by decide +kernel) rfl⟩
set_option maxRecDepth 100000 in
theorem fpX1_15 : z_FP RX1 15 1 1 (.array .int) true := ⟨(RX1, TX1, 4), rfl, by decide, tb_in 137 (by decide +kernel) rfl, by decide +kernel, rfl, fun h => by first | cases h; done | rfl⟩
set_option maxRecDepth 100000 in
theorem flX2_41 : z_FL RX2 41 1 1 := ⟨(RX1, TX1, 4), rfl, by decide, tb_in 138 (by decide +kernel) rfl⟩
set_option maxRecDepth 100000 in
theorem flX5_115 : z_FL RX5 115 1 1 := ⟨(RX1, TX1, 4), rfl, by decide, tb_in 139 (by decide +kernel) rfl⟩
set_option maxRecDepth 100000 in
theorem flX2_28 : z_FL RX2 28 1 2 := ⟨(RX1, TX1, 4), rfl, by decide, tb_in 140 (by decide +kernel) rfl⟩
set_option maxRecDepth 100000 in
theorem fpX2_28 : z_FP RX2 28 1 2 (.int) false := ⟨(RX1, TX1, 4), rfl, by decide, tb_in 140 (by decide +kernel) rfl, by decide +kernel, rfl, fun h => by first | cases h; done | rfl⟩
set_option maxRecDepth 100000 in
theorem flX1_24 : z_FL RX1 24 1 2 := ⟨(RX1, TX1, 4), rfl, by decide, tb_in 141 (by decide +kernel) rfl⟩
set_option maxRecDepth 100000 in
theorem fpX1_24 : z_FP RX1 24 1 2 (.int) false := ⟨(RX1, TX1, 4), rfl, by decide, tb_in 141 (by decide +kernel) rfl, by decide +kernel, rfl, fun h => by first | cases h; done | rfl⟩
set_option maxRecDepth 100000 in
theorem flX5_118 : z_FL RX5 118 1 2 := ⟨(RX1, TX1, 4), rfl, by decide, tb_in 142 (by decide +kernel) rfl⟩
set_option maxRecDepth 100000 in
theorem fpX5_118 : z_FP RX5 118 1 2 (.int) false := ⟨(RX1, TX1, 4), rfl, by decide, tb_in 142 (by decide +kernel) rfl, by decide +kernel, rfl, fun h => by first | cases h; done | rfl⟩
set_option maxRecDepth 100000 in
theorem flX1_28 : z_FL RX1 28 1 3 := ⟨(RX1, TX1, 4), rfl, by decide, tb_in 143 (by decide +kernel) rfl⟩
set_option maxRecDepth 100000 in
theorem fpX1_28 : z_FP RX1 28 1 3 (.int) false := ⟨(RX1, TX1, 4), rfl, by decide, tb_in 143 (by decide +kernel) rfl, by decide +kernel, rfl, fun h => by first | cases h; done | rfl⟩
set_option maxRecDepth 100000 in
theorem flX5_96 : z_FL RX5 96 1 3 := ⟨(RX1, TX1, 4), rfl, by decide, tb_in 144 (by decide +kernel) rfl⟩
set_option maxRecDepth 100000 in
theorem fpX5_96 : z_FP RX5 96 1 3 (.int) false := ⟨(RX1, TX1, 4), rfl, by decide, tb_in 144 (by decide +kernel) rfl, by decide +kernel, rfl, fun h => by first | cases h; done | rfl⟩
set_option maxRecDepth 100000 in
theorem flX3_11 : z_FL RX3 11 3 0 := ⟨(RX3, TX3, 3), rfl, by decide, tb_in 163 (by decide +kernel) rfl⟩
set_option maxRecDepth 100000 in
theorem fpX3_11 : z_FP RX3 11 3 0 (.array (.object RX1)) true := ⟨(RX3, TX3, 3), rfl, by decide, tb_in 163 (by decide +kernel) rfl, by decide +kernel, rfl, fun h => by first | cases h; done | rfl⟩
set_option maxRecDepth 100000 in
theorem flX3_18 : z_FL RX3 18 3 1 := ⟨(RX3, TX3, 3), rfl, by decide, tb_in 164 (by decide +kernel) rfl⟩
set_option maxRecDepth 100000 in
theorem fpX3_18 : z_FP RX3 18 3 1 (.int) false := ⟨(RX3, TX3, 3), rfl, by decide, tb_in 164 (by decide +kernel) rfl, by decide +kernel, rfl, fun h => by first | cases h; done | rfl⟩
set_option maxRecDepth 100000 in
theorem flX3_30 : z_FL RX3 30 3 2 := ⟨(RX3, TX3, 3), rfl, by decide, tb_in 165 (by decide +kernel) rfl⟩
set_option maxRecDepth 100000 in
theorem fpX3_30 : z_FP RX3 30 3 2 (.int) false := ⟨(RX3, TX3, 3), rfl, by decide, tb_in 165 (by decide +kernel) rfl, by decide +kernel, rfl, fun h => by first | cases h; done | rfl⟩
set_option maxRecDepth 100000 in
theorem flX5_128 : z_FL RX5 128 3 2 := ⟨(RX3, TX3, 3), rfl, by decide, tb_in 166 (by decide +kernel) rfl⟩
set_option maxRecDepth 100000 in
theorem fpX5_128 : z_FP RX5 128 3 2 (.int) false := ⟨(RX3, TX3, 3), rfl, by decide, tb_in 166 (by decide +kernel) rfl, by decide +kernel, rfl, fun h => by first | cases h; done | rfl⟩
set_option maxRecDepth 100000 in
theorem flX2_11 : z_FL RX2 11 2 0 := ⟨(RX2, TX2, 6), rfl, by decide, tb_in 180 (by decide +kernel) rfl⟩
set_option maxRecDepth 100000 in
theorem fpX2_11 : z_FP RX2 11 2 0 (.array .int) true := ⟨(RX2, TX2, 6), rfl, by decide, tb_in 180 (by decide +kernel) rfl, by decide +kernel, rfl, fun h => by first | cases h; done | rfl⟩
set_option maxRecDepth 100000 in
theorem flX2_15 : z_FL RX2 15 2 1 := ⟨(RX2, TX2, 6), rfl, by decide, tb_in 181 (by decide +kernel) rfl⟩
set_option maxRecDepth 100000 in
theorem fpX2_15 : z_FP RX2 15 2 1 (.array .int) true := ⟨(RX2, TX2, 6), rfl, by decide, tb_in 181 (by decide +kernel) rfl, by decide +kernel, rfl, fun h => by first | cases h; done | rfl⟩
set_option maxRecDepth 100000 in
theorem flX2_18 : z_FL RX2 18 2 2 := ⟨(RX2, TX2, 6), rfl, by decide, tb_in 182 (by decide +kernel) rfl⟩
set_option maxRecDepth 100000 in
theorem fpX2_18 : z_FP RX2 18 2 2 (.array .int) true := ⟨(RX2, TX2, 6), rfl, by decide, tb_in 182 (by decide +kernel) rfl, by decide +kernel, rfl, fun h => by first | cases h; done | rfl⟩
set_option maxRecDepth 100000 in
theorem flX2_21 : z_FL RX2 21 2 3 := ⟨(RX2, TX2, 6), rfl, by decide, tb_in 183 (by decide +kernel) rfl⟩
set_option maxRecDepth 100000 in
theorem fpX2_21 : z_FP RX2 21 2 3 (.int) false := ⟨(RX2, TX2, 6), rfl, by decide, tb_in 183 (by decide +kernel) rfl, by decide +kernel, rfl, fun h => by first | cases h; done | rfl⟩
set_option maxRecDepth 100000 in
theorem flX5_161 : z_FL RX5 161 2 3 := ⟨(RX2, TX2, 6), rfl, by decide, tb_in 184 (by decide +kernel) rfl⟩
set_option maxRecDepth 100000 in
theorem fpX5_161 : z_FP RX5 161 2 3 (.int) false := ⟨(RX2, TX2, 6), rfl, by decide, tb_in 184 (by decide +kernel) rfl, by decide +kernel, rfl, fun h => by first | cases h; done | rfl⟩
set_option maxRecDepth 100000 in
theorem flX2_25 : z_FL RX2 25 2 4 := ⟨(RX2, TX2, 6), rfl, by decide, tb_in 185 (by decide +kernel) rfl⟩
set_option maxRecDepth 100000 in
theorem fpX2_25 : z_FP RX2 25 2 4 (.int) false := ⟨(RX2, TX2, 6), rfl, by decide, tb_in 185 (by decide +kernel) rfl, by decide +kernel, rfl, fun h => by first | cases h; done | rfl⟩
set_option maxRecDepth 100000 in
theorem flX2_33 : z_FL RX2 33 2 5 := ⟨(RX2, TX2, 6), rfl, by decide, tb_in 186 (by decide +kernel) rfl⟩
set_option maxRecDepth 100000 in
theorem fpX2_33 : z_FP RX2 33 2 5 (.int) false := ⟨(RX2, TX2, 6), rfl, by decide, tb_in 186 (by decide +kernel) rfl, by decide +kernel, rfl, fun h => by first | cases h; done | rfl⟩
set_option maxRecDepth 100000 in
theorem flX5_10 : z_FL RX5 10 5 0 := ⟨(RX5, TX5, 10), rfl, by decide, tb_in 200 (by decide +kernel) rfl⟩
set_option maxRecDepth 100000 in
theorem fpX5_10 : z_FP RX5 10 5 0 (.object RX4) true := ⟨(RX5, TX5, 10), rfl, by decide, tb_in 200 (by decide +kernel) rfl, by decide +kernel, rfl, fun h => by first | cases h; done | rfl⟩
set_option maxRecDepth 100000 in
theorem flX5_19 : z_FL RX5 19 5 1 := ⟨(RX5, TX5, 10), rfl, by decide, tb_in 201 (by decide +kernel) rfl⟩
set_option maxRecDepth 100000 in
theorem fpX5_19 : z_FP RX5 19 5 1 (.object RX0) true := ⟨(RX5, TX5, 10), rfl, by decide, tb_in 201 (by decide +kernel) rfl, by decide +kernel, rfl, fun h => by first | cases h; done | rfl⟩
set_option maxRecDepth 100000 in
theorem flX5_23 : z_FL RX5 23 5 2 := ⟨(RX5, TX5, 10), rfl, by decide, tb_in 202 (by decide +kernel) rfl⟩
set_option maxRecDepth 100000 in
theorem fpX5_23 : z_FP RX5 23 5 2 (.object RX0) true := ⟨(RX5, TX5, 10), rfl, by decide, tb_in 202 (by decide +kernel) rfl, by decide +kernel, rfl, fun h => by first | cases h; done | rfl⟩
set_option maxRecDepth 100000 in
theorem flX5_29 : z_FL RX5 29 5 3 := ⟨(RX5, TX5, 10), rfl, by decide, tb_in 203 (by decide +kernel) rfl⟩
set_option maxRecDepth 100000 in
theorem fpX5_29 : z_FP RX5 29 5 3 (.object RX1) true := ⟨(RX5, TX5, 10), rfl, by decide, tb_in 203 (by decide +kernel) rfl, by decide +kernel, rfl, fun h => by first | cases h; done | rfl⟩
set_option maxRecDepth 100000 in
theorem flX5_36 : z_FL RX5 36 5 4 := ⟨(RX5, TX5, 10), rfl, by decide, tb_in 204 (by decide +kernel) rfl⟩
set_option maxRecDepth 100000 in
theorem fpX5_36 : z_FP RX5 36 5 4 (.object RX3) true := ⟨(RX5, TX5, 10), rfl, by decide, tb_in 204 (by decide +kernel) rfl, by decide +kernel, rfl, fun h => by first | cases h; done | rfl⟩
set_option maxRecDepth 100000 in
theorem flX5_40 : z_FL RX5 40 5 5 := ⟨(RX5, TX5, 10), rfl, by decide, tb_in 205 (by decide +kernel) rfl⟩
set_option maxRecDepth 100000 in
theorem fpX5_40 : z_FP RX5 40 5 5 (.object RX1) true := ⟨(RX5, TX5, 10), rfl, by decide, tb_in 205 (by decide +kernel) rfl, by decide +kernel, rfl, fun h => by first | cases h; done | rfl⟩
set_option maxRecDepth 100000 in
theorem flX5_43 : z_FL RX5 43 5 6 := ⟨(RX5, TX5, 10), rfl, by decide, tb_in 206 (by decide +kernel) rfl⟩
set_option maxRecDepth 100000 in
theorem fpX5_43 : z_FP RX5 43 5 6 (.object RX1) true := ⟨(RX5, TX5, 10), rfl, by decide, tb_in 206 (by decide +kernel) rfl, by decide +kernel, rfl, fun h => by first | cases h; done | rfl⟩
set_option maxRecDepth 100000 in
theorem flX5_75 : z_FL RX5 75 5 7 := ⟨(RX5, TX5, 10), rfl, by decide, tb_in 207 (by decide +kernel) rfl⟩
set_option maxRecDepth 100000 in
theorem fpX5_75 : z_FP RX5 75 5 7 (.int) false := ⟨(RX5, TX5, 10), rfl, by decide, tb_in 207 (by decide +kernel) rfl, by decide +kernel, rfl, fun h => by first | cases h; done | rfl⟩
set_option maxRecDepth 100000 in
theorem flX5_49 : z_FL RX5 49 5 8 := ⟨(RX5, TX5, 10), rfl, by decide, tb_in 208 (by decide +kernel) rfl⟩
set_option maxRecDepth 100000 in
theorem fpX5_49 : z_FP RX5 49 5 8 (.object RX2) true := ⟨(RX5, TX5, 10), rfl, by decide, tb_in 208 (by decide +kernel) rfl, by decide +kernel, rfl, fun h => by first | cases h; done | rfl⟩
set_option maxRecDepth 100000 in
theorem flX5_231 : z_FL RX5 231 5 9 := ⟨(RX5, TX5, 10), rfl, by decide, tb_in 209 (by decide +kernel) rfl⟩
set_option maxRecDepth 100000 in
theorem fpX5_231 : z_FP RX5 231 5 9 (.long) false := ⟨(RX5, TX5, 10), rfl, by decide, tb_in 209 (by decide +kernel) rfl, by decide +kernel, rfl, fun h => by first | cases h; done | rfl⟩
set_option maxRecDepth 100000 in
theorem flX6_158 : z_FL RX6 158 6 0 := ⟨(RX6, TX6, 19), rfl, by decide, tb_in 665 (by decide +kernel) rfl⟩
set_option maxRecDepth 100000 in
theorem fpX6_158 : z_FP RX6 158 6 0 (.long) false := ⟨(RX6, TX6, 19), rfl, by decide, tb_in 665 (by decide +kernel) rfl, by decide +kernel, rfl, fun h => by first | cases h; done | rfl⟩
set_option maxRecDepth 100000 in
theorem flX6_7 : z_FL RX6 7 6 1 := ⟨(RX6, TX6, 19), rfl, by decide, tb_in 666 (by decide +kernel) rfl⟩
set_option maxRecDepth 100000 in
theorem fpX6_7 : z_FP RX6 7 6 1 (.array .int) true := ⟨(RX6, TX6, 19), rfl, by decide, tb_in 666 (by decide +kernel) rfl, by decide +kernel, rfl, fun h => by first | cases h; done | rfl⟩
set_option maxRecDepth 100000 in
theorem flX6_56 : z_FL RX6 56 6 2 := ⟨(RX6, TX6, 19), rfl, by decide, tb_in 667 (by decide +kernel) rfl⟩
set_option maxRecDepth 100000 in
theorem fpX6_56 : z_FP RX6 56 6 2 (.int) false := ⟨(RX6, TX6, 19), rfl, by decide, tb_in 667 (by decide +kernel) rfl, by decide +kernel, rfl, fun h => by first | cases h; done | rfl⟩
set_option maxRecDepth 100000 in
theorem flX6_13 : z_FL RX6 13 6 3 := ⟨(RX6, TX6, 19), rfl, by decide, tb_in 668 (by decide +kernel) rfl⟩
set_option maxRecDepth 100000 in
theorem fpX6_13 : z_FP RX6 13 6 3 (.array .int) true := ⟨(RX6, TX6, 19), rfl, by decide, tb_in 668 (by decide +kernel) rfl, by decide +kernel, rfl, fun h => by first | cases h; done | rfl⟩
set_option maxRecDepth 100000 in
theorem flX6_16 : z_FL RX6 16 6 4 := ⟨(RX6, TX6, 19), rfl, by decide, tb_in 669 (by decide +kernel) rfl⟩
set_option maxRecDepth 100000 in
theorem fpX6_16 : z_FP RX6 16 6 4 (.array .int) true := ⟨(RX6, TX6, 19), rfl, by decide, tb_in 669 (by decide +kernel) rfl, by decide +kernel, rfl, fun h => by first | cases h; done | rfl⟩
set_option maxRecDepth 100000 in
theorem flX6_19 : z_FL RX6 19 6 5 := ⟨(RX6, TX6, 19), rfl, by decide, tb_in 670 (by decide +kernel) rfl⟩
set_option maxRecDepth 100000 in
theorem fpX6_19 : z_FP RX6 19 6 5 (.array .int) true := ⟨(RX6, TX6, 19), rfl, by decide, tb_in 670 (by decide +kernel) rfl, by decide +kernel, rfl, fun h => by first | cases h; done | rfl⟩
set_option maxRecDepth 100000 in
theorem flX6_22 : z_FL RX6 22 6 6 := ⟨(RX6, TX6, 19), rfl, by decide, tb_in 671 (by decide +kernel) rfl⟩
set_option maxRecDepth 100000 in
theorem fpX6_22 : z_FP RX6 22 6 6 (.array .int) true := ⟨(RX6, TX6, 19), rfl, by decide, tb_in 671 (by decide +kernel) rfl, by decide +kernel, rfl, fun h => by first | cases h; done | rfl⟩
set_option maxRecDepth 100000 in
theorem flX6_92 : z_FL RX6 92 6 7 := ⟨(RX6, TX6, 19), rfl, by decide, tb_in 672 (by decide +kernel) rfl⟩
set_option maxRecDepth 100000 in
theorem fpX6_92 : z_FP RX6 92 6 7 (.int) false := ⟨(RX6, TX6, 19), rfl, by decide, tb_in 672 (by decide +kernel) rfl, by decide +kernel, rfl, fun h => by first | cases h; done | rfl⟩
set_option maxRecDepth 100000 in
theorem flX6_25 : z_FL RX6 25 6 8 := ⟨(RX6, TX6, 19), rfl, by decide, tb_in 673 (by decide +kernel) rfl⟩
set_option maxRecDepth 100000 in
theorem fpX6_25 : z_FP RX6 25 6 8 (.array .int) true := ⟨(RX6, TX6, 19), rfl, by decide, tb_in 673 (by decide +kernel) rfl, by decide +kernel, rfl, fun h => by first | cases h; done | rfl⟩
set_option maxRecDepth 100000 in
theorem flX6_28 : z_FL RX6 28 6 9 := ⟨(RX6, TX6, 19), rfl, by decide, tb_in 674 (by decide +kernel) rfl⟩
set_option maxRecDepth 100000 in
theorem fpX6_28 : z_FP RX6 28 6 9 (.array .boolean) true := ⟨(RX6, TX6, 19), rfl, by decide, tb_in 674 (by decide +kernel) rfl, by decide +kernel, rfl, fun h => by first | cases h; done | rfl⟩
set_option maxRecDepth 100000 in
theorem flX6_60 : z_FL RX6 60 6 10 := ⟨(RX6, TX6, 19), rfl, by decide, tb_in 675 (by decide +kernel) rfl⟩
set_option maxRecDepth 100000 in
theorem fpX6_60 : z_FP RX6 60 6 10 (.int) false := ⟨(RX6, TX6, 19), rfl, by decide, tb_in 675 (by decide +kernel) rfl, by decide +kernel, rfl, fun h => by first | cases h; done | rfl⟩
set_option maxRecDepth 100000 in
theorem flX6_74 : z_FL RX6 74 6 11 := ⟨(RX6, TX6, 19), rfl, by decide, tb_in 676 (by decide +kernel) rfl⟩
set_option maxRecDepth 100000 in
theorem fpX6_74 : z_FP RX6 74 6 11 (.int) false := ⟨(RX6, TX6, 19), rfl, by decide, tb_in 676 (by decide +kernel) rfl, by decide +kernel, rfl, fun h => by first | cases h; done | rfl⟩
set_option maxRecDepth 100000 in
theorem flX6_67 : z_FL RX6 67 6 12 := ⟨(RX6, TX6, 19), rfl, by decide, tb_in 677 (by decide +kernel) rfl⟩
set_option maxRecDepth 100000 in
theorem fpX6_67 : z_FP RX6 67 6 12 (.int) false := ⟨(RX6, TX6, 19), rfl, by decide, tb_in 677 (by decide +kernel) rfl, by decide +kernel, rfl, fun h => by first | cases h; done | rfl⟩
set_option maxRecDepth 100000 in
theorem flX6_77 : z_FL RX6 77 6 13 := ⟨(RX6, TX6, 19), rfl, by decide, tb_in 678 (by decide +kernel) rfl⟩
set_option maxRecDepth 100000 in
theorem fpX6_77 : z_FP RX6 77 6 13 (.int) false := ⟨(RX6, TX6, 19), rfl, by decide, tb_in 678 (by decide +kernel) rfl, by decide +kernel, rfl, fun h => by first | cases h; done | rfl⟩
set_option maxRecDepth 100000 in
theorem flX6_32 : z_FL RX6 32 6 14 := ⟨(RX6, TX6, 19), rfl, by decide, tb_in 679 (by decide +kernel) rfl⟩
set_option maxRecDepth 100000 in
theorem fpX6_32 : z_FP RX6 32 6 14 (.array .int) true := ⟨(RX6, TX6, 19), rfl, by decide, tb_in 679 (by decide +kernel) rfl, by decide +kernel, rfl, fun h => by first | cases h; done | rfl⟩
set_option maxRecDepth 100000 in
theorem flX6_124 : z_FL RX6 124 6 15 := ⟨(RX6, TX6, 19), rfl, by decide, tb_in 680 (by decide +kernel) rfl⟩
set_option maxRecDepth 100000 in
theorem fpX6_124 : z_FP RX6 124 6 15 (.int) false := ⟨(RX6, TX6, 19), rfl, by decide, tb_in 680 (by decide +kernel) rfl, by decide +kernel, rfl, fun h => by first | cases h; done | rfl⟩
set_option maxRecDepth 100000 in
theorem flX6_35 : z_FL RX6 35 6 16 := ⟨(RX6, TX6, 19), rfl, by decide, tb_in 681 (by decide +kernel) rfl⟩
set_option maxRecDepth 100000 in
theorem fpX6_35 : z_FP RX6 35 6 16 (.array .int) true := ⟨(RX6, TX6, 19), rfl, by decide, tb_in 681 (by decide +kernel) rfl, by decide +kernel, rfl, fun h => by first | cases h; done | rfl⟩
set_option maxRecDepth 100000 in
theorem flX6_38 : z_FL RX6 38 6 17 := ⟨(RX6, TX6, 19), rfl, by decide, tb_in 682 (by decide +kernel) rfl⟩
set_option maxRecDepth 100000 in
theorem fpX6_38 : z_FP RX6 38 6 17 (.array .int) true := ⟨(RX6, TX6, 19), rfl, by decide, tb_in 682 (by decide +kernel) rfl, by decide +kernel, rfl, fun h => by first | cases h; done | rfl⟩
set_option maxRecDepth 100000 in
theorem flX6_42 : z_FL RX6 42 6 18 := ⟨(RX6, TX6, 19), rfl, by decide, tb_in 683 (by decide +kernel) rfl⟩
set_option maxRecDepth 100000 in
theorem fpX6_42 : z_FP RX6 42 6 18 (.array .int) true := ⟨(RX6, TX6, 19), rfl, by decide, tb_in 683 (by decide +kernel) rfl, by decide +kernel, rfl, fun h => by first | cases h; done | rfl⟩
set_option maxRecDepth 100000 in
theorem ilL_9 : z_IL RL 9 mX5_init 0 := ⟨Or.inl (tb_in 59 (by decide +kernel) rfl), tb_in 60 (by decide +kernel) rfl, rfl, rfl, kiX5_init, kcX5_init, koX5_init⟩
set_option maxRecDepth 100000 in
theorem olX5_1 : z_OL RX5 1 := ⟨tb_in 62 (by decide +kernel) rfl, tb_in 63 (by decide +kernel) rfl, tb_in 64 (by decide +kernel) rfl⟩
set_option maxRecDepth 100000 in
theorem ilX5_9 : z_IL RX5 9 mX4_init 0 := ⟨Or.inr ⟨RX5, by decide +kernel⟩, tb_in 68 (by decide +kernel) rfl, rfl, rfl, kiX4_init, kcX4_init, koX4_init⟩
set_option maxRecDepth 100000 in
theorem olX4_3 : z_OL RX4 3 := ⟨tb_in 70 (by decide +kernel) rfl, tb_in 63 (by decide +kernel) rfl, tb_in 64 (by decide +kernel) rfl⟩
set_option maxRecDepth 100000 in
theorem ilX5_18 : z_IL RX5 18 mX0_init 0 := ⟨Or.inr ⟨RX5, by decide +kernel⟩, tb_in 95 (by decide +kernel) rfl, rfl, rfl, kiX0_init, kcX0_init, koX0_init⟩
set_option maxRecDepth 100000 in
theorem olX0_3 : z_OL RX0 3 := ⟨tb_in 97 (by decide +kernel) rfl, tb_in 63 (by decide +kernel) rfl, tb_in 64 (by decide +kernel) rfl⟩
set_option maxRecDepth 100000 in
theorem ilX5_28 : z_IL RX5 28 mX1_init 0 := ⟨Or.inl (tb_in 127 (by decide +kernel) rfl), tb_in 128 (by decide +kernel) rfl, rfl, rfl, kiX1_init, kcX1_init, koX1_init⟩
set_option maxRecDepth 100000 in
theorem olX1_3 : z_OL RX1 3 := ⟨tb_in 130 (by decide +kernel) rfl, tb_in 63 (by decide +kernel) rfl, tb_in 64 (by decide +kernel) rfl⟩
set_option maxRecDepth 100000 in
theorem slX1_18 : z_SL RX1 18 mJ7_fill_53178 2 := ⟨Or.inl (tb_in 131 (by decide +kernel) rfl), tb_in 132 (by decide +kernel) rfl, kiJ7_fill_53178, kcJ7_fill_53178, koJ7_fill_53178⟩
set_option maxRecDepth 100000 in
theorem ilX5_35 : z_IL RX5 35 mX3_init 0 := ⟨Or.inl (tb_in 156 (by decide +kernel) rfl), tb_in 157 (by decide +kernel) rfl, rfl, rfl, kiX3_init, kcX3_init, koX3_init⟩
set_option maxRecDepth 100000 in
theorem olX3_3 : z_OL RX3 3 := ⟨tb_in 159 (by decide +kernel) rfl, tb_in 63 (by decide +kernel) rfl, tb_in 64 (by decide +kernel) rfl⟩
set_option maxRecDepth 100000 in
theorem ilX3_17 : z_IL RX3 17 mX1_init 0 := ⟨Or.inl (tb_in 162 (by decide +kernel) rfl), tb_in 128 (by decide +kernel) rfl, rfl, rfl, kiX1_init, kcX1_init, koX1_init⟩
set_option maxRecDepth 100000 in
theorem ilX5_48 : z_IL RX5 48 mX2_init 0 := ⟨Or.inr ⟨RX5, by decide +kernel⟩, tb_in 177 (by decide +kernel) rfl, rfl, rfl, kiX2_init, kcX2_init, koX2_init⟩
set_option maxRecDepth 100000 in
theorem olX2_5 : z_OL RX2 5 := ⟨tb_in 179 (by decide +kernel) rfl, tb_in 63 (by decide +kernel) rfl, tb_in 64 (by decide +kernel) rfl⟩
set_option maxRecDepth 100000 in
theorem vlL_13 : z_VL RL 13 5 mX5_type 1 := ⟨⟨(RX5, TX5, 10), rfl, rfl⟩, tb_in 231 (by decide +kernel) rfl, tb_in 232 (by decide +kernel) rfl, tb_in 233 (by decide +kernel) rfl, kiX5_type, kcX5_type, koX5_type⟩
set_option maxRecDepth 100000 in
theorem vlX5_53 : z_VL RX5 53 4 mX4_append 1 := ⟨⟨(RX4, TX4, 6), rfl, rfl⟩, tb_in 235 (by decide +kernel) rfl, tb_in 236 (by decide +kernel) rfl, tb_in 237 (by decide +kernel) rfl, kiX4_append, kcX4_append, koX4_append⟩
set_option maxRecDepth 100000 in
theorem slX4_19 : z_SL RX4 19 mX5_put 3 := ⟨Or.inr ⟨RX5, by decide +kernel⟩, tb_in 240 (by decide +kernel) rfl, kiX5_put, kcX5_put, koX5_put⟩
set_option maxRecDepth 100000 in
theorem vlL_18 : z_VL RL 18 5 mX5_clear 0 := ⟨⟨(RX5, TX5, 10), rfl, rfl⟩, tb_in 242 (by decide +kernel) rfl, tb_in 243 (by decide +kernel) rfl, tb_in 244 (by decide +kernel) rfl, kiX5_clear, kcX5_clear, koX5_clear⟩
set_option maxRecDepth 100000 in
theorem vlL_23 : z_VL RL 23 5 mX5_crew 0 := ⟨⟨(RX5, TX5, 10), rfl, rfl⟩, tb_in 246 (by decide +kernel) rfl, tb_in 247 (by decide +kernel) rfl, tb_in 248 (by decide +kernel) rfl, kiX5_crew, kcX5_crew, koX5_crew⟩
set_option maxRecDepth 100000 in
theorem vlX5_61 : z_VL RX5 61 4 mX4_readInto 1 := ⟨⟨(RX4, TX4, 6), rfl, rfl⟩, tb_in 250 (by decide +kernel) rfl, tb_in 251 (by decide +kernel) rfl, tb_in 252 (by decide +kernel) rfl, kiX4_readInto, kcX4_readInto, koX4_readInto⟩
set_option maxRecDepth 100000 in
theorem vlX4_23 : z_VL RX4 23 0 mX0_restart 0 := ⟨⟨(RX0, TX0, 6), rfl, rfl⟩, tb_in 254 (by decide +kernel) rfl, tb_in 255 (by decide +kernel) rfl, tb_in 256 (by decide +kernel) rfl, kiX0_restart, kcX0_restart, koX0_restart⟩
set_option maxRecDepth 100000 in
theorem vlX4_38 : z_VL RX4 38 4 mX4_next 0 := ⟨⟨(RX4, TX4, 6), rfl, rfl⟩, tb_in 258 (by decide +kernel) rfl, tb_in 260 (by decide +kernel) rfl, tb_in 0 (by decide +kernel) rfl, kiX4_next, kcX4_next, koX4_next⟩
set_option maxRecDepth 100000 in
theorem slX4_76 : z_SL RX4 76 mX5_at 2 := ⟨Or.inr ⟨RX5, by decide +kernel⟩, tb_in 263 (by decide +kernel) rfl, kiX5_at, kcX5_at, koX5_at⟩
set_option maxRecDepth 100000 in
theorem slX4_80 : z_SL RX4 80 mX4_isDigit 1 := ⟨Or.inl (tb_in 265 (by decide +kernel) rfl), tb_in 266 (by decide +kernel) rfl, kiX4_isDigit, kcX4_isDigit, koX4_isDigit⟩
set_option maxRecDepth 100000 in
theorem vlX4_84 : z_VL RX4 84 4 mX4_nextNumber 0 := ⟨⟨(RX4, TX4, 6), rfl, rfl⟩, tb_in 268 (by decide +kernel) rfl, tb_in 270 (by decide +kernel) rfl, tb_in 1 (by decide +kernel) rfl, kiX4_nextNumber, kcX4_nextNumber, koX4_nextNumber⟩
set_option maxRecDepth 100000 in
theorem slX4_87 : z_SL RX4 87 mJ9_min_7cf53 2 := ⟨Or.inl (tb_in 272 (by decide +kernel) rfl), tb_in 273 (by decide +kernel) rfl, kiJ9_min_7cf53, kcJ9_min_7cf53, koJ9_min_7cf53⟩
set_option maxRecDepth 100000 in
theorem vlX4_42 : z_VL RX4 42 4 mX4_readSailor 1 := ⟨⟨(RX4, TX4, 6), rfl, rfl⟩, tb_in 275 (by decide +kernel) rfl, tb_in 277 (by decide +kernel) rfl, tb_in 2 (by decide +kernel) rfl, kiX4_readSailor, kcX4_readSailor, koX4_readSailor⟩
set_option maxRecDepth 100000 in
theorem vlX4_58 : z_VL RX4 58 4 mX4_numberFrom 2 := ⟨⟨(RX4, TX4, 6), rfl, rfl⟩, tb_in 279 (by decide +kernel) rfl, tb_in 281 (by decide +kernel) rfl, tb_in 3 (by decide +kernel) rfl, kiX4_numberFrom, kcX4_numberFrom, koX4_numberFrom⟩
set_option maxRecDepth 100000 in
theorem vlX4_62 : z_VL RX4 62 0 mX0_enlist 3 := ⟨⟨(RX0, TX0, 6), rfl, rfl⟩, tb_in 283 (by decide +kernel) rfl, tb_in 284 (by decide +kernel) rfl, tb_in 285 (by decide +kernel) rfl, kiX0_enlist, kcX0_enlist, koX0_enlist⟩
set_option maxRecDepth 100000 in
theorem slX0_31 : z_SL RX0 31 mX5_put 3 := ⟨Or.inr ⟨RX5, by decide +kernel⟩, tb_in 240 (by decide +kernel) rfl, kiX5_put, kcX5_put, koX5_put⟩
set_option maxRecDepth 100000 in
theorem vlX4_66 : z_VL RX4 66 4 mX4_itemEnds 0 := ⟨⟨(RX4, TX4, 6), rfl, rfl⟩, tb_in 288 (by decide +kernel) rfl, tb_in 290 (by decide +kernel) rfl, tb_in 4 (by decide +kernel) rfl, kiX4_itemEnds, kcX4_itemEnds, koX4_itemEnds⟩
set_option maxRecDepth 100000 in
theorem vlX4_46 : z_VL RX4 46 4 mX4_readDip 1 := ⟨⟨(RX4, TX4, 6), rfl, rfl⟩, tb_in 292 (by decide +kernel) rfl, tb_in 294 (by decide +kernel) rfl, tb_in 5 (by decide +kernel) rfl, kiX4_readDip, kcX4_readDip, koX4_readDip⟩
set_option maxRecDepth 100000 in
theorem vlX4_49 : z_VL RX4 49 4 mX4_readSeats 1 := ⟨⟨(RX4, TX4, 6), rfl, rfl⟩, tb_in 296 (by decide +kernel) rfl, tb_in 298 (by decide +kernel) rfl, tb_in 6 (by decide +kernel) rfl, kiX4_readSeats, kcX4_readSeats, koX4_readSeats⟩
set_option maxRecDepth 100000 in
theorem vlX5_65 : z_VL RX5 65 0 mX0_become 1 := ⟨⟨(RX0, TX0, 6), rfl, rfl⟩, tb_in 300 (by decide +kernel) rfl, tb_in 301 (by decide +kernel) rfl, tb_in 302 (by decide +kernel) rfl, kiX0_become, kcX0_become, koX0_become⟩
set_option maxRecDepth 100000 in
theorem vlX0_35 : z_VL RX0 35 0 mX0_restart 0 := ⟨⟨(RX0, TX0, 6), rfl, rfl⟩, tb_in 304 (by decide +kernel) rfl, tb_in 255 (by decide +kernel) rfl, tb_in 256 (by decide +kernel) rfl, kiX0_restart, kcX0_restart, koX0_restart⟩
set_option maxRecDepth 100000 in
theorem slX0_38 : z_SL RX0 38 mX5_at 2 := ⟨Or.inr ⟨RX5, by decide +kernel⟩, tb_in 263 (by decide +kernel) rfl, kiX5_at, kcX5_at, koX5_at⟩
set_option maxRecDepth 100000 in
theorem vlX0_42 : z_VL RX0 42 0 mX0_enlist 3 := ⟨⟨(RX0, TX0, 6), rfl, rfl⟩, tb_in 306 (by decide +kernel) rfl, tb_in 284 (by decide +kernel) rfl, tb_in 285 (by decide +kernel) rfl, kiX0_enlist, kcX0_enlist, koX0_enlist⟩
set_option maxRecDepth 100000 in
theorem vlX5_69 : z_VL RX5 69 1 mX1_restart 0 := ⟨⟨(RX1, TX1, 4), rfl, rfl⟩, tb_in 307 (by decide +kernel) rfl, tb_in 308 (by decide +kernel) rfl, tb_in 309 (by decide +kernel) rfl, kiX1_restart, kcX1_restart, koX1_restart⟩
set_option maxRecDepth 100000 in
theorem vlX5_72 : z_VL RX5 72 3 mX3_forget 0 := ⟨⟨(RX3, TX3, 3), rfl, rfl⟩, tb_in 311 (by decide +kernel) rfl, tb_in 312 (by decide +kernel) rfl, tb_in 313 (by decide +kernel) rfl, kiX3_forget, kcX3_forget, koX3_forget⟩
set_option maxRecDepth 100000 in
theorem vlL_27 : z_VL RL 27 5 mX5_sailor 2 := ⟨⟨(RX5, TX5, 10), rfl, rfl⟩, tb_in 315 (by decide +kernel) rfl, tb_in 316 (by decide +kernel) rfl, tb_in 317 (by decide +kernel) rfl, kiX5_sailor, kcX5_sailor, koX5_sailor⟩
set_option maxRecDepth 100000 in
theorem vlX5_78 : z_VL RX5 78 5 mX5_isSailor 1 := ⟨⟨(RX5, TX5, 10), rfl, rfl⟩, tb_in 319 (by decide +kernel) rfl, tb_in 321 (by decide +kernel) rfl, tb_in 7 (by decide +kernel) rfl, kiX5_isSailor, kcX5_isSailor, koX5_isSailor⟩
set_option maxRecDepth 100000 in
theorem slX5_85 : z_SL RX5 85 mX5_at 2 := ⟨Or.inl (tb_in 323 (by decide +kernel) rfl), tb_in 263 (by decide +kernel) rfl, kiX5_at, kcX5_at, koX5_at⟩
set_option maxRecDepth 100000 in
theorem vlX5_92 : z_VL RX5 92 0 mX0_trusted 1 := ⟨⟨(RX0, TX0, 6), rfl, rfl⟩, tb_in 324 (by decide +kernel) rfl, tb_in 325 (by decide +kernel) rfl, tb_in 326 (by decide +kernel) rfl, kiX0_trusted, kcX0_trusted, koX0_trusted⟩
set_option maxRecDepth 100000 in
theorem vlX0_46 : z_VL RX0 46 0 mX0_all 0 := ⟨⟨(RX0, TX0, 6), rfl, rfl⟩, tb_in 328 (by decide +kernel) rfl, tb_in 329 (by decide +kernel) rfl, tb_in 330 (by decide +kernel) rfl, kiX0_all, kcX0_all, koX0_all⟩
set_option maxRecDepth 100000 in
theorem slX5_99 : z_SL RX5 99 mX5_has 2 := ⟨Or.inl (tb_in 332 (by decide +kernel) rfl), tb_in 333 (by decide +kernel) rfl, kiX5_has, kcX5_has, koX5_has⟩
set_option maxRecDepth 100000 in
theorem vlX5_103 : z_VL RX5 103 1 mX1_seatOf 1 := ⟨⟨(RX1, TX1, 4), rfl, rfl⟩, tb_in 335 (by decide +kernel) rfl, tb_in 336 (by decide +kernel) rfl, tb_in 337 (by decide +kernel) rfl, kiX1_seatOf, kcX1_seatOf, koX1_seatOf⟩
set_option maxRecDepth 100000 in
theorem slX1_31 : z_SL RX1 31 mX5_at 2 := ⟨Or.inr ⟨RX5, by decide +kernel⟩, tb_in 263 (by decide +kernel) rfl, kiX5_at, kcX5_at, koX5_at⟩
set_option maxRecDepth 100000 in
theorem vlX5_106 : z_VL RX5 106 5 mX5_wouldSign 1 := ⟨⟨(RX5, TX5, 10), rfl, rfl⟩, tb_in 340 (by decide +kernel) rfl, tb_in 342 (by decide +kernel) rfl, tb_in 8 (by decide +kernel) rfl, kiX5_wouldSign, kcX5_wouldSign, koX5_wouldSign⟩
set_option maxRecDepth 100000 in
theorem vlX5_235 : z_VL RX5 235 0 mX0_isOnDeck 2 := ⟨⟨(RX0, TX0, 6), rfl, rfl⟩, tb_in 344 (by decide +kernel) rfl, tb_in 345 (by decide +kernel) rfl, tb_in 346 (by decide +kernel) rfl, kiX0_isOnDeck, kcX0_isOnDeck, koX0_isOnDeck⟩
set_option maxRecDepth 100000 in
theorem vlX5_238 : z_VL RX5 238 0 mX0_dares 2 := ⟨⟨(RX0, TX0, 6), rfl, rfl⟩, tb_in 348 (by decide +kernel) rfl, tb_in 349 (by decide +kernel) rfl, tb_in 350 (by decide +kernel) rfl, kiX0_dares, kcX0_dares, koX0_dares⟩
set_option maxRecDepth 100000 in
theorem slX0_50 : z_SL RX0 50 mJ6_bitCount_0f7a4 1 := ⟨Or.inl (tb_in 352 (by decide +kernel) rfl), tb_in 353 (by decide +kernel) rfl, kiJ6_bitCount_0f7a4, kcJ6_bitCount_0f7a4, koJ6_bitCount_0f7a4⟩
set_option maxRecDepth 100000 in
theorem vlX0_56 : z_VL RX0 56 0 mX0_trusted 1 := ⟨⟨(RX0, TX0, 6), rfl, rfl⟩, tb_in 358 (by decide +kernel) rfl, tb_in 325 (by decide +kernel) rfl, tb_in 326 (by decide +kernel) rfl, kiX0_trusted, kcX0_trusted, koX0_trusted⟩
set_option maxRecDepth 100000 in
theorem vlL_32 : z_VL RL 32 5 mX5_seat 2 := ⟨⟨(RX5, TX5, 10), rfl, rfl⟩, tb_in 359 (by decide +kernel) rfl, tb_in 360 (by decide +kernel) rfl, tb_in 361 (by decide +kernel) rfl, kiX5_seat, kcX5_seat, koX5_seat⟩
set_option maxRecDepth 100000 in
theorem vlX5_109 : z_VL RX5 109 5 mX5_isSeat 1 := ⟨⟨(RX5, TX5, 10), rfl, rfl⟩, tb_in 363 (by decide +kernel) rfl, tb_in 365 (by decide +kernel) rfl, tb_in 9 (by decide +kernel) rfl, kiX5_isSeat, kcX5_isSeat, koX5_isSeat⟩
set_option maxRecDepth 100000 in
theorem vlL_36 : z_VL RL 36 5 mX5_now 1 := ⟨⟨(RX5, TX5, 10), rfl, rfl⟩, tb_in 367 (by decide +kernel) rfl, tb_in 368 (by decide +kernel) rfl, tb_in 369 (by decide +kernel) rfl, kiX5_now, kcX5_now, koX5_now⟩
set_option maxRecDepth 100000 in
theorem vlX5_121 : z_VL RX5 121 1 mX1_there 0 := ⟨⟨(RX1, TX1, 4), rfl, rfl⟩, tb_in 371 (by decide +kernel) rfl, tb_in 372 (by decide +kernel) rfl, tb_in 373 (by decide +kernel) rfl, kiX1_there, kcX1_there, koX1_there⟩
set_option maxRecDepth 100000 in
theorem vlX5_125 : z_VL RX5 125 5 mX5_thoseWhoWould 0 := ⟨⟨(RX5, TX5, 10), rfl, rfl⟩, tb_in 375 (by decide +kernel) rfl, tb_in 377 (by decide +kernel) rfl, tb_in 10 (by decide +kernel) rfl, kiX5_thoseWhoWould, kcX5_thoseWhoWould, koX5_thoseWhoWould⟩
set_option maxRecDepth 100000 in
theorem vlL_40 : z_VL RL 40 5 mX5_signs 2 := ⟨⟨(RX5, TX5, 10), rfl, rfl⟩, tb_in 379 (by decide +kernel) rfl, tb_in 380 (by decide +kernel) rfl, tb_in 381 (by decide +kernel) rfl, kiX5_signs, kcX5_signs, koX5_signs⟩
set_option maxRecDepth 100000 in
theorem vlX5_131 : z_VL RX5 131 3 mX3_remember 1 := ⟨⟨(RX3, TX3, 3), rfl, rfl⟩, tb_in 383 (by decide +kernel) rfl, tb_in 384 (by decide +kernel) rfl, tb_in 385 (by decide +kernel) rfl, kiX3_remember, kcX3_remember, koX3_remember⟩
set_option maxRecDepth 100000 in
theorem vlX3_22 : z_VL RX3 22 3 mX3_slotAt 1 := ⟨⟨(RX3, TX3, 3), rfl, rfl⟩, tb_in 387 (by decide +kernel) rfl, tb_in 389 (by decide +kernel) rfl, tb_in 11 (by decide +kernel) rfl, kiX3_slotAt, kcX3_slotAt, koX3_slotAt⟩
set_option maxRecDepth 100000 in
theorem vlX3_26 : z_VL RX3 26 1 mX1_become 1 := ⟨⟨(RX1, TX1, 4), rfl, rfl⟩, tb_in 391 (by decide +kernel) rfl, tb_in 392 (by decide +kernel) rfl, tb_in 393 (by decide +kernel) rfl, kiX1_become, kcX1_become, koX1_become⟩
set_option maxRecDepth 100000 in
theorem vlX1_35 : z_VL RX1 35 1 mX1_write 3 := ⟨⟨(RX1, TX1, 4), rfl, rfl⟩, tb_in 395 (by decide +kernel) rfl, tb_in 396 (by decide +kernel) rfl, tb_in 397 (by decide +kernel) rfl, kiX1_write, kcX1_write, koX1_write⟩
set_option maxRecDepth 100000 in
theorem slX1_39 : z_SL RX1 39 mX5_put 3 := ⟨Or.inr ⟨RX5, by decide +kernel⟩, tb_in 240 (by decide +kernel) rfl, kiX5_put, kcX5_put, koX5_put⟩
set_option maxRecDepth 100000 in
theorem slX3_33 : z_SL RX3 33 mJ9_min_7cf53 2 := ⟨Or.inl (tb_in 400 (by decide +kernel) rfl), tb_in 273 (by decide +kernel) rfl, kiJ9_min_7cf53, kcJ9_min_7cf53, koJ9_min_7cf53⟩
set_option maxRecDepth 100000 in
theorem slX5_135 : z_SL RX5 135 mJ6_bitCount_0f7a4 1 := ⟨Or.inl (tb_in 401 (by decide +kernel) rfl), tb_in 353 (by decide +kernel) rfl, kiJ6_bitCount_0f7a4, kcJ6_bitCount_0f7a4, koJ6_bitCount_0f7a4⟩
set_option maxRecDepth 100000 in
theorem vlX5_140 : z_VL RX5 140 0 mX0_inkBehind 1 := ⟨⟨(RX0, TX0, 6), rfl, rfl⟩, tb_in 402 (by decide +kernel) rfl, tb_in 403 (by decide +kernel) rfl, tb_in 404 (by decide +kernel) rfl, kiX0_inkBehind, kcX0_inkBehind, koX0_inkBehind⟩
set_option maxRecDepth 100000 in
theorem vlX5_143 : z_VL RX5 143 1 mX1_write 3 := ⟨⟨(RX1, TX1, 4), rfl, rfl⟩, tb_in 406 (by decide +kernel) rfl, tb_in 396 (by decide +kernel) rfl, tb_in 397 (by decide +kernel) rfl, kiX1_write, kcX1_write, koX1_write⟩
set_option maxRecDepth 100000 in
theorem vlL_44 : z_VL RL 44 5 mX5_hour 0 := ⟨⟨(RX5, TX5, 10), rfl, rfl⟩, tb_in 407 (by decide +kernel) rfl, tb_in 408 (by decide +kernel) rfl, tb_in 409 (by decide +kernel) rfl, kiX5_hour, kcX5_hour, koX5_hour⟩
set_option maxRecDepth 100000 in
theorem vlL_48 : z_VL RL 48 5 mX5_scrape 1 := ⟨⟨(RX5, TX5, 10), rfl, rfl⟩, tb_in 411 (by decide +kernel) rfl, tb_in 412 (by decide +kernel) rfl, tb_in 413 (by decide +kernel) rfl, kiX5_scrape, kcX5_scrape, koX5_scrape⟩
set_option maxRecDepth 100000 in
theorem vlL_52 : z_VL RL 52 5 mX5_undo 0 := ⟨⟨(RX5, TX5, 10), rfl, rfl⟩, tb_in 415 (by decide +kernel) rfl, tb_in 416 (by decide +kernel) rfl, tb_in 417 (by decide +kernel) rfl, kiX5_undo, kcX5_undo, koX5_undo⟩
set_option maxRecDepth 100000 in
theorem vlX5_147 : z_VL RX5 147 3 mX3_giveBack 1 := ⟨⟨(RX3, TX3, 3), rfl, rfl⟩, tb_in 419 (by decide +kernel) rfl, tb_in 420 (by decide +kernel) rfl, tb_in 421 (by decide +kernel) rfl, kiX3_giveBack, kcX3_giveBack, koX3_giveBack⟩
set_option maxRecDepth 100000 in
theorem vlL_56 : z_VL RL 56 5 mX5_will 0 := ⟨⟨(RX5, TX5, 10), rfl, rfl⟩, tb_in 423 (by decide +kernel) rfl, tb_in 424 (by decide +kernel) rfl, tb_in 425 (by decide +kernel) rfl, kiX5_will, kcX5_will, koX5_will⟩
set_option maxRecDepth 100000 in
theorem vlX5_151 : z_VL RX5 151 0 mX0_signedInTheEnd 1 := ⟨⟨(RX0, TX0, 6), rfl, rfl⟩, tb_in 427 (by decide +kernel) rfl, tb_in 428 (by decide +kernel) rfl, tb_in 429 (by decide +kernel) rfl, kiX0_signedInTheEnd, kcX0_signedInTheEnd, koX0_signedInTheEnd⟩
set_option maxRecDepth 100000 in
theorem vlX0_59 : z_VL RX0 59 0 mX0_dares 2 := ⟨⟨(RX0, TX0, 6), rfl, rfl⟩, tb_in 431 (by decide +kernel) rfl, tb_in 349 (by decide +kernel) rfl, tb_in 350 (by decide +kernel) rfl, kiX0_dares, kcX0_dares, koX0_dares⟩
set_option maxRecDepth 100000 in
theorem vlL_60 : z_VL RL 60 5 mX5_begin 0 := ⟨⟨(RX5, TX5, 10), rfl, rfl⟩, tb_in 432 (by decide +kernel) rfl, tb_in 433 (by decide +kernel) rfl, tb_in 434 (by decide +kernel) rfl, kiX5_begin, kcX5_begin, koX5_begin⟩
set_option maxRecDepth 100000 in
theorem vlX5_154 : z_VL RX5 154 0 mX0_all 0 := ⟨⟨(RX0, TX0, 6), rfl, rfl⟩, tb_in 436 (by decide +kernel) rfl, tb_in 329 (by decide +kernel) rfl, tb_in 330 (by decide +kernel) rfl, kiX0_all, kcX0_all, koX0_all⟩
set_option maxRecDepth 100000 in
theorem vlL_64 : z_VL RL 64 5 mX5_orders 0 := ⟨⟨(RX5, TX5, 10), rfl, rfl⟩, tb_in 437 (by decide +kernel) rfl, tb_in 438 (by decide +kernel) rfl, tb_in 439 (by decide +kernel) rfl, kiX5_orders, kcX5_orders, koX5_orders⟩
set_option maxRecDepth 100000 in
theorem vlX5_157 : z_VL RX5 157 2 mX2_find 3 := ⟨⟨(RX2, TX2, 6), rfl, rfl⟩, tb_in 441 (by decide +kernel) rfl, tb_in 442 (by decide +kernel) rfl, tb_in 443 (by decide +kernel) rfl, kiX2_find, kcX2_find, koX2_find⟩
set_option maxRecDepth 100000 in
theorem slX2_37 : z_SL RX2 37 mX5_at 2 := ⟨Or.inr ⟨RX5, by decide +kernel⟩, tb_in 263 (by decide +kernel) rfl, kiX5_at, kcX5_at, koX5_at⟩
set_option maxRecDepth 100000 in
theorem slX2_42 : z_SL RX2 42 mX5_put 3 := ⟨Or.inr ⟨RX5, by decide +kernel⟩, tb_in 240 (by decide +kernel) rfl, kiX5_put, kcX5_put, koX5_put⟩
set_option maxRecDepth 100000 in
theorem slX2_47 : z_SL RX2 47 mX2_extend 6 := ⟨Or.inl (tb_in 448 (by decide +kernel) rfl), tb_in 449 (by decide +kernel) rfl, kiX2_extend, kcX2_extend, koX2_extend⟩
set_option maxRecDepth 100000 in
theorem vlX2_51 : z_VL RX2 51 2 mX2_add 1 := ⟨⟨(RX2, TX2, 6), rfl, rfl⟩, tb_in 451 (by decide +kernel) rfl, tb_in 453 (by decide +kernel) rfl, tb_in 12 (by decide +kernel) rfl, kiX2_add, kcX2_add, koX2_add⟩
set_option maxRecDepth 100000 in
theorem vlX2_55 : z_VL RX2 55 0 mX0_inkBehind 1 := ⟨⟨(RX0, TX0, 6), rfl, rfl⟩, tb_in 455 (by decide +kernel) rfl, tb_in 403 (by decide +kernel) rfl, tb_in 404 (by decide +kernel) rfl, kiX0_inkBehind, kcX0_inkBehind, koX0_inkBehind⟩
set_option maxRecDepth 100000 in
theorem slX2_61 : z_SL RX2 61 mX5_has 2 := ⟨Or.inr ⟨RX5, by decide +kernel⟩, tb_in 333 (by decide +kernel) rfl, kiX5_has, kcX5_has, koX5_has⟩
set_option maxRecDepth 100000 in
theorem vlX2_65 : z_VL RX2 65 0 mX0_dares 2 := ⟨⟨(RX0, TX0, 6), rfl, rfl⟩, tb_in 457 (by decide +kernel) rfl, tb_in 349 (by decide +kernel) rfl, tb_in 350 (by decide +kernel) rfl, kiX0_dares, kcX0_dares, koX0_dares⟩
set_option maxRecDepth 100000 in
theorem vlX2_68 : z_VL RX2 68 0 mX0_isOnDeck 2 := ⟨⟨(RX0, TX0, 6), rfl, rfl⟩, tb_in 458 (by decide +kernel) rfl, tb_in 345 (by decide +kernel) rfl, tb_in 346 (by decide +kernel) rfl, kiX0_isOnDeck, kcX0_isOnDeck, koX0_isOnDeck⟩
set_option maxRecDepth 100000 in
theorem vlL_68 : z_VL RL 68 5 mX5_first 0 := ⟨⟨(RX5, TX5, 10), rfl, rfl⟩, tb_in 459 (by decide +kernel) rfl, tb_in 460 (by decide +kernel) rfl, tb_in 461 (by decide +kernel) rfl, kiX5_first, kcX5_first, koX5_first⟩
set_option maxRecDepth 100000 in
theorem vlX5_162 : z_VL RX5 162 2 mX2_firsts 0 := ⟨⟨(RX2, TX2, 6), rfl, rfl⟩, tb_in 463 (by decide +kernel) rfl, tb_in 464 (by decide +kernel) rfl, tb_in 465 (by decide +kernel) rfl, kiX2_firsts, kcX2_firsts, koX2_firsts⟩
set_option maxRecDepth 100000 in
theorem slX2_71 : z_SL RX2 71 mX2_firstOf 1 := ⟨Or.inl (tb_in 467 (by decide +kernel) rfl), tb_in 468 (by decide +kernel) rfl, kiX2_firstOf, kcX2_firstOf, koX2_firstOf⟩
set_option maxRecDepth 100000 in
theorem vlL_72 : z_VL RL 72 5 mX5_sure 1 := ⟨⟨(RX5, TX5, 10), rfl, rfl⟩, tb_in 470 (by decide +kernel) rfl, tb_in 471 (by decide +kernel) rfl, tb_in 472 (by decide +kernel) rfl, kiX5_sure, kcX5_sure, koX5_sure⟩
set_option maxRecDepth 100000 in
theorem vlX5_165 : z_VL RX5 165 5 mX5_isThere 1 := ⟨⟨(RX5, TX5, 10), rfl, rfl⟩, tb_in 474 (by decide +kernel) rfl, tb_in 476 (by decide +kernel) rfl, tb_in 13 (by decide +kernel) rfl, kiX5_isThere, kcX5_isThere, koX5_isThere⟩
set_option maxRecDepth 100000 in
theorem vlX5_168 : z_VL RX5 168 2 mX2_alwaysAheadOf 1 := ⟨⟨(RX2, TX2, 6), rfl, rfl⟩, tb_in 478 (by decide +kernel) rfl, tb_in 479 (by decide +kernel) rfl, tb_in 480 (by decide +kernel) rfl, kiX2_alwaysAheadOf, kcX2_alwaysAheadOf, koX2_alwaysAheadOf⟩
set_option maxRecDepth 100000 in
theorem vlX2_77 : z_VL RX2 77 2 mX2_aheadOf 2 := ⟨⟨(RX2, TX2, 6), rfl, rfl⟩, tb_in 482 (by decide +kernel) rfl, tb_in 484 (by decide +kernel) rfl, tb_in 14 (by decide +kernel) rfl, kiX2_aheadOf, kcX2_aheadOf, koX2_aheadOf⟩
set_option maxRecDepth 100000 in
theorem slX2_81 : z_SL RX2 81 mX2_placeOf 2 := ⟨Or.inl (tb_in 486 (by decide +kernel) rfl), tb_in 487 (by decide +kernel) rfl, kiX2_placeOf, kcX2_placeOf, koX2_placeOf⟩
set_option maxRecDepth 100000 in
theorem vlL_76 : z_VL RL 76 5 mX5_chance 2 := ⟨⟨(RX5, TX5, 10), rfl, rfl⟩, tb_in 489 (by decide +kernel) rfl, tb_in 490 (by decide +kernel) rfl, tb_in 491 (by decide +kernel) rfl, kiX5_chance, kcX5_chance, koX5_chance⟩
set_option maxRecDepth 100000 in
theorem slX5_171 : z_SL RX5 171 mX5_isPart 1 := ⟨Or.inl (tb_in 493 (by decide +kernel) rfl), tb_in 494 (by decide +kernel) rfl, kiX5_isPart, kcX5_isPart, koX5_isPart⟩
set_option maxRecDepth 100000 in
theorem vlX5_174 : z_VL RX5 174 2 mX2_timesFirst 1 := ⟨⟨(RX2, TX2, 6), rfl, rfl⟩, tb_in 496 (by decide +kernel) rfl, tb_in 497 (by decide +kernel) rfl, tb_in 498 (by decide +kernel) rfl, kiX2_timesFirst, kcX2_timesFirst, koX2_timesFirst⟩
set_option maxRecDepth 100000 in
theorem slX5_177 : z_SL RX5 177 mJ9_max_7cf53 2 := ⟨Or.inl (tb_in 500 (by decide +kernel) rfl), tb_in 501 (by decide +kernel) rfl, kiJ9_max_7cf53, kcJ9_max_7cf53, koJ9_max_7cf53⟩
set_option maxRecDepth 100000 in
theorem slX5_183 : z_SL RX5 183 mX5_inLeastTerms 3 := ⟨Or.inl (tb_in 503 (by decide +kernel) rfl), tb_in 504 (by decide +kernel) rfl, kiX5_inLeastTerms, kcX5_inLeastTerms, koX5_inLeastTerms⟩
set_option maxRecDepth 100000 in
theorem slX5_254 : z_SL RX5 254 mX5_commonDivisor 2 := ⟨Or.inl (tb_in 506 (by decide +kernel) rfl), tb_in 507 (by decide +kernel) rfl, kiX5_commonDivisor, kcX5_commonDivisor, koX5_commonDivisor⟩
set_option maxRecDepth 100000 in
theorem vlL_80 : z_VL RL 80 5 mX5_ask 0 := ⟨⟨(RX5, TX5, 10), rfl, rfl⟩, tb_in 509 (by decide +kernel) rfl, tb_in 510 (by decide +kernel) rfl, tb_in 511 (by decide +kernel) rfl, kiX5_ask, kcX5_ask, koX5_ask⟩
set_option maxRecDepth 100000 in
theorem vlX5_187 : z_VL RX5 187 2 mX2_fewestToAsk 0 := ⟨⟨(RX2, TX2, 6), rfl, rfl⟩, tb_in 513 (by decide +kernel) rfl, tb_in 514 (by decide +kernel) rfl, tb_in 515 (by decide +kernel) rfl, kiX2_fewestToAsk, kcX2_fewestToAsk, koX2_fewestToAsk⟩
set_option maxRecDepth 100000 in
theorem slX2_84 : z_SL RX2 84 mJ7_fill_53178 2 := ⟨Or.inl (tb_in 517 (by decide +kernel) rfl), tb_in 132 (by decide +kernel) rfl, kiJ7_fill_53178, kcJ7_fill_53178, koJ7_fill_53178⟩
set_option maxRecDepth 100000 in
theorem slX2_90 : z_SL RX2 90 mJ6_bitCount_0f7a4 1 := ⟨Or.inl (tb_in 518 (by decide +kernel) rfl), tb_in 353 (by decide +kernel) rfl, kiJ6_bitCount_0f7a4, kcJ6_bitCount_0f7a4, koJ6_bitCount_0f7a4⟩
set_option maxRecDepth 100000 in
theorem vlX2_95 : z_VL RX2 95 2 mX2_tellWhoWasFirst 1 := ⟨⟨(RX2, TX2, 6), rfl, rfl⟩, tb_in 519 (by decide +kernel) rfl, tb_in 521 (by decide +kernel) rfl, tb_in 15 (by decide +kernel) rfl, kiX2_tellWhoWasFirst, kcX2_tellWhoWasFirst, koX2_tellWhoWasFirst⟩
set_option maxRecDepth 100000 in
theorem vlX2_99 : z_VL RX2 99 2 mX2_rankOfPlaces 2 := ⟨⟨(RX2, TX2, 6), rfl, rfl⟩, tb_in 523 (by decide +kernel) rfl, tb_in 525 (by decide +kernel) rfl, tb_in 16 (by decide +kernel) rfl, kiX2_rankOfPlaces, kcX2_rankOfPlaces, koX2_rankOfPlaces⟩
set_option maxRecDepth 100000 in
theorem vlL_84 : z_VL RL 84 5 mX5_hang 0 := ⟨⟨(RX5, TX5, 10), rfl, rfl⟩, tb_in 527 (by decide +kernel) rfl, tb_in 528 (by decide +kernel) rfl, tb_in 529 (by decide +kernel) rfl, kiX5_hang, kcX5_hang, koX5_hang⟩
set_option maxRecDepth 100000 in
theorem vlX5_190 : z_VL RX5 190 2 mX2_likeliestFirst 0 := ⟨⟨(RX2, TX2, 6), rfl, rfl⟩, tb_in 531 (by decide +kernel) rfl, tb_in 532 (by decide +kernel) rfl, tb_in 533 (by decide +kernel) rfl, kiX2_likeliestFirst, kcX2_likeliestFirst, koX2_likeliestFirst⟩
set_option maxRecDepth 100000 in
theorem vlX2_74 : z_VL RX2 74 2 mX2_timesFirst 1 := ⟨⟨(RX2, TX2, 6), rfl, rfl⟩, tb_in 535 (by decide +kernel) rfl, tb_in 497 (by decide +kernel) rfl, tb_in 498 (by decide +kernel) rfl, kiX2_timesFirst, kcX2_timesFirst, koX2_timesFirst⟩
set_option maxRecDepth 100000 in
theorem vlL_88 : z_VL RL 88 5 mX5_shift 1 := ⟨⟨(RX5, TX5, 10), rfl, rfl⟩, tb_in 536 (by decide +kernel) rfl, tb_in 537 (by decide +kernel) rfl, tb_in 538 (by decide +kernel) rfl, kiX5_shift, kcX5_shift, koX5_shift⟩
set_option maxRecDepth 100000 in
theorem vlL_92 : z_VL RL 92 5 mX5_odds 3 := ⟨⟨(RX5, TX5, 10), rfl, rfl⟩, tb_in 540 (by decide +kernel) rfl, tb_in 541 (by decide +kernel) rfl, tb_in 542 (by decide +kernel) rfl, kiX5_odds, kcX5_odds, koX5_odds⟩
set_option maxRecDepth 100000 in
theorem slX5_193 : z_SL RX5 193 mX5_power 2 := ⟨Or.inl (tb_in 544 (by decide +kernel) rfl), tb_in 545 (by decide +kernel) rfl, kiX5_power, kcX5_power, koX5_power⟩
set_option maxRecDepth 100000 in
theorem vlL_97 : z_VL RL 97 5 mX5_bold 1 := ⟨⟨(RX5, TX5, 10), rfl, rfl⟩, tb_in 547 (by decide +kernel) rfl, tb_in 548 (by decide +kernel) rfl, tb_in 549 (by decide +kernel) rfl, kiX5_bold, kcX5_bold, koX5_bold⟩
set_option maxRecDepth 100000 in
theorem vlL_101 : z_VL RL 101 5 mX5_clique 1 := ⟨⟨(RX5, TX5, 10), rfl, rfl⟩, tb_in 551 (by decide +kernel) rfl, tb_in 552 (by decide +kernel) rfl, tb_in 553 (by decide +kernel) rfl, kiX5_clique, kcX5_clique, koX5_clique⟩
set_option maxRecDepth 100000 in
theorem vlX5_197 : z_VL RX5 197 0 mX0_largestClique 0 := ⟨⟨(RX0, TX0, 6), rfl, rfl⟩, tb_in 555 (by decide +kernel) rfl, tb_in 556 (by decide +kernel) rfl, tb_in 557 (by decide +kernel) rfl, kiX0_largestClique, kcX0_largestClique, koX0_largestClique⟩
set_option maxRecDepth 100000 in
theorem vlX0_63 : z_VL RX0 63 0 mX0_isClique 1 := ⟨⟨(RX0, TX0, 6), rfl, rfl⟩, tb_in 559 (by decide +kernel) rfl, tb_in 561 (by decide +kernel) rfl, tb_in 17 (by decide +kernel) rfl, kiX0_isClique, kcX0_isClique, koX0_isClique⟩
set_option maxRecDepth 100000 in
theorem slX0_67 : z_SL RX0 67 mX5_has 2 := ⟨Or.inr ⟨RX5, by decide +kernel⟩, tb_in 333 (by decide +kernel) rfl, kiX5_has, kcX5_has, koX5_has⟩
set_option maxRecDepth 100000 in
theorem vlL_105 : z_VL RL 105 5 mX5_rate 2 := ⟨⟨(RX5, TX5, 10), rfl, rfl⟩, tb_in 564 (by decide +kernel) rfl, tb_in 565 (by decide +kernel) rfl, tb_in 566 (by decide +kernel) rfl, kiX5_rate, kcX5_rate, koX5_rate⟩
set_option maxRecDepth 100000 in
theorem vlX5_201 : z_VL RX5 201 5 mX5_asSailor 1 := ⟨⟨(RX5, TX5, 10), rfl, rfl⟩, tb_in 569 (by decide +kernel) rfl, tb_in 571 (by decide +kernel) rfl, tb_in 18 (by decide +kernel) rfl, kiX5_asSailor, kcX5_asSailor, koX5_asSailor⟩
set_option maxRecDepth 100000 in
theorem vlX5_204 : z_VL RX5 204 5 mX5_asCook 1 := ⟨⟨(RX5, TX5, 10), rfl, rfl⟩, tb_in 573 (by decide +kernel) rfl, tb_in 575 (by decide +kernel) rfl, tb_in 19 (by decide +kernel) rfl, kiX5_asCook, kcX5_asCook, koX5_asCook⟩
set_option maxRecDepth 100000 in
theorem vlX5_243 : z_VL RX5 243 1 mX1_inkOf 1 := ⟨⟨(RX1, TX1, 4), rfl, rfl⟩, tb_in 578 (by decide +kernel) rfl, tb_in 579 (by decide +kernel) rfl, tb_in 580 (by decide +kernel) rfl, kiX1_inkOf, kcX1_inkOf, koX1_inkOf⟩
set_option maxRecDepth 100000 in
theorem vlX1_43 : z_VL RX1 43 1 mX1_seatOf 1 := ⟨⟨(RX1, TX1, 4), rfl, rfl⟩, tb_in 582 (by decide +kernel) rfl, tb_in 336 (by decide +kernel) rfl, tb_in 337 (by decide +kernel) rfl, kiX1_seatOf, kcX1_seatOf, koX1_seatOf⟩
set_option maxRecDepth 100000 in
theorem vlX5_207 : z_VL RX5 207 5 mX5_asMate 1 := ⟨⟨(RX5, TX5, 10), rfl, rfl⟩, tb_in 583 (by decide +kernel) rfl, tb_in 585 (by decide +kernel) rfl, tb_in 20 (by decide +kernel) rfl, kiX5_asMate, kcX5_asMate, koX5_asMate⟩
set_option maxRecDepth 100000 in
theorem vlX5_210 : z_VL RX5 210 5 mX5_asBosun 1 := ⟨⟨(RX5, TX5, 10), rfl, rfl⟩, tb_in 588 (by decide +kernel) rfl, tb_in 590 (by decide +kernel) rfl, tb_in 21 (by decide +kernel) rfl, kiX5_asBosun, kcX5_asBosun, koX5_asBosun⟩
set_option maxRecDepth 100000 in
theorem vlX5_213 : z_VL RX5 213 5 mX5_asGunner 1 := ⟨⟨(RX5, TX5, 10), rfl, rfl⟩, tb_in 593 (by decide +kernel) rfl, tb_in 595 (by decide +kernel) rfl, tb_in 22 (by decide +kernel) rfl, kiX5_asGunner, kcX5_asGunner, koX5_asGunner⟩
set_option maxRecDepth 100000 in
theorem vlX5_216 : z_VL RX5 216 5 mX5_asBoy 1 := ⟨⟨(RX5, TX5, 10), rfl, rfl⟩, tb_in 598 (by decide +kernel) rfl, tb_in 600 (by decide +kernel) rfl, tb_in 23 (by decide +kernel) rfl, kiX5_asBoy, kcX5_asBoy, koX5_asBoy⟩
set_option maxRecDepth 100000 in
theorem vlL_109 : z_VL RL 109 5 mX5_keep 1 := ⟨⟨(RX5, TX5, 10), rfl, rfl⟩, tb_in 603 (by decide +kernel) rfl, tb_in 604 (by decide +kernel) rfl, tb_in 605 (by decide +kernel) rfl, kiX5_keep, kcX5_keep, koX5_keep⟩
set_option maxRecDepth 100000 in
theorem vlX5_219 : z_VL RX5 219 5 mX5_imageAt 1 := ⟨⟨(RX5, TX5, 10), rfl, rfl⟩, tb_in 607 (by decide +kernel) rfl, tb_in 609 (by decide +kernel) rfl, tb_in 24 (by decide +kernel) rfl, kiX5_imageAt, kcX5_imageAt, koX5_imageAt⟩
set_option maxRecDepth 100000 in
theorem vlX5_223 : z_VL RX5 223 1 mX1_become 1 := ⟨⟨(RX1, TX1, 4), rfl, rfl⟩, tb_in 611 (by decide +kernel) rfl, tb_in 392 (by decide +kernel) rfl, tb_in 393 (by decide +kernel) rfl, kiX1_become, kcX1_become, koX1_become⟩
set_option maxRecDepth 100000 in
theorem vlL_113 : z_VL RL 113 5 mX5_back 1 := ⟨⟨(RX5, TX5, 10), rfl, rfl⟩, tb_in 612 (by decide +kernel) rfl, tb_in 613 (by decide +kernel) rfl, tb_in 614 (by decide +kernel) rfl, kiX5_back, kcX5_back, koX5_back⟩
set_option maxRecDepth 100000 in
theorem vlL_117 : z_VL RL 117 5 mX5_count 1 := ⟨⟨(RX5, TX5, 10), rfl, rfl⟩, tb_in 616 (by decide +kernel) rfl, tb_in 617 (by decide +kernel) rfl, tb_in 618 (by decide +kernel) rfl, kiX5_count, kcX5_count, koX5_count⟩
set_option maxRecDepth 100000 in
theorem vlL_121 : z_VL RL 121 5 mX5_trace 0 := ⟨⟨(RX5, TX5, 10), rfl, rfl⟩, tb_in 620 (by decide +kernel) rfl, tb_in 621 (by decide +kernel) rfl, tb_in 622 (by decide +kernel) rfl, kiX5_trace, kcX5_trace, koX5_trace⟩
set_option maxRecDepth 100000 in
theorem ilL_12 : z_IL RL 12 mX6_init 0 := ⟨Or.inl (tb_in 626 (by decide +kernel) rfl), tb_in 627 (by decide +kernel) rfl, rfl, rfl, kiX6_init, kcX6_init, koX6_init⟩
set_option maxRecDepth 100000 in
theorem olX6_1 : z_OL RX6 1 := ⟨tb_in 629 (by decide +kernel) rfl, tb_in 63 (by decide +kernel) rfl, tb_in 64 (by decide +kernel) rfl⟩
set_option maxRecDepth 100000 in
theorem vlX6_45 : z_VL RX6 45 6 mX6_reads 0 := ⟨⟨(RX6, TX6, 19), rfl, rfl⟩, tb_in 631 (by decide +kernel) rfl, tb_in 633 (by decide +kernel) rfl, tb_in 25 (by decide +kernel) rfl, kiX6_reads, kcX6_reads, koX6_reads⟩
set_option maxRecDepth 100000 in
theorem vlX6_80 : z_VL RX6 80 6 mX6_token 0 := ⟨⟨(RX6, TX6, 19), rfl, rfl⟩, tb_in 635 (by decide +kernel) rfl, tb_in 637 (by decide +kernel) rfl, tb_in 26 (by decide +kernel) rfl, kiX6_token, kcX6_token, koX6_token⟩
set_option maxRecDepth 100000 in
theorem vlX6_63 : z_VL RX6 63 6 mX6_letterAt 1 := ⟨⟨(RX6, TX6, 19), rfl, rfl⟩, tb_in 639 (by decide +kernel) rfl, tb_in 641 (by decide +kernel) rfl, tb_in 27 (by decide +kernel) rfl, kiX6_letterAt, kcX6_letterAt, koX6_letterAt⟩
set_option maxRecDepth 100000 in
theorem slX6_70 : z_SL RX6 70 mX6_isDigit 1 := ⟨Or.inl (tb_in 643 (by decide +kernel) rfl), tb_in 644 (by decide +kernel) rfl, kiX6_isDigit, kcX6_isDigit, koX6_isDigit⟩
set_option maxRecDepth 100000 in
theorem slX6_52 : z_SL RX6 52 mX6_in 3 := ⟨Or.inl (tb_in 646 (by decide +kernel) rfl), tb_in 647 (by decide +kernel) rfl, kiX6_in, kcX6_in, koX6_in⟩
set_option maxRecDepth 100000 in
theorem vlX6_89 : z_VL RX6 89 6 mX6_readsItem 0 := ⟨⟨(RX6, TX6, 19), rfl, rfl⟩, tb_in 649 (by decide +kernel) rfl, tb_in 651 (by decide +kernel) rfl, tb_in 28 (by decide +kernel) rfl, kiX6_readsItem, kcX6_readsItem, koX6_readsItem⟩
set_option maxRecDepth 100000 in
theorem vlX6_83 : z_VL RX6 83 6 mX6_number 3 := ⟨⟨(RX6, TX6, 19), rfl, rfl⟩, tb_in 653 (by decide +kernel) rfl, tb_in 655 (by decide +kernel) rfl, tb_in 29 (by decide +kernel) rfl, kiX6_number, kcX6_number, koX6_number⟩
set_option maxRecDepth 100000 in
theorem vlX6_86 : z_VL RX6 86 6 mX6_once 3 := ⟨⟨(RX6, TX6, 19), rfl, rfl⟩, tb_in 657 (by decide +kernel) rfl, tb_in 659 (by decide +kernel) rfl, tb_in 30 (by decide +kernel) rfl, kiX6_once, kcX6_once, koX6_once⟩
set_option maxRecDepth 100000 in
theorem vlX6_49 : z_VL RX6 49 6 mX6_tells 0 := ⟨⟨(RX6, TX6, 19), rfl, rfl⟩, tb_in 661 (by decide +kernel) rfl, tb_in 663 (by decide +kernel) rfl, tb_in 31 (by decide +kernel) rfl, kiX6_tells, kcX6_tells, koX6_tells⟩
set_option maxRecDepth 100000 in
theorem vlL_17 : z_VL RL 17 6 mX6_type 1 := ⟨⟨(RX6, TX6, 19), rfl, rfl⟩, tb_in 724 (by decide +kernel) rfl, tb_in 725 (by decide +kernel) rfl, tb_in 726 (by decide +kernel) rfl, kiX6_type, kcX6_type, koX6_type⟩
set_option maxRecDepth 100000 in
theorem vlL_22 : z_VL RL 22 6 mX6_clear 0 := ⟨⟨(RX6, TX6, 19), rfl, rfl⟩, tb_in 728 (by decide +kernel) rfl, tb_in 729 (by decide +kernel) rfl, tb_in 730 (by decide +kernel) rfl, kiX6_clear, kcX6_clear, koX6_clear⟩
set_option maxRecDepth 100000 in
theorem vlL_26 : z_VL RL 26 6 mX6_crew 0 := ⟨⟨(RX6, TX6, 19), rfl, rfl⟩, tb_in 732 (by decide +kernel) rfl, tb_in 733 (by decide +kernel) rfl, tb_in 734 (by decide +kernel) rfl, kiX6_crew, kcX6_crew, koX6_crew⟩
set_option maxRecDepth 100000 in
theorem vlL_31 : z_VL RL 31 6 mX6_sailor 2 := ⟨⟨(RX6, TX6, 19), rfl, rfl⟩, tb_in 736 (by decide +kernel) rfl, tb_in 737 (by decide +kernel) rfl, tb_in 738 (by decide +kernel) rfl, kiX6_sailor, kcX6_sailor, koX6_sailor⟩
set_option maxRecDepth 100000 in
theorem vlX6_102 : z_VL RX6 102 6 mX6_isSailor 1 := ⟨⟨(RX6, TX6, 19), rfl, rfl⟩, tb_in 740 (by decide +kernel) rfl, tb_in 742 (by decide +kernel) rfl, tb_in 32 (by decide +kernel) rfl, kiX6_isSailor, kcX6_isSailor, koX6_isSailor⟩
set_option maxRecDepth 100000 in
theorem vlX6_105 : z_VL RX6 105 6 mX6_seatOf 1 := ⟨⟨(RX6, TX6, 19), rfl, rfl⟩, tb_in 744 (by decide +kernel) rfl, tb_in 746 (by decide +kernel) rfl, tb_in 33 (by decide +kernel) rfl, kiX6_seatOf, kcX6_seatOf, koX6_seatOf⟩
set_option maxRecDepth 100000 in
theorem vlX6_108 : z_VL RX6 108 6 mX6_wouldNow 1 := ⟨⟨(RX6, TX6, 19), rfl, rfl⟩, tb_in 748 (by decide +kernel) rfl, tb_in 750 (by decide +kernel) rfl, tb_in 34 (by decide +kernel) rfl, kiX6_wouldNow, kcX6_wouldNow, koX6_wouldNow⟩
set_option maxRecDepth 100000 in
theorem vlX6_98 : z_VL RX6 98 6 mX6_would 2 := ⟨⟨(RX6, TX6, 19), rfl, rfl⟩, tb_in 752 (by decide +kernel) rfl, tb_in 754 (by decide +kernel) rfl, tb_in 35 (by decide +kernel) rfl, kiX6_would, kcX6_would, koX6_would⟩
set_option maxRecDepth 100000 in
theorem slX6_95 : z_SL RX6 95 mX6_ones 1 := ⟨Or.inl (tb_in 756 (by decide +kernel) rfl), tb_in 757 (by decide +kernel) rfl, kiX6_ones, kcX6_ones, koX6_ones⟩
set_option maxRecDepth 100000 in
theorem vlL_35 : z_VL RL 35 6 mX6_seat 2 := ⟨⟨(RX6, TX6, 19), rfl, rfl⟩, tb_in 759 (by decide +kernel) rfl, tb_in 760 (by decide +kernel) rfl, tb_in 761 (by decide +kernel) rfl, kiX6_seat, kcX6_seat, koX6_seat⟩
set_option maxRecDepth 100000 in
theorem vlX6_111 : z_VL RX6 111 6 mX6_isSeat 1 := ⟨⟨(RX6, TX6, 19), rfl, rfl⟩, tb_in 763 (by decide +kernel) rfl, tb_in 765 (by decide +kernel) rfl, tb_in 36 (by decide +kernel) rfl, kiX6_isSeat, kcX6_isSeat, koX6_isSeat⟩
set_option maxRecDepth 100000 in
theorem vlL_39 : z_VL RL 39 6 mX6_now 1 := ⟨⟨(RX6, TX6, 19), rfl, rfl⟩, tb_in 767 (by decide +kernel) rfl, tb_in 768 (by decide +kernel) rfl, tb_in 769 (by decide +kernel) rfl, kiX6_now, kcX6_now, koX6_now⟩
set_option maxRecDepth 100000 in
theorem vlX6_114 : z_VL RX6 114 6 mX6_there 0 := ⟨⟨(RX6, TX6, 19), rfl, rfl⟩, tb_in 771 (by decide +kernel) rfl, tb_in 773 (by decide +kernel) rfl, tb_in 37 (by decide +kernel) rfl, kiX6_there, kcX6_there, koX6_there⟩
set_option maxRecDepth 100000 in
theorem vlL_43 : z_VL RL 43 6 mX6_signs 2 := ⟨⟨(RX6, TX6, 19), rfl, rfl⟩, tb_in 775 (by decide +kernel) rfl, tb_in 776 (by decide +kernel) rfl, tb_in 777 (by decide +kernel) rfl, kiX6_signs, kcX6_signs, koX6_signs⟩
set_option maxRecDepth 100000 in
theorem vlX6_118 : z_VL RX6 118 6 mX6_keeps 0 := ⟨⟨(RX6, TX6, 19), rfl, rfl⟩, tb_in 779 (by decide +kernel) rfl, tb_in 781 (by decide +kernel) rfl, tb_in 38 (by decide +kernel) rfl, kiX6_keeps, kcX6_keeps, koX6_keeps⟩
set_option maxRecDepth 100000 in
theorem vlL_47 : z_VL RL 47 6 mX6_hour 0 := ⟨⟨(RX6, TX6, 19), rfl, rfl⟩, tb_in 783 (by decide +kernel) rfl, tb_in 784 (by decide +kernel) rfl, tb_in 785 (by decide +kernel) rfl, kiX6_hour, kcX6_hour, koX6_hour⟩
set_option maxRecDepth 100000 in
theorem vlL_51 : z_VL RL 51 6 mX6_scrape 1 := ⟨⟨(RX6, TX6, 19), rfl, rfl⟩, tb_in 787 (by decide +kernel) rfl, tb_in 788 (by decide +kernel) rfl, tb_in 789 (by decide +kernel) rfl, kiX6_scrape, kcX6_scrape, koX6_scrape⟩
set_option maxRecDepth 100000 in
theorem vlL_55 : z_VL RL 55 6 mX6_undo 0 := ⟨⟨(RX6, TX6, 19), rfl, rfl⟩, tb_in 791 (by decide +kernel) rfl, tb_in 792 (by decide +kernel) rfl, tb_in 793 (by decide +kernel) rfl, kiX6_undo, kcX6_undo, koX6_undo⟩
set_option maxRecDepth 100000 in
theorem vlL_59 : z_VL RL 59 6 mX6_will 0 := ⟨⟨(RX6, TX6, 19), rfl, rfl⟩, tb_in 795 (by decide +kernel) rfl, tb_in 796 (by decide +kernel) rfl, tb_in 797 (by decide +kernel) rfl, kiX6_will, kcX6_will, koX6_will⟩
set_option maxRecDepth 100000 in
theorem vlX6_121 : z_VL RX6 121 6 mX6_closed 1 := ⟨⟨(RX6, TX6, 19), rfl, rfl⟩, tb_in 799 (by decide +kernel) rfl, tb_in 801 (by decide +kernel) rfl, tb_in 39 (by decide +kernel) rfl, kiX6_closed, kcX6_closed, koX6_closed⟩
set_option maxRecDepth 100000 in
theorem vlL_63 : z_VL RL 63 6 mX6_begin 0 := ⟨⟨(RX6, TX6, 19), rfl, rfl⟩, tb_in 803 (by decide +kernel) rfl, tb_in 804 (by decide +kernel) rfl, tb_in 805 (by decide +kernel) rfl, kiX6_begin, kcX6_begin, koX6_begin⟩
set_option maxRecDepth 100000 in
theorem vlL_67 : z_VL RL 67 6 mX6_orders 0 := ⟨⟨(RX6, TX6, 19), rfl, rfl⟩, tb_in 807 (by decide +kernel) rfl, tb_in 808 (by decide +kernel) rfl, tb_in 809 (by decide +kernel) rfl, kiX6_orders, kcX6_orders, koX6_orders⟩
set_option maxRecDepth 100000 in
theorem vlX6_130 : z_VL RX6 130 6 mX6_lays 1 := ⟨⟨(RX6, TX6, 19), rfl, rfl⟩, tb_in 811 (by decide +kernel) rfl, tb_in 813 (by decide +kernel) rfl, tb_in 40 (by decide +kernel) rfl, kiX6_lays, kcX6_lays, koX6_lays⟩
set_option maxRecDepth 100000 in
theorem vlX6_127 : z_VL RX6 127 6 mX6_inkOf 1 := ⟨⟨(RX6, TX6, 19), rfl, rfl⟩, tb_in 815 (by decide +kernel) rfl, tb_in 817 (by decide +kernel) rfl, tb_in 41 (by decide +kernel) rfl, kiX6_inkOf, kcX6_inkOf, koX6_inkOf⟩
set_option maxRecDepth 100000 in
theorem vlL_71 : z_VL RL 71 6 mX6_first 0 := ⟨⟨(RX6, TX6, 19), rfl, rfl⟩, tb_in 819 (by decide +kernel) rfl, tb_in 820 (by decide +kernel) rfl, tb_in 821 (by decide +kernel) rfl, kiX6_first, kcX6_first, koX6_first⟩
set_option maxRecDepth 100000 in
theorem vlX6_138 : z_VL RX6 138 6 mX6_firsts 1 := ⟨⟨(RX6, TX6, 19), rfl, rfl⟩, tb_in 823 (by decide +kernel) rfl, tb_in 825 (by decide +kernel) rfl, tb_in 42 (by decide +kernel) rfl, kiX6_firsts, kcX6_firsts, koX6_firsts⟩
set_option maxRecDepth 100000 in
theorem slX6_134 : z_SL RX6 134 mX6_of 2 := ⟨Or.inl (tb_in 827 (by decide +kernel) rfl), tb_in 828 (by decide +kernel) rfl, kiX6_of, kcX6_of, koX6_of⟩
set_option maxRecDepth 100000 in
theorem vlL_75 : z_VL RL 75 6 mX6_sure 1 := ⟨⟨(RX6, TX6, 19), rfl, rfl⟩, tb_in 830 (by decide +kernel) rfl, tb_in 831 (by decide +kernel) rfl, tb_in 832 (by decide +kernel) rfl, kiX6_sure, kcX6_sure, koX6_sure⟩
set_option maxRecDepth 100000 in
theorem vlX6_141 : z_VL RX6 141 6 mX6_isThere 1 := ⟨⟨(RX6, TX6, 19), rfl, rfl⟩, tb_in 834 (by decide +kernel) rfl, tb_in 836 (by decide +kernel) rfl, tb_in 43 (by decide +kernel) rfl, kiX6_isThere, kcX6_isThere, koX6_isThere⟩
set_option maxRecDepth 100000 in
theorem slX6_144 : z_SL RX6 144 mX6_placeIn 3 := ⟨Or.inl (tb_in 838 (by decide +kernel) rfl), tb_in 839 (by decide +kernel) rfl, kiX6_placeIn, kcX6_placeIn, koX6_placeIn⟩
set_option maxRecDepth 100000 in
theorem vlL_79 : z_VL RL 79 6 mX6_chance 2 := ⟨⟨(RX6, TX6, 19), rfl, rfl⟩, tb_in 841 (by decide +kernel) rfl, tb_in 842 (by decide +kernel) rfl, tb_in 843 (by decide +kernel) rfl, kiX6_chance, kcX6_chance, koX6_chance⟩
set_option maxRecDepth 100000 in
theorem vlX6_148 : z_VL RX6 148 6 mX6_leads 1 := ⟨⟨(RX6, TX6, 19), rfl, rfl⟩, tb_in 845 (by decide +kernel) rfl, tb_in 847 (by decide +kernel) rfl, tb_in 44 (by decide +kernel) rfl, kiX6_leads, kcX6_leads, koX6_leads⟩
set_option maxRecDepth 100000 in
theorem slX6_151 : z_SL RX6 151 mX6_common 2 := ⟨Or.inl (tb_in 849 (by decide +kernel) rfl), tb_in 850 (by decide +kernel) rfl, kiX6_common, kcX6_common, koX6_common⟩
set_option maxRecDepth 100000 in
theorem vlL_83 : z_VL RL 83 6 mX6_ask 0 := ⟨⟨(RX6, TX6, 19), rfl, rfl⟩, tb_in 852 (by decide +kernel) rfl, tb_in 853 (by decide +kernel) rfl, tb_in 854 (by decide +kernel) rfl, kiX6_ask, kcX6_ask, koX6_ask⟩
set_option maxRecDepth 100000 in
theorem vlX6_154 : z_VL RX6 154 6 mX6_isKnown 2 := ⟨⟨(RX6, TX6, 19), rfl, rfl⟩, tb_in 856 (by decide +kernel) rfl, tb_in 858 (by decide +kernel) rfl, tb_in 45 (by decide +kernel) rfl, kiX6_isKnown, kcX6_isKnown, koX6_isKnown⟩
set_option maxRecDepth 100000 in
theorem vlL_87 : z_VL RL 87 6 mX6_hang 0 := ⟨⟨(RX6, TX6, 19), rfl, rfl⟩, tb_in 860 (by decide +kernel) rfl, tb_in 861 (by decide +kernel) rfl, tb_in 862 (by decide +kernel) rfl, kiX6_hang, kcX6_hang, koX6_hang⟩
set_option maxRecDepth 100000 in
theorem vlL_91 : z_VL RL 91 6 mX6_shift 1 := ⟨⟨(RX6, TX6, 19), rfl, rfl⟩, tb_in 864 (by decide +kernel) rfl, tb_in 865 (by decide +kernel) rfl, tb_in 866 (by decide +kernel) rfl, kiX6_shift, kcX6_shift, koX6_shift⟩
set_option maxRecDepth 100000 in
theorem vlL_96 : z_VL RL 96 6 mX6_odds 3 := ⟨⟨(RX6, TX6, 19), rfl, rfl⟩, tb_in 868 (by decide +kernel) rfl, tb_in 869 (by decide +kernel) rfl, tb_in 870 (by decide +kernel) rfl, kiX6_odds, kcX6_odds, koX6_odds⟩
set_option maxRecDepth 100000 in
theorem vlL_100 : z_VL RL 100 6 mX6_bold 1 := ⟨⟨(RX6, TX6, 19), rfl, rfl⟩, tb_in 872 (by decide +kernel) rfl, tb_in 873 (by decide +kernel) rfl, tb_in 874 (by decide +kernel) rfl, kiX6_bold, kcX6_bold, koX6_bold⟩
set_option maxRecDepth 100000 in
theorem vlL_104 : z_VL RL 104 6 mX6_clique 1 := ⟨⟨(RX6, TX6, 19), rfl, rfl⟩, tb_in 876 (by decide +kernel) rfl, tb_in 877 (by decide +kernel) rfl, tb_in 878 (by decide +kernel) rfl, kiX6_clique, kcX6_clique, koX6_clique⟩
set_option maxRecDepth 100000 in
theorem vlL_108 : z_VL RL 108 6 mX6_rate 2 := ⟨⟨(RX6, TX6, 19), rfl, rfl⟩, tb_in 880 (by decide +kernel) rfl, tb_in 881 (by decide +kernel) rfl, tb_in 882 (by decide +kernel) rfl, kiX6_rate, kcX6_rate, koX6_rate⟩
set_option maxRecDepth 100000 in
theorem vlL_112 : z_VL RL 112 6 mX6_keep 1 := ⟨⟨(RX6, TX6, 19), rfl, rfl⟩, tb_in 890 (by decide +kernel) rfl, tb_in 891 (by decide +kernel) rfl, tb_in 892 (by decide +kernel) rfl, kiX6_keep, kcX6_keep, koX6_keep⟩
set_option maxRecDepth 100000 in
theorem vlL_116 : z_VL RL 116 6 mX6_back 1 := ⟨⟨(RX6, TX6, 19), rfl, rfl⟩, tb_in 894 (by decide +kernel) rfl, tb_in 895 (by decide +kernel) rfl, tb_in 896 (by decide +kernel) rfl, kiX6_back, kcX6_back, koX6_back⟩
set_option maxRecDepth 100000 in
theorem vlL_120 : z_VL RL 120 6 mX6_count 1 := ⟨⟨(RX6, TX6, 19), rfl, rfl⟩, tb_in 898 (by decide +kernel) rfl, tb_in 899 (by decide +kernel) rfl, tb_in 900 (by decide +kernel) rfl, kiX6_count, kcX6_count, koX6_count⟩
set_option maxRecDepth 100000 in
theorem vlL_125 : z_VL RL 125 6 mX6_trace 0 := ⟨⟨(RX6, TX6, 19), rfl, rfl⟩, tb_in 902 (by decide +kernel) rfl, tb_in 903 (by decide +kernel) rfl, tb_in 904 (by decide +kernel) rfl, kiX6_trace, kcX6_trace, koX6_trace⟩
set_option maxRecDepth 100000 in
theorem nlL_7 : z_NL RL 7 5 [.inr none, .inr none, .inr none, .inr none, .inr none, .inr none, .inr none, .inl 0, .inr none, .inl 1] 10 := ⟨(RX5, TX5, 10), rfl, rfl, rfl, tb_in 57 (by decide +kernel) rfl, tb_in 58 (by decide +kernel) rfl, tb_in 47 (by decide +kernel) rfl, rfl, by decide +kernel⟩
set_option maxRecDepth 100000 in
theorem klL_7 : Cond.classLink RL 7 RX5 ∈ tb := tb_in 57 (by decide +kernel) rfl
set_option maxRecDepth 100000 in
theorem nlX5_7 : z_NL RX5 7 4 [.inr none, .inl 0, .inl 0, .inl 0, .inl 0, .inl 0] 6 := ⟨(RX4, TX4, 6), rfl, rfl, rfl, tb_in 65 (by decide +kernel) rfl, tb_in 66 (by decide +kernel) rfl, tb_in 48 (by decide +kernel) rfl, rfl, by decide +kernel⟩
set_option maxRecDepth 100000 in
theorem klX5_7 : Cond.classLink RX5 7 RX4 ∈ tb := tb_in 65 (by decide +kernel) rfl
set_option maxRecDepth 100000 in
theorem nlX5_16 : z_NL RX5 16 0 [.inr none, .inr none, .inr none, .inl 0, .inl 0, .inl 0] 6 := ⟨(RX0, TX0, 6), rfl, rfl, rfl, tb_in 92 (by decide +kernel) rfl, tb_in 93 (by decide +kernel) rfl, tb_in 49 (by decide +kernel) rfl, rfl, by decide +kernel⟩
set_option maxRecDepth 100000 in
theorem klX5_16 : Cond.classLink RX5 16 RX0 ∈ tb := tb_in 92 (by decide +kernel) rfl
set_option maxRecDepth 100000 in
theorem nlX5_26 : z_NL RX5 26 1 [.inr none, .inr none, .inl 0, .inl 0] 4 := ⟨(RX1, TX1, 4), rfl, rfl, rfl, tb_in 125 (by decide +kernel) rfl, tb_in 126 (by decide +kernel) rfl, tb_in 50 (by decide +kernel) rfl, rfl, by decide +kernel⟩
set_option maxRecDepth 100000 in
theorem klX5_26 : Cond.classLink RX5 26 RX1 ∈ tb := tb_in 125 (by decide +kernel) rfl
set_option maxRecDepth 100000 in
theorem nlX5_33 : z_NL RX5 33 3 [.inr none, .inl 0, .inl 0] 3 := ⟨(RX3, TX3, 3), rfl, rfl, rfl, tb_in 154 (by decide +kernel) rfl, tb_in 155 (by decide +kernel) rfl, tb_in 52 (by decide +kernel) rfl, rfl, by decide +kernel⟩
set_option maxRecDepth 100000 in
theorem klX5_33 : Cond.classLink RX5 33 RX3 ∈ tb := tb_in 154 (by decide +kernel) rfl
set_option maxRecDepth 100000 in
theorem nlX3_9 : z_NL RX3 9 1 [.inr none, .inr none, .inl 0, .inl 0] 4 := ⟨(RX1, TX1, 4), rfl, rfl, rfl, tb_in 160 (by decide +kernel) rfl, tb_in 126 (by decide +kernel) rfl, tb_in 50 (by decide +kernel) rfl, rfl, by decide +kernel⟩
set_option maxRecDepth 100000 in
theorem klX3_9 : Cond.classLink RX3 9 RX1 ∈ tb := tb_in 160 (by decide +kernel) rfl
set_option maxRecDepth 100000 in
theorem nlX5_46 : z_NL RX5 46 2 [.inr none, .inr none, .inr none, .inl 0, .inl 0, .inl 0] 6 := ⟨(RX2, TX2, 6), rfl, rfl, rfl, tb_in 174 (by decide +kernel) rfl, tb_in 175 (by decide +kernel) rfl, tb_in 53 (by decide +kernel) rfl, rfl, by decide +kernel⟩
set_option maxRecDepth 100000 in
theorem klX5_46 : Cond.classLink RX5 46 RX2 ∈ tb := tb_in 174 (by decide +kernel) rfl
set_option maxRecDepth 100000 in
theorem kkJ6_265 : Cond.constant RJ6 265 (1431655765) ∈ tb := tb_in 355 (by decide +kernel) rfl
set_option maxRecDepth 100000 in
theorem kkJ6_266 : Cond.constant RJ6 266 (858993459) ∈ tb := tb_in 356 (by decide +kernel) rfl
set_option maxRecDepth 100000 in
theorem kkJ6_267 : Cond.constant RJ6 267 (252645135) ∈ tb := tb_in 357 (by decide +kernel) rfl
set_option maxRecDepth 100000 in
theorem kkX2_46 : Cond.constant RX2 46 (14680064) ∈ tb := tb_in 447 (by decide +kernel) rfl
set_option maxRecDepth 100000 in
theorem kkX5_200 : Cond.constant RX5 200 (-1000000) ∈ tb := tb_in 568 (by decide +kernel) rfl
set_option maxRecDepth 100000 in
theorem kkX5_241 : Cond.constantLong RX5 241 (10) ∈ tb := tb_in 577 (by decide +kernel) rfl
set_option maxRecDepth 100000 in
theorem kkX5_246 : Cond.constantLong RX5 246 (100) ∈ tb := tb_in 587 (by decide +kernel) rfl
set_option maxRecDepth 100000 in
theorem kkX5_248 : Cond.constantLong RX5 248 (1000) ∈ tb := tb_in 592 (by decide +kernel) rfl
set_option maxRecDepth 100000 in
theorem kkX5_250 : Cond.constantLong RX5 250 (10000) ∈ tb := tb_in 597 (by decide +kernel) rfl
set_option maxRecDepth 100000 in
theorem kkX5_252 : Cond.constantLong RX5 252 (100000) ∈ tb := tb_in 602 (by decide +kernel) rfl
set_option maxRecDepth 100000 in
theorem nlL_10 : z_NL RL 10 6 [.inl 1, .inr none, .inl 0, .inr none, .inr none, .inr none, .inr none, .inl 0, .inr none, .inr none, .inl 0, .inl 0, .inl 0, .inl 0, .inr none, .inl 0, .inr none, .inr none, .inr none] 19 := ⟨(RX6, TX6, 19), rfl, rfl, rfl, tb_in 624 (by decide +kernel) rfl, tb_in 625 (by decide +kernel) rfl, tb_in 54 (by decide +kernel) rfl, rfl, by decide +kernel⟩
set_option maxRecDepth 100000 in
theorem klL_10 : Cond.classLink RL 10 RX6 ∈ tb := tb_in 624 (by decide +kernel) rfl
set_option maxRecDepth 100000 in
theorem kkX6_41 : Cond.constant RX6 41 (32768) ∈ tb := tb_in 630 (by decide +kernel) rfl
set_option maxRecDepth 100000 in
theorem kkX6_157 : Cond.constant RX6 157 (-1000000) ∈ tb := tb_in 884 (by decide +kernel) rfl
set_option maxRecDepth 100000 in
theorem kkX6_162 : Cond.constantLong RX6 162 (11) ∈ tb := tb_in 885 (by decide +kernel) rfl
set_option maxRecDepth 100000 in
theorem kkX6_164 : Cond.constantLong RX6 164 (101) ∈ tb := tb_in 886 (by decide +kernel) rfl
set_option maxRecDepth 100000 in
theorem kkX6_166 : Cond.constantLong RX6 166 (1011) ∈ tb := tb_in 887 (by decide +kernel) rfl
set_option maxRecDepth 100000 in
theorem kkX6_168 : Cond.constantLong RX6 168 (10101) ∈ tb := tb_in 888 (by decide +kernel) rfl
set_option maxRecDepth 100000 in
theorem kkX6_170 : Cond.constantLong RX6 170 (100001) ∈ tb := tb_in 889 (by decide +kernel) rfl
set_option maxRecDepth 100000 in
theorem ka_int : Cond.arrayClass .int ∈ tb := tb_in 91 (by decide +kernel) rfl
set_option maxRecDepth 100000 in
theorem ka_boolean : Cond.arrayClass .boolean ∈ tb := tb_in 723 (by decide +kernel) rfl
