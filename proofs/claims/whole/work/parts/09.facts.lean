theorem clX0 : g_cls 0 RX0 TX0 3 tyX0 := ⟨rfl, (by decide +kernel), tyX0_ok, nmX0⟩
theorem clX1 : g_cls 1 RX1 TX1 7 tyX1 := ⟨rfl, (by decide +kernel), tyX1_ok, nmX1⟩
theorem clX2 : g_cls 2 RX2 TX2 2 tyX2 := ⟨rfl, (by decide +kernel), tyX2_ok, nmX2⟩
theorem clX3 : g_cls 3 RX3 TX3 4 tyX3 := ⟨rfl, (by decide +kernel), tyX3_ok, nmX3⟩
theorem clX4 : g_cls 4 RX4 TX4 6 tyX4 := ⟨rfl, (by decide +kernel), tyX4_ok, nmX4⟩
theorem clX5 : g_cls 5 RX5 TX5 6 tyX5 := ⟨rfl, (by decide +kernel), tyX5_ok, nmX5⟩
theorem clX6 : g_cls 6 RX6 TX6 4 tyX6 := ⟨rfl, (by decide +kernel), tyX6_ok, nmX6⟩
theorem clX7 : g_cls 7 RX7 TX7 13 tyX7 := ⟨rfl, (by decide +kernel), tyX7_ok, nmX7⟩
theorem clX8 : g_cls 8 RX8 TX8 5 tyX8 := ⟨rfl, (by decide +kernel), tyX8_ok, nmX8⟩
theorem clX9 : g_cls 9 RX9 TX9 2 tyX9 := ⟨rfl, (by decide +kernel), tyX9_ok, nmX9⟩
theorem clX10 : g_cls 10 RX10 TX10 11 tyX10 := ⟨rfl, (by decide +kernel), tyX10_ok, nmX10⟩
theorem clX11 : g_cls 11 RX11 TX11 45 tyX11 := ⟨rfl, (by decide +kernel), tyX11_ok, nmX11⟩
abbrev mX0_init : gM := (yX0_init, cX0_init, 1, none, [])
abbrev mX0_empty : gM := (yX0_empty, cX0_empty, 1, none, [])
abbrev mX0_addCoins : gM := (yX0_addCoins, cX0_addCoins, 4, (some .int), [])
abbrev mX0_take : gM := (yX0_take, cX0_take, 4, (some .int), [])
abbrev mX1_init : gM := (yX1_init, cX1_init, 1, none, [])
abbrev mX1_empty : gM := (yX1_empty, cX1_empty, 2, none, [])
abbrev mX1_addBlank : gM := (yX1_addBlank, cX1_addBlank, 1, none, [])
abbrev mX1_addDraw : gM := (yX1_addDraw, cX1_addDraw, 3, (some .int), [])
abbrev mX1_seeLast : gM := (yX1_seeLast, cX1_seeLast, 3, (some .int), [])
abbrev mX1_lastNew : gM := (yX1_lastNew, cX1_lastNew, 1, (some .int), [])
abbrev mX1_countFor : gM := (yX1_countFor, cX1_countFor, 3, (some .int), [])
abbrev mX1_placeOf : gM := (yX1_placeOf, cX1_placeOf, 3, (some .int), [])
abbrev mX1_ballotAt : gM := (yX1_ballotAt, cX1_ballotAt, 2, (some .int), [])
abbrev mX1_seen : gM := (yX1_seen, cX1_seen, 2, (some .int), [])
abbrev mX1_times : gM := (yX1_times, cX1_times, 2, (some .int), [])
abbrev mX1_isPlace : gM := (yX1_isPlace, cX1_isPlace, 2, (some .boolean), [])
abbrev mX2_init : gM := (yX2_init, cX2_init, 2, none, [])
abbrev mX2_become : gM := (yX2_become, cX2_become, 5, none, [])
abbrev mX2_becomeWhole : gM := (yX2_becomeWhole, cX2_becomeWhole, 2, none, [])
abbrev mX2_becomeCopyOf : gM := (yX2_becomeCopyOf, cX2_becomeCopyOf, 2, none, [])
abbrev mX2_times : gM := (yX2_times, cX2_times, 15, none, [])
abbrev mX2_compareWith : gM := (yX2_compareWith, cX2_compareWith, 3, (some .int), [])
abbrev mX2_commonDivisor : gM := (yX2_commonDivisor, cX2_commonDivisor, 11, (some .long), [])
abbrev mX3_init : gM := (yX3_init, cX3_init, 1, none, [])
abbrev mX3_empty : gM := (yX3_empty, cX3_empty, 2, none, [])
abbrev mX3_tell : gM := (yX3_tell, cX3_tell, 3, none, [])
abbrev mX3_votesOf : gM := (yX3_votesOf, cX3_votesOf, 2, (some .int), [])
abbrev mX4_init : gM := (yX4_init, cX4_init, 1, none, [])
abbrev mX4_findLeast : gM := (yX4_findLeast, cX4_findLeast, 7, none, [])
abbrev mX4_weigh : gM := (yX4_weigh, cX4_weigh, 8, none, [])
abbrev mX4_growRows : gM := (yX4_growRows, cX4_growRows, 6, none, [])
abbrev mX4_multiplyTerm : gM := (yX4_multiplyTerm, cX4_multiplyTerm, 4, none, [])
abbrev mX5_init : gM := (yX5_init, cX5_init, 1, none, [])
abbrev mX5_begin : gM := (yX5_begin, cX5_begin, 4, none, [])
abbrev mX5_bothVotes : gM := (yX5_bothVotes, cX5_bothVotes, 1, (some .int), [])
abbrev mX5_margin : gM := (yX5_margin, cX5_margin, 1, (some .int), [])
abbrev mX5_step : gM := (yX5_step, cX5_step, 3, none, [])
abbrev mX5_overstated : gM := (yX5_overstated, cX5_overstated, 3, (some .int), [])
abbrev mX5_lead : gM := (yX5_lead, cX5_lead, 2, (some .int), [])
abbrev mX6_init : gM := (yX6_init, cX6_init, 1, none, [])
abbrev mX6_addDigit : gM := (yX6_addDigit, cX6_addDigit, 2, (some .int), [])
abbrev mX6_ballotOfDraw : gM := (yX6_ballotOfDraw, cX6_ballotOfDraw, 6, (some .int), [])
abbrev mX6_byteOfHash : gM := (yX6_byteOfHash, cX6_byteOfHash, 2, (some .int), [])
abbrev mX6_hashWith : gM := (yX6_hashWith, cX6_hashWith, 4, none, [])
abbrev mX6_shiftOf : gM := (yX6_shiftOf, cX6_shiftOf, 1, (some .int), [])
abbrev mX6_putByte : gM := (yX6_putByte, cX6_putByte, 3, (some .int), [])
abbrev mX6_turn : gM := (yX6_turn, cX6_turn, 2, (some .int), [])
abbrev mX6_spreadWords : gM := (yX6_spreadWords, cX6_spreadWords, 6, none, [])
abbrev mX6_mixWords : gM := (yX6_mixWords, cX6_mixWords, 12, none, [])
abbrev mX7_init : gM := (yX7_init, cX7_init, 1, none, [])
abbrev mX7_addCandidate : gM := (yX7_addCandidate, cX7_addCandidate, 2, (some .int), [])
abbrev mX7_addBatch : gM := (yX7_addBatch, cX7_addBatch, 3, (some .int), [])
abbrev mX7_readAs : gM := (yX7_readAs, cX7_readAs, 6, none, [])
abbrev mX7_readOf : gM := (yX7_readOf, cX7_readOf, 2, (some .int), [])
abbrev mX7_batchOf : gM := (yX7_batchOf, cX7_batchOf, 3, (some .int), [])
abbrev mX7_coinsADraw : gM := (yX7_coinsADraw, cX7_coinsADraw, 2, (some .int), [])
abbrev mX7_isFit : gM := (yX7_isFit, cX7_isFit, 3, (some .boolean), [])
abbrev mX7_markWinners : gM := (yX7_markWinners, cX7_markWinners, 2, none, [])
abbrev mX7_isAmongTheMost : gM := (yX7_isAmongTheMost, cX7_isAmongTheMost, 4, (some .boolean), [])
abbrev mX8_init : gM := (yX8_init, cX8_init, 2, none, [])
abbrev mX8_end : gM := (yX8_end, cX8_end, 1, none, [])
abbrev mX8_begin : gM := (yX8_begin, cX8_begin, 4, none, [])
abbrev mX8_poll : gM := (yX8_poll, cX8_poll, 6, (some .boolean), [])
abbrev mX8_compare : gM := (yX8_compare, cX8_compare, 13, (some .boolean), [])
abbrev mX8_mostOverstated : gM := (yX8_mostOverstated, cX8_mostOverstated, 10, (some (.object "PollAudit$Pair")), [])
abbrev mX8_agreeWith : gM := (yX8_agreeWith, cX8_agreeWith, 3, (some .boolean), [])
abbrev mX9_init : gM := (yX9_init, cX9_init, 2, none, [])
abbrev mX9_become : gM := (yX9_become, cX9_become, 3, none, [])
abbrev mX9_becomeCopyOf : gM := (yX9_becomeCopyOf, cX9_becomeCopyOf, 3, none, [])
abbrev mX9_add : gM := (yX9_add, cX9_add, 8, none, [])
abbrev mX9_multiplyBy : gM := (yX9_multiplyBy, cX9_multiplyBy, 10, none, [])
abbrev mX9_divideBy : gM := (yX9_divideBy, cX9_divideBy, 10, none, [])
abbrev mX9_remainderBy : gM := (yX9_remainderBy, cX9_remainderBy, 8, (some .long), [])
abbrev mX9_compareProducts : gM := (yX9_compareProducts, cX9_compareProducts, 9, (some .int), [])
abbrev mX9_limbOrZero : gM := (yX9_limbOrZero, cX9_limbOrZero, 2, (some .long), [])
abbrev mX9_append : gM := (yX9_append, cX9_append, 5, none, [])
abbrev mX10_init : gM := (yX10_init, cX10_init, 1, none, [])
abbrev mX10_candidate : gM := (yX10_candidate, cX10_candidate, 2, (some .int), [])
abbrev mX10_batch : gM := (yX10_batch, cX10_batch, 2, (some .int), [])
abbrev mX10_set : gM := (yX10_set, cX10_set, 4, (some .int), [])
abbrev mX10_fraction : gM := (yX10_fraction, cX10_fraction, 4, none, [])
abbrev mX10_record : gM := (yX10_record, cX10_record, 4, none, [])
abbrev mX10_digit : gM := (yX10_digit, cX10_digit, 2, (some .int), [])
abbrev mX10_coins : gM := (yX10_coins, cX10_coins, 3, (some .int), [])
abbrev mX10_start : gM := (yX10_start, cX10_start, 3, none, [])
abbrev mX10_draw : gM := (yX10_draw, cX10_draw, 3, (some .int), [])
abbrev mX10_see : gM := (yX10_see, cX10_see, 2, (some .int), [])
abbrev mX10_counted : gM := (yX10_counted, cX10_counted, 3, (some .int), [])
abbrev mX10_again : gM := (yX10_again, cX10_again, 1, none, [])
abbrev mX10_told : gM := (yX10_told, cX10_told, 3, (some .int), [])
abbrev mX10_of : gM := (yX10_of, cX10_of, 3, (some .int), [])
abbrev mX10_pair : gM := (yX10_pair, cX10_pair, 4, (some .int), [])
abbrev mX10_ballot : gM := (yX10_ballot, cX10_ballot, 3, (some .int), [])
abbrev mX10_digest : gM := (yX10_digest, cX10_digest, 3, (some .int), [])
abbrev mX10_risk : gM := (yX10_risk, cX10_risk, 7, (some .int), [])
abbrev mX10_show : gM := (yX10_show, cX10_show, 3, (some .boolean), [])
abbrev mX10_size : gM := (yX10_size, cX10_size, 2, (some .int), [])
abbrev mX10_limb : gM := (yX10_limb, cX10_limb, 4, (some .int), [])
abbrev mX10_needIndex : gM := (yX10_needIndex, cX10_needIndex, 2, none, [])
abbrev mX10_needNumber : gM := (yX10_needNumber, cX10_needNumber, 3, none, [])
abbrev mX10_needCandidateOrNone : gM := (yX10_needCandidateOrNone, cX10_needCandidateOrNone, 2, none, [])
abbrev mX10_needStage : gM := (yX10_needStage, cX10_needStage, 2, none, [])
abbrev mX10_needNotSetting : gM := (yX10_needNotSetting, cX10_needNotSetting, 1, none, [])
abbrev mX10_shownPart : gM := (yX10_shownPart, cX10_shownPart, 2, (some (.object "PollAudit$Whole")), [])
abbrev mX10_coinDraw : gM := (yX10_coinDraw, cX10_coinDraw, 3, (some .int), [])
abbrev mX10_countDraw : gM := (yX10_countDraw, cX10_countDraw, 5, none, [])
abbrev mX11_thrown : gM := (yX11_thrown, cX11_thrown, 1, (some .int), [])
abbrev mX11_init : gM := (yX11_init, cX11_init, 1, none, [])
abbrev mX11_trim : gM := (yX11_trim, cX11_trim, 2, none, [])
abbrev mX11_give : gM := (yX11_give, cX11_give, 6, none, [])
abbrev mX11_copy : gM := (yX11_copy, cX11_copy, 4, none, [])
abbrev mX11_times : gM := (yX11_times, cX11_times, 7, none, [])
abbrev mX11_power : gM := (yX11_power, cX11_power, 6, none, [])
abbrev mX11_compare : gM := (yX11_compare, cX11_compare, 6, (some .int), [])
abbrev mX11_add : gM := (yX11_add, cX11_add, 7, none, [])
abbrev mX11_less : gM := (yX11_less, cX11_less, 6, none, [])
abbrev mX11_halve : gM := (yX11_halve, cX11_halve, 7, (some .int), [])
abbrev mX11_twice : gM := (yX11_twice, cX11_twice, 4, none, [])
abbrev mX11_common : gM := (yX11_common, cX11_common, 5, none, [])
abbrev mX11_divide : gM := (yX11_divide, cX11_divide, 20, none, [])
abbrev mX11_lowest : gM := (yX11_lowest, cX11_lowest, 1, none, [])
abbrev mX11_turned : gM := (yX11_turned, cX11_turned, 3, (some .int), [])
abbrev mX11_digestOf : gM := (yX11_digestOf, cX11_digestOf, 7, none, [])
abbrev mX11_round : gM := (yX11_round, cX11_round, 7, none, [])
abbrev mX11_candidate : gM := (yX11_candidate, cX11_candidate, 2, (some .int), [])
abbrev mX11_batch : gM := (yX11_batch, cX11_batch, 3, (some .int), [])
abbrev mX11_set : gM := (yX11_set, cX11_set, 4, (some .int), [])
abbrev mX11_fraction : gM := (yX11_fraction, cX11_fraction, 5, none, [])
abbrev mX11_isVote : gM := (yX11_isVote, cX11_isVote, 2, (some .boolean), [])
abbrev mX11_record : gM := (yX11_record, cX11_record, 5, none, [])
abbrev mX11_digit : gM := (yX11_digit, cX11_digit, 2, (some .int), [])
abbrev mX11_coins : gM := (yX11_coins, cX11_coins, 4, (some .int), [])
abbrev mX11_choose : gM := (yX11_choose, cX11_choose, 5, (some .boolean), [])
abbrev mX11_pairUp : gM := (yX11_pairUp, cX11_pairUp, 3, none, [])
abbrev mX11_coinsADraw : gM := (yX11_coinsADraw, cX11_coinsADraw, 2, (some .int), [])
abbrev mX11_start : gM := (yX11_start, cX11_start, 5, none, [])
abbrev mX11_margin : gM := (yX11_margin, cX11_margin, 4, (some .int), [])
abbrev mX11_ratio : gM := (yX11_ratio, cX11_ratio, 6, none, [])
abbrev mX11_isFor : gM := (yX11_isFor, cX11_isFor, 3, (some .int), [])
abbrev mX11_factor : gM := (yX11_factor, cX11_factor, 10, none, [])
abbrev mX11_count : gM := (yX11_count, cX11_count, 5, none, [])
abbrev mX11_number : gM := (yX11_number, cX11_number, 4, (some .int), [])
abbrev mX11_draw : gM := (yX11_draw, cX11_draw, 2, (some .int), [])
abbrev mX11_see : gM := (yX11_see, cX11_see, 3, (some .int), [])
abbrev mX11_counted : gM := (yX11_counted, cX11_counted, 5, (some .int), [])
abbrev mX11_again : gM := (yX11_again, cX11_again, 2, none, [])
abbrev mX11_told : gM := (yX11_told, cX11_told, 4, (some .int), [])
abbrev mX11_of : gM := (yX11_of, cX11_of, 3, (some .int), [])
abbrev mX11_pair : gM := (yX11_pair, cX11_pair, 3, (some .int), [])
abbrev mX11_ballot : gM := (yX11_ballot, cX11_ballot, 4, (some .int), [])
abbrev mX11_digest : gM := (yX11_digest, cX11_digest, 3, (some .int), [])
abbrev mX11_isSure : gM := (yX11_isSure, cX11_isSure, 4, (some .boolean), [])
abbrev mX11_pass : gM := (yX11_pass, cX11_pass, 7, none, [])
abbrev mX11_goOn : gM := (yX11_goOn, cX11_goOn, 9, none, [])
abbrev mX11_risk : gM := (yX11_risk, cX11_risk, 9, (some .int), [])
abbrev mX11_show : gM := (yX11_show, cX11_show, 4, (some .boolean), [])
abbrev mX11_limbs : gM := (yX11_limbs, cX11_limbs, 2, (some .int), [])
abbrev mX11_size : gM := (yX11_size, cX11_size, 2, (some .int), [])
abbrev mX11_limb : gM := (yX11_limb, cX11_limb, 4, (some .int), [])
abbrev mJ9_max_7cf53 : gM := (yJ9_max_7cf53, cJ9_max_7cf53, 2, (some .int), [])
abbrev mJ9_min_7cf53 : gM := (yJ9_min_7cf53, cJ9_min_7cf53, 2, (some .int), [])
abbrev mL_candidate : gM := (yL_candidate, cL_candidate, 4, (some .int), [(0, 9, 12, 13), (0, 9, 15, 15), (0, 9, 18, 17)])
abbrev mL_batch : gM := (yL_batch, cL_batch, 4, (some .int), [(0, 9, 12, 13), (0, 9, 15, 15), (0, 9, 18, 17)])
abbrev mL_set : gM := (yL_set, cL_set, 5, (some .int), [(0, 10, 13, 26), (0, 10, 17, 13), (0, 10, 21, 15)])
abbrev mL_fraction : gM := (yL_fraction, cL_fraction, 5, (some .int), [(0, 7, 10, 26), (0, 7, 14, 13), (0, 7, 18, 15)])
abbrev mL_record : gM := (yL_record, cL_record, 5, (some .int), [(0, 7, 10, 26), (0, 7, 14, 15)])
abbrev mL_digit : gM := (yL_digit, cL_digit, 4, (some .int), [(0, 9, 12, 13), (0, 9, 15, 15), (0, 9, 18, 17)])
abbrev mL_coins : gM := (yL_coins, cL_coins, 5, (some .int), [(0, 10, 13, 13), (0, 10, 17, 17)])
abbrev mL_start : gM := (yL_start, cL_start, 4, (some .int), [(0, 6, 9, 15)])
abbrev mL_draw : gM := (yL_draw, cL_draw, 3, (some .int), [(0, 8, 11, 15)])
abbrev mL_see : gM := (yL_see, cL_see, 4, (some .int), [(0, 9, 12, 26), (0, 9, 15, 15)])
abbrev mL_counted : gM := (yL_counted, cL_counted, 5, (some .int), [(0, 10, 13, 26), (0, 10, 17, 13), (0, 10, 21, 15)])
abbrev mL_told : gM := (yL_told, cL_told, 4, (some .int), [(0, 9, 12, 26)])
abbrev mL_of : gM := (yL_of, cL_of, 5, (some .int), [(0, 10, 13, 26)])
abbrev mL_pair : gM := (yL_pair, cL_pair, 5, (some .int), [(0, 10, 13, 26)])
abbrev mL_ballot : gM := (yL_ballot, cL_ballot, 5, (some .int), [(0, 10, 13, 26)])
abbrev mL_digest : gM := (yL_digest, cL_digest, 5, (some .int), [(0, 10, 13, 26), (0, 10, 17, 13)])
abbrev mL_risk : gM := (yL_risk, cL_risk, 8, (some .int), [(0, 16, 19, 15), (0, 16, 23, 26), (0, 16, 27, 13)])
abbrev mL_show : gM := (yL_show, cL_show, 5, (some .int), [(0, 17, 20, 26), (0, 17, 24, 15)])
abbrev mL_size : gM := (yL_size, cL_size, 4, (some .int), [(0, 9, 12, 26)])
abbrev mL_limb : gM := (yL_limb, cL_limb, 5, (some .int), [(0, 10, 13, 26)])
theorem kX10_71 : Cond.constant RX10 71 (1000000) ∈ lw_tbl := List.mem_of_getElem? (i := 436) (by decide +kernel)
theorem kX5_40 : Cond.constantLong RX5 40 (2) ∈ lw_tbl := List.mem_of_getElem? (i := 817) (by decide +kernel)
theorem kX6_29 : Cond.constantLong RX6 29 (4294967295) ∈ lw_tbl := List.mem_of_getElem? (i := 735) (by decide +kernel)
theorem kX6_39 : Cond.constant RX6 39 (1000000000) ∈ lw_tbl := List.mem_of_getElem? (i := 719) (by decide +kernel)
theorem kX8_99 : Cond.constantLong RX8 99 (2) ∈ lw_tbl := List.mem_of_getElem? (i := 780) (by decide +kernel)
theorem kX9_36 : Cond.constantLong RX9 36 (65535) ∈ lw_tbl := List.mem_of_getElem? (i := 676) (by decide +kernel)
theorem kX9_38 : Cond.constantLong RX9 38 (2) ∈ lw_tbl := List.mem_of_getElem? (i := 675) (by decide +kernel)
theorem kX9_40 : Cond.constantLong RX9 40 (4294967295) ∈ lw_tbl := List.mem_of_getElem? (i := 808) (by decide +kernel)
theorem kX11_82 : Cond.constant RX11 82 (77000) ∈ lw_tbl := List.mem_of_getElem? (i := 1006) (by decide +kernel)
theorem kX11_89 : Cond.constant RX11 89 (1116352408) ∈ lw_tbl := List.mem_of_getElem? (i := 1007) (by decide +kernel)
theorem kX11_90 : Cond.constant RX11 90 (1899447441) ∈ lw_tbl := List.mem_of_getElem? (i := 1008) (by decide +kernel)
theorem kX11_91 : Cond.constant RX11 91 (-1245643825) ∈ lw_tbl := List.mem_of_getElem? (i := 1009) (by decide +kernel)
theorem kX11_92 : Cond.constant RX11 92 (-373957723) ∈ lw_tbl := List.mem_of_getElem? (i := 1010) (by decide +kernel)
theorem kX11_93 : Cond.constant RX11 93 (961987163) ∈ lw_tbl := List.mem_of_getElem? (i := 1011) (by decide +kernel)
theorem kX11_94 : Cond.constant RX11 94 (1508970993) ∈ lw_tbl := List.mem_of_getElem? (i := 1012) (by decide +kernel)
theorem kX11_95 : Cond.constant RX11 95 (-1841331548) ∈ lw_tbl := List.mem_of_getElem? (i := 1013) (by decide +kernel)
theorem kX11_96 : Cond.constant RX11 96 (-1424204075) ∈ lw_tbl := List.mem_of_getElem? (i := 1014) (by decide +kernel)
theorem kX11_97 : Cond.constant RX11 97 (-670586216) ∈ lw_tbl := List.mem_of_getElem? (i := 1015) (by decide +kernel)
theorem kX11_98 : Cond.constant RX11 98 (310598401) ∈ lw_tbl := List.mem_of_getElem? (i := 1016) (by decide +kernel)
theorem kX11_99 : Cond.constant RX11 99 (607225278) ∈ lw_tbl := List.mem_of_getElem? (i := 1017) (by decide +kernel)
theorem kX11_100 : Cond.constant RX11 100 (1426881987) ∈ lw_tbl := List.mem_of_getElem? (i := 1018) (by decide +kernel)
theorem kX11_101 : Cond.constant RX11 101 (1925078388) ∈ lw_tbl := List.mem_of_getElem? (i := 1019) (by decide +kernel)
theorem kX11_102 : Cond.constant RX11 102 (-2132889090) ∈ lw_tbl := List.mem_of_getElem? (i := 1020) (by decide +kernel)
theorem kX11_103 : Cond.constant RX11 103 (-1680079193) ∈ lw_tbl := List.mem_of_getElem? (i := 1021) (by decide +kernel)
theorem kX11_104 : Cond.constant RX11 104 (-1046744716) ∈ lw_tbl := List.mem_of_getElem? (i := 1022) (by decide +kernel)
theorem kX11_105 : Cond.constant RX11 105 (-459576895) ∈ lw_tbl := List.mem_of_getElem? (i := 1023) (by decide +kernel)
theorem kX11_106 : Cond.constant RX11 106 (-272742522) ∈ lw_tbl := List.mem_of_getElem? (i := 1024) (by decide +kernel)
theorem kX11_107 : Cond.constant RX11 107 (264347078) ∈ lw_tbl := List.mem_of_getElem? (i := 1025) (by decide +kernel)
theorem kX11_108 : Cond.constant RX11 108 (604807628) ∈ lw_tbl := List.mem_of_getElem? (i := 1026) (by decide +kernel)
theorem kX11_109 : Cond.constant RX11 109 (770255983) ∈ lw_tbl := List.mem_of_getElem? (i := 1027) (by decide +kernel)
theorem kX11_110 : Cond.constant RX11 110 (1249150122) ∈ lw_tbl := List.mem_of_getElem? (i := 1028) (by decide +kernel)
theorem kX11_111 : Cond.constant RX11 111 (1555081692) ∈ lw_tbl := List.mem_of_getElem? (i := 1029) (by decide +kernel)
theorem kX11_112 : Cond.constant RX11 112 (1996064986) ∈ lw_tbl := List.mem_of_getElem? (i := 1030) (by decide +kernel)
theorem kX11_113 : Cond.constant RX11 113 (-1740746414) ∈ lw_tbl := List.mem_of_getElem? (i := 1031) (by decide +kernel)
theorem kX11_114 : Cond.constant RX11 114 (-1473132947) ∈ lw_tbl := List.mem_of_getElem? (i := 1032) (by decide +kernel)
theorem kX11_115 : Cond.constant RX11 115 (-1341970488) ∈ lw_tbl := List.mem_of_getElem? (i := 1033) (by decide +kernel)
theorem kX11_116 : Cond.constant RX11 116 (-1084653625) ∈ lw_tbl := List.mem_of_getElem? (i := 1034) (by decide +kernel)
theorem kX11_117 : Cond.constant RX11 117 (-958395405) ∈ lw_tbl := List.mem_of_getElem? (i := 1035) (by decide +kernel)
theorem kX11_118 : Cond.constant RX11 118 (-710438585) ∈ lw_tbl := List.mem_of_getElem? (i := 1036) (by decide +kernel)
theorem kX11_119 : Cond.constant RX11 119 (113926993) ∈ lw_tbl := List.mem_of_getElem? (i := 1037) (by decide +kernel)
theorem kX11_120 : Cond.constant RX11 120 (338241895) ∈ lw_tbl := List.mem_of_getElem? (i := 1038) (by decide +kernel)
theorem kX11_121 : Cond.constant RX11 121 (666307205) ∈ lw_tbl := List.mem_of_getElem? (i := 1039) (by decide +kernel)
theorem kX11_122 : Cond.constant RX11 122 (773529912) ∈ lw_tbl := List.mem_of_getElem? (i := 1040) (by decide +kernel)
theorem kX11_123 : Cond.constant RX11 123 (1294757372) ∈ lw_tbl := List.mem_of_getElem? (i := 1041) (by decide +kernel)
theorem kX11_124 : Cond.constant RX11 124 (1396182291) ∈ lw_tbl := List.mem_of_getElem? (i := 1042) (by decide +kernel)
theorem kX11_125 : Cond.constant RX11 125 (1695183700) ∈ lw_tbl := List.mem_of_getElem? (i := 1043) (by decide +kernel)
theorem kX11_126 : Cond.constant RX11 126 (1986661051) ∈ lw_tbl := List.mem_of_getElem? (i := 1044) (by decide +kernel)
theorem kX11_127 : Cond.constant RX11 127 (-2117940946) ∈ lw_tbl := List.mem_of_getElem? (i := 1045) (by decide +kernel)
theorem kX11_128 : Cond.constant RX11 128 (-1838011259) ∈ lw_tbl := List.mem_of_getElem? (i := 1046) (by decide +kernel)
theorem kX11_129 : Cond.constant RX11 129 (-1564481375) ∈ lw_tbl := List.mem_of_getElem? (i := 1047) (by decide +kernel)
theorem kX11_130 : Cond.constant RX11 130 (-1474664885) ∈ lw_tbl := List.mem_of_getElem? (i := 1048) (by decide +kernel)
theorem kX11_131 : Cond.constant RX11 131 (-1035236496) ∈ lw_tbl := List.mem_of_getElem? (i := 1049) (by decide +kernel)
theorem kX11_132 : Cond.constant RX11 132 (-949202525) ∈ lw_tbl := List.mem_of_getElem? (i := 1050) (by decide +kernel)
theorem kX11_133 : Cond.constant RX11 133 (-778901479) ∈ lw_tbl := List.mem_of_getElem? (i := 1051) (by decide +kernel)
theorem kX11_134 : Cond.constant RX11 134 (-694614492) ∈ lw_tbl := List.mem_of_getElem? (i := 1052) (by decide +kernel)
theorem kX11_135 : Cond.constant RX11 135 (-200395387) ∈ lw_tbl := List.mem_of_getElem? (i := 1053) (by decide +kernel)
theorem kX11_136 : Cond.constant RX11 136 (275423344) ∈ lw_tbl := List.mem_of_getElem? (i := 1054) (by decide +kernel)
theorem kX11_137 : Cond.constant RX11 137 (430227734) ∈ lw_tbl := List.mem_of_getElem? (i := 1055) (by decide +kernel)
theorem kX11_138 : Cond.constant RX11 138 (506948616) ∈ lw_tbl := List.mem_of_getElem? (i := 1056) (by decide +kernel)
theorem kX11_139 : Cond.constant RX11 139 (659060556) ∈ lw_tbl := List.mem_of_getElem? (i := 1057) (by decide +kernel)
theorem kX11_140 : Cond.constant RX11 140 (883997877) ∈ lw_tbl := List.mem_of_getElem? (i := 1058) (by decide +kernel)
theorem kX11_141 : Cond.constant RX11 141 (958139571) ∈ lw_tbl := List.mem_of_getElem? (i := 1059) (by decide +kernel)
theorem kX11_142 : Cond.constant RX11 142 (1322822218) ∈ lw_tbl := List.mem_of_getElem? (i := 1060) (by decide +kernel)
theorem kX11_143 : Cond.constant RX11 143 (1537002063) ∈ lw_tbl := List.mem_of_getElem? (i := 1061) (by decide +kernel)
theorem kX11_144 : Cond.constant RX11 144 (1747873779) ∈ lw_tbl := List.mem_of_getElem? (i := 1062) (by decide +kernel)
theorem kX11_145 : Cond.constant RX11 145 (1955562222) ∈ lw_tbl := List.mem_of_getElem? (i := 1063) (by decide +kernel)
theorem kX11_146 : Cond.constant RX11 146 (2024104815) ∈ lw_tbl := List.mem_of_getElem? (i := 1064) (by decide +kernel)
theorem kX11_147 : Cond.constant RX11 147 (-2067236844) ∈ lw_tbl := List.mem_of_getElem? (i := 1065) (by decide +kernel)
theorem kX11_148 : Cond.constant RX11 148 (-1933114872) ∈ lw_tbl := List.mem_of_getElem? (i := 1066) (by decide +kernel)
theorem kX11_149 : Cond.constant RX11 149 (-1866530822) ∈ lw_tbl := List.mem_of_getElem? (i := 1067) (by decide +kernel)
theorem kX11_150 : Cond.constant RX11 150 (-1538233109) ∈ lw_tbl := List.mem_of_getElem? (i := 1068) (by decide +kernel)
theorem kX11_151 : Cond.constant RX11 151 (-1090935817) ∈ lw_tbl := List.mem_of_getElem? (i := 1069) (by decide +kernel)
theorem kX11_152 : Cond.constant RX11 152 (-965641998) ∈ lw_tbl := List.mem_of_getElem? (i := 1070) (by decide +kernel)
theorem kX11_156 : Cond.constant RX11 156 (1779033703) ∈ lw_tbl := List.mem_of_getElem? (i := 1071) (by decide +kernel)
theorem kX11_157 : Cond.constant RX11 157 (-1150833019) ∈ lw_tbl := List.mem_of_getElem? (i := 1072) (by decide +kernel)
theorem kX11_158 : Cond.constant RX11 158 (1013904242) ∈ lw_tbl := List.mem_of_getElem? (i := 1073) (by decide +kernel)
theorem kX11_159 : Cond.constant RX11 159 (-1521486534) ∈ lw_tbl := List.mem_of_getElem? (i := 1074) (by decide +kernel)
theorem kX11_160 : Cond.constant RX11 160 (1359893119) ∈ lw_tbl := List.mem_of_getElem? (i := 1075) (by decide +kernel)
theorem kX11_161 : Cond.constant RX11 161 (-1694144372) ∈ lw_tbl := List.mem_of_getElem? (i := 1076) (by decide +kernel)
theorem kX11_162 : Cond.constant RX11 162 (528734635) ∈ lw_tbl := List.mem_of_getElem? (i := 1077) (by decide +kernel)
theorem kX11_163 : Cond.constant RX11 163 (1541459225) ∈ lw_tbl := List.mem_of_getElem? (i := 1078) (by decide +kernel)
theorem kX11_186 : Cond.constantLong RX11 186 (65535) ∈ lw_tbl := List.mem_of_getElem? (i := 1083) (by decide +kernel)
theorem kX11_194 : Cond.constant RX11 194 (65535) ∈ lw_tbl := List.mem_of_getElem? (i := 1386) (by decide +kernel)
theorem kX11_213 : Cond.constant RX11 213 (32768) ∈ lw_tbl := List.mem_of_getElem? (i := 1411) (by decide +kernel)
theorem kX11_223 : Cond.constant RX11 223 (1000000000) ∈ lw_tbl := List.mem_of_getElem? (i := 1277) (by decide +kernel)
theorem kX11_230 : Cond.constant RX11 230 (1000000) ∈ lw_tbl := List.mem_of_getElem? (i := 1224) (by decide +kernel)
theorem kX11_267 : Cond.constant RX11 267 (1000001) ∈ lw_tbl := List.mem_of_getElem? (i := 1307) (by decide +kernel)
theorem kX11_268 : Cond.constantLong RX11 268 (2) ∈ lw_tbl := List.mem_of_getElem? (i := 1308) (by decide +kernel)
theorem kX11_294 : Cond.constantLong RX11 294 (256) ∈ lw_tbl := List.mem_of_getElem? (i := 1286) (by decide +kernel)
theorem kX11_314 : Cond.constant RX11 314 (38440) ∈ lw_tbl := List.mem_of_getElem? (i := 1373) (by decide +kernel)
theorem fX10_12 : g_fld RX10 12 10 0 (.object "PollAudit$Setup") true := ⟨RX10, TX10, 11, tyX10, clX10, by decide, rfl, rfl, rfl, List.mem_of_getElem? (i := 372) (by decide +kernel), rfl⟩
theorem fX10_19 : g_fld RX10 19 10 1 (.object "PollAudit$CoinRow") true := ⟨RX10, TX10, 11, tyX10, clX10, by decide, rfl, rfl, rfl, List.mem_of_getElem? (i := 373) (by decide +kernel), rfl⟩
theorem fX10_26 : g_fld RX10 26 10 2 (.object "PollAudit$Seed") true := ⟨RX10, TX10, 11, tyX10, clX10, by decide, rfl, rfl, rfl, List.mem_of_getElem? (i := 374) (by decide +kernel), rfl⟩
theorem fX10_33 : g_fld RX10 33 10 3 (.object "PollAudit$DrawLog") true := ⟨RX10, TX10, 11, tyX10, clX10, by decide, rfl, rfl, rfl, List.mem_of_getElem? (i := 375) (by decide +kernel), rfl⟩
theorem fX10_40 : g_fld RX10 40 10 4 (.object "PollAudit$Tests") true := ⟨RX10, TX10, 11, tyX10, clX10, by decide, rfl, rfl, rfl, List.mem_of_getElem? (i := 376) (by decide +kernel), rfl⟩
theorem fX10_47 : g_fld RX10 47 10 5 (.object "PollAudit$FullCount") true := ⟨RX10, TX10, 11, tyX10, clX10, by decide, rfl, rfl, rfl, List.mem_of_getElem? (i := 377) (by decide +kernel), rfl⟩
theorem fX10_54 : g_fld RX10 54 10 6 (.object "PollAudit$Odds") true := ⟨RX10, TX10, 11, tyX10, clX10, by decide, rfl, rfl, rfl, List.mem_of_getElem? (i := 378) (by decide +kernel), rfl⟩
theorem fX10_63 : g_fld RX10 63 10 7 (.object "PollAudit$Fraction") true := ⟨RX10, TX10, 11, tyX10, clX10, by decide, rfl, rfl, rfl, List.mem_of_getElem? (i := 379) (by decide +kernel), rfl⟩
theorem fX10_67 : g_fld RX10 67 10 8 .int false := ⟨RX10, TX10, 11, tyX10, clX10, by decide, rfl, rfl, rfl, List.mem_of_getElem? (i := 380) (by decide +kernel), rfl⟩
theorem fX10_79 : g_fld RX10 79 7 4 .int false := ⟨RX7, TX7, 13, tyX7, clX7, by decide, rfl, rfl, rfl, List.mem_of_getElem? (i := 92) (by decide +kernel), rfl⟩
theorem fX10_93 : g_fld RX10 93 7 5 .int false := ⟨RX7, TX7, 13, tyX7, clX7, by decide, rfl, rfl, rfl, List.mem_of_getElem? (i := 94) (by decide +kernel), rfl⟩
theorem fX10_96 : g_fld RX10 96 7 6 .int false := ⟨RX7, TX7, 13, tyX7, clX7, by decide, rfl, rfl, rfl, List.mem_of_getElem? (i := 98) (by decide +kernel), rfl⟩
theorem fX10_108 : g_fld RX10 108 7 7 .int false := ⟨RX7, TX7, 13, tyX7, clX7, by decide, rfl, rfl, rfl, List.mem_of_getElem? (i := 100) (by decide +kernel), rfl⟩
theorem fX10_111 : g_fld RX10 111 7 8 .int false := ⟨RX7, TX7, 13, tyX7, clX7, by decide, rfl, rfl, rfl, List.mem_of_getElem? (i := 102) (by decide +kernel), rfl⟩
theorem fX10_119 : g_fld RX10 119 7 9 .int false := ⟨RX7, TX7, 13, tyX7, clX7, by decide, rfl, rfl, rfl, List.mem_of_getElem? (i := 106) (by decide +kernel), rfl⟩
theorem fX10_122 : g_fld RX10 122 7 10 .int false := ⟨RX7, TX7, 13, tyX7, clX7, by decide, rfl, rfl, rfl, List.mem_of_getElem? (i := 110) (by decide +kernel), rfl⟩
theorem fX10_125 : g_fld RX10 125 7 11 .int false := ⟨RX7, TX7, 13, tyX7, clX7, by decide, rfl, rfl, rfl, List.mem_of_getElem? (i := 113) (by decide +kernel), rfl⟩
theorem fX10_128 : g_fld RX10 128 7 12 .int false := ⟨RX7, TX7, 13, tyX7, clX7, by decide, rfl, rfl, rfl, List.mem_of_getElem? (i := 116) (by decide +kernel), rfl⟩
theorem fX10_142 : g_fld RX10 142 6 3 .int false := ⟨RX6, TX6, 4, tyX6, clX6, by decide, rfl, rfl, rfl, List.mem_of_getElem? (i := 174) (by decide +kernel), rfl⟩
theorem fX10_150 : g_fld RX10 150 0 2 .int false := ⟨RX0, TX0, 3, tyX0, clX0, by decide, rfl, rfl, rfl, List.mem_of_getElem? (i := 156) (by decide +kernel), rfl⟩
theorem fX10_173 : g_fld RX10 173 10 9 .boolean false := ⟨RX10, TX10, 11, tyX10, clX10, by decide, rfl, rfl, rfl, List.mem_of_getElem? (i := 381) (by decide +kernel), rfl⟩
theorem fX10_177 : g_fld RX10 177 10 10 .boolean false := ⟨RX10, TX10, 11, tyX10, clX10, by decide, rfl, rfl, rfl, List.mem_of_getElem? (i := 382) (by decide +kernel), rfl⟩
theorem fX10_180 : g_fld RX10 180 1 5 .int false := ⟨RX1, TX1, 7, tyX1, clX1, by decide, rfl, rfl, rfl, List.mem_of_getElem? (i := 198) (by decide +kernel), rfl⟩
theorem fX10_208 : g_fld RX10 208 3 2 .int false := ⟨RX3, TX3, 4, tyX3, clX3, by decide, rfl, rfl, rfl, List.mem_of_getElem? (i := 328) (by decide +kernel), rfl⟩
theorem fX10_213 : g_fld RX10 213 3 3 .boolean false := ⟨RX3, TX3, 4, tyX3, clX3, by decide, rfl, rfl, rfl, List.mem_of_getElem? (i := 330) (by decide +kernel), rfl⟩
theorem fX10_224 : g_fld RX10 224 1 4 .int false := ⟨RX1, TX1, 7, tyX1, clX1, by decide, rfl, rfl, rfl, List.mem_of_getElem? (i := 196) (by decide +kernel), rfl⟩
theorem fX10_227 : g_fld RX10 227 1 6 .int false := ⟨RX1, TX1, 7, tyX1, clX1, by decide, rfl, rfl, rfl, List.mem_of_getElem? (i := 200) (by decide +kernel), rfl⟩
theorem fX10_230 : g_fld RX10 230 8 2 .int false := ⟨RX8, TX8, 5, tyX8, clX8, by decide, rfl, rfl, rfl, List.mem_of_getElem? (i := 302) (by decide +kernel), rfl⟩
theorem fX10_231 : g_fld RX10 231 8 3 .int false := ⟨RX8, TX8, 5, tyX8, clX8, by decide, rfl, rfl, rfl, List.mem_of_getElem? (i := 304) (by decide +kernel), rfl⟩
theorem fX10_240 : g_fld RX10 240 7 0 (.array .int) true := ⟨RX7, TX7, 13, tyX7, clX7, by decide, rfl, rfl, rfl, List.mem_of_getElem? (i := 85) (by decide +kernel), rfl⟩
theorem fX10_244 : g_fld RX10 244 7 1 (.array .boolean) true := ⟨RX7, TX7, 13, tyX7, clX7, by decide, rfl, rfl, rfl, List.mem_of_getElem? (i := 88) (by decide +kernel), rfl⟩
theorem fX10_248 : g_fld RX10 248 1 3 (.array .int) true := ⟨RX1, TX1, 7, tyX1, clX1, by decide, rfl, rfl, rfl, List.mem_of_getElem? (i := 194) (by decide +kernel), rfl⟩
theorem fX10_254 : g_fld RX10 254 8 0 (.array (.object "PollAudit$Pair")) true := ⟨RX8, TX8, 5, tyX8, clX8, by decide, rfl, rfl, rfl, List.mem_of_getElem? (i := 298) (by decide +kernel), rfl⟩
theorem fX10_258 : g_fld RX10 258 5 1 .int false := ⟨RX5, TX5, 6, tyX5, clX5, by decide, rfl, rfl, rfl, List.mem_of_getElem? (i := 274) (by decide +kernel), rfl⟩
theorem fX10_263 : g_fld RX10 263 5 2 .int false := ⟨RX5, TX5, 6, tyX5, clX5, by decide, rfl, rfl, rfl, List.mem_of_getElem? (i := 277) (by decide +kernel), rfl⟩
theorem fX10_266 : g_fld RX10 266 5 5 .int false := ⟨RX5, TX5, 6, tyX5, clX5, by decide, rfl, rfl, rfl, List.mem_of_getElem? (i := 283) (by decide +kernel), rfl⟩
theorem fX10_300 : g_fld RX10 300 4 5 (.object "PollAudit$Whole") true := ⟨RX4, TX4, 6, tyX4, clX4, by decide, rfl, rfl, rfl, List.mem_of_getElem? (i := 356) (by decide +kernel), rfl⟩
theorem fX10_314 : g_fld RX10 314 5 0 (.object "PollAudit$Fraction") true := ⟨RX5, TX5, 6, tyX5, clX5, by decide, rfl, rfl, rfl, List.mem_of_getElem? (i := 271) (by decide +kernel), rfl⟩
theorem fX10_321 : g_fld RX10 321 8 1 (.object "PollAudit$Fraction") true := ⟨RX8, TX8, 5, tyX8, clX8, by decide, rfl, rfl, rfl, List.mem_of_getElem? (i := 300) (by decide +kernel), rfl⟩
theorem fX10_324 : g_fld RX10 324 5 3 .int false := ⟨RX5, TX5, 6, tyX5, clX5, by decide, rfl, rfl, rfl, List.mem_of_getElem? (i := 279) (by decide +kernel), rfl⟩
theorem fX10_333 : g_fld RX10 333 8 4 .int false := ⟨RX8, TX8, 5, tyX8, clX8, by decide, rfl, rfl, rfl, List.mem_of_getElem? (i := 306) (by decide +kernel), rfl⟩
theorem fX10_340 : g_fld RX10 340 9 1 .int false := ⟨RX9, TX9, 2, tyX9, clX9, by decide, rfl, rfl, rfl, List.mem_of_getElem? (i := 239) (by decide +kernel), rfl⟩
theorem fX10_345 : g_fld RX10 345 9 0 (.array .int) true := ⟨RX9, TX9, 2, tyX9, clX9, by decide, rfl, rfl, rfl, List.mem_of_getElem? (i := 237) (by decide +kernel), rfl⟩
theorem fX10_356 : g_fld RX10 356 2 0 (.object "PollAudit$Whole") true := ⟨RX2, TX2, 2, tyX2, clX2, by decide, rfl, rfl, rfl, List.mem_of_getElem? (i := 254) (by decide +kernel), rfl⟩
theorem fX10_359 : g_fld RX10 359 2 1 (.object "PollAudit$Whole") true := ⟨RX2, TX2, 2, tyX2, clX2, by decide, rfl, rfl, rfl, List.mem_of_getElem? (i := 256) (by decide +kernel), rfl⟩
theorem fX0_9 : g_fld RX0 9 0 0 (.array .byte) true := ⟨RX0, TX0, 3, tyX0, clX0, by decide, rfl, rfl, rfl, List.mem_of_getElem? (i := 153) (by decide +kernel), rfl⟩
theorem fX0_15 : g_fld RX0 15 0 1 .int false := ⟨RX0, TX0, 3, tyX0, clX0, by decide, rfl, rfl, rfl, List.mem_of_getElem? (i := 154) (by decide +kernel), rfl⟩
theorem fX0_19 : g_fld RX0 19 0 2 .int false := ⟨RX0, TX0, 3, tyX0, clX0, by decide, rfl, rfl, rfl, List.mem_of_getElem? (i := 155) (by decide +kernel), rfl⟩
theorem fX1_9 : g_fld RX1 9 1 0 (.array .int) true := ⟨RX1, TX1, 7, tyX1, clX1, by decide, rfl, rfl, rfl, List.mem_of_getElem? (i := 190) (by decide +kernel), rfl⟩
theorem fX1_15 : g_fld RX1 15 1 1 (.array .int) true := ⟨RX1, TX1, 7, tyX1, clX1, by decide, rfl, rfl, rfl, List.mem_of_getElem? (i := 191) (by decide +kernel), rfl⟩
theorem fX1_18 : g_fld RX1 18 1 2 (.array .int) true := ⟨RX1, TX1, 7, tyX1, clX1, by decide, rfl, rfl, rfl, List.mem_of_getElem? (i := 192) (by decide +kernel), rfl⟩
theorem fX1_21 : g_fld RX1 21 1 3 (.array .int) true := ⟨RX1, TX1, 7, tyX1, clX1, by decide, rfl, rfl, rfl, List.mem_of_getElem? (i := 193) (by decide +kernel), rfl⟩
theorem fX1_24 : g_fld RX1 24 1 4 .int false := ⟨RX1, TX1, 7, tyX1, clX1, by decide, rfl, rfl, rfl, List.mem_of_getElem? (i := 195) (by decide +kernel), rfl⟩
theorem fX1_28 : g_fld RX1 28 1 5 .int false := ⟨RX1, TX1, 7, tyX1, clX1, by decide, rfl, rfl, rfl, List.mem_of_getElem? (i := 197) (by decide +kernel), rfl⟩
theorem fX1_31 : g_fld RX1 31 1 6 .int false := ⟨RX1, TX1, 7, tyX1, clX1, by decide, rfl, rfl, rfl, List.mem_of_getElem? (i := 199) (by decide +kernel), rfl⟩
theorem fX2_12 : g_fld RX2 12 2 0 (.object "PollAudit$Whole") true := ⟨RX2, TX2, 2, tyX2, clX2, by decide, rfl, rfl, rfl, List.mem_of_getElem? (i := 253) (by decide +kernel), rfl⟩
theorem fX2_18 : g_fld RX2 18 2 1 (.object "PollAudit$Whole") true := ⟨RX2, TX2, 2, tyX2, clX2, by decide, rfl, rfl, rfl, List.mem_of_getElem? (i := 255) (by decide +kernel), rfl⟩
theorem fX3_9 : g_fld RX3 9 3 0 (.array .int) true := ⟨RX3, TX3, 4, tyX3, clX3, by decide, rfl, rfl, rfl, List.mem_of_getElem? (i := 324) (by decide +kernel), rfl⟩
theorem fX3_15 : g_fld RX3 15 3 1 (.array .boolean) true := ⟨RX3, TX3, 4, tyX3, clX3, by decide, rfl, rfl, rfl, List.mem_of_getElem? (i := 326) (by decide +kernel), rfl⟩
theorem fX3_19 : g_fld RX3 19 3 2 .int false := ⟨RX3, TX3, 4, tyX3, clX3, by decide, rfl, rfl, rfl, List.mem_of_getElem? (i := 327) (by decide +kernel), rfl⟩
theorem fX3_23 : g_fld RX3 23 3 3 .boolean false := ⟨RX3, TX3, 4, tyX3, clX3, by decide, rfl, rfl, rfl, List.mem_of_getElem? (i := 329) (by decide +kernel), rfl⟩
theorem fX4_9 : g_fld RX4 9 4 0 (.array .int) true := ⟨RX4, TX4, 6, tyX4, clX4, by decide, rfl, rfl, rfl, List.mem_of_getElem? (i := 350) (by decide +kernel), rfl⟩
theorem fX4_15 : g_fld RX4 15 4 1 (.array .int) true := ⟨RX4, TX4, 6, tyX4, clX4, by decide, rfl, rfl, rfl, List.mem_of_getElem? (i := 351) (by decide +kernel), rfl⟩
theorem fX4_23 : g_fld RX4 23 4 2 (.object "PollAudit$Fraction") true := ⟨RX4, TX4, 6, tyX4, clX4, by decide, rfl, rfl, rfl, List.mem_of_getElem? (i := 352) (by decide +kernel), rfl⟩
theorem fX4_30 : g_fld RX4 30 4 3 (.object "PollAudit$Whole") true := ⟨RX4, TX4, 6, tyX4, clX4, by decide, rfl, rfl, rfl, List.mem_of_getElem? (i := 353) (by decide +kernel), rfl⟩
theorem fX4_34 : g_fld RX4 34 4 4 (.object "PollAudit$Whole") true := ⟨RX4, TX4, 6, tyX4, clX4, by decide, rfl, rfl, rfl, List.mem_of_getElem? (i := 354) (by decide +kernel), rfl⟩
theorem fX4_37 : g_fld RX4 37 4 5 (.object "PollAudit$Whole") true := ⟨RX4, TX4, 6, tyX4, clX4, by decide, rfl, rfl, rfl, List.mem_of_getElem? (i := 355) (by decide +kernel), rfl⟩
theorem fX4_44 : g_fld RX4 44 7 10 .int false := ⟨RX7, TX7, 13, tyX7, clX7, by decide, rfl, rfl, rfl, List.mem_of_getElem? (i := 108) (by decide +kernel), rfl⟩
theorem fX4_50 : g_fld RX4 50 7 9 .int false := ⟨RX7, TX7, 13, tyX7, clX7, by decide, rfl, rfl, rfl, List.mem_of_getElem? (i := 104) (by decide +kernel), rfl⟩
theorem fX5_14 : g_fld RX5 14 5 0 (.object "PollAudit$Fraction") true := ⟨RX5, TX5, 6, tyX5, clX5, by decide, rfl, rfl, rfl, List.mem_of_getElem? (i := 269) (by decide +kernel), rfl⟩
theorem fX5_20 : g_fld RX5 20 5 1 .int false := ⟨RX5, TX5, 6, tyX5, clX5, by decide, rfl, rfl, rfl, List.mem_of_getElem? (i := 272) (by decide +kernel), rfl⟩
theorem fX5_24 : g_fld RX5 24 5 2 .int false := ⟨RX5, TX5, 6, tyX5, clX5, by decide, rfl, rfl, rfl, List.mem_of_getElem? (i := 275) (by decide +kernel), rfl⟩
theorem fX5_27 : g_fld RX5 27 5 3 .int false := ⟨RX5, TX5, 6, tyX5, clX5, by decide, rfl, rfl, rfl, List.mem_of_getElem? (i := 278) (by decide +kernel), rfl⟩
theorem fX5_30 : g_fld RX5 30 5 4 .int false := ⟨RX5, TX5, 6, tyX5, clX5, by decide, rfl, rfl, rfl, List.mem_of_getElem? (i := 280) (by decide +kernel), rfl⟩
theorem fX5_33 : g_fld RX5 33 5 5 .int false := ⟨RX5, TX5, 6, tyX5, clX5, by decide, rfl, rfl, rfl, List.mem_of_getElem? (i := 281) (by decide +kernel), rfl⟩
theorem fX6_9 : g_fld RX6 9 6 0 (.array .int) true := ⟨RX6, TX6, 4, tyX6, clX6, by decide, rfl, rfl, rfl, List.mem_of_getElem? (i := 170) (by decide +kernel), rfl⟩
theorem fX6_15 : g_fld RX6 15 6 1 (.array .int) true := ⟨RX6, TX6, 4, tyX6, clX6, by decide, rfl, rfl, rfl, List.mem_of_getElem? (i := 171) (by decide +kernel), rfl⟩
theorem fX6_18 : g_fld RX6 18 6 2 (.array .int) true := ⟨RX6, TX6, 4, tyX6, clX6, by decide, rfl, rfl, rfl, List.mem_of_getElem? (i := 172) (by decide +kernel), rfl⟩
theorem fX6_21 : g_fld RX6 21 6 3 .int false := ⟨RX6, TX6, 4, tyX6, clX6, by decide, rfl, rfl, rfl, List.mem_of_getElem? (i := 173) (by decide +kernel), rfl⟩
theorem fX7_9 : g_fld RX7 9 7 0 (.array .int) true := ⟨RX7, TX7, 13, tyX7, clX7, by decide, rfl, rfl, rfl, List.mem_of_getElem? (i := 83) (by decide +kernel), rfl⟩
theorem fX7_15 : g_fld RX7 15 7 1 (.array .boolean) true := ⟨RX7, TX7, 13, tyX7, clX7, by decide, rfl, rfl, rfl, List.mem_of_getElem? (i := 86) (by decide +kernel), rfl⟩
theorem fX7_19 : g_fld RX7 19 7 2 (.array .int) true := ⟨RX7, TX7, 13, tyX7, clX7, by decide, rfl, rfl, rfl, List.mem_of_getElem? (i := 89) (by decide +kernel), rfl⟩
theorem fX7_22 : g_fld RX7 22 7 3 (.array .byte) true := ⟨RX7, TX7, 13, tyX7, clX7, by decide, rfl, rfl, rfl, List.mem_of_getElem? (i := 90) (by decide +kernel), rfl⟩
theorem fX7_26 : g_fld RX7 26 7 7 .int false := ⟨RX7, TX7, 13, tyX7, clX7, by decide, rfl, rfl, rfl, List.mem_of_getElem? (i := 99) (by decide +kernel), rfl⟩
theorem fX7_30 : g_fld RX7 30 7 8 .int false := ⟨RX7, TX7, 13, tyX7, clX7, by decide, rfl, rfl, rfl, List.mem_of_getElem? (i := 101) (by decide +kernel), rfl⟩
theorem fX7_33 : g_fld RX7 33 7 9 .int false := ⟨RX7, TX7, 13, tyX7, clX7, by decide, rfl, rfl, rfl, List.mem_of_getElem? (i := 103) (by decide +kernel), rfl⟩
theorem fX7_36 : g_fld RX7 36 7 10 .int false := ⟨RX7, TX7, 13, tyX7, clX7, by decide, rfl, rfl, rfl, List.mem_of_getElem? (i := 107) (by decide +kernel), rfl⟩
theorem fX7_39 : g_fld RX7 39 7 11 .int false := ⟨RX7, TX7, 13, tyX7, clX7, by decide, rfl, rfl, rfl, List.mem_of_getElem? (i := 111) (by decide +kernel), rfl⟩
theorem fX7_42 : g_fld RX7 42 7 12 .int false := ⟨RX7, TX7, 13, tyX7, clX7, by decide, rfl, rfl, rfl, List.mem_of_getElem? (i := 114) (by decide +kernel), rfl⟩
theorem fX7_45 : g_fld RX7 45 7 4 .int false := ⟨RX7, TX7, 13, tyX7, clX7, by decide, rfl, rfl, rfl, List.mem_of_getElem? (i := 91) (by decide +kernel), rfl⟩
theorem fX7_48 : g_fld RX7 48 7 6 .int false := ⟨RX7, TX7, 13, tyX7, clX7, by decide, rfl, rfl, rfl, List.mem_of_getElem? (i := 96) (by decide +kernel), rfl⟩
theorem fX7_51 : g_fld RX7 51 7 5 .int false := ⟨RX7, TX7, 13, tyX7, clX7, by decide, rfl, rfl, rfl, List.mem_of_getElem? (i := 95) (by decide +kernel), rfl⟩
theorem fX8_11 : g_fld RX8 11 8 0 (.array (.object "PollAudit$Pair")) true := ⟨RX8, TX8, 5, tyX8, clX8, by decide, rfl, rfl, rfl, List.mem_of_getElem? (i := 297) (by decide +kernel), rfl⟩
theorem fX8_22 : g_fld RX8 22 8 1 (.object "PollAudit$Fraction") true := ⟨RX8, TX8, 5, tyX8, clX8, by decide, rfl, rfl, rfl, List.mem_of_getElem? (i := 299) (by decide +kernel), rfl⟩
theorem fX8_27 : g_fld RX8 27 8 2 .int false := ⟨RX8, TX8, 5, tyX8, clX8, by decide, rfl, rfl, rfl, List.mem_of_getElem? (i := 301) (by decide +kernel), rfl⟩
theorem fX8_31 : g_fld RX8 31 8 3 .int false := ⟨RX8, TX8, 5, tyX8, clX8, by decide, rfl, rfl, rfl, List.mem_of_getElem? (i := 303) (by decide +kernel), rfl⟩
theorem fX8_37 : g_fld RX8 37 7 6 .int false := ⟨RX7, TX7, 13, tyX7, clX7, by decide, rfl, rfl, rfl, List.mem_of_getElem? (i := 97) (by decide +kernel), rfl⟩
theorem fX8_42 : g_fld RX8 42 8 4 .int false := ⟨RX8, TX8, 5, tyX8, clX8, by decide, rfl, rfl, rfl, List.mem_of_getElem? (i := 305) (by decide +kernel), rfl⟩
theorem fX8_49 : g_fld RX8 49 7 4 .int false := ⟨RX7, TX7, 13, tyX7, clX7, by decide, rfl, rfl, rfl, List.mem_of_getElem? (i := 93) (by decide +kernel), rfl⟩
theorem fX8_52 : g_fld RX8 52 7 1 (.array .boolean) true := ⟨RX7, TX7, 13, tyX7, clX7, by decide, rfl, rfl, rfl, List.mem_of_getElem? (i := 87) (by decide +kernel), rfl⟩
theorem fX8_56 : g_fld RX8 56 7 0 (.array .int) true := ⟨RX7, TX7, 13, tyX7, clX7, by decide, rfl, rfl, rfl, List.mem_of_getElem? (i := 84) (by decide +kernel), rfl⟩
theorem fX8_74 : g_fld RX8 74 5 1 .int false := ⟨RX5, TX5, 6, tyX5, clX5, by decide, rfl, rfl, rfl, List.mem_of_getElem? (i := 273) (by decide +kernel), rfl⟩
theorem fX8_77 : g_fld RX8 77 5 2 .int false := ⟨RX5, TX5, 6, tyX5, clX5, by decide, rfl, rfl, rfl, List.mem_of_getElem? (i := 276) (by decide +kernel), rfl⟩
theorem fX8_80 : g_fld RX8 80 5 0 (.object "PollAudit$Fraction") true := ⟨RX5, TX5, 6, tyX5, clX5, by decide, rfl, rfl, rfl, List.mem_of_getElem? (i := 270) (by decide +kernel), rfl⟩
theorem fX8_87 : g_fld RX8 87 5 5 .int false := ⟨RX5, TX5, 6, tyX5, clX5, by decide, rfl, rfl, rfl, List.mem_of_getElem? (i := 282) (by decide +kernel), rfl⟩
theorem fX8_90 : g_fld RX8 90 7 10 .int false := ⟨RX7, TX7, 13, tyX7, clX7, by decide, rfl, rfl, rfl, List.mem_of_getElem? (i := 109) (by decide +kernel), rfl⟩
theorem fX8_93 : g_fld RX8 93 7 9 .int false := ⟨RX7, TX7, 13, tyX7, clX7, by decide, rfl, rfl, rfl, List.mem_of_getElem? (i := 105) (by decide +kernel), rfl⟩
theorem fX8_101 : g_fld RX8 101 7 11 .int false := ⟨RX7, TX7, 13, tyX7, clX7, by decide, rfl, rfl, rfl, List.mem_of_getElem? (i := 112) (by decide +kernel), rfl⟩
theorem fX8_104 : g_fld RX8 104 7 12 .int false := ⟨RX7, TX7, 13, tyX7, clX7, by decide, rfl, rfl, rfl, List.mem_of_getElem? (i := 115) (by decide +kernel), rfl⟩
theorem fX8_117 : g_fld RX8 117 3 0 (.array .int) true := ⟨RX3, TX3, 4, tyX3, clX3, by decide, rfl, rfl, rfl, List.mem_of_getElem? (i := 325) (by decide +kernel), rfl⟩
theorem fX9_9 : g_fld RX9 9 9 0 (.array .int) true := ⟨RX9, TX9, 2, tyX9, clX9, by decide, rfl, rfl, rfl, List.mem_of_getElem? (i := 236) (by decide +kernel), rfl⟩
theorem fX9_15 : g_fld RX9 15 9 1 .int false := ⟨RX9, TX9, 2, tyX9, clX9, by decide, rfl, rfl, rfl, List.mem_of_getElem? (i := 238) (by decide +kernel), rfl⟩
theorem fX11_1 : g_fld RX11 1 11 0 .int false := ⟨RX11, TX11, 45, tyX11, clX11, by decide, rfl, rfl, rfl, List.mem_of_getElem? (i := 1084) (by decide +kernel), rfl⟩
theorem fX11_13 : g_fld RX11 13 11 1 (.array .int) true := ⟨RX11, TX11, 45, tyX11, clX11, by decide, rfl, rfl, rfl, List.mem_of_getElem? (i := 1085) (by decide +kernel), rfl⟩
theorem fX11_17 : g_fld RX11 17 11 3 .int false := ⟨RX11, TX11, 45, tyX11, clX11, by decide, rfl, rfl, rfl, List.mem_of_getElem? (i := 1087) (by decide +kernel), rfl⟩
theorem fX11_20 : g_fld RX11 20 11 4 .int false := ⟨RX11, TX11, 45, tyX11, clX11, by decide, rfl, rfl, rfl, List.mem_of_getElem? (i := 1088) (by decide +kernel), rfl⟩
theorem fX11_23 : g_fld RX11 23 11 5 (.array .int) true := ⟨RX11, TX11, 45, tyX11, clX11, by decide, rfl, rfl, rfl, List.mem_of_getElem? (i := 1089) (by decide +kernel), rfl⟩
theorem fX11_26 : g_fld RX11 26 11 8 (.array .byte) true := ⟨RX11, TX11, 45, tyX11, clX11, by decide, rfl, rfl, rfl, List.mem_of_getElem? (i := 1092) (by decide +kernel), rfl⟩
theorem fX11_30 : g_fld RX11 30 11 9 .int false := ⟨RX11, TX11, 45, tyX11, clX11, by decide, rfl, rfl, rfl, List.mem_of_getElem? (i := 1093) (by decide +kernel), rfl⟩
theorem fX11_33 : g_fld RX11 33 11 10 .int false := ⟨RX11, TX11, 45, tyX11, clX11, by decide, rfl, rfl, rfl, List.mem_of_getElem? (i := 1094) (by decide +kernel), rfl⟩
theorem fX11_36 : g_fld RX11 36 11 11 .int false := ⟨RX11, TX11, 45, tyX11, clX11, by decide, rfl, rfl, rfl, List.mem_of_getElem? (i := 1095) (by decide +kernel), rfl⟩
theorem fX11_39 : g_fld RX11 39 11 12 .int false := ⟨RX11, TX11, 45, tyX11, clX11, by decide, rfl, rfl, rfl, List.mem_of_getElem? (i := 1096) (by decide +kernel), rfl⟩
theorem fX11_42 : g_fld RX11 42 11 13 (.array .int) true := ⟨RX11, TX11, 45, tyX11, clX11, by decide, rfl, rfl, rfl, List.mem_of_getElem? (i := 1097) (by decide +kernel), rfl⟩
theorem fX11_45 : g_fld RX11 45 11 15 (.array .byte) true := ⟨RX11, TX11, 45, tyX11, clX11, by decide, rfl, rfl, rfl, List.mem_of_getElem? (i := 1099) (by decide +kernel), rfl⟩
theorem fX11_48 : g_fld RX11 48 11 20 (.array .boolean) true := ⟨RX11, TX11, 45, tyX11, clX11, by decide, rfl, rfl, rfl, List.mem_of_getElem? (i := 1104) (by decide +kernel), rfl⟩
theorem fX11_52 : g_fld RX11 52 11 21 (.array .int) true := ⟨RX11, TX11, 45, tyX11, clX11, by decide, rfl, rfl, rfl, List.mem_of_getElem? (i := 1105) (by decide +kernel), rfl⟩
theorem fX11_55 : g_fld RX11 55 11 22 (.array .int) true := ⟨RX11, TX11, 45, tyX11, clX11, by decide, rfl, rfl, rfl, List.mem_of_getElem? (i := 1106) (by decide +kernel), rfl⟩
theorem fX11_58 : g_fld RX11 58 11 23 (.array .int) true := ⟨RX11, TX11, 45, tyX11, clX11, by decide, rfl, rfl, rfl, List.mem_of_getElem? (i := 1107) (by decide +kernel), rfl⟩
theorem fX11_61 : g_fld RX11 61 11 25 (.array .int) true := ⟨RX11, TX11, 45, tyX11, clX11, by decide, rfl, rfl, rfl, List.mem_of_getElem? (i := 1109) (by decide +kernel), rfl⟩
theorem fX11_64 : g_fld RX11 64 11 26 (.array .byte) true := ⟨RX11, TX11, 45, tyX11, clX11, by decide, rfl, rfl, rfl, List.mem_of_getElem? (i := 1110) (by decide +kernel), rfl⟩
theorem fX11_67 : g_fld RX11 67 11 27 (.array .int) true := ⟨RX11, TX11, 45, tyX11, clX11, by decide, rfl, rfl, rfl, List.mem_of_getElem? (i := 1111) (by decide +kernel), rfl⟩
theorem fX11_70 : g_fld RX11 70 11 31 .int false := ⟨RX11, TX11, 45, tyX11, clX11, by decide, rfl, rfl, rfl, List.mem_of_getElem? (i := 1115) (by decide +kernel), rfl⟩
theorem fX11_73 : g_fld RX11 73 11 32 (.array .int) true := ⟨RX11, TX11, 45, tyX11, clX11, by decide, rfl, rfl, rfl, List.mem_of_getElem? (i := 1116) (by decide +kernel), rfl⟩
theorem fX11_76 : g_fld RX11 76 11 34 (.array .int) true := ⟨RX11, TX11, 45, tyX11, clX11, by decide, rfl, rfl, rfl, List.mem_of_getElem? (i := 1118) (by decide +kernel), rfl⟩
theorem fX11_79 : g_fld RX11 79 11 35 (.array .int) true := ⟨RX11, TX11, 45, tyX11, clX11, by decide, rfl, rfl, rfl, List.mem_of_getElem? (i := 1119) (by decide +kernel), rfl⟩
theorem fX11_83 : g_fld RX11 83 11 36 (.array .int) true := ⟨RX11, TX11, 45, tyX11, clX11, by decide, rfl, rfl, rfl, List.mem_of_getElem? (i := 1120) (by decide +kernel), rfl⟩
theorem fX11_86 : g_fld RX11 86 11 37 (.array .int) true := ⟨RX11, TX11, 45, tyX11, clX11, by decide, rfl, rfl, rfl, List.mem_of_getElem? (i := 1121) (by decide +kernel), rfl⟩
theorem fX11_153 : g_fld RX11 153 11 38 (.array .int) true := ⟨RX11, TX11, 45, tyX11, clX11, by decide, rfl, rfl, rfl, List.mem_of_getElem? (i := 1122) (by decide +kernel), rfl⟩
theorem fX11_164 : g_fld RX11 164 11 39 (.array .int) true := ⟨RX11, TX11, 45, tyX11, clX11, by decide, rfl, rfl, rfl, List.mem_of_getElem? (i := 1123) (by decide +kernel), rfl⟩
theorem fX11_167 : g_fld RX11 167 11 40 (.array .int) true := ⟨RX11, TX11, 45, tyX11, clX11, by decide, rfl, rfl, rfl, List.mem_of_getElem? (i := 1124) (by decide +kernel), rfl⟩
theorem fX11_170 : g_fld RX11 170 11 41 (.array .int) true := ⟨RX11, TX11, 45, tyX11, clX11, by decide, rfl, rfl, rfl, List.mem_of_getElem? (i := 1125) (by decide +kernel), rfl⟩
theorem fX11_173 : g_fld RX11 173 11 42 (.array .int) true := ⟨RX11, TX11, 45, tyX11, clX11, by decide, rfl, rfl, rfl, List.mem_of_getElem? (i := 1126) (by decide +kernel), rfl⟩
theorem fX11_176 : g_fld RX11 176 11 43 (.array .int) true := ⟨RX11, TX11, 45, tyX11, clX11, by decide, rfl, rfl, rfl, List.mem_of_getElem? (i := 1127) (by decide +kernel), rfl⟩
theorem fX11_179 : g_fld RX11 179 11 44 (.array .boolean) true := ⟨RX11, TX11, 45, tyX11, clX11, by decide, rfl, rfl, rfl, List.mem_of_getElem? (i := 1128) (by decide +kernel), rfl⟩
theorem fX11_220 : g_fld RX11 220 11 14 .int false := ⟨RX11, TX11, 45, tyX11, clX11, by decide, rfl, rfl, rfl, List.mem_of_getElem? (i := 1098) (by decide +kernel), rfl⟩
theorem fX11_231 : g_fld RX11 231 11 17 .int false := ⟨RX11, TX11, 45, tyX11, clX11, by decide, rfl, rfl, rfl, List.mem_of_getElem? (i := 1101) (by decide +kernel), rfl⟩
theorem fX11_234 : g_fld RX11 234 11 2 .int false := ⟨RX11, TX11, 45, tyX11, clX11, by decide, rfl, rfl, rfl, List.mem_of_getElem? (i := 1086) (by decide +kernel), rfl⟩
theorem fX11_237 : g_fld RX11 237 11 6 .int false := ⟨RX11, TX11, 45, tyX11, clX11, by decide, rfl, rfl, rfl, List.mem_of_getElem? (i := 1090) (by decide +kernel), rfl⟩
theorem fX11_240 : g_fld RX11 240 11 7 .int false := ⟨RX11, TX11, 45, tyX11, clX11, by decide, rfl, rfl, rfl, List.mem_of_getElem? (i := 1091) (by decide +kernel), rfl⟩
theorem fX11_247 : g_fld RX11 247 11 16 .int false := ⟨RX11, TX11, 45, tyX11, clX11, by decide, rfl, rfl, rfl, List.mem_of_getElem? (i := 1100) (by decide +kernel), rfl⟩
theorem fX11_250 : g_fld RX11 250 11 24 .int false := ⟨RX11, TX11, 45, tyX11, clX11, by decide, rfl, rfl, rfl, List.mem_of_getElem? (i := 1108) (by decide +kernel), rfl⟩
theorem fX11_257 : g_fld RX11 257 11 18 .boolean false := ⟨RX11, TX11, 45, tyX11, clX11, by decide, rfl, rfl, rfl, List.mem_of_getElem? (i := 1102) (by decide +kernel), rfl⟩
theorem fX11_261 : g_fld RX11 261 11 19 .boolean false := ⟨RX11, TX11, 45, tyX11, clX11, by decide, rfl, rfl, rfl, List.mem_of_getElem? (i := 1103) (by decide +kernel), rfl⟩
theorem fX11_288 : g_fld RX11 288 11 28 .int false := ⟨RX11, TX11, 45, tyX11, clX11, by decide, rfl, rfl, rfl, List.mem_of_getElem? (i := 1112) (by decide +kernel), rfl⟩
theorem fX11_302 : g_fld RX11 302 11 30 .int false := ⟨RX11, TX11, 45, tyX11, clX11, by decide, rfl, rfl, rfl, List.mem_of_getElem? (i := 1114) (by decide +kernel), rfl⟩
theorem fX11_308 : g_fld RX11 308 11 29 .int false := ⟨RX11, TX11, 45, tyX11, clX11, by decide, rfl, rfl, rfl, List.mem_of_getElem? (i := 1113) (by decide +kernel), rfl⟩
theorem fX11_311 : g_fld RX11 311 11 33 .boolean false := ⟨RX11, TX11, 45, tyX11, clX11, by decide, rfl, rfl, rfl, List.mem_of_getElem? (i := 1117) (by decide +kernel), rfl⟩

