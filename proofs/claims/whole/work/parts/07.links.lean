abbrev Y_J0_charAt_5068e : MI := (yJ0_charAt_5068e, cJ0_charAt_5068e, 2, (some .char), 4)
abbrev Y_J0_checkIndex_df160 : MI := (yJ0_checkIndex_df160, cJ0_checkIndex_df160, 2, none, 1)
abbrev Y_J0_coder_7d493 : MI := (yJ0_coder_7d493, cJ0_coder_7d493, 1, (some .byte), 0)
abbrev Y_J0_isLatin1_aae02 : MI := (yJ0_isLatin1_aae02, cJ0_isLatin1_aae02, 1, (some .boolean), 0)
abbrev Y_J0_length_8abf5 : MI := (yJ0_length_8abf5, cJ0_length_8abf5, 1, (some .int), 1)
abbrev Y_J1_charAt_3b067 : MI := (yJ1_charAt_3b067, cJ1_charAt_3b067, 2, (some .char), 2)
abbrev Y_J2_charAt_3b067 : MI := (yJ2_charAt_3b067, cJ2_charAt_3b067, 2, (some .char), 3)
abbrev Y_J2_checkIndex_2214a : MI := (yJ2_checkIndex_2214a, cJ2_checkIndex_2214a, 2, none, 2)
abbrev Y_J2_getChar_3b067 : MI := (yJ2_getChar_3b067, cJ2_getChar_3b067, 2, (some .char), 1)
abbrev Y_J2_length_9d52b : MI := (yJ2_length_9d52b, cJ2_length_9d52b, 1, (some .int), 0)
abbrev Y_J3_checkIndex_8e157 : MI := (yJ3_checkIndex_8e157, cJ3_checkIndex_8e157, 3, (some .int), 0)
abbrev Y_J6_bitCount_0f7a4 : MI := (yJ6_bitCount_0f7a4, cJ6_bitCount_0f7a4, 1, (some .int), 0)
abbrev Y_J7_fill_53178 : MI := (yJ7_fill_53178, cJ7_fill_53178, 4, none, 0)
abbrev Y_J7_fill_d0a16 : MI := (yJ7_fill_d0a16, cJ7_fill_d0a16, 5, none, 0)
abbrev Y_J9_abs_0f7a4 : MI := (yJ9_abs_0f7a4, cJ9_abs_0f7a4, 1, (some .int), 0)
abbrev Y_J9_max_7cf53 : MI := (yJ9_max_7cf53, cJ9_max_7cf53, 2, (some .int), 0)
abbrev Y_J9_min_7cf53 : MI := (yJ9_min_7cf53, cJ9_min_7cf53, 2, (some .int), 0)
abbrev Y_X0_init : MI := (yX0_init, cX0_init, 1, none, 1)
abbrev Y_X0_ofDrops : MI := (yX0_ofDrops, cX0_ofDrops, 10, (some .long), 2)
abbrev Y_X0_spread : MI := (yX0_spread, cX0_spread, 8, none, 1)
abbrev Y_X1_atBest : MI := (yX1_atBest, cX1_atBest, 9, (some .int), 4)
abbrev Y_X1_atPaces : MI := (yX1_atPaces, cX1_atPaces, 9, (some .int), 3)
abbrev Y_X1_bestPace : MI := (yX1_bestPace, cX1_bestPace, 9, (some .int), 3)
abbrev Y_X1_chosenPace : MI := (yX1_chosenPace, cX1_chosenPace, 3, (some .int), 0)
abbrev Y_X1_goBack : MI := (yX1_goBack, cX1_goBack, 1, none, 1)
abbrev Y_X1_init : MI := (yX1_init, cX1_init, 1, none, 1)
abbrev Y_X1_through : MI := (yX1_through, cX1_through, 9, (some .int), 2)
abbrev Y_X2_add : MI := (yX2_add, cX2_add, 4, (some .int), 2)
abbrev Y_X2_become : MI := (yX2_become, cX2_become, 3, none, 2)
abbrev Y_X2_countDrops : MI := (yX2_countDrops, cX2_countDrops, 3, (some .int), 0)
abbrev Y_X2_countGrass : MI := (yX2_countGrass, cX2_countGrass, 3, (some .int), 0)
abbrev Y_X2_countHolding : MI := (yX2_countHolding, cX2_countHolding, 3, (some .int), 0)
abbrev Y_X2_draw : MI := (yX2_draw, cX2_draw, 1, (some .int), 0)
abbrev Y_X2_go : MI := (yX2_go, cX2_go, 5, (some .int), 4)
abbrev Y_X2_homeSet : MI := (yX2_homeSet, cX2_homeSet, 3, (some .int), 1)
abbrev Y_X2_init : MI := (yX2_init, cX2_init, 2, none, 2)
abbrev Y_X2_leastInTime : MI := (yX2_leastInTime, cX2_leastInTime, 3, (some .int), 0)
abbrev Y_X2_nervesOf : MI := (yX2_nervesOf, cX2_nervesOf, 5, (some .int), 1)
abbrev Y_X2_oddsInStep : MI := (yX2_oddsInStep, cX2_oddsInStep, 3, (some .int), 2)
abbrev Y_X2_oddsOf : MI := (yX2_oddsOf, cX2_oddsOf, 7, (some .int), 1)
abbrev Y_X2_placeOf : MI := (yX2_placeOf, cX2_placeOf, 6, (some .int), 0)
abbrev Y_X2_restart : MI := (yX2_restart, cX2_restart, 3, (some .int), 2)
abbrev Y_X2_step : MI := (yX2_step, cX2_step, 5, (some .int), 3)
abbrev Y_X2_whoRuns : MI := (yX2_whoRuns, cX2_whoRuns, 3, (some .int), 1)
abbrev Y_X3_groundTold : MI := (yX3_groundTold, cX3_groundTold, 1, (some .int), 6)
abbrev Y_X3_init : MI := (yX3_init, cX3_init, 1, none, 2)
abbrev Y_X3_kindTold : MI := (yX3_kindTold, cX3_kindTold, 1, (some .int), 6)
abbrev Y_X3_numberBehind : MI := (yX3_numberBehind, cX3_numberBehind, 4, (some .int), 2)
abbrev Y_X3_perhaps : MI := (yX3_perhaps, cX3_perhaps, 5, (some .int), 6)
abbrev Y_X3_readGround : MI := (yX3_readGround, cX3_readGround, 6, (some .boolean), 7)
abbrev Y_X3_readInto : MI := (yX3_readInto, cX3_readInto, 3, (some .int), 9)
abbrev Y_X3_readItem : MI := (yX3_readItem, cX3_readItem, 4, (some .boolean), 8)
abbrev Y_X3_readPick : MI := (yX3_readPick, cX3_readPick, 3, (some .boolean), 3)
abbrev Y_X3_readRunner : MI := (yX3_readRunner, cX3_readRunner, 7, (some .boolean), 7)
abbrev Y_X4_beNew : MI := (yX4_beNew, cX4_beNew, 4, none, 1)
abbrev Y_X4_become : MI := (yX4_become, cX4_become, 2, none, 1)
abbrev Y_X4_holds : MI := (yX4_holds, cX4_holds, 1, (some .int), 0)
abbrev Y_X4_hurts : MI := (yX4_hurts, cX4_hurts, 2, (some .int), 0)
abbrev Y_X4_init : MI := (yX4_init, cX4_init, 1, none, 1)
abbrev Y_X4_isHome : MI := (yX4_isHome, cX4_isHome, 1, (some .boolean), 0)
abbrev Y_X4_isOfKind : MI := (yX4_isOfKind, cX4_isOfKind, 4, (some .boolean), 0)
abbrev Y_X4_mostOf : MI := (yX4_mostOf, cX4_mostOf, 1, (some .int), 0)
abbrev Y_X4_put : MI := (yX4_put, cX4_put, 3, none, 0)
abbrev Y_X4_restart : MI := (yX4_restart, cX4_restart, 1, none, 0)
abbrev Y_X4_rocks : MI := (yX4_rocks, cX4_rocks, 2, (some .int), 0)
abbrev Y_X4_takes : MI := (yX4_takes, cX4_takes, 2, (some .int), 0)
abbrev Y_X4_tell : MI := (yX4_tell, cX4_tell, 2, (some .int), 1)
abbrev Y_X5_hasRow : MI := (yX5_hasRow, cX5_hasRow, 3, (some .boolean), 0)
abbrev Y_X5_init : MI := (yX5_init, cX5_init, 1, none, 1)
abbrev Y_X5_isMissing : MI := (yX5_isMissing, cX5_isMissing, 1, (some .boolean), 0)
abbrev Y_X5_lay : MI := (yX5_lay, cX5_lay, 3, none, 1)
abbrev Y_X5_put : MI := (yX5_put, cX5_put, 3, none, 0)
abbrev Y_X6_advance : MI := (yX6_advance, cX6_advance, 2, none, 1)
abbrev Y_X6_init : MI := (yX6_init, cX6_init, 1, none, 1)
abbrev Y_X6_isWord : MI := (yX6_isWord, cX6_isWord, 3, (some .boolean), 5)
abbrev Y_X6_put : MI := (yX6_put, cX6_put, 2, none, 2)
abbrev Y_X6_rewind : MI := (yX6_rewind, cX6_rewind, 1, none, 2)
abbrev Y_X6_tokenBegunBy : MI := (yX6_tokenBegunBy, cX6_tokenBegunBy, 1, (some .int), 1)
abbrev Y_X6_value : MI := (yX6_value, cX6_value, 3, (some .int), 1)
abbrev Y_X7_areUnlikeOf : MI := (yX7_areUnlikeOf, cX7_areUnlikeOf, 5, (some .boolean), 1)
abbrev Y_X7_choose : MI := (yX7_choose, cX7_choose, 7, (some .int), 4)
abbrev Y_X7_init : MI := (yX7_init, cX7_init, 1, none, 1)
abbrev Y_X7_weigh : MI := (yX7_weigh, cX7_weigh, 5, none, 0)
abbrev Y_X8_ahead : MI := (yX8_ahead, cX8_ahead, 4, (some .int), 5)
abbrev Y_X8_armFor : MI := (yX8_armFor, cX8_armFor, 4, (some .int), 5)
abbrev Y_X8_as : MI := (yX8_as, cX8_as, 4, (some .int), 2)
abbrev Y_X8_best : MI := (yX8_best, cX8_best, 4, (some .int), 5)
abbrev Y_X8_change : MI := (yX8_change, cX8_change, 5, (some .int), 2)
abbrev Y_X8_clean : MI := (yX8_clean, cX8_clean, 8, (some .long), 3)
abbrev Y_X8_copy : MI := (yX8_copy, cX8_copy, 8, (some .int), 2)
abbrev Y_X8_costs : MI := (yX8_costs, cX8_costs, 5, (some .int), 4)
abbrev Y_X8_count : MI := (yX8_count, cX8_count, 2, (some .int), 2)
abbrev Y_X8_drops : MI := (yX8_drops, cX8_drops, 5, (some .long), 3)
abbrev Y_X8_even : MI := (yX8_even, cX8_even, 6, (some .int), 5)
abbrev Y_X8_feed : MI := (yX8_feed, cX8_feed, 4, (some .int), 3)
abbrev Y_X8_found : MI := (yX8_found, cX8_found, 2, (some .int), 0)
abbrev Y_X8_ground : MI := (yX8_ground, cX8_ground, 4, (some .int), 2)
abbrev Y_X8_gum : MI := (yX8_gum, cX8_gum, 6, (some .long), 4)
abbrev Y_X8_hold : MI := (yX8_hold, cX8_hold, 3, (some .int), 2)
abbrev Y_X8_image : MI := (yX8_image, cX8_image, 1, (some .int), 3)
abbrev Y_X8_init : MI := (yX8_init, cX8_init, 2, none, 3)
abbrev Y_X8_isPace : MI := (yX8_isPace, cX8_isPace, 1, (some .boolean), 1)
abbrev Y_X8_isRunner : MI := (yX8_isRunner, cX8_isRunner, 2, (some .boolean), 1)
abbrev Y_X8_isSheet : MI := (yX8_isSheet, cX8_isSheet, 1, (some .boolean), 1)
abbrev Y_X8_isSpot : MI := (yX8_isSpot, cX8_isSpot, 1, (some .boolean), 1)
abbrev Y_X8_isStretch : MI := (yX8_isStretch, cX8_isStretch, 4, (some .boolean), 2)
abbrev Y_X8_isTeamSet : MI := (yX8_isTeamSet, cX8_isTeamSet, 2, (some .boolean), 1)
abbrev Y_X8_isYard : MI := (yX8_isYard, cX8_isYard, 1, (some .boolean), 1)
abbrev Y_X8_judge : MI := (yX8_judge, cX8_judge, 5, (some .int), 4)
abbrev Y_X8_later : MI := (yX8_later, cX8_later, 4, (some .int), 5)
abbrev Y_X8_least : MI := (yX8_least, cX8_least, 4, (some .int), 5)
abbrev Y_X8_leg : MI := (yX8_leg, cX8_leg, 3, (some .int), 5)
abbrev Y_X8_load : MI := (yX8_load, cX8_load, 6, (some .int), 2)
abbrev Y_X8_mean : MI := (yX8_mean, cX8_mean, 4, (some .int), 4)
abbrev Y_X8_nerves : MI := (yX8_nerves, cX8_nerves, 2, (some .int), 2)
abbrev Y_X8_next : MI := (yX8_next, cX8_next, 2, (some .int), 2)
abbrev Y_X8_now : MI := (yX8_now, cX8_now, 2, (some .int), 3)
abbrev Y_X8_odds : MI := (yX8_odds, cX8_odds, 5, (some .int), 2)
abbrev Y_X8_of : MI := (yX8_of, cX8_of, 3, (some .int), 2)
abbrev Y_X8_pace : MI := (yX8_pace, cX8_pace, 8, (some .int), 2)
abbrev Y_X8_paceOf : MI := (yX8_paceOf, cX8_paceOf, 3, (some .int), 2)
abbrev Y_X8_pick : MI := (yX8_pick, cX8_pick, 3, (some .int), 1)
abbrev Y_X8_place : MI := (yX8_place, cX8_place, 2, (some .int), 6)
abbrev Y_X8_rain : MI := (yX8_rain, cX8_rain, 4, (some .int), 1)
abbrev Y_X8_runAllHome : MI := (yX8_runAllHome, cX8_runAllHome, 1, none, 5)
abbrev Y_X8_runner : MI := (yX8_runner, cX8_runner, 4, (some .int), 3)
abbrev Y_X8_seed : MI := (yX8_seed, cX8_seed, 3, (some .int), 0)
abbrev Y_X8_sheet : MI := (yX8_sheet, cX8_sheet, 4, (some .int), 2)
abbrev Y_X8_spoon : MI := (yX8_spoon, cX8_spoon, 6, (some .int), 5)
abbrev Y_X8_start : MI := (yX8_start, cX8_start, 1, (some .int), 3)
abbrev Y_X8_status : MI := (yX8_status, cX8_status, 4, (some .int), 1)
abbrev Y_X8_steps : MI := (yX8_steps, cX8_steps, 2, (some .int), 5)
abbrev Y_X8_suspect : MI := (yX8_suspect, cX8_suspect, 9, (some .int), 4)
abbrev Y_X8_team : MI := (yX8_team, cX8_team, 2, (some .int), 5)
abbrev Y_X8_tear : MI := (yX8_tear, cX8_tear, 2, (some .int), 0)
abbrev Y_X8_text : MI := (yX8_text, cX8_text, 2, (some .int), 10)
abbrev Y_X8_told : MI := (yX8_told, cX8_told, 5, (some .int), 2)
abbrev Y_X8_train : MI := (yX8_train, cX8_train, 6, (some .int), 5)
abbrev Y_X8_tryGum : MI := (yX8_tryGum, cX8_tryGum, 2, none, 3)
abbrev Y_X8_undo : MI := (yX8_undo, cX8_undo, 1, (some .int), 3)
abbrev Y_X8_wholeMean : MI := (yX8_wholeMean, cX8_wholeMean, 3, (some .int), 4)
abbrev Y_X8_winner : MI := (yX8_winner, cX8_winner, 1, (some .int), 6)
abbrev Y_X8_wins : MI := (yX8_wins, cX8_wins, 5, (some .int), 5)
abbrev Y_X8_wipe : MI := (yX8_wipe, cX8_wipe, 2, (some .int), 0)
abbrev Y_X8_within : MI := (yX8_within, cX8_within, 3, (some .boolean), 0)
abbrev Y_X8_worst : MI := (yX8_worst, cX8_worst, 6, (some .int), 5)
abbrev Y_X8_write : MI := (yX8_write, cX8_write, 4, (some .int), 2)
abbrev Y_X9_above : MI := (yX9_above, cX9_above, 1, (some .int), 0)
abbrev Y_X9_ahead : MI := (yX9_ahead, cX9_ahead, 5, (some .int), 6)
abbrev Y_X9_allDrops : MI := (yX9_allDrops, cX9_allDrops, 3, (some .int), 1)
abbrev Y_X9_allGoHome : MI := (yX9_allGoHome, cX9_allGoHome, 1, none, 6)
abbrev Y_X9_armFor : MI := (yX9_armFor, cX9_armFor, 6, (some .int), 6)
abbrev Y_X9_as : MI := (yX9_as, cX9_as, 5, (some .int), 2)
abbrev Y_X9_becomes : MI := (yX9_becomes, cX9_becomes, 4, (some .int), 0)
abbrev Y_X9_behind : MI := (yX9_behind, cX9_behind, 8, (some .int), 3)
abbrev Y_X9_best : MI := (yX9_best, cX9_best, 4, (some .int), 5)
abbrev Y_X9_bestTeam : MI := (yX9_bestTeam, cX9_bestTeam, 8, (some .int), 5)
abbrev Y_X9_change : MI := (yX9_change, cX9_change, 4, (some .int), 3)
abbrev Y_X9_clean : MI := (yX9_clean, cX9_clean, 7, (some .long), 4)
abbrev Y_X9_comes : MI := (yX9_comes, cX9_comes, 7, (some .int), 1)
abbrev Y_X9_copy : MI := (yX9_copy, cX9_copy, 9, (some .int), 2)
abbrev Y_X9_costs : MI := (yX9_costs, cX9_costs, 3, (some .int), 5)
abbrev Y_X9_count : MI := (yX9_count, cX9_count, 2, (some .int), 3)
abbrev Y_X9_draw : MI := (yX9_draw, cX9_draw, 1, (some .int), 0)
abbrev Y_X9_dropping (n : Nat) : MI := (yX9_dropping, cX9_dropping, 9, (some .long), 4 + n)
abbrev Y_X9_droppingAs : MI := (yX9_droppingAs, cX9_droppingAs, 9, (some .long), 17)
abbrev Y_X9_drops : MI := (yX9_drops, cX9_drops, 5, (some .long), 17)
abbrev Y_X9_even : MI := (yX9_even, cX9_even, 6, (some .int), 6)
abbrev Y_X9_feed : MI := (yX9_feed, cX9_feed, 4, (some .int), 1)
abbrev Y_X9_finds : MI := (yX9_finds, cX9_finds, 2, (some .int), 0)
abbrev Y_X9_firstHome : MI := (yX9_firstHome, cX9_firstHome, 3, (some .int), 2)
abbrev Y_X9_grass : MI := (yX9_grass, cX9_grass, 3, (some .int), 0)
abbrev Y_X9_ground : MI := (yX9_ground, cX9_ground, 3, (some .int), 2)
abbrev Y_X9_groundHere : MI := (yX9_groundHere, cX9_groundHere, 1, (some .int), 6)
abbrev Y_X9_groundItem : MI := (yX9_groundItem, cX9_groundItem, 5, none, 7)
abbrev Y_X9_gum : MI := (yX9_gum, cX9_gum, 6, (some .long), 18)
abbrev Y_X9_hold : MI := (yX9_hold, cX9_hold, 3, (some .int), 2)
abbrev Y_X9_holding : MI := (yX9_holding, cX9_holding, 3, (some .int), 0)
abbrev Y_X9_holds : MI := (yX9_holds, cX9_holds, 3, (some .int), 1)
abbrev Y_X9_home : MI := (yX9_home, cX9_home, 3, (some .int), 2)
abbrev Y_X9_hurts : MI := (yX9_hurts, cX9_hurts, 5, (some .int), 1)
abbrev Y_X9_image : MI := (yX9_image, cX9_image, 1, (some .int), 1)
abbrev Y_X9_in : MI := (yX9_in, cX9_in, 6, (some .boolean), 0)
abbrev Y_X9_init : MI := (yX9_init, cX9_init, 2, none, 1)
abbrev Y_X9_is : MI := (yX9_is, cX9_is, 3, (some .int), 0)
abbrev Y_X9_isAhead : MI := (yX9_isAhead, cX9_isAhead, 3, (some .boolean), 1)
abbrev Y_X9_isByte : MI := (yX9_isByte, cX9_isByte, 4, (some .boolean), 1)
abbrev Y_X9_isHome : MI := (yX9_isHome, cX9_isHome, 2, (some .boolean), 1)
abbrev Y_X9_isKind : MI := (yX9_isKind, cX9_isKind, 1, (some .boolean), 1)
abbrev Y_X9_isMean : MI := (yX9_isMean, cX9_isMean, 5, (some .boolean), 2)
abbrev Y_X9_isPace : MI := (yX9_isPace, cX9_isPace, 1, (some .boolean), 1)
abbrev Y_X9_isPart : MI := (yX9_isPart, cX9_isPart, 2, (some .boolean), 2)
abbrev Y_X9_isRunner : MI := (yX9_isRunner, cX9_isRunner, 2, (some .boolean), 1)
abbrev Y_X9_isSheet : MI := (yX9_isSheet, cX9_isSheet, 1, (some .boolean), 1)
abbrev Y_X9_isSign : MI := (yX9_isSign, cX9_isSign, 2, (some .boolean), 0)
abbrev Y_X9_isStretch : MI := (yX9_isStretch, cX9_isStretch, 5, (some .boolean), 2)
abbrev Y_X9_isTeam : MI := (yX9_isTeam, cX9_isTeam, 2, (some .boolean), 1)
abbrev Y_X9_isWord : MI := (yX9_isWord, cX9_isWord, 4, (some .boolean), 5)
abbrev Y_X9_isYard : MI := (yX9_isYard, cX9_isYard, 1, (some .boolean), 1)
abbrev Y_X9_item : MI := (yX9_item, cX9_item, 3, none, 8)
abbrev Y_X9_judge : MI := (yX9_judge, cX9_judge, 4, (some .int), 5)
abbrev Y_X9_kindHere : MI := (yX9_kindHere, cX9_kindHere, 1, (some .int), 6)
abbrev Y_X9_later : MI := (yX9_later, cX9_later, 5, (some .int), 6)
abbrev Y_X9_least : MI := (yX9_least, cX9_least, 4, (some .int), 5)
abbrev Y_X9_leg : MI := (yX9_leg, cX9_leg, 3, (some .int), 6)
abbrev Y_X9_load : MI := (yX9_load, cX9_load, 4, (some .int), 2)
abbrev Y_X9_makes : MI := (yX9_makes, cX9_makes, 4, none, 0)
abbrev Y_X9_many : MI := (yX9_many, cX9_many, 3, (some .int), 0)
abbrev Y_X9_mean : MI := (yX9_mean, cX9_mean, 4, (some .int), 5)
abbrev Y_X9_meanOf : MI := (yX9_meanOf, cX9_meanOf, 2, (some .int), 5)
abbrev Y_X9_means : MI := (yX9_means, cX9_means, 8, none, 4)
abbrev Y_X9_nerves : MI := (yX9_nerves, cX9_nerves, 2, (some .int), 3)
abbrev Y_X9_nervesOf : MI := (yX9_nervesOf, cX9_nervesOf, 4, (some .int), 2)
abbrev Y_X9_next : MI := (yX9_next, cX9_next, 1, (some .int), 3)
abbrev Y_X9_now : MI := (yX9_now, cX9_now, 2, (some .int), 4)
abbrev Y_X9_number : MI := (yX9_number, cX9_number, 4, (some .int), 3)
abbrev Y_X9_odds : MI := (yX9_odds, cX9_odds, 5, (some .int), 3)
abbrev Y_X9_oddsAt : MI := (yX9_oddsAt, cX9_oddsAt, 4, (some .int), 3)
abbrev Y_X9_oddsBy : MI := (yX9_oddsBy, cX9_oddsBy, 7, (some .int), 2)
abbrev Y_X9_oddsNow : MI := (yX9_oddsNow, cX9_oddsNow, 2, (some .int), 3)
abbrev Y_X9_of : MI := (yX9_of, cX9_of, 3, (some .int), 2)
abbrev Y_X9_orNone : MI := (yX9_orNone, cX9_orNone, 2, (some .int), 1)
abbrev Y_X9_pace : MI := (yX9_pace, cX9_pace, 7, (some .int), 2)
abbrev Y_X9_paceAt : MI := (yX9_paceAt, cX9_paceAt, 3, (some .int), 1)
abbrev Y_X9_paceOf : MI := (yX9_paceOf, cX9_paceOf, 3, (some .int), 2)
abbrev Y_X9_pick : MI := (yX9_pick, cX9_pick, 2, (some .int), 1)
abbrev Y_X9_place : MI := (yX9_place, cX9_place, 4, (some .int), 7)
abbrev Y_X9_rain : MI := (yX9_rain, cX9_rain, 4, (some .int), 1)
abbrev Y_X9_rocks : MI := (yX9_rocks, cX9_rocks, 5, (some .int), 1)
abbrev Y_X9_row : MI := (yX9_row, cX9_row, 3, none, 0)
abbrev Y_X9_runner : MI := (yX9_runner, cX9_runner, 4, (some .int), 2)
abbrev Y_X9_runnerItem : MI := (yX9_runnerItem, cX9_runnerItem, 5, none, 7)
abbrev Y_X9_runsNext : MI := (yX9_runsNext, cX9_runsNext, 3, (some .int), 2)
abbrev Y_X9_seed : MI := (yX9_seed, cX9_seed, 2, (some .int), 1)
abbrev Y_X9_sheet : MI := (yX9_sheet, cX9_sheet, 5, (some .int), 2)
abbrev Y_X9_spoon : MI := (yX9_spoon, cX9_spoon, 7, (some .int), 6)
abbrev Y_X9_start : MI := (yX9_start, cX9_start, 2, (some .int), 3)
abbrev Y_X9_starts : MI := (yX9_starts, cX9_starts, 3, none, 1)
abbrev Y_X9_status : MI := (yX9_status, cX9_status, 4, (some .int), 1)
abbrev Y_X9_step : MI := (yX9_step, cX9_step, 6, (some .int), 4)
abbrev Y_X9_steps : MI := (yX9_steps, cX9_steps, 2, (some .int), 6)
abbrev Y_X9_stepsGo : MI := (yX9_stepsGo, cX9_stepsGo, 4, (some .int), 5)
abbrev Y_X9_suspect : MI := (yX9_suspect, cX9_suspect, 7, (some .int), 18)
abbrev Y_X9_takes : MI := (yX9_takes, cX9_takes, 4, (some .int), 1)
abbrev Y_X9_takes_ : MI := (yX9_takes_, cX9_takes_, 2, (some .boolean), 6)
abbrev Y_X9_team : MI := (yX9_team, cX9_team, 2, (some .int), 6)
abbrev Y_X9_tear : MI := (yX9_tear, cX9_tear, 2, (some .int), 0)
abbrev Y_X9_text : MI := (yX9_text, cX9_text, 4, (some .int), 9)
abbrev Y_X9_token : MI := (yX9_token, cX9_token, 1, none, 2)
abbrev Y_X9_told : MI := (yX9_told, cX9_told, 4, (some .int), 2)
abbrev Y_X9_train : MI := (yX9_train, cX9_train, 4, (some .int), 5)
abbrev Y_X9_undo : MI := (yX9_undo, cX9_undo, 1, (some .int), 1)
abbrev Y_X9_winner : MI := (yX9_winner, cX9_winner, 2, (some .int), 7)
abbrev Y_X9_wins : MI := (yX9_wins, cX9_wins, 5, (some .int), 7)
abbrev Y_X9_wipe : MI := (yX9_wipe, cX9_wipe, 2, (some .int), 0)
abbrev Y_X9_worst : MI := (yX9_worst, cX9_worst, 7, (some .int), 6)
abbrev Y_X9_write : MI := (yX9_write, cX9_write, 4, (some .int), 2)
theorem lc_J0_charAt_5068e : LnkC Y_J0_charAt_5068e 1 := ⟨(WT_mem (t3_in (List.mem_of_getElem? (i := 223) rfl)) rfl), (WT_mem (t1_in (List.mem_of_getElem? (i := 15) rfl)) rfl), ⟨by decide +kernel, by decide +kernel, by decide +kernel⟩, by decide⟩
theorem lc_J0_checkIndex_df160 : LnkC Y_J0_checkIndex_df160 2 := ⟨(WT_mem (t3_in (List.mem_of_getElem? (i := 233) rfl)) rfl), (WT_mem (t1_in (List.mem_of_getElem? (i := 15) rfl)) rfl), ⟨by decide +kernel, by decide +kernel, by decide +kernel⟩, by decide⟩
theorem lc_J0_coder_7d493 : LnkC Y_J0_coder_7d493 0 := ⟨(WT_mem (t3_in (List.mem_of_getElem? (i := 217) rfl)) rfl), (WT_mem (t1_in (List.mem_of_getElem? (i := 15) rfl)) rfl), ⟨by decide +kernel, by decide +kernel, by decide +kernel⟩, by decide⟩
theorem lc_J0_isLatin1_aae02 : LnkC Y_J0_isLatin1_aae02 0 := ⟨(WT_mem (t3_in (List.mem_of_getElem? (i := 227) rfl)) rfl), (WT_mem (t1_in (List.mem_of_getElem? (i := 15) rfl)) rfl), ⟨by decide +kernel, by decide +kernel, by decide +kernel⟩, by decide⟩
theorem lc_J0_length_8abf5 : LnkC Y_J0_length_8abf5 0 := ⟨(WT_mem (t3_in (List.mem_of_getElem? (i := 213) rfl)) rfl), (WT_mem (t1_in (List.mem_of_getElem? (i := 15) rfl)) rfl), ⟨by decide +kernel, by decide +kernel, by decide +kernel⟩, by decide⟩
theorem lc_J1_charAt_3b067 : LnkC Y_J1_charAt_3b067 2 := ⟨(WT_mem (t3_in (List.mem_of_getElem? (i := 230) rfl)) rfl), (WT_mem (t1_in (List.mem_of_getElem? (i := 16) rfl)) rfl), ⟨by decide +kernel, by decide +kernel, by decide +kernel⟩, by decide⟩
theorem lc_J2_charAt_3b067 : LnkC Y_J2_charAt_3b067 2 := ⟨(WT_mem (t4_in (List.mem_of_getElem? (i := 1) rfl)) rfl), (WT_mem (t1_in (List.mem_of_getElem? (i := 18) rfl)) rfl), ⟨by decide +kernel, by decide +kernel, by decide +kernel⟩, by decide⟩
theorem lc_J2_checkIndex_2214a : LnkC Y_J2_checkIndex_2214a 2 := ⟨(WT_mem (t4_in (List.mem_of_getElem? (i := 4) rfl)) rfl), (WT_mem (t1_in (List.mem_of_getElem? (i := 18) rfl)) rfl), ⟨by decide +kernel, by decide +kernel, by decide +kernel⟩, by decide⟩
theorem lc_J2_getChar_3b067 : LnkC Y_J2_getChar_3b067 2 := ⟨(WT_mem (t4_in (List.mem_of_getElem? (i := 11) rfl)) rfl), (WT_mem (t1_in (List.mem_of_getElem? (i := 18) rfl)) rfl), ⟨by decide +kernel, by decide +kernel, by decide +kernel⟩, by decide⟩
theorem lc_J2_length_9d52b : LnkC Y_J2_length_9d52b 1 := ⟨(WT_mem (t4_in (List.mem_of_getElem? (i := 7) rfl)) rfl), (WT_mem (t1_in (List.mem_of_getElem? (i := 18) rfl)) rfl), ⟨by decide +kernel, by decide +kernel, by decide +kernel⟩, by decide⟩
theorem lc_J3_checkIndex_8e157 : LnkC Y_J3_checkIndex_8e157 3 := ⟨(WT_mem (t3_in (List.mem_of_getElem? (i := 238) rfl)) rfl), (WT_mem (t1_in (List.mem_of_getElem? (i := 17) rfl)) rfl), ⟨by decide +kernel, by decide +kernel, by decide +kernel⟩, by decide⟩
theorem lc_J6_bitCount_0f7a4 : LnkC Y_J6_bitCount_0f7a4 1 := ⟨(WT_mem (t2_in (List.mem_of_getElem? (i := 201) rfl)) rfl), (WT_mem (t1_in (List.mem_of_getElem? (i := 13) rfl)) rfl), ⟨by decide +kernel, by decide +kernel, by decide +kernel⟩, by decide⟩
theorem lc_J7_fill_53178 : LnkC Y_J7_fill_53178 2 := ⟨(WT_mem (t1_in (List.mem_of_getElem? (i := 81) rfl)) rfl), (WT_mem (t1_in (List.mem_of_getElem? (i := 4) rfl)) rfl), ⟨by decide +kernel, by decide +kernel, by decide +kernel⟩, by decide⟩
theorem lc_J7_fill_d0a16 : LnkC Y_J7_fill_d0a16 2 := ⟨(WT_mem (t3_in (List.mem_of_getElem? (i := 25) rfl)) rfl), (WT_mem (t1_in (List.mem_of_getElem? (i := 4) rfl)) rfl), ⟨by decide +kernel, by decide +kernel, by decide +kernel⟩, by decide⟩
theorem lc_J9_abs_0f7a4 : LnkC Y_J9_abs_0f7a4 1 := ⟨(WT_mem (t2_in (List.mem_of_getElem? (i := 152) rfl)) rfl), (WT_mem (t1_in (List.mem_of_getElem? (i := 12) rfl)) rfl), ⟨by decide +kernel, by decide +kernel, by decide +kernel⟩, by decide⟩
theorem lc_J9_max_7cf53 : LnkC Y_J9_max_7cf53 2 := ⟨(WT_mem (t2_in (List.mem_of_getElem? (i := 132) rfl)) rfl), (WT_mem (t1_in (List.mem_of_getElem? (i := 12) rfl)) rfl), ⟨by decide +kernel, by decide +kernel, by decide +kernel⟩, by decide⟩
theorem lc_J9_min_7cf53 : LnkC Y_J9_min_7cf53 2 := ⟨(WT_mem (t2_in (List.mem_of_getElem? (i := 129) rfl)) rfl), (WT_mem (t1_in (List.mem_of_getElem? (i := 12) rfl)) rfl), ⟨by decide +kernel, by decide +kernel, by decide +kernel⟩, by decide⟩
theorem lc_X0_ofDrops : LnkC Y_X0_ofDrops 5 := ⟨(WT_mem (t3_in (List.mem_of_getElem? (i := 22) rfl)) rfl), (WT_mem (t1_in (List.mem_of_getElem? (i := 6) rfl)) rfl), ⟨by decide +kernel, by decide +kernel, by decide +kernel⟩, by decide⟩
theorem lc_X0_spread : LnkC Y_X0_spread 3 := ⟨(WT_mem (t3_in (List.mem_of_getElem? (i := 31) rfl)) rfl), (WT_mem (t1_in (List.mem_of_getElem? (i := 6) rfl)) rfl), ⟨by decide +kernel, by decide +kernel, by decide +kernel⟩, by decide⟩
theorem lc_X1_atBest : LnkC Y_X1_atBest 4 := ⟨(WT_mem (t3_in (List.mem_of_getElem? (i := 61) rfl)) rfl), (WT_mem (t1_in (List.mem_of_getElem? (i := 5) rfl)) rfl), ⟨by decide +kernel, by decide +kernel, by decide +kernel⟩, by decide⟩
theorem lc_X1_atPaces : LnkC Y_X1_atPaces 5 := ⟨(WT_mem (t3_in (List.mem_of_getElem? (i := 40) rfl)) rfl), (WT_mem (t1_in (List.mem_of_getElem? (i := 5) rfl)) rfl), ⟨by decide +kernel, by decide +kernel, by decide +kernel⟩, by decide⟩
theorem lc_X1_bestPace : LnkC Y_X1_bestPace 4 := ⟨(WT_mem (t3_in (List.mem_of_getElem? (i := 65) rfl)) rfl), (WT_mem (t1_in (List.mem_of_getElem? (i := 5) rfl)) rfl), ⟨by decide +kernel, by decide +kernel, by decide +kernel⟩, by decide⟩
theorem lc_X1_chosenPace : LnkC Y_X1_chosenPace 2 := ⟨(WT_mem (t3_in (List.mem_of_getElem? (i := 74) rfl)) rfl), (WT_mem (t1_in (List.mem_of_getElem? (i := 5) rfl)) rfl), ⟨by decide +kernel, by decide +kernel, by decide +kernel⟩, by decide⟩
theorem lc_X1_goBack : LnkC Y_X1_goBack 0 := ⟨(WT_mem (t3_in (List.mem_of_getElem? (i := 52) rfl)) rfl), (WT_mem (t1_in (List.mem_of_getElem? (i := 5) rfl)) rfl), ⟨by decide +kernel, by decide +kernel, by decide +kernel⟩, by decide⟩
theorem lc_X1_through : LnkC Y_X1_through 5 := ⟨(WT_mem (t3_in (List.mem_of_getElem? (i := 45) rfl)) rfl), (WT_mem (t1_in (List.mem_of_getElem? (i := 5) rfl)) rfl), ⟨by decide +kernel, by decide +kernel, by decide +kernel⟩, by decide⟩
theorem lc_X2_add : LnkC Y_X2_add 3 := ⟨(WT_mem (t2_in (List.mem_of_getElem? (i := 41) rfl)) rfl), (WT_mem (t1_in (List.mem_of_getElem? (i := 2) rfl)) rfl), ⟨by decide +kernel, by decide +kernel, by decide +kernel⟩, by decide⟩
theorem lc_X2_become : LnkC Y_X2_become 1 := ⟨(WT_mem (t2_in (List.mem_of_getElem? (i := 213) rfl)) rfl), (WT_mem (t1_in (List.mem_of_getElem? (i := 2) rfl)) rfl), ⟨by decide +kernel, by decide +kernel, by decide +kernel⟩, by decide⟩
theorem lc_X2_countDrops : LnkC Y_X2_countDrops 0 := ⟨(WT_mem (t4_in (List.mem_of_getElem? (i := 146) rfl)) rfl), (WT_mem (t1_in (List.mem_of_getElem? (i := 2) rfl)) rfl), ⟨by decide +kernel, by decide +kernel, by decide +kernel⟩, by decide⟩
theorem lc_X2_countGrass : LnkC Y_X2_countGrass 0 := ⟨(WT_mem (t3_in (List.mem_of_getElem? (i := 159) rfl)) rfl), (WT_mem (t1_in (List.mem_of_getElem? (i := 2) rfl)) rfl), ⟨by decide +kernel, by decide +kernel, by decide +kernel⟩, by decide⟩
theorem lc_X2_countHolding : LnkC Y_X2_countHolding 0 := ⟨(WT_mem (t4_in (List.mem_of_getElem? (i := 150) rfl)) rfl), (WT_mem (t1_in (List.mem_of_getElem? (i := 2) rfl)) rfl), ⟨by decide +kernel, by decide +kernel, by decide +kernel⟩, by decide⟩
theorem lc_X2_draw : LnkC Y_X2_draw 0 := ⟨(WT_mem (t2_in (List.mem_of_getElem? (i := 184) rfl)) rfl), (WT_mem (t1_in (List.mem_of_getElem? (i := 2) rfl)) rfl), ⟨by decide +kernel, by decide +kernel, by decide +kernel⟩, by decide⟩
theorem lc_X2_go : LnkC Y_X2_go 1 := ⟨(WT_mem (t2_in (List.mem_of_getElem? (i := 174) rfl)) rfl), (WT_mem (t1_in (List.mem_of_getElem? (i := 2) rfl)) rfl), ⟨by decide +kernel, by decide +kernel, by decide +kernel⟩, by decide⟩
theorem lc_X2_homeSet : LnkC Y_X2_homeSet 0 := ⟨(WT_mem (t2_in (List.mem_of_getElem? (i := 198) rfl)) rfl), (WT_mem (t1_in (List.mem_of_getElem? (i := 2) rfl)) rfl), ⟨by decide +kernel, by decide +kernel, by decide +kernel⟩, by decide⟩
theorem lc_X2_leastInTime : LnkC Y_X2_leastInTime 0 := ⟨(WT_mem (t2_in (List.mem_of_getElem? (i := 234) rfl)) rfl), (WT_mem (t1_in (List.mem_of_getElem? (i := 2) rfl)) rfl), ⟨by decide +kernel, by decide +kernel, by decide +kernel⟩, by decide⟩
theorem lc_X2_nervesOf : LnkC Y_X2_nervesOf 1 := ⟨(WT_mem (t2_in (List.mem_of_getElem? (i := 148) rfl)) rfl), (WT_mem (t1_in (List.mem_of_getElem? (i := 2) rfl)) rfl), ⟨by decide +kernel, by decide +kernel, by decide +kernel⟩, by decide⟩
theorem lc_X2_oddsInStep : LnkC Y_X2_oddsInStep 1 := ⟨(WT_mem (t2_in (List.mem_of_getElem? (i := 144) rfl)) rfl), (WT_mem (t1_in (List.mem_of_getElem? (i := 2) rfl)) rfl), ⟨by decide +kernel, by decide +kernel, by decide +kernel⟩, by decide⟩
theorem lc_X2_oddsOf : LnkC Y_X2_oddsOf 5 := ⟨(WT_mem (t2_in (List.mem_of_getElem? (i := 116) rfl)) rfl), (WT_mem (t1_in (List.mem_of_getElem? (i := 2) rfl)) rfl), ⟨by decide +kernel, by decide +kernel, by decide +kernel⟩, by decide⟩
theorem lc_X2_placeOf : LnkC Y_X2_placeOf 1 := ⟨(WT_mem (t3_in (List.mem_of_getElem? (i := 2) rfl)) rfl), (WT_mem (t1_in (List.mem_of_getElem? (i := 2) rfl)) rfl), ⟨by decide +kernel, by decide +kernel, by decide +kernel⟩, by decide⟩
theorem lc_X2_restart : LnkC Y_X2_restart 0 := ⟨(WT_mem (t2_in (List.mem_of_getElem? (i := 194) rfl)) rfl), (WT_mem (t1_in (List.mem_of_getElem? (i := 2) rfl)) rfl), ⟨by decide +kernel, by decide +kernel, by decide +kernel⟩, by decide⟩
theorem lc_X2_step : LnkC Y_X2_step 1 := ⟨(WT_mem (t2_in (List.mem_of_getElem? (i := 179) rfl)) rfl), (WT_mem (t1_in (List.mem_of_getElem? (i := 2) rfl)) rfl), ⟨by decide +kernel, by decide +kernel, by decide +kernel⟩, by decide⟩
theorem lc_X2_whoRuns : LnkC Y_X2_whoRuns 0 := ⟨(WT_mem (t2_in (List.mem_of_getElem? (i := 166) rfl)) rfl), (WT_mem (t1_in (List.mem_of_getElem? (i := 2) rfl)) rfl), ⟨by decide +kernel, by decide +kernel, by decide +kernel⟩, by decide⟩
theorem lc_X3_groundTold : LnkC Y_X3_groundTold 0 := ⟨(WT_mem (t3_in (List.mem_of_getElem? (i := 204) rfl)) rfl), (WT_mem (t1_in (List.mem_of_getElem? (i := 8) rfl)) rfl), ⟨by decide +kernel, by decide +kernel, by decide +kernel⟩, by decide⟩
theorem lc_X3_kindTold : LnkC Y_X3_kindTold 0 := ⟨(WT_mem (t4_in (List.mem_of_getElem? (i := 49) rfl)) rfl), (WT_mem (t1_in (List.mem_of_getElem? (i := 8) rfl)) rfl), ⟨by decide +kernel, by decide +kernel, by decide +kernel⟩, by decide⟩
theorem lc_X3_numberBehind : LnkC Y_X3_numberBehind 2 := ⟨(WT_mem (t4_in (List.mem_of_getElem? (i := 29) rfl)) rfl), (WT_mem (t1_in (List.mem_of_getElem? (i := 8) rfl)) rfl), ⟨by decide +kernel, by decide +kernel, by decide +kernel⟩, by decide⟩
theorem lc_X3_perhaps : LnkC Y_X3_perhaps 4 := ⟨(WT_mem (t4_in (List.mem_of_getElem? (i := 40) rfl)) rfl), (WT_mem (t1_in (List.mem_of_getElem? (i := 8) rfl)) rfl), ⟨by decide +kernel, by decide +kernel, by decide +kernel⟩, by decide⟩
theorem lc_X3_readGround : LnkC Y_X3_readGround 2 := ⟨(WT_mem (t4_in (List.mem_of_getElem? (i := 25) rfl)) rfl), (WT_mem (t1_in (List.mem_of_getElem? (i := 8) rfl)) rfl), ⟨by decide +kernel, by decide +kernel, by decide +kernel⟩, by decide⟩
theorem lc_X3_readInto : LnkC Y_X3_readInto 1 := ⟨(WT_mem (t3_in (List.mem_of_getElem? (i := 187) rfl)) rfl), (WT_mem (t1_in (List.mem_of_getElem? (i := 8) rfl)) rfl), ⟨by decide +kernel, by decide +kernel, by decide +kernel⟩, by decide⟩
theorem lc_X3_readItem : LnkC Y_X3_readItem 1 := ⟨(WT_mem (t3_in (List.mem_of_getElem? (i := 200) rfl)) rfl), (WT_mem (t1_in (List.mem_of_getElem? (i := 8) rfl)) rfl), ⟨by decide +kernel, by decide +kernel, by decide +kernel⟩, by decide⟩
theorem lc_X3_readPick : LnkC Y_X3_readPick 1 := ⟨(WT_mem (t4_in (List.mem_of_getElem? (i := 45) rfl)) rfl), (WT_mem (t1_in (List.mem_of_getElem? (i := 8) rfl)) rfl), ⟨by decide +kernel, by decide +kernel, by decide +kernel⟩, by decide⟩
theorem lc_X3_readRunner : LnkC Y_X3_readRunner 2 := ⟨(WT_mem (t4_in (List.mem_of_getElem? (i := 60) rfl)) rfl), (WT_mem (t1_in (List.mem_of_getElem? (i := 8) rfl)) rfl), ⟨by decide +kernel, by decide +kernel, by decide +kernel⟩, by decide⟩
theorem lc_X4_beNew : LnkC Y_X4_beNew 3 := ⟨(WT_mem (t2_in (List.mem_of_getElem? (i := 45) rfl)) rfl), (WT_mem (t1_in (List.mem_of_getElem? (i := 3) rfl)) rfl), ⟨by decide +kernel, by decide +kernel, by decide +kernel⟩, by decide⟩
theorem lc_X4_become : LnkC Y_X4_become 1 := ⟨(WT_mem (t2_in (List.mem_of_getElem? (i := 220) rfl)) rfl), (WT_mem (t1_in (List.mem_of_getElem? (i := 3) rfl)) rfl), ⟨by decide +kernel, by decide +kernel, by decide +kernel⟩, by decide⟩
theorem lc_X4_holds : LnkC Y_X4_holds 0 := ⟨(WT_mem (t2_in (List.mem_of_getElem? (i := 66) rfl)) rfl), (WT_mem (t1_in (List.mem_of_getElem? (i := 3) rfl)) rfl), ⟨by decide +kernel, by decide +kernel, by decide +kernel⟩, by decide⟩
theorem lc_X4_hurts : LnkC Y_X4_hurts 1 := ⟨(WT_mem (t2_in (List.mem_of_getElem? (i := 121) rfl)) rfl), (WT_mem (t1_in (List.mem_of_getElem? (i := 3) rfl)) rfl), ⟨by decide +kernel, by decide +kernel, by decide +kernel⟩, by decide⟩
theorem lc_X4_isHome : LnkC Y_X4_isHome 0 := ⟨(WT_mem (t2_in (List.mem_of_getElem? (i := 140) rfl)) rfl), (WT_mem (t1_in (List.mem_of_getElem? (i := 3) rfl)) rfl), ⟨by decide +kernel, by decide +kernel, by decide +kernel⟩, by decide⟩
theorem lc_X4_isOfKind : LnkC Y_X4_isOfKind 1 := ⟨(WT_mem (t4_in (List.mem_of_getElem? (i := 81) rfl)) rfl), (WT_mem (t1_in (List.mem_of_getElem? (i := 3) rfl)) rfl), ⟨by decide +kernel, by decide +kernel, by decide +kernel⟩, by decide⟩
theorem lc_X4_mostOf : LnkC Y_X4_mostOf 1 := ⟨(WT_mem (t2_in (List.mem_of_getElem? (i := 75) rfl)) rfl), (WT_mem (t1_in (List.mem_of_getElem? (i := 3) rfl)) rfl), ⟨by decide +kernel, by decide +kernel, by decide +kernel⟩, by decide⟩
theorem lc_X4_put : LnkC Y_X4_put 2 := ⟨(WT_mem (t2_in (List.mem_of_getElem? (i := 79) rfl)) rfl), (WT_mem (t1_in (List.mem_of_getElem? (i := 3) rfl)) rfl), ⟨by decide +kernel, by decide +kernel, by decide +kernel⟩, by decide⟩
theorem lc_X4_restart : LnkC Y_X4_restart 0 := ⟨(WT_mem (t2_in (List.mem_of_getElem? (i := 50) rfl)) rfl), (WT_mem (t1_in (List.mem_of_getElem? (i := 3) rfl)) rfl), ⟨by decide +kernel, by decide +kernel, by decide +kernel⟩, by decide⟩
theorem lc_X4_rocks : LnkC Y_X4_rocks 1 := ⟨(WT_mem (t2_in (List.mem_of_getElem? (i := 104) rfl)) rfl), (WT_mem (t1_in (List.mem_of_getElem? (i := 3) rfl)) rfl), ⟨by decide +kernel, by decide +kernel, by decide +kernel⟩, by decide⟩
theorem lc_X4_takes : LnkC Y_X4_takes 1 := ⟨(WT_mem (t2_in (List.mem_of_getElem? (i := 98) rfl)) rfl), (WT_mem (t1_in (List.mem_of_getElem? (i := 3) rfl)) rfl), ⟨by decide +kernel, by decide +kernel, by decide +kernel⟩, by decide⟩
theorem lc_X4_tell : LnkC Y_X4_tell 1 := ⟨(WT_mem (t2_in (List.mem_of_getElem? (i := 62) rfl)) rfl), (WT_mem (t1_in (List.mem_of_getElem? (i := 3) rfl)) rfl), ⟨by decide +kernel, by decide +kernel, by decide +kernel⟩, by decide⟩
theorem lc_X5_hasRow : LnkC Y_X5_hasRow 2 := ⟨(WT_mem (t4_in (List.mem_of_getElem? (i := 115) rfl)) rfl), (WT_mem (t1_in (List.mem_of_getElem? (i := 10) rfl)) rfl), ⟨by decide +kernel, by decide +kernel, by decide +kernel⟩, by decide⟩
theorem lc_X5_isMissing : LnkC Y_X5_isMissing 0 := ⟨(WT_mem (t4_in (List.mem_of_getElem? (i := 103) rfl)) rfl), (WT_mem (t1_in (List.mem_of_getElem? (i := 10) rfl)) rfl), ⟨by decide +kernel, by decide +kernel, by decide +kernel⟩, by decide⟩
theorem lc_X5_lay : LnkC Y_X5_lay 2 := ⟨(WT_mem (t4_in (List.mem_of_getElem? (i := 94) rfl)) rfl), (WT_mem (t1_in (List.mem_of_getElem? (i := 10) rfl)) rfl), ⟨by decide +kernel, by decide +kernel, by decide +kernel⟩, by decide⟩
theorem lc_X5_put : LnkC Y_X5_put 2 := ⟨(WT_mem (t4_in (List.mem_of_getElem? (i := 107) rfl)) rfl), (WT_mem (t1_in (List.mem_of_getElem? (i := 10) rfl)) rfl), ⟨by decide +kernel, by decide +kernel, by decide +kernel⟩, by decide⟩
theorem lc_X6_advance : LnkC Y_X6_advance 0 := ⟨(WT_mem (t3_in (List.mem_of_getElem? (i := 195) rfl)) rfl), (WT_mem (t1_in (List.mem_of_getElem? (i := 9) rfl)) rfl), ⟨by decide +kernel, by decide +kernel, by decide +kernel⟩, by decide⟩
theorem lc_X6_isWord : LnkC Y_X6_isWord 1 := ⟨(WT_mem (t3_in (List.mem_of_getElem? (i := 209) rfl)) rfl), (WT_mem (t1_in (List.mem_of_getElem? (i := 9) rfl)) rfl), ⟨by decide +kernel, by decide +kernel, by decide +kernel⟩, by decide⟩
theorem lc_X6_put : LnkC Y_X6_put 1 := ⟨(WT_mem (t3_in (List.mem_of_getElem? (i := 171) rfl)) rfl), (WT_mem (t1_in (List.mem_of_getElem? (i := 9) rfl)) rfl), ⟨by decide +kernel, by decide +kernel, by decide +kernel⟩, by decide⟩
theorem lc_X6_rewind : LnkC Y_X6_rewind 0 := ⟨(WT_mem (t3_in (List.mem_of_getElem? (i := 191) rfl)) rfl), (WT_mem (t1_in (List.mem_of_getElem? (i := 9) rfl)) rfl), ⟨by decide +kernel, by decide +kernel, by decide +kernel⟩, by decide⟩
theorem lc_X6_tokenBegunBy : LnkC Y_X6_tokenBegunBy 1 := ⟨(WT_mem (t3_in (List.mem_of_getElem? (i := 174) rfl)) rfl), (WT_mem (t1_in (List.mem_of_getElem? (i := 9) rfl)) rfl), ⟨by decide +kernel, by decide +kernel, by decide +kernel⟩, by decide⟩
theorem lc_X6_value : LnkC Y_X6_value 0 := ⟨(WT_mem (t4_in (List.mem_of_getElem? (i := 34) rfl)) rfl), (WT_mem (t1_in (List.mem_of_getElem? (i := 9) rfl)) rfl), ⟨by decide +kernel, by decide +kernel, by decide +kernel⟩, by decide⟩
theorem lc_X7_areUnlikeOf : LnkC Y_X7_areUnlikeOf 4 := ⟨(WT_mem (t3_in (List.mem_of_getElem? (i := 128) rfl)) rfl), (WT_mem (t1_in (List.mem_of_getElem? (i := 7) rfl)) rfl), ⟨by decide +kernel, by decide +kernel, by decide +kernel⟩, by decide⟩
theorem lc_X7_choose : LnkC Y_X7_choose 3 := ⟨(WT_mem (t3_in (List.mem_of_getElem? (i := 123) rfl)) rfl), (WT_mem (t1_in (List.mem_of_getElem? (i := 7) rfl)) rfl), ⟨by decide +kernel, by decide +kernel, by decide +kernel⟩, by decide⟩
theorem lc_X7_weigh : LnkC Y_X7_weigh 3 := ⟨(WT_mem (t3_in (List.mem_of_getElem? (i := 133) rfl)) rfl), (WT_mem (t1_in (List.mem_of_getElem? (i := 7) rfl)) rfl), ⟨by decide +kernel, by decide +kernel, by decide +kernel⟩, by decide⟩
theorem lc_X8_ahead : LnkC Y_X8_ahead 2 := ⟨(WT_mem (t2_in (List.mem_of_getElem? (i := 209) rfl)) rfl), (WT_mem (t1_in (List.mem_of_getElem? (i := 1) rfl)) rfl), ⟨by decide +kernel, by decide +kernel, by decide +kernel⟩, by decide⟩
theorem lc_X8_armFor : LnkC Y_X8_armFor 2 := ⟨(WT_mem (t3_in (List.mem_of_getElem? (i := 104) rfl)) rfl), (WT_mem (t1_in (List.mem_of_getElem? (i := 1) rfl)) rfl), ⟨by decide +kernel, by decide +kernel, by decide +kernel⟩, by decide⟩
theorem lc_X8_as : LnkC Y_X8_as 2 := ⟨(WT_mem (t4_in (List.mem_of_getElem? (i := 77) rfl)) rfl), (WT_mem (t1_in (List.mem_of_getElem? (i := 1) rfl)) rfl), ⟨by decide +kernel, by decide +kernel, by decide +kernel⟩, by decide⟩
theorem lc_X8_best : LnkC Y_X8_best 3 := ⟨(WT_mem (t3_in (List.mem_of_getElem? (i := 70) rfl)) rfl), (WT_mem (t1_in (List.mem_of_getElem? (i := 1) rfl)) rfl), ⟨by decide +kernel, by decide +kernel, by decide +kernel⟩, by decide⟩
theorem lc_X8_change : LnkC Y_X8_change 3 := ⟨(WT_mem (t2_in (List.mem_of_getElem? (i := 72) rfl)) rfl), (WT_mem (t1_in (List.mem_of_getElem? (i := 1) rfl)) rfl), ⟨by decide +kernel, by decide +kernel, by decide +kernel⟩, by decide⟩
theorem lc_X8_clean : LnkC Y_X8_clean 3 := ⟨(WT_mem (t3_in (List.mem_of_getElem? (i := 10) rfl)) rfl), (WT_mem (t1_in (List.mem_of_getElem? (i := 1) rfl)) rfl), ⟨by decide +kernel, by decide +kernel, by decide +kernel⟩, by decide⟩
theorem lc_X8_copy : LnkC Y_X8_copy 5 := ⟨(WT_mem (t4_in (List.mem_of_getElem? (i := 111) rfl)) rfl), (WT_mem (t1_in (List.mem_of_getElem? (i := 1) rfl)) rfl), ⟨by decide +kernel, by decide +kernel, by decide +kernel⟩, by decide⟩
theorem lc_X8_costs : LnkC Y_X8_costs 2 := ⟨(WT_mem (t3_in (List.mem_of_getElem? (i := 92) rfl)) rfl), (WT_mem (t1_in (List.mem_of_getElem? (i := 1) rfl)) rfl), ⟨by decide +kernel, by decide +kernel, by decide +kernel⟩, by decide⟩
theorem lc_X8_count : LnkC Y_X8_count 1 := ⟨(WT_mem (t4_in (List.mem_of_getElem? (i := 142) rfl)) rfl), (WT_mem (t1_in (List.mem_of_getElem? (i := 1) rfl)) rfl), ⟨by decide +kernel, by decide +kernel, by decide +kernel⟩, by decide⟩
theorem lc_X8_drops : LnkC Y_X8_drops 4 := ⟨(WT_mem (t3_in (List.mem_of_getElem? (i := 18) rfl)) rfl), (WT_mem (t1_in (List.mem_of_getElem? (i := 1) rfl)) rfl), ⟨by decide +kernel, by decide +kernel, by decide +kernel⟩, by decide⟩
theorem lc_X8_even : LnkC Y_X8_even 1 := ⟨(WT_mem (t3_in (List.mem_of_getElem? (i := 82) rfl)) rfl), (WT_mem (t1_in (List.mem_of_getElem? (i := 1) rfl)) rfl), ⟨by decide +kernel, by decide +kernel, by decide +kernel⟩, by decide⟩
theorem lc_X8_feed : LnkC Y_X8_feed 2 := ⟨(WT_mem (t3_in (List.mem_of_getElem? (i := 167) rfl)) rfl), (WT_mem (t1_in (List.mem_of_getElem? (i := 1) rfl)) rfl), ⟨by decide +kernel, by decide +kernel, by decide +kernel⟩, by decide⟩
theorem lc_X8_found : LnkC Y_X8_found 1 := ⟨(WT_mem (t2_in (List.mem_of_getElem? (i := 28) rfl)) rfl), (WT_mem (t1_in (List.mem_of_getElem? (i := 1) rfl)) rfl), ⟨by decide +kernel, by decide +kernel, by decide +kernel⟩, by decide⟩
theorem lc_X8_ground : LnkC Y_X8_ground 2 := ⟨(WT_mem (t2_in (List.mem_of_getElem? (i := 18) rfl)) rfl), (WT_mem (t1_in (List.mem_of_getElem? (i := 1) rfl)) rfl), ⟨by decide +kernel, by decide +kernel, by decide +kernel⟩, by decide⟩
theorem lc_X8_gum : LnkC Y_X8_gum 5 := ⟨(WT_mem (t3_in (List.mem_of_getElem? (i := 141) rfl)) rfl), (WT_mem (t1_in (List.mem_of_getElem? (i := 1) rfl)) rfl), ⟨by decide +kernel, by decide +kernel, by decide +kernel⟩, by decide⟩
theorem lc_X8_hold : LnkC Y_X8_hold 2 := ⟨(WT_mem (t4_in (List.mem_of_getElem? (i := 70) rfl)) rfl), (WT_mem (t1_in (List.mem_of_getElem? (i := 1) rfl)) rfl), ⟨by decide +kernel, by decide +kernel, by decide +kernel⟩, by decide⟩
theorem lc_X8_image : LnkC Y_X8_image 0 := ⟨(WT_mem (t4_in (List.mem_of_getElem? (i := 130) rfl)) rfl), (WT_mem (t1_in (List.mem_of_getElem? (i := 1) rfl)) rfl), ⟨by decide +kernel, by decide +kernel, by decide +kernel⟩, by decide⟩
theorem lc_X8_isPace : LnkC Y_X8_isPace 1 := ⟨(WT_mem (t2_in (List.mem_of_getElem? (i := 86) rfl)) rfl), (WT_mem (t1_in (List.mem_of_getElem? (i := 1) rfl)) rfl), ⟨by decide +kernel, by decide +kernel, by decide +kernel⟩, by decide⟩
theorem lc_X8_isRunner : LnkC Y_X8_isRunner 1 := ⟨(WT_mem (t2_in (List.mem_of_getElem? (i := 58) rfl)) rfl), (WT_mem (t1_in (List.mem_of_getElem? (i := 1) rfl)) rfl), ⟨by decide +kernel, by decide +kernel, by decide +kernel⟩, by decide⟩
theorem lc_X8_isSheet : LnkC Y_X8_isSheet 1 := ⟨(WT_mem (t4_in (List.mem_of_getElem? (i := 90) rfl)) rfl), (WT_mem (t1_in (List.mem_of_getElem? (i := 1) rfl)) rfl), ⟨by decide +kernel, by decide +kernel, by decide +kernel⟩, by decide⟩
theorem lc_X8_isSpot : LnkC Y_X8_isSpot 1 := ⟨(WT_mem (t4_in (List.mem_of_getElem? (i := 73) rfl)) rfl), (WT_mem (t1_in (List.mem_of_getElem? (i := 1) rfl)) rfl), ⟨by decide +kernel, by decide +kernel, by decide +kernel⟩, by decide⟩
theorem lc_X8_isStretch : LnkC Y_X8_isStretch 3 := ⟨(WT_mem (t3_in (List.mem_of_getElem? (i := 14) rfl)) rfl), (WT_mem (t1_in (List.mem_of_getElem? (i := 1) rfl)) rfl), ⟨by decide +kernel, by decide +kernel, by decide +kernel⟩, by decide⟩
theorem lc_X8_isTeamSet : LnkC Y_X8_isTeamSet 1 := ⟨(WT_mem (t3_in (List.mem_of_getElem? (i := 118) rfl)) rfl), (WT_mem (t1_in (List.mem_of_getElem? (i := 1) rfl)) rfl), ⟨by decide +kernel, by decide +kernel, by decide +kernel⟩, by decide⟩
theorem lc_X8_isYard : LnkC Y_X8_isYard 1 := ⟨(WT_mem (t2_in (List.mem_of_getElem? (i := 21) rfl)) rfl), (WT_mem (t1_in (List.mem_of_getElem? (i := 1) rfl)) rfl), ⟨by decide +kernel, by decide +kernel, by decide +kernel⟩, by decide⟩
theorem lc_X8_judge : LnkC Y_X8_judge 1 := ⟨(WT_mem (t4_in (List.mem_of_getElem? (i := 125) rfl)) rfl), (WT_mem (t1_in (List.mem_of_getElem? (i := 1) rfl)) rfl), ⟨by decide +kernel, by decide +kernel, by decide +kernel⟩, by decide⟩
theorem lc_X8_later : LnkC Y_X8_later 1 := ⟨(WT_mem (t3_in (List.mem_of_getElem? (i := 109) rfl)) rfl), (WT_mem (t1_in (List.mem_of_getElem? (i := 1) rfl)) rfl), ⟨by decide +kernel, by decide +kernel, by decide +kernel⟩, by decide⟩
theorem lc_X8_least : LnkC Y_X8_least 3 := ⟨(WT_mem (t3_in (List.mem_of_getElem? (i := 57) rfl)) rfl), (WT_mem (t1_in (List.mem_of_getElem? (i := 1) rfl)) rfl), ⟨by decide +kernel, by decide +kernel, by decide +kernel⟩, by decide⟩
theorem lc_X8_leg : LnkC Y_X8_leg 2 := ⟨(WT_mem (t3_in (List.mem_of_getElem? (i := 137) rfl)) rfl), (WT_mem (t1_in (List.mem_of_getElem? (i := 1) rfl)) rfl), ⟨by decide +kernel, by decide +kernel, by decide +kernel⟩, by decide⟩
theorem lc_X8_load : LnkC Y_X8_load 2 := ⟨(WT_mem (t4_in (List.mem_of_getElem? (i := 120) rfl)) rfl), (WT_mem (t1_in (List.mem_of_getElem? (i := 1) rfl)) rfl), ⟨by decide +kernel, by decide +kernel, by decide +kernel⟩, by decide⟩
theorem lc_X8_mean : LnkC Y_X8_mean 3 := ⟨(WT_mem (t3_in (List.mem_of_getElem? (i := 36) rfl)) rfl), (WT_mem (t1_in (List.mem_of_getElem? (i := 1) rfl)) rfl), ⟨by decide +kernel, by decide +kernel, by decide +kernel⟩, by decide⟩
theorem lc_X8_nerves : LnkC Y_X8_nerves 1 := ⟨(WT_mem (t2_in (List.mem_of_getElem? (i := 157) rfl)) rfl), (WT_mem (t1_in (List.mem_of_getElem? (i := 1) rfl)) rfl), ⟨by decide +kernel, by decide +kernel, by decide +kernel⟩, by decide⟩
theorem lc_X8_next : LnkC Y_X8_next 0 := ⟨(WT_mem (t2_in (List.mem_of_getElem? (i := 162) rfl)) rfl), (WT_mem (t1_in (List.mem_of_getElem? (i := 1) rfl)) rfl), ⟨by decide +kernel, by decide +kernel, by decide +kernel⟩, by decide⟩
theorem lc_X8_now : LnkC Y_X8_now 1 := ⟨(WT_mem (t2_in (List.mem_of_getElem? (i := 136) rfl)) rfl), (WT_mem (t1_in (List.mem_of_getElem? (i := 1) rfl)) rfl), ⟨by decide +kernel, by decide +kernel, by decide +kernel⟩, by decide⟩
theorem lc_X8_odds : LnkC Y_X8_odds 4 := ⟨(WT_mem (t2_in (List.mem_of_getElem? (i := 112) rfl)) rfl), (WT_mem (t1_in (List.mem_of_getElem? (i := 1) rfl)) rfl), ⟨by decide +kernel, by decide +kernel, by decide +kernel⟩, by decide⟩
theorem lc_X8_of : LnkC Y_X8_of 2 := ⟨(WT_mem (t2_in (List.mem_of_getElem? (i := 54) rfl)) rfl), (WT_mem (t1_in (List.mem_of_getElem? (i := 1) rfl)) rfl), ⟨by decide +kernel, by decide +kernel, by decide +kernel⟩, by decide⟩
theorem lc_X8_pace : LnkC Y_X8_pace 4 := ⟨(WT_mem (t2_in (List.mem_of_getElem? (i := 83) rfl)) rfl), (WT_mem (t1_in (List.mem_of_getElem? (i := 1) rfl)) rfl), ⟨by decide +kernel, by decide +kernel, by decide +kernel⟩, by decide⟩
theorem lc_X8_paceOf : LnkC Y_X8_paceOf 2 := ⟨(WT_mem (t2_in (List.mem_of_getElem? (i := 90) rfl)) rfl), (WT_mem (t1_in (List.mem_of_getElem? (i := 1) rfl)) rfl), ⟨by decide +kernel, by decide +kernel, by decide +kernel⟩, by decide⟩
theorem lc_X8_pick : LnkC Y_X8_pick 1 := ⟨(WT_mem (t2_in (List.mem_of_getElem? (i := 33) rfl)) rfl), (WT_mem (t1_in (List.mem_of_getElem? (i := 1) rfl)) rfl), ⟨by decide +kernel, by decide +kernel, by decide +kernel⟩, by decide⟩
theorem lc_X8_place : LnkC Y_X8_place 1 := ⟨(WT_mem (t2_in (List.mem_of_getElem? (i := 238) rfl)) rfl), (WT_mem (t1_in (List.mem_of_getElem? (i := 1) rfl)) rfl), ⟨by decide +kernel, by decide +kernel, by decide +kernel⟩, by decide⟩
theorem lc_X8_rain : LnkC Y_X8_rain 1 := ⟨(WT_mem (t3_in (List.mem_of_getElem? (i := 154) rfl)) rfl), (WT_mem (t1_in (List.mem_of_getElem? (i := 1) rfl)) rfl), ⟨by decide +kernel, by decide +kernel, by decide +kernel⟩, by decide⟩
theorem lc_X8_runAllHome : LnkC Y_X8_runAllHome 0 := ⟨(WT_mem (t2_in (List.mem_of_getElem? (i := 230) rfl)) rfl), (WT_mem (t1_in (List.mem_of_getElem? (i := 1) rfl)) rfl), ⟨by decide +kernel, by decide +kernel, by decide +kernel⟩, by decide⟩
theorem lc_X8_runner : LnkC Y_X8_runner 3 := ⟨(WT_mem (t2_in (List.mem_of_getElem? (i := 37) rfl)) rfl), (WT_mem (t1_in (List.mem_of_getElem? (i := 1) rfl)) rfl), ⟨by decide +kernel, by decide +kernel, by decide +kernel⟩, by decide⟩
theorem lc_X8_seed : LnkC Y_X8_seed 1 := ⟨(WT_mem (t3_in (List.mem_of_getElem? (i := 163) rfl)) rfl), (WT_mem (t1_in (List.mem_of_getElem? (i := 1) rfl)) rfl), ⟨by decide +kernel, by decide +kernel, by decide +kernel⟩, by decide⟩
theorem lc_X8_sheet : LnkC Y_X8_sheet 3 := ⟨(WT_mem (t4_in (List.mem_of_getElem? (i := 87) rfl)) rfl), (WT_mem (t1_in (List.mem_of_getElem? (i := 1) rfl)) rfl), ⟨by decide +kernel, by decide +kernel, by decide +kernel⟩, by decide⟩
theorem lc_X8_spoon : LnkC Y_X8_spoon 1 := ⟨(WT_mem (t3_in (List.mem_of_getElem? (i := 100) rfl)) rfl), (WT_mem (t1_in (List.mem_of_getElem? (i := 1) rfl)) rfl), ⟨by decide +kernel, by decide +kernel, by decide +kernel⟩, by decide⟩
theorem lc_X8_start : LnkC Y_X8_start 0 := ⟨(WT_mem (t2_in (List.mem_of_getElem? (i := 190) rfl)) rfl), (WT_mem (t1_in (List.mem_of_getElem? (i := 1) rfl)) rfl), ⟨by decide +kernel, by decide +kernel, by decide +kernel⟩, by decide⟩
theorem lc_X8_status : LnkC Y_X8_status 1 := ⟨(WT_mem (t4_in (List.mem_of_getElem? (i := 154) rfl)) rfl), (WT_mem (t1_in (List.mem_of_getElem? (i := 1) rfl)) rfl), ⟨by decide +kernel, by decide +kernel, by decide +kernel⟩, by decide⟩
theorem lc_X8_steps : LnkC Y_X8_steps 1 := ⟨(WT_mem (t2_in (List.mem_of_getElem? (i := 170) rfl)) rfl), (WT_mem (t1_in (List.mem_of_getElem? (i := 1) rfl)) rfl), ⟨by decide +kernel, by decide +kernel, by decide +kernel⟩, by decide⟩
theorem lc_X8_suspect : LnkC Y_X8_suspect 3 := ⟨(WT_mem (t3_in (List.mem_of_getElem? (i := 149) rfl)) rfl), (WT_mem (t1_in (List.mem_of_getElem? (i := 1) rfl)) rfl), ⟨by decide +kernel, by decide +kernel, by decide +kernel⟩, by decide⟩
theorem lc_X8_team : LnkC Y_X8_team 1 := ⟨(WT_mem (t3_in (List.mem_of_getElem? (i := 114) rfl)) rfl), (WT_mem (t1_in (List.mem_of_getElem? (i := 1) rfl)) rfl), ⟨by decide +kernel, by decide +kernel, by decide +kernel⟩, by decide⟩
theorem lc_X8_tear : LnkC Y_X8_tear 0 := ⟨(WT_mem (t4_in (List.mem_of_getElem? (i := 138) rfl)) rfl), (WT_mem (t1_in (List.mem_of_getElem? (i := 1) rfl)) rfl), ⟨by decide +kernel, by decide +kernel, by decide +kernel⟩, by decide⟩
theorem lc_X8_text : LnkC Y_X8_text 0 := ⟨(WT_mem (t3_in (List.mem_of_getElem? (i := 183) rfl)) rfl), (WT_mem (t1_in (List.mem_of_getElem? (i := 1) rfl)) rfl), ⟨by decide +kernel, by decide +kernel, by decide +kernel⟩, by decide⟩
theorem lc_X8_told : LnkC Y_X8_told 3 := ⟨(WT_mem (t2_in (List.mem_of_getElem? (i := 94) rfl)) rfl), (WT_mem (t1_in (List.mem_of_getElem? (i := 1) rfl)) rfl), ⟨by decide +kernel, by decide +kernel, by decide +kernel⟩, by decide⟩
theorem lc_X8_train : LnkC Y_X8_train 1 := ⟨(WT_mem (t3_in (List.mem_of_getElem? (i := 78) rfl)) rfl), (WT_mem (t1_in (List.mem_of_getElem? (i := 1) rfl)) rfl), ⟨by decide +kernel, by decide +kernel, by decide +kernel⟩, by decide⟩
theorem lc_X8_tryGum : LnkC Y_X8_tryGum 1 := ⟨(WT_mem (t3_in (List.mem_of_getElem? (i := 145) rfl)) rfl), (WT_mem (t1_in (List.mem_of_getElem? (i := 1) rfl)) rfl), ⟨by decide +kernel, by decide +kernel, by decide +kernel⟩, by decide⟩
theorem lc_X8_undo : LnkC Y_X8_undo 0 := ⟨(WT_mem (t4_in (List.mem_of_getElem? (i := 134) rfl)) rfl), (WT_mem (t1_in (List.mem_of_getElem? (i := 1) rfl)) rfl), ⟨by decide +kernel, by decide +kernel, by decide +kernel⟩, by decide⟩
theorem lc_X8_wholeMean : LnkC Y_X8_wholeMean 2 := ⟨(WT_mem (t3_in (List.mem_of_getElem? (i := 88) rfl)) rfl), (WT_mem (t1_in (List.mem_of_getElem? (i := 1) rfl)) rfl), ⟨by decide +kernel, by decide +kernel, by decide +kernel⟩, by decide⟩
theorem lc_X8_winner : LnkC Y_X8_winner 0 := ⟨(WT_mem (t2_in (List.mem_of_getElem? (i := 226) rfl)) rfl), (WT_mem (t1_in (List.mem_of_getElem? (i := 1) rfl)) rfl), ⟨by decide +kernel, by decide +kernel, by decide +kernel⟩, by decide⟩
theorem lc_X8_wins : LnkC Y_X8_wins 2 := ⟨(WT_mem (t3_in (List.mem_of_getElem? (i := 6) rfl)) rfl), (WT_mem (t1_in (List.mem_of_getElem? (i := 1) rfl)) rfl), ⟨by decide +kernel, by decide +kernel, by decide +kernel⟩, by decide⟩
theorem lc_X8_wipe : LnkC Y_X8_wipe 0 := ⟨(WT_mem (t3_in (List.mem_of_getElem? (i := 179) rfl)) rfl), (WT_mem (t1_in (List.mem_of_getElem? (i := 1) rfl)) rfl), ⟨by decide +kernel, by decide +kernel, by decide +kernel⟩, by decide⟩
theorem lc_X8_within : LnkC Y_X8_within 3 := ⟨(WT_mem (t2_in (List.mem_of_getElem? (i := 24) rfl)) rfl), (WT_mem (t1_in (List.mem_of_getElem? (i := 1) rfl)) rfl), ⟨by decide +kernel, by decide +kernel, by decide +kernel⟩, by decide⟩
theorem lc_X8_worst : LnkC Y_X8_worst 1 := ⟨(WT_mem (t3_in (List.mem_of_getElem? (i := 96) rfl)) rfl), (WT_mem (t1_in (List.mem_of_getElem? (i := 1) rfl)) rfl), ⟨by decide +kernel, by decide +kernel, by decide +kernel⟩, by decide⟩
theorem lc_X8_write : LnkC Y_X8_write 3 := ⟨(WT_mem (t4_in (List.mem_of_getElem? (i := 99) rfl)) rfl), (WT_mem (t1_in (List.mem_of_getElem? (i := 1) rfl)) rfl), ⟨by decide +kernel, by decide +kernel, by decide +kernel⟩, by decide⟩
theorem lc_X9_above : LnkC Y_X9_above 1 := ⟨(WT_mem (t6_in (List.mem_of_getElem? (i := 154) rfl)) rfl), (WT_mem (t1_in (List.mem_of_getElem? (i := 11) rfl)) rfl), ⟨by decide +kernel, by decide +kernel, by decide +kernel⟩, by decide⟩
theorem lc_X9_ahead : LnkC Y_X9_ahead 2 := ⟨(WT_mem (t5_in (List.mem_of_getElem? (i := 160) rfl)) rfl), (WT_mem (t1_in (List.mem_of_getElem? (i := 11) rfl)) rfl), ⟨by decide +kernel, by decide +kernel, by decide +kernel⟩, by decide⟩
theorem lc_X9_allDrops : LnkC Y_X9_allDrops 0 := ⟨(WT_mem (t6_in (List.mem_of_getElem? (i := 199) rfl)) rfl), (WT_mem (t1_in (List.mem_of_getElem? (i := 11) rfl)) rfl), ⟨by decide +kernel, by decide +kernel, by decide +kernel⟩, by decide⟩
theorem lc_X9_allGoHome : LnkC Y_X9_allGoHome 0 := ⟨(WT_mem (t5_in (List.mem_of_getElem? (i := 171) rfl)) rfl), (WT_mem (t1_in (List.mem_of_getElem? (i := 11) rfl)) rfl), ⟨by decide +kernel, by decide +kernel, by decide +kernel⟩, by decide⟩
theorem lc_X9_armFor : LnkC Y_X9_armFor 2 := ⟨(WT_mem (t6_in (List.mem_of_getElem? (i := 20) rfl)) rfl), (WT_mem (t1_in (List.mem_of_getElem? (i := 11) rfl)) rfl), ⟨by decide +kernel, by decide +kernel, by decide +kernel⟩, by decide⟩
theorem lc_X9_as : LnkC Y_X9_as 2 := ⟨(WT_mem (t6_in (List.mem_of_getElem? (i := 150) rfl)) rfl), (WT_mem (t1_in (List.mem_of_getElem? (i := 11) rfl)) rfl), ⟨by decide +kernel, by decide +kernel, by decide +kernel⟩, by decide⟩
theorem lc_X9_becomes : LnkC Y_X9_becomes 2 := ⟨(WT_mem (t4_in (List.mem_of_getElem? (i := 234) rfl)) rfl), (WT_mem (t1_in (List.mem_of_getElem? (i := 11) rfl)) rfl), ⟨by decide +kernel, by decide +kernel, by decide +kernel⟩, by decide⟩
theorem lc_X9_behind : LnkC Y_X9_behind 4 := ⟨(WT_mem (t5_in (List.mem_of_getElem? (i := 224) rfl)) rfl), (WT_mem (t1_in (List.mem_of_getElem? (i := 11) rfl)) rfl), ⟨by decide +kernel, by decide +kernel, by decide +kernel⟩, by decide⟩
theorem lc_X9_best : LnkC Y_X9_best 3 := ⟨(WT_mem (t5_in (List.mem_of_getElem? (i := 232) rfl)) rfl), (WT_mem (t1_in (List.mem_of_getElem? (i := 11) rfl)) rfl), ⟨by decide +kernel, by decide +kernel, by decide +kernel⟩, by decide⟩
theorem lc_X9_bestTeam : LnkC Y_X9_bestTeam 1 := ⟨(WT_mem (t6_in (List.mem_of_getElem? (i := 37) rfl)) rfl), (WT_mem (t1_in (List.mem_of_getElem? (i := 11) rfl)) rfl), ⟨by decide +kernel, by decide +kernel, by decide +kernel⟩, by decide⟩
theorem lc_X9_change : LnkC Y_X9_change 3 := ⟨(WT_mem (t5_in (List.mem_of_getElem? (i := 44) rfl)) rfl), (WT_mem (t1_in (List.mem_of_getElem? (i := 11) rfl)) rfl), ⟨by decide +kernel, by decide +kernel, by decide +kernel⟩, by decide⟩
theorem lc_X9_clean : LnkC Y_X9_clean 3 := ⟨(WT_mem (t5_in (List.mem_of_getElem? (i := 192) rfl)) rfl), (WT_mem (t1_in (List.mem_of_getElem? (i := 11) rfl)) rfl), ⟨by decide +kernel, by decide +kernel, by decide +kernel⟩, by decide⟩
theorem lc_X9_comes : LnkC Y_X9_comes 4 := ⟨(WT_mem (t5_in (List.mem_of_getElem? (i := 19) rfl)) rfl), (WT_mem (t1_in (List.mem_of_getElem? (i := 11) rfl)) rfl), ⟨by decide +kernel, by decide +kernel, by decide +kernel⟩, by decide⟩
theorem lc_X9_copy : LnkC Y_X9_copy 5 := ⟨(WT_mem (t6_in (List.mem_of_getElem? (i := 171) rfl)) rfl), (WT_mem (t1_in (List.mem_of_getElem? (i := 11) rfl)) rfl), ⟨by decide +kernel, by decide +kernel, by decide +kernel⟩, by decide⟩
theorem lc_X9_costs : LnkC Y_X9_costs 2 := ⟨(WT_mem (t6_in (List.mem_of_getElem? (i := 8) rfl)) rfl), (WT_mem (t1_in (List.mem_of_getElem? (i := 11) rfl)) rfl), ⟨by decide +kernel, by decide +kernel, by decide +kernel⟩, by decide⟩
theorem lc_X9_count : LnkC Y_X9_count 1 := ⟨(WT_mem (t6_in (List.mem_of_getElem? (i := 195) rfl)) rfl), (WT_mem (t1_in (List.mem_of_getElem? (i := 11) rfl)) rfl), ⟨by decide +kernel, by decide +kernel, by decide +kernel⟩, by decide⟩
theorem lc_X9_draw : LnkC Y_X9_draw 0 := ⟨(WT_mem (t5_in (List.mem_of_getElem? (i := 140) rfl)) rfl), (WT_mem (t1_in (List.mem_of_getElem? (i := 11) rfl)) rfl), ⟨by decide +kernel, by decide +kernel, by decide +kernel⟩, by decide⟩
theorem lc_X9_dropping (k : Nat) : LnkC (Y_X9_dropping k) 5 := ⟨(WT_mem (t5_in (List.mem_of_getElem? (i := 208) rfl)) rfl), (WT_mem (t1_in (List.mem_of_getElem? (i := 11) rfl)) rfl), ⟨(by decide +kernel : yX9_dropping.cls ≠ "java/lang/invoke/MethodHandle"), (by decide +kernel : yX9_dropping.cls ≠ "java/lang/invoke/VarHandle"), (by decide +kernel : (parseMethodDescriptor yX9_dropping.desc).map (fun d => d.parameters.length) = some 5)⟩, (by decide : 9 ≤ 21)⟩
theorem lc_X9_droppingAs : LnkC Y_X9_droppingAs 5 := ⟨(WT_mem (t6_in (List.mem_of_getElem? (i := 50) rfl)) rfl), (WT_mem (t1_in (List.mem_of_getElem? (i := 11) rfl)) rfl), ⟨by decide +kernel, by decide +kernel, by decide +kernel⟩, by decide⟩
theorem lc_X9_drops : LnkC Y_X9_drops 4 := ⟨(WT_mem (t5_in (List.mem_of_getElem? (i := 204) rfl)) rfl), (WT_mem (t1_in (List.mem_of_getElem? (i := 11) rfl)) rfl), ⟨by decide +kernel, by decide +kernel, by decide +kernel⟩, by decide⟩
theorem lc_X9_even : LnkC Y_X9_even 1 := ⟨(WT_mem (t6_in (List.mem_of_getElem? (i := 0) rfl)) rfl), (WT_mem (t1_in (List.mem_of_getElem? (i := 11) rfl)) rfl), ⟨by decide +kernel, by decide +kernel, by decide +kernel⟩, by decide⟩
theorem lc_X9_feed : LnkC Y_X9_feed 2 := ⟨(WT_mem (t6_in (List.mem_of_getElem? (i := 71) rfl)) rfl), (WT_mem (t1_in (List.mem_of_getElem? (i := 11) rfl)) rfl), ⟨by decide +kernel, by decide +kernel, by decide +kernel⟩, by decide⟩
theorem lc_X9_finds : LnkC Y_X9_finds 1 := ⟨(WT_mem (t4_in (List.mem_of_getElem? (i := 239) rfl)) rfl), (WT_mem (t1_in (List.mem_of_getElem? (i := 11) rfl)) rfl), ⟨by decide +kernel, by decide +kernel, by decide +kernel⟩, by decide⟩
theorem lc_X9_firstHome : LnkC Y_X9_firstHome 0 := ⟨(WT_mem (t5_in (List.mem_of_getElem? (i := 175) rfl)) rfl), (WT_mem (t1_in (List.mem_of_getElem? (i := 11) rfl)) rfl), ⟨by decide +kernel, by decide +kernel, by decide +kernel⟩, by decide⟩
theorem lc_X9_grass : LnkC Y_X9_grass 0 := ⟨(WT_mem (t6_in (List.mem_of_getElem? (i := 63) rfl)) rfl), (WT_mem (t1_in (List.mem_of_getElem? (i := 11) rfl)) rfl), ⟨by decide +kernel, by decide +kernel, by decide +kernel⟩, by decide⟩
theorem lc_X9_ground : LnkC Y_X9_ground 2 := ⟨(WT_mem (t4_in (List.mem_of_getElem? (i := 222) rfl)) rfl), (WT_mem (t1_in (List.mem_of_getElem? (i := 11) rfl)) rfl), ⟨by decide +kernel, by decide +kernel, by decide +kernel⟩, by decide⟩
theorem lc_X9_groundHere : LnkC Y_X9_groundHere 0 := ⟨(WT_mem (t6_in (List.mem_of_getElem? (i := 95) rfl)) rfl), (WT_mem (t1_in (List.mem_of_getElem? (i := 11) rfl)) rfl), ⟨by decide +kernel, by decide +kernel, by decide +kernel⟩, by decide⟩
theorem lc_X9_groundItem : LnkC Y_X9_groundItem 1 := ⟨(WT_mem (t6_in (List.mem_of_getElem? (i := 110) rfl)) rfl), (WT_mem (t1_in (List.mem_of_getElem? (i := 11) rfl)) rfl), ⟨by decide +kernel, by decide +kernel, by decide +kernel⟩, by decide⟩
theorem lc_X9_gum : LnkC Y_X9_gum 5 := ⟨(WT_mem (t6_in (List.mem_of_getElem? (i := 46) rfl)) rfl), (WT_mem (t1_in (List.mem_of_getElem? (i := 11) rfl)) rfl), ⟨by decide +kernel, by decide +kernel, by decide +kernel⟩, by decide⟩
theorem lc_X9_hold : LnkC Y_X9_hold 2 := ⟨(WT_mem (t6_in (List.mem_of_getElem? (i := 146) rfl)) rfl), (WT_mem (t1_in (List.mem_of_getElem? (i := 11) rfl)) rfl), ⟨by decide +kernel, by decide +kernel, by decide +kernel⟩, by decide⟩
theorem lc_X9_holding : LnkC Y_X9_holding 0 := ⟨(WT_mem (t6_in (List.mem_of_getElem? (i := 203) rfl)) rfl), (WT_mem (t1_in (List.mem_of_getElem? (i := 11) rfl)) rfl), ⟨by decide +kernel, by decide +kernel, by decide +kernel⟩, by decide⟩
theorem lc_X9_holds : LnkC Y_X9_holds 1 := ⟨(WT_mem (t5_in (List.mem_of_getElem? (i := 40) rfl)) rfl), (WT_mem (t1_in (List.mem_of_getElem? (i := 11) rfl)) rfl), ⟨by decide +kernel, by decide +kernel, by decide +kernel⟩, by decide⟩
theorem lc_X9_home : LnkC Y_X9_home 0 := ⟨(WT_mem (t5_in (List.mem_of_getElem? (i := 149) rfl)) rfl), (WT_mem (t1_in (List.mem_of_getElem? (i := 11) rfl)) rfl), ⟨by decide +kernel, by decide +kernel, by decide +kernel⟩, by decide⟩
theorem lc_X9_hurts : LnkC Y_X9_hurts 2 := ⟨(WT_mem (t5_in (List.mem_of_getElem? (i := 88) rfl)) rfl), (WT_mem (t1_in (List.mem_of_getElem? (i := 11) rfl)) rfl), ⟨by decide +kernel, by decide +kernel, by decide +kernel⟩, by decide⟩
theorem lc_X9_image : LnkC Y_X9_image 0 := ⟨(WT_mem (t6_in (List.mem_of_getElem? (i := 183) rfl)) rfl), (WT_mem (t1_in (List.mem_of_getElem? (i := 11) rfl)) rfl), ⟨by decide +kernel, by decide +kernel, by decide +kernel⟩, by decide⟩
theorem lc_X9_in : LnkC Y_X9_in 3 := ⟨(WT_mem (t4_in (List.mem_of_getElem? (i := 229) rfl)) rfl), (WT_mem (t1_in (List.mem_of_getElem? (i := 11) rfl)) rfl), ⟨by decide +kernel, by decide +kernel, by decide +kernel⟩, by decide⟩
theorem lc_X9_is : LnkC Y_X9_is 2 := ⟨(WT_mem (t5_in (List.mem_of_getElem? (i := 36) rfl)) rfl), (WT_mem (t1_in (List.mem_of_getElem? (i := 11) rfl)) rfl), ⟨by decide +kernel, by decide +kernel, by decide +kernel⟩, by decide⟩
theorem lc_X9_isAhead : LnkC Y_X9_isAhead 2 := ⟨(WT_mem (t5_in (List.mem_of_getElem? (i := 179) rfl)) rfl), (WT_mem (t1_in (List.mem_of_getElem? (i := 11) rfl)) rfl), ⟨by decide +kernel, by decide +kernel, by decide +kernel⟩, by decide⟩
theorem lc_X9_isByte : LnkC Y_X9_isByte 3 := ⟨(WT_mem (t6_in (List.mem_of_getElem? (i := 87) rfl)) rfl), (WT_mem (t1_in (List.mem_of_getElem? (i := 11) rfl)) rfl), ⟨by decide +kernel, by decide +kernel, by decide +kernel⟩, by decide⟩
theorem lc_X9_isHome : LnkC Y_X9_isHome 1 := ⟨(WT_mem (t5_in (List.mem_of_getElem? (i := 96) rfl)) rfl), (WT_mem (t1_in (List.mem_of_getElem? (i := 11) rfl)) rfl), ⟨by decide +kernel, by decide +kernel, by decide +kernel⟩, by decide⟩
theorem lc_X9_isKind : LnkC Y_X9_isKind 1 := ⟨(WT_mem (t5_in (List.mem_of_getElem? (i := 11) rfl)) rfl), (WT_mem (t1_in (List.mem_of_getElem? (i := 11) rfl)) rfl), ⟨by decide +kernel, by decide +kernel, by decide +kernel⟩, by decide⟩
theorem lc_X9_isMean : LnkC Y_X9_isMean 4 := ⟨(WT_mem (t5_in (List.mem_of_getElem? (i := 216) rfl)) rfl), (WT_mem (t1_in (List.mem_of_getElem? (i := 11) rfl)) rfl), ⟨by decide +kernel, by decide +kernel, by decide +kernel⟩, by decide⟩
theorem lc_X9_isPace : LnkC Y_X9_isPace 1 := ⟨(WT_mem (t5_in (List.mem_of_getElem? (i := 56) rfl)) rfl), (WT_mem (t1_in (List.mem_of_getElem? (i := 11) rfl)) rfl), ⟨by decide +kernel, by decide +kernel, by decide +kernel⟩, by decide⟩
theorem lc_X9_isPart : LnkC Y_X9_isPart 2 := ⟨(WT_mem (t5_in (List.mem_of_getElem? (i := 47) rfl)) rfl), (WT_mem (t1_in (List.mem_of_getElem? (i := 11) rfl)) rfl), ⟨by decide +kernel, by decide +kernel, by decide +kernel⟩, by decide⟩
theorem lc_X9_isRunner : LnkC Y_X9_isRunner 1 := ⟨(WT_mem (t5_in (List.mem_of_getElem? (i := 31) rfl)) rfl), (WT_mem (t1_in (List.mem_of_getElem? (i := 11) rfl)) rfl), ⟨by decide +kernel, by decide +kernel, by decide +kernel⟩, by decide⟩
theorem lc_X9_isSheet : LnkC Y_X9_isSheet 1 := ⟨(WT_mem (t6_in (List.mem_of_getElem? (i := 162) rfl)) rfl), (WT_mem (t1_in (List.mem_of_getElem? (i := 11) rfl)) rfl), ⟨by decide +kernel, by decide +kernel, by decide +kernel⟩, by decide⟩
theorem lc_X9_isSign : LnkC Y_X9_isSign 1 := ⟨(WT_mem (t6_in (List.mem_of_getElem? (i := 142) rfl)) rfl), (WT_mem (t1_in (List.mem_of_getElem? (i := 11) rfl)) rfl), ⟨by decide +kernel, by decide +kernel, by decide +kernel⟩, by decide⟩
theorem lc_X9_isStretch : LnkC Y_X9_isStretch 4 := ⟨(WT_mem (t5_in (List.mem_of_getElem? (i := 196) rfl)) rfl), (WT_mem (t1_in (List.mem_of_getElem? (i := 11) rfl)) rfl), ⟨by decide +kernel, by decide +kernel, by decide +kernel⟩, by decide⟩
theorem lc_X9_isTeam : LnkC Y_X9_isTeam 1 := ⟨(WT_mem (t6_in (List.mem_of_getElem? (i := 33) rfl)) rfl), (WT_mem (t1_in (List.mem_of_getElem? (i := 11) rfl)) rfl), ⟨by decide +kernel, by decide +kernel, by decide +kernel⟩, by decide⟩
theorem lc_X9_isWord : LnkC Y_X9_isWord 1 := ⟨(WT_mem (t6_in (List.mem_of_getElem? (i := 100) rfl)) rfl), (WT_mem (t1_in (List.mem_of_getElem? (i := 11) rfl)) rfl), ⟨by decide +kernel, by decide +kernel, by decide +kernel⟩, by decide⟩
theorem lc_X9_isYard : LnkC Y_X9_isYard 1 := ⟨(WT_mem (t4_in (List.mem_of_getElem? (i := 225) rfl)) rfl), (WT_mem (t1_in (List.mem_of_getElem? (i := 11) rfl)) rfl), ⟨by decide +kernel, by decide +kernel, by decide +kernel⟩, by decide⟩
theorem lc_X9_item : LnkC Y_X9_item 0 := ⟨(WT_mem (t6_in (List.mem_of_getElem? (i := 91) rfl)) rfl), (WT_mem (t1_in (List.mem_of_getElem? (i := 11) rfl)) rfl), ⟨by decide +kernel, by decide +kernel, by decide +kernel⟩, by decide⟩
theorem lc_X9_judge : LnkC Y_X9_judge 1 := ⟨(WT_mem (t6_in (List.mem_of_getElem? (i := 179) rfl)) rfl), (WT_mem (t1_in (List.mem_of_getElem? (i := 11) rfl)) rfl), ⟨by decide +kernel, by decide +kernel, by decide +kernel⟩, by decide⟩
theorem lc_X9_kindHere : LnkC Y_X9_kindHere 0 := ⟨(WT_mem (t6_in (List.mem_of_getElem? (i := 124) rfl)) rfl), (WT_mem (t1_in (List.mem_of_getElem? (i := 11) rfl)) rfl), ⟨by decide +kernel, by decide +kernel, by decide +kernel⟩, by decide⟩
theorem lc_X9_later : LnkC Y_X9_later 1 := ⟨(WT_mem (t6_in (List.mem_of_getElem? (i := 25) rfl)) rfl), (WT_mem (t1_in (List.mem_of_getElem? (i := 11) rfl)) rfl), ⟨by decide +kernel, by decide +kernel, by decide +kernel⟩, by decide⟩
theorem lc_X9_least : LnkC Y_X9_least 3 := ⟨(WT_mem (t5_in (List.mem_of_getElem? (i := 228) rfl)) rfl), (WT_mem (t1_in (List.mem_of_getElem? (i := 11) rfl)) rfl), ⟨by decide +kernel, by decide +kernel, by decide +kernel⟩, by decide⟩
theorem lc_X9_leg : LnkC Y_X9_leg 2 := ⟨(WT_mem (t6_in (List.mem_of_getElem? (i := 41) rfl)) rfl), (WT_mem (t1_in (List.mem_of_getElem? (i := 11) rfl)) rfl), ⟨by decide +kernel, by decide +kernel, by decide +kernel⟩, by decide⟩
theorem lc_X9_load : LnkC Y_X9_load 2 := ⟨(WT_mem (t6_in (List.mem_of_getElem? (i := 175) rfl)) rfl), (WT_mem (t1_in (List.mem_of_getElem? (i := 11) rfl)) rfl), ⟨by decide +kernel, by decide +kernel, by decide +kernel⟩, by decide⟩
theorem lc_X9_makes : LnkC Y_X9_makes 3 := ⟨(WT_mem (t5_in (List.mem_of_getElem? (i := 23) rfl)) rfl), (WT_mem (t1_in (List.mem_of_getElem? (i := 11) rfl)) rfl), ⟨by decide +kernel, by decide +kernel, by decide +kernel⟩, by decide⟩
theorem lc_X9_many : LnkC Y_X9_many 1 := ⟨(WT_mem (t5_in (List.mem_of_getElem? (i := 152) rfl)) rfl), (WT_mem (t1_in (List.mem_of_getElem? (i := 11) rfl)) rfl), ⟨by decide +kernel, by decide +kernel, by decide +kernel⟩, by decide⟩
theorem lc_X9_mean : LnkC Y_X9_mean 3 := ⟨(WT_mem (t5_in (List.mem_of_getElem? (i := 212) rfl)) rfl), (WT_mem (t1_in (List.mem_of_getElem? (i := 11) rfl)) rfl), ⟨by decide +kernel, by decide +kernel, by decide +kernel⟩, by decide⟩
theorem lc_X9_meanOf : LnkC Y_X9_meanOf 1 := ⟨(WT_mem (t6_in (List.mem_of_getElem? (i := 4) rfl)) rfl), (WT_mem (t1_in (List.mem_of_getElem? (i := 11) rfl)) rfl), ⟨by decide +kernel, by decide +kernel, by decide +kernel⟩, by decide⟩
theorem lc_X9_means : LnkC Y_X9_means 3 := ⟨(WT_mem (t5_in (List.mem_of_getElem? (i := 220) rfl)) rfl), (WT_mem (t1_in (List.mem_of_getElem? (i := 11) rfl)) rfl), ⟨by decide +kernel, by decide +kernel, by decide +kernel⟩, by decide⟩
theorem lc_X9_nerves : LnkC Y_X9_nerves 1 := ⟨(WT_mem (t5_in (List.mem_of_getElem? (i := 110) rfl)) rfl), (WT_mem (t1_in (List.mem_of_getElem? (i := 11) rfl)) rfl), ⟨by decide +kernel, by decide +kernel, by decide +kernel⟩, by decide⟩
theorem lc_X9_nervesOf : LnkC Y_X9_nervesOf 1 := ⟨(WT_mem (t5_in (List.mem_of_getElem? (i := 105) rfl)) rfl), (WT_mem (t1_in (List.mem_of_getElem? (i := 11) rfl)) rfl), ⟨by decide +kernel, by decide +kernel, by decide +kernel⟩, by decide⟩
theorem lc_X9_next : LnkC Y_X9_next 0 := ⟨(WT_mem (t5_in (List.mem_of_getElem? (i := 114) rfl)) rfl), (WT_mem (t1_in (List.mem_of_getElem? (i := 11) rfl)) rfl), ⟨by decide +kernel, by decide +kernel, by decide +kernel⟩, by decide⟩
theorem lc_X9_now : LnkC Y_X9_now 1 := ⟨(WT_mem (t5_in (List.mem_of_getElem? (i := 92) rfl)) rfl), (WT_mem (t1_in (List.mem_of_getElem? (i := 11) rfl)) rfl), ⟨by decide +kernel, by decide +kernel, by decide +kernel⟩, by decide⟩
theorem lc_X9_number : LnkC Y_X9_number 2 := ⟨(WT_mem (t6_in (List.mem_of_getElem? (i := 114) rfl)) rfl), (WT_mem (t1_in (List.mem_of_getElem? (i := 11) rfl)) rfl), ⟨by decide +kernel, by decide +kernel, by decide +kernel⟩, by decide⟩
theorem lc_X9_odds : LnkC Y_X9_odds 4 := ⟨(WT_mem (t5_in (List.mem_of_getElem? (i := 80) rfl)) rfl), (WT_mem (t1_in (List.mem_of_getElem? (i := 11) rfl)) rfl), ⟨by decide +kernel, by decide +kernel, by decide +kernel⟩, by decide⟩
theorem lc_X9_oddsAt : LnkC Y_X9_oddsAt 3 := ⟨(WT_mem (t5_in (List.mem_of_getElem? (i := 200) rfl)) rfl), (WT_mem (t1_in (List.mem_of_getElem? (i := 11) rfl)) rfl), ⟨by decide +kernel, by decide +kernel, by decide +kernel⟩, by decide⟩
theorem lc_X9_oddsBy : LnkC Y_X9_oddsBy 5 := ⟨(WT_mem (t5_in (List.mem_of_getElem? (i := 84) rfl)) rfl), (WT_mem (t1_in (List.mem_of_getElem? (i := 11) rfl)) rfl), ⟨by decide +kernel, by decide +kernel, by decide +kernel⟩, by decide⟩
theorem lc_X9_oddsNow : LnkC Y_X9_oddsNow 1 := ⟨(WT_mem (t5_in (List.mem_of_getElem? (i := 101) rfl)) rfl), (WT_mem (t1_in (List.mem_of_getElem? (i := 11) rfl)) rfl), ⟨by decide +kernel, by decide +kernel, by decide +kernel⟩, by decide⟩
theorem lc_X9_of : LnkC Y_X9_of 2 := ⟨(WT_mem (t5_in (List.mem_of_getElem? (i := 27) rfl)) rfl), (WT_mem (t1_in (List.mem_of_getElem? (i := 11) rfl)) rfl), ⟨by decide +kernel, by decide +kernel, by decide +kernel⟩, by decide⟩
theorem lc_X9_orNone : LnkC Y_X9_orNone 1 := ⟨(WT_mem (t5_in (List.mem_of_getElem? (i := 122) rfl)) rfl), (WT_mem (t1_in (List.mem_of_getElem? (i := 11) rfl)) rfl), ⟨by decide +kernel, by decide +kernel, by decide +kernel⟩, by decide⟩
theorem lc_X9_pace : LnkC Y_X9_pace 4 := ⟨(WT_mem (t5_in (List.mem_of_getElem? (i := 53) rfl)) rfl), (WT_mem (t1_in (List.mem_of_getElem? (i := 11) rfl)) rfl), ⟨by decide +kernel, by decide +kernel, by decide +kernel⟩, by decide⟩
theorem lc_X9_paceAt : LnkC Y_X9_paceAt 2 := ⟨(WT_mem (t5_in (List.mem_of_getElem? (i := 64) rfl)) rfl), (WT_mem (t1_in (List.mem_of_getElem? (i := 11) rfl)) rfl), ⟨by decide +kernel, by decide +kernel, by decide +kernel⟩, by decide⟩
theorem lc_X9_paceOf : LnkC Y_X9_paceOf 2 := ⟨(WT_mem (t5_in (List.mem_of_getElem? (i := 60) rfl)) rfl), (WT_mem (t1_in (List.mem_of_getElem? (i := 11) rfl)) rfl), ⟨by decide +kernel, by decide +kernel, by decide +kernel⟩, by decide⟩
theorem lc_X9_pick : LnkC Y_X9_pick 1 := ⟨(WT_mem (t5_in (List.mem_of_getElem? (i := 3) rfl)) rfl), (WT_mem (t1_in (List.mem_of_getElem? (i := 11) rfl)) rfl), ⟨by decide +kernel, by decide +kernel, by decide +kernel⟩, by decide⟩
theorem lc_X9_place : LnkC Y_X9_place 1 := ⟨(WT_mem (t5_in (List.mem_of_getElem? (i := 183) rfl)) rfl), (WT_mem (t1_in (List.mem_of_getElem? (i := 11) rfl)) rfl), ⟨by decide +kernel, by decide +kernel, by decide +kernel⟩, by decide⟩
theorem lc_X9_rain : LnkC Y_X9_rain 1 := ⟨(WT_mem (t6_in (List.mem_of_getElem? (i := 58) rfl)) rfl), (WT_mem (t1_in (List.mem_of_getElem? (i := 11) rfl)) rfl), ⟨by decide +kernel, by decide +kernel, by decide +kernel⟩, by decide⟩
theorem lc_X9_rocks : LnkC Y_X9_rocks 2 := ⟨(WT_mem (t5_in (List.mem_of_getElem? (i := 76) rfl)) rfl), (WT_mem (t1_in (List.mem_of_getElem? (i := 11) rfl)) rfl), ⟨by decide +kernel, by decide +kernel, by decide +kernel⟩, by decide⟩
theorem lc_X9_row : LnkC Y_X9_row 2 := ⟨(WT_mem (t5_in (List.mem_of_getElem? (i := 163) rfl)) rfl), (WT_mem (t1_in (List.mem_of_getElem? (i := 11) rfl)) rfl), ⟨by decide +kernel, by decide +kernel, by decide +kernel⟩, by decide⟩
theorem lc_X9_runner : LnkC Y_X9_runner 3 := ⟨(WT_mem (t5_in (List.mem_of_getElem? (i := 8) rfl)) rfl), (WT_mem (t1_in (List.mem_of_getElem? (i := 11) rfl)) rfl), ⟨by decide +kernel, by decide +kernel, by decide +kernel⟩, by decide⟩
theorem lc_X9_runnerItem : LnkC Y_X9_runnerItem 1 := ⟨(WT_mem (t6_in (List.mem_of_getElem? (i := 135) rfl)) rfl), (WT_mem (t1_in (List.mem_of_getElem? (i := 11) rfl)) rfl), ⟨by decide +kernel, by decide +kernel, by decide +kernel⟩, by decide⟩
theorem lc_X9_runsNext : LnkC Y_X9_runsNext 0 := ⟨(WT_mem (t5_in (List.mem_of_getElem? (i := 118) rfl)) rfl), (WT_mem (t1_in (List.mem_of_getElem? (i := 11) rfl)) rfl), ⟨by decide +kernel, by decide +kernel, by decide +kernel⟩, by decide⟩
theorem lc_X9_seed : LnkC Y_X9_seed 1 := ⟨(WT_mem (t6_in (List.mem_of_getElem? (i := 67) rfl)) rfl), (WT_mem (t1_in (List.mem_of_getElem? (i := 11) rfl)) rfl), ⟨by decide +kernel, by decide +kernel, by decide +kernel⟩, by decide⟩
theorem lc_X9_sheet : LnkC Y_X9_sheet 3 := ⟨(WT_mem (t6_in (List.mem_of_getElem? (i := 159) rfl)) rfl), (WT_mem (t1_in (List.mem_of_getElem? (i := 11) rfl)) rfl), ⟨by decide +kernel, by decide +kernel, by decide +kernel⟩, by decide⟩
theorem lc_X9_spoon : LnkC Y_X9_spoon 1 := ⟨(WT_mem (t6_in (List.mem_of_getElem? (i := 16) rfl)) rfl), (WT_mem (t1_in (List.mem_of_getElem? (i := 11) rfl)) rfl), ⟨by decide +kernel, by decide +kernel, by decide +kernel⟩, by decide⟩
theorem lc_X9_start : LnkC Y_X9_start 0 := ⟨(WT_mem (t5_in (List.mem_of_getElem? (i := 145) rfl)) rfl), (WT_mem (t1_in (List.mem_of_getElem? (i := 11) rfl)) rfl), ⟨by decide +kernel, by decide +kernel, by decide +kernel⟩, by decide⟩
theorem lc_X9_starts : LnkC Y_X9_starts 0 := ⟨(WT_mem (t5_in (List.mem_of_getElem? (i := 156) rfl)) rfl), (WT_mem (t1_in (List.mem_of_getElem? (i := 11) rfl)) rfl), ⟨by decide +kernel, by decide +kernel, by decide +kernel⟩, by decide⟩
theorem lc_X9_status : LnkC Y_X9_status 1 := ⟨(WT_mem (t6_in (List.mem_of_getElem? (i := 207) rfl)) rfl), (WT_mem (t1_in (List.mem_of_getElem? (i := 11) rfl)) rfl), ⟨by decide +kernel, by decide +kernel, by decide +kernel⟩, by decide⟩
theorem lc_X9_step : LnkC Y_X9_step 1 := ⟨(WT_mem (t5_in (List.mem_of_getElem? (i := 136) rfl)) rfl), (WT_mem (t1_in (List.mem_of_getElem? (i := 11) rfl)) rfl), ⟨by decide +kernel, by decide +kernel, by decide +kernel⟩, by decide⟩
theorem lc_X9_steps : LnkC Y_X9_steps 1 := ⟨(WT_mem (t5_in (List.mem_of_getElem? (i := 127) rfl)) rfl), (WT_mem (t1_in (List.mem_of_getElem? (i := 11) rfl)) rfl), ⟨by decide +kernel, by decide +kernel, by decide +kernel⟩, by decide⟩
theorem lc_X9_stepsGo : LnkC Y_X9_stepsGo 1 := ⟨(WT_mem (t5_in (List.mem_of_getElem? (i := 132) rfl)) rfl), (WT_mem (t1_in (List.mem_of_getElem? (i := 11) rfl)) rfl), ⟨by decide +kernel, by decide +kernel, by decide +kernel⟩, by decide⟩
theorem lc_X9_suspect : LnkC Y_X9_suspect 3 := ⟨(WT_mem (t6_in (List.mem_of_getElem? (i := 54) rfl)) rfl), (WT_mem (t1_in (List.mem_of_getElem? (i := 11) rfl)) rfl), ⟨by decide +kernel, by decide +kernel, by decide +kernel⟩, by decide⟩
theorem lc_X9_takes : LnkC Y_X9_takes 2 := ⟨(WT_mem (t5_in (List.mem_of_getElem? (i := 72) rfl)) rfl), (WT_mem (t1_in (List.mem_of_getElem? (i := 11) rfl)) rfl), ⟨by decide +kernel, by decide +kernel, by decide +kernel⟩, by decide⟩
theorem lc_X9_takes_ : LnkC Y_X9_takes_ 1 := ⟨(WT_mem (t6_in (List.mem_of_getElem? (i := 119) rfl)) rfl), (WT_mem (t1_in (List.mem_of_getElem? (i := 11) rfl)) rfl), ⟨by decide +kernel, by decide +kernel, by decide +kernel⟩, by decide⟩
theorem lc_X9_team : LnkC Y_X9_team 1 := ⟨(WT_mem (t6_in (List.mem_of_getElem? (i := 29) rfl)) rfl), (WT_mem (t1_in (List.mem_of_getElem? (i := 11) rfl)) rfl), ⟨by decide +kernel, by decide +kernel, by decide +kernel⟩, by decide⟩
theorem lc_X9_tear : LnkC Y_X9_tear 0 := ⟨(WT_mem (t6_in (List.mem_of_getElem? (i := 191) rfl)) rfl), (WT_mem (t1_in (List.mem_of_getElem? (i := 11) rfl)) rfl), ⟨by decide +kernel, by decide +kernel, by decide +kernel⟩, by decide⟩
theorem lc_X9_text : LnkC Y_X9_text 0 := ⟨(WT_mem (t6_in (List.mem_of_getElem? (i := 79) rfl)) rfl), (WT_mem (t1_in (List.mem_of_getElem? (i := 11) rfl)) rfl), ⟨by decide +kernel, by decide +kernel, by decide +kernel⟩, by decide⟩
theorem lc_X9_token : LnkC Y_X9_token 0 := ⟨(WT_mem (t6_in (List.mem_of_getElem? (i := 83) rfl)) rfl), (WT_mem (t1_in (List.mem_of_getElem? (i := 11) rfl)) rfl), ⟨by decide +kernel, by decide +kernel, by decide +kernel⟩, by decide⟩
theorem lc_X9_told : LnkC Y_X9_told 3 := ⟨(WT_mem (t5_in (List.mem_of_getElem? (i := 68) rfl)) rfl), (WT_mem (t1_in (List.mem_of_getElem? (i := 11) rfl)) rfl), ⟨by decide +kernel, by decide +kernel, by decide +kernel⟩, by decide⟩
theorem lc_X9_train : LnkC Y_X9_train 1 := ⟨(WT_mem (t5_in (List.mem_of_getElem? (i := 236) rfl)) rfl), (WT_mem (t1_in (List.mem_of_getElem? (i := 11) rfl)) rfl), ⟨by decide +kernel, by decide +kernel, by decide +kernel⟩, by decide⟩
theorem lc_X9_undo : LnkC Y_X9_undo 0 := ⟨(WT_mem (t6_in (List.mem_of_getElem? (i := 187) rfl)) rfl), (WT_mem (t1_in (List.mem_of_getElem? (i := 11) rfl)) rfl), ⟨by decide +kernel, by decide +kernel, by decide +kernel⟩, by decide⟩
theorem lc_X9_winner : LnkC Y_X9_winner 0 := ⟨(WT_mem (t5_in (List.mem_of_getElem? (i := 167) rfl)) rfl), (WT_mem (t1_in (List.mem_of_getElem? (i := 11) rfl)) rfl), ⟨by decide +kernel, by decide +kernel, by decide +kernel⟩, by decide⟩
theorem lc_X9_wins : LnkC Y_X9_wins 2 := ⟨(WT_mem (t5_in (List.mem_of_getElem? (i := 187) rfl)) rfl), (WT_mem (t1_in (List.mem_of_getElem? (i := 11) rfl)) rfl), ⟨by decide +kernel, by decide +kernel, by decide +kernel⟩, by decide⟩
theorem lc_X9_wipe : LnkC Y_X9_wipe 0 := ⟨(WT_mem (t6_in (List.mem_of_getElem? (i := 75) rfl)) rfl), (WT_mem (t1_in (List.mem_of_getElem? (i := 11) rfl)) rfl), ⟨by decide +kernel, by decide +kernel, by decide +kernel⟩, by decide⟩
theorem lc_X9_worst : LnkC Y_X9_worst 1 := ⟨(WT_mem (t6_in (List.mem_of_getElem? (i := 12) rfl)) rfl), (WT_mem (t1_in (List.mem_of_getElem? (i := 11) rfl)) rfl), ⟨by decide +kernel, by decide +kernel, by decide +kernel⟩, by decide⟩
theorem lc_X9_write : LnkC Y_X9_write 3 := ⟨(WT_mem (t6_in (List.mem_of_getElem? (i := 167) rfl)) rfl), (WT_mem (t1_in (List.mem_of_getElem? (i := 11) rfl)) rfl), ⟨by decide +kernel, by decide +kernel, by decide +kernel⟩, by decide⟩
theorem lk_J0_492 : LnkV RJ0 492 Y_J0_isLatin1_aae02 0 := ⟨lc_J0_isLatin1_aae02, (WT_mem (t3_in (List.mem_of_getElem? (i := 224) rfl)) rfl), (WT_mem (t3_in (List.mem_of_getElem? (i := 225) rfl)) rfl), (WT_mem (t3_in (List.mem_of_getElem? (i := 226) rfl)) rfl)⟩
theorem lk_J0_495 : LnkS RJ0 495 Y_J1_charAt_3b067 2 := ⟨lc_J1_charAt_3b067, (WT_mem (t3_in (List.mem_of_getElem? (i := 228) rfl)) rfl), (WT_mem (t3_in (List.mem_of_getElem? (i := 229) rfl)) rfl)⟩
theorem lk_J0_498 : LnkS RJ0 498 Y_J2_charAt_3b067 2 := ⟨lc_J2_charAt_3b067, (WT_mem (t3_in (List.mem_of_getElem? (i := 239) rfl)) rfl), (WT_mem (t4_in (List.mem_of_getElem? (i := 0) rfl)) rfl)⟩
theorem lk_J0_1059 : LnkS RJ0 1059 Y_J3_checkIndex_8e157 3 := ⟨lc_J3_checkIndex_8e157, (WT_mem (t3_in (List.mem_of_getElem? (i := 236) rfl)) rfl), (WT_mem (t3_in (List.mem_of_getElem? (i := 237) rfl)) rfl)⟩
theorem lk_J0_335 : LnkV RJ0 335 Y_J0_coder_7d493 0 := ⟨lc_J0_coder_7d493, (WT_mem (t3_in (List.mem_of_getElem? (i := 214) rfl)) rfl), (WT_mem (t3_in (List.mem_of_getElem? (i := 215) rfl)) rfl), (WT_mem (t3_in (List.mem_of_getElem? (i := 216) rfl)) rfl)⟩
theorem lk_J1_9 : LnkS RJ1 9 Y_J0_checkIndex_df160 2 := ⟨lc_J0_checkIndex_df160, (WT_mem (t3_in (List.mem_of_getElem? (i := 231) rfl)) rfl), (WT_mem (t3_in (List.mem_of_getElem? (i := 232) rfl)) rfl)⟩
theorem lk_J2_67 : LnkS RJ2 67 Y_J2_checkIndex_2214a 2 := ⟨lc_J2_checkIndex_2214a, (WT_mem (t4_in (List.mem_of_getElem? (i := 2) rfl)) rfl), (WT_mem (t4_in (List.mem_of_getElem? (i := 3) rfl)) rfl)⟩
theorem lk_J2_71 : LnkS RJ2 71 Y_J2_getChar_3b067 2 := ⟨lc_J2_getChar_3b067, (WT_mem (t4_in (List.mem_of_getElem? (i := 9) rfl)) rfl), (WT_mem (t4_in (List.mem_of_getElem? (i := 10) rfl)) rfl)⟩
theorem lk_J2_48 : LnkS RJ2 48 Y_J2_length_9d52b 1 := ⟨lc_J2_length_9d52b, (WT_mem (t4_in (List.mem_of_getElem? (i := 5) rfl)) rfl), (WT_mem (t4_in (List.mem_of_getElem? (i := 6) rfl)) rfl)⟩
theorem lk_J2_414 : LnkS RJ2 414 Y_J0_checkIndex_df160 2 := ⟨lc_J0_checkIndex_df160, (WT_mem (t4_in (List.mem_of_getElem? (i := 8) rfl)) rfl), (WT_mem (t3_in (List.mem_of_getElem? (i := 232) rfl)) rfl)⟩
theorem kc_J6_265 : Cond.constant RJ6 265 (1431655765) ∈ WTb := (WT_mem (t2_in (List.mem_of_getElem? (i := 202) rfl)) rfl)
theorem kc_J6_266 : Cond.constant RJ6 266 (858993459) ∈ WTb := (WT_mem (t2_in (List.mem_of_getElem? (i := 203) rfl)) rfl)
theorem kc_J6_267 : Cond.constant RJ6 267 (252645135) ∈ WTb := (WT_mem (t2_in (List.mem_of_getElem? (i := 204) rfl)) rfl)
theorem lk_L_13 : LnkV RL 13 Y_X8_ground 2 := ⟨lc_X8_ground, (WT_mem (t2_in (List.mem_of_getElem? (i := 15) rfl)) rfl), (WT_mem (t2_in (List.mem_of_getElem? (i := 16) rfl)) rfl), (WT_mem (t2_in (List.mem_of_getElem? (i := 17) rfl)) rfl)⟩
theorem lk_L_17 : LnkV RL 17 Y_X9_ground 2 := ⟨lc_X9_ground, (WT_mem (t4_in (List.mem_of_getElem? (i := 219) rfl)) rfl), (WT_mem (t4_in (List.mem_of_getElem? (i := 220) rfl)) rfl), (WT_mem (t4_in (List.mem_of_getElem? (i := 221) rfl)) rfl)⟩
theorem lk_L_18 : LnkV RL 18 Y_X8_pick 1 := ⟨lc_X8_pick, (WT_mem (t2_in (List.mem_of_getElem? (i := 30) rfl)) rfl), (WT_mem (t2_in (List.mem_of_getElem? (i := 31) rfl)) rfl), (WT_mem (t2_in (List.mem_of_getElem? (i := 32) rfl)) rfl)⟩
theorem lk_L_22 : LnkV RL 22 Y_X9_pick 1 := ⟨lc_X9_pick, (WT_mem (t5_in (List.mem_of_getElem? (i := 0) rfl)) rfl), (WT_mem (t5_in (List.mem_of_getElem? (i := 1) rfl)) rfl), (WT_mem (t5_in (List.mem_of_getElem? (i := 2) rfl)) rfl)⟩
theorem lk_L_23 : LnkV RL 23 Y_X8_runner 3 := ⟨lc_X8_runner, (WT_mem (t2_in (List.mem_of_getElem? (i := 34) rfl)) rfl), (WT_mem (t2_in (List.mem_of_getElem? (i := 35) rfl)) rfl), (WT_mem (t2_in (List.mem_of_getElem? (i := 36) rfl)) rfl)⟩
theorem lk_L_27 : LnkV RL 27 Y_X9_runner 3 := ⟨lc_X9_runner, (WT_mem (t5_in (List.mem_of_getElem? (i := 5) rfl)) rfl), (WT_mem (t5_in (List.mem_of_getElem? (i := 6) rfl)) rfl), (WT_mem (t5_in (List.mem_of_getElem? (i := 7) rfl)) rfl)⟩
theorem lk_L_28 : LnkV RL 28 Y_X8_of 2 := ⟨lc_X8_of, (WT_mem (t2_in (List.mem_of_getElem? (i := 51) rfl)) rfl), (WT_mem (t2_in (List.mem_of_getElem? (i := 52) rfl)) rfl), (WT_mem (t2_in (List.mem_of_getElem? (i := 53) rfl)) rfl)⟩
theorem lk_L_31 : LnkV RL 31 Y_X9_of 2 := ⟨lc_X9_of, (WT_mem (t5_in (List.mem_of_getElem? (i := 24) rfl)) rfl), (WT_mem (t5_in (List.mem_of_getElem? (i := 25) rfl)) rfl), (WT_mem (t5_in (List.mem_of_getElem? (i := 26) rfl)) rfl)⟩
theorem lk_L_32 : LnkV RL 32 Y_X8_change 3 := ⟨lc_X8_change, (WT_mem (t2_in (List.mem_of_getElem? (i := 69) rfl)) rfl), (WT_mem (t2_in (List.mem_of_getElem? (i := 70) rfl)) rfl), (WT_mem (t2_in (List.mem_of_getElem? (i := 71) rfl)) rfl)⟩
theorem lk_L_35 : LnkV RL 35 Y_X9_change 3 := ⟨lc_X9_change, (WT_mem (t5_in (List.mem_of_getElem? (i := 41) rfl)) rfl), (WT_mem (t5_in (List.mem_of_getElem? (i := 42) rfl)) rfl), (WT_mem (t5_in (List.mem_of_getElem? (i := 43) rfl)) rfl)⟩
theorem lk_L_36 : LnkV RL 36 Y_X8_pace 4 := ⟨lc_X8_pace, (WT_mem (t2_in (List.mem_of_getElem? (i := 80) rfl)) rfl), (WT_mem (t2_in (List.mem_of_getElem? (i := 81) rfl)) rfl), (WT_mem (t2_in (List.mem_of_getElem? (i := 82) rfl)) rfl)⟩
theorem lk_L_40 : LnkV RL 40 Y_X9_pace 4 := ⟨lc_X9_pace, (WT_mem (t5_in (List.mem_of_getElem? (i := 50) rfl)) rfl), (WT_mem (t5_in (List.mem_of_getElem? (i := 51) rfl)) rfl), (WT_mem (t5_in (List.mem_of_getElem? (i := 52) rfl)) rfl)⟩
theorem lk_L_41 : LnkV RL 41 Y_X8_paceOf 2 := ⟨lc_X8_paceOf, (WT_mem (t2_in (List.mem_of_getElem? (i := 87) rfl)) rfl), (WT_mem (t2_in (List.mem_of_getElem? (i := 88) rfl)) rfl), (WT_mem (t2_in (List.mem_of_getElem? (i := 89) rfl)) rfl)⟩
theorem lk_L_44 : LnkV RL 44 Y_X9_paceOf 2 := ⟨lc_X9_paceOf, (WT_mem (t5_in (List.mem_of_getElem? (i := 57) rfl)) rfl), (WT_mem (t5_in (List.mem_of_getElem? (i := 58) rfl)) rfl), (WT_mem (t5_in (List.mem_of_getElem? (i := 59) rfl)) rfl)⟩
theorem lk_L_45 : LnkV RL 45 Y_X8_told 3 := ⟨lc_X8_told, (WT_mem (t2_in (List.mem_of_getElem? (i := 91) rfl)) rfl), (WT_mem (t2_in (List.mem_of_getElem? (i := 92) rfl)) rfl), (WT_mem (t2_in (List.mem_of_getElem? (i := 93) rfl)) rfl)⟩
theorem lk_L_48 : LnkV RL 48 Y_X9_told 3 := ⟨lc_X9_told, (WT_mem (t5_in (List.mem_of_getElem? (i := 65) rfl)) rfl), (WT_mem (t5_in (List.mem_of_getElem? (i := 66) rfl)) rfl), (WT_mem (t5_in (List.mem_of_getElem? (i := 67) rfl)) rfl)⟩
theorem lk_L_49 : LnkV RL 49 Y_X8_odds 4 := ⟨lc_X8_odds, (WT_mem (t2_in (List.mem_of_getElem? (i := 109) rfl)) rfl), (WT_mem (t2_in (List.mem_of_getElem? (i := 110) rfl)) rfl), (WT_mem (t2_in (List.mem_of_getElem? (i := 111) rfl)) rfl)⟩
theorem lk_L_52 : LnkV RL 52 Y_X9_odds 4 := ⟨lc_X9_odds, (WT_mem (t5_in (List.mem_of_getElem? (i := 77) rfl)) rfl), (WT_mem (t5_in (List.mem_of_getElem? (i := 78) rfl)) rfl), (WT_mem (t5_in (List.mem_of_getElem? (i := 79) rfl)) rfl)⟩
theorem lk_L_53 : LnkV RL 53 Y_X8_now 1 := ⟨lc_X8_now, (WT_mem (t2_in (List.mem_of_getElem? (i := 133) rfl)) rfl), (WT_mem (t2_in (List.mem_of_getElem? (i := 134) rfl)) rfl), (WT_mem (t2_in (List.mem_of_getElem? (i := 135) rfl)) rfl)⟩
theorem lk_L_56 : LnkV RL 56 Y_X9_now 1 := ⟨lc_X9_now, (WT_mem (t5_in (List.mem_of_getElem? (i := 89) rfl)) rfl), (WT_mem (t5_in (List.mem_of_getElem? (i := 90) rfl)) rfl), (WT_mem (t5_in (List.mem_of_getElem? (i := 91) rfl)) rfl)⟩
theorem lk_L_57 : LnkV RL 57 Y_X8_nerves 1 := ⟨lc_X8_nerves, (WT_mem (t2_in (List.mem_of_getElem? (i := 154) rfl)) rfl), (WT_mem (t2_in (List.mem_of_getElem? (i := 155) rfl)) rfl), (WT_mem (t2_in (List.mem_of_getElem? (i := 156) rfl)) rfl)⟩
theorem lk_L_60 : LnkV RL 60 Y_X9_nerves 1 := ⟨lc_X9_nerves, (WT_mem (t5_in (List.mem_of_getElem? (i := 107) rfl)) rfl), (WT_mem (t5_in (List.mem_of_getElem? (i := 108) rfl)) rfl), (WT_mem (t5_in (List.mem_of_getElem? (i := 109) rfl)) rfl)⟩
theorem lk_L_61 : LnkV RL 61 Y_X8_next 0 := ⟨lc_X8_next, (WT_mem (t2_in (List.mem_of_getElem? (i := 159) rfl)) rfl), (WT_mem (t2_in (List.mem_of_getElem? (i := 160) rfl)) rfl), (WT_mem (t2_in (List.mem_of_getElem? (i := 161) rfl)) rfl)⟩
theorem lk_L_65 : LnkV RL 65 Y_X9_next 0 := ⟨lc_X9_next, (WT_mem (t5_in (List.mem_of_getElem? (i := 111) rfl)) rfl), (WT_mem (t5_in (List.mem_of_getElem? (i := 112) rfl)) rfl), (WT_mem (t5_in (List.mem_of_getElem? (i := 113) rfl)) rfl)⟩
theorem lk_L_66 : LnkV RL 66 Y_X8_steps 1 := ⟨lc_X8_steps, (WT_mem (t2_in (List.mem_of_getElem? (i := 167) rfl)) rfl), (WT_mem (t2_in (List.mem_of_getElem? (i := 168) rfl)) rfl), (WT_mem (t2_in (List.mem_of_getElem? (i := 169) rfl)) rfl)⟩
theorem lk_L_69 : LnkV RL 69 Y_X9_steps 1 := ⟨lc_X9_steps, (WT_mem (t5_in (List.mem_of_getElem? (i := 124) rfl)) rfl), (WT_mem (t5_in (List.mem_of_getElem? (i := 125) rfl)) rfl), (WT_mem (t5_in (List.mem_of_getElem? (i := 126) rfl)) rfl)⟩
theorem lk_L_70 : LnkV RL 70 Y_X8_start 0 := ⟨lc_X8_start, (WT_mem (t2_in (List.mem_of_getElem? (i := 187) rfl)) rfl), (WT_mem (t2_in (List.mem_of_getElem? (i := 188) rfl)) rfl), (WT_mem (t2_in (List.mem_of_getElem? (i := 189) rfl)) rfl)⟩
theorem lk_L_73 : LnkV RL 73 Y_X9_start 0 := ⟨lc_X9_start, (WT_mem (t5_in (List.mem_of_getElem? (i := 142) rfl)) rfl), (WT_mem (t5_in (List.mem_of_getElem? (i := 143) rfl)) rfl), (WT_mem (t5_in (List.mem_of_getElem? (i := 144) rfl)) rfl)⟩
theorem lk_L_74 : LnkV RL 74 Y_X8_ahead 2 := ⟨lc_X8_ahead, (WT_mem (t2_in (List.mem_of_getElem? (i := 206) rfl)) rfl), (WT_mem (t2_in (List.mem_of_getElem? (i := 207) rfl)) rfl), (WT_mem (t2_in (List.mem_of_getElem? (i := 208) rfl)) rfl)⟩
theorem lk_L_77 : LnkV RL 77 Y_X9_ahead 2 := ⟨lc_X9_ahead, (WT_mem (t5_in (List.mem_of_getElem? (i := 157) rfl)) rfl), (WT_mem (t5_in (List.mem_of_getElem? (i := 158) rfl)) rfl), (WT_mem (t5_in (List.mem_of_getElem? (i := 159) rfl)) rfl)⟩
theorem lk_L_78 : LnkV RL 78 Y_X8_winner 0 := ⟨lc_X8_winner, (WT_mem (t2_in (List.mem_of_getElem? (i := 223) rfl)) rfl), (WT_mem (t2_in (List.mem_of_getElem? (i := 224) rfl)) rfl), (WT_mem (t2_in (List.mem_of_getElem? (i := 225) rfl)) rfl)⟩
theorem lk_L_81 : LnkV RL 81 Y_X9_winner 0 := ⟨lc_X9_winner, (WT_mem (t5_in (List.mem_of_getElem? (i := 164) rfl)) rfl), (WT_mem (t5_in (List.mem_of_getElem? (i := 165) rfl)) rfl), (WT_mem (t5_in (List.mem_of_getElem? (i := 166) rfl)) rfl)⟩
theorem lk_L_82 : LnkV RL 82 Y_X8_place 1 := ⟨lc_X8_place, (WT_mem (t2_in (List.mem_of_getElem? (i := 235) rfl)) rfl), (WT_mem (t2_in (List.mem_of_getElem? (i := 236) rfl)) rfl), (WT_mem (t2_in (List.mem_of_getElem? (i := 237) rfl)) rfl)⟩
theorem lk_L_85 : LnkV RL 85 Y_X9_place 1 := ⟨lc_X9_place, (WT_mem (t5_in (List.mem_of_getElem? (i := 180) rfl)) rfl), (WT_mem (t5_in (List.mem_of_getElem? (i := 181) rfl)) rfl), (WT_mem (t5_in (List.mem_of_getElem? (i := 182) rfl)) rfl)⟩
theorem lk_L_86 : LnkV RL 86 Y_X8_wins 2 := ⟨lc_X8_wins, (WT_mem (t3_in (List.mem_of_getElem? (i := 3) rfl)) rfl), (WT_mem (t3_in (List.mem_of_getElem? (i := 4) rfl)) rfl), (WT_mem (t3_in (List.mem_of_getElem? (i := 5) rfl)) rfl)⟩
theorem lk_L_89 : LnkV RL 89 Y_X9_wins 2 := ⟨lc_X9_wins, (WT_mem (t5_in (List.mem_of_getElem? (i := 184) rfl)) rfl), (WT_mem (t5_in (List.mem_of_getElem? (i := 185) rfl)) rfl), (WT_mem (t5_in (List.mem_of_getElem? (i := 186) rfl)) rfl)⟩
theorem lk_L_90 : LnkV RL 90 Y_X8_clean 3 := ⟨lc_X8_clean, (WT_mem (t3_in (List.mem_of_getElem? (i := 7) rfl)) rfl), (WT_mem (t3_in (List.mem_of_getElem? (i := 8) rfl)) rfl), (WT_mem (t3_in (List.mem_of_getElem? (i := 9) rfl)) rfl)⟩
theorem lk_L_94 : LnkV RL 94 Y_X9_clean 3 := ⟨lc_X9_clean, (WT_mem (t5_in (List.mem_of_getElem? (i := 189) rfl)) rfl), (WT_mem (t5_in (List.mem_of_getElem? (i := 190) rfl)) rfl), (WT_mem (t5_in (List.mem_of_getElem? (i := 191) rfl)) rfl)⟩
theorem lk_L_95 : LnkV RL 95 Y_X8_drops 4 := ⟨lc_X8_drops, (WT_mem (t3_in (List.mem_of_getElem? (i := 15) rfl)) rfl), (WT_mem (t3_in (List.mem_of_getElem? (i := 16) rfl)) rfl), (WT_mem (t3_in (List.mem_of_getElem? (i := 17) rfl)) rfl)⟩
theorem lk_L_99 : LnkV RL 99 Y_X9_drops 4 := ⟨lc_X9_drops, (WT_mem (t5_in (List.mem_of_getElem? (i := 201) rfl)) rfl), (WT_mem (t5_in (List.mem_of_getElem? (i := 202) rfl)) rfl), (WT_mem (t5_in (List.mem_of_getElem? (i := 203) rfl)) rfl)⟩
theorem lk_L_100 : LnkV RL 100 Y_X8_mean 3 := ⟨lc_X8_mean, (WT_mem (t3_in (List.mem_of_getElem? (i := 33) rfl)) rfl), (WT_mem (t3_in (List.mem_of_getElem? (i := 34) rfl)) rfl), (WT_mem (t3_in (List.mem_of_getElem? (i := 35) rfl)) rfl)⟩
theorem lk_L_103 : LnkV RL 103 Y_X9_mean 3 := ⟨lc_X9_mean, (WT_mem (t5_in (List.mem_of_getElem? (i := 209) rfl)) rfl), (WT_mem (t5_in (List.mem_of_getElem? (i := 210) rfl)) rfl), (WT_mem (t5_in (List.mem_of_getElem? (i := 211) rfl)) rfl)⟩
theorem lk_L_104 : LnkV RL 104 Y_X8_least 3 := ⟨lc_X8_least, (WT_mem (t3_in (List.mem_of_getElem? (i := 54) rfl)) rfl), (WT_mem (t3_in (List.mem_of_getElem? (i := 55) rfl)) rfl), (WT_mem (t3_in (List.mem_of_getElem? (i := 56) rfl)) rfl)⟩
theorem lk_L_107 : LnkV RL 107 Y_X9_least 3 := ⟨lc_X9_least, (WT_mem (t5_in (List.mem_of_getElem? (i := 225) rfl)) rfl), (WT_mem (t5_in (List.mem_of_getElem? (i := 226) rfl)) rfl), (WT_mem (t5_in (List.mem_of_getElem? (i := 227) rfl)) rfl)⟩
theorem lk_L_108 : LnkV RL 108 Y_X8_best 3 := ⟨lc_X8_best, (WT_mem (t3_in (List.mem_of_getElem? (i := 67) rfl)) rfl), (WT_mem (t3_in (List.mem_of_getElem? (i := 68) rfl)) rfl), (WT_mem (t3_in (List.mem_of_getElem? (i := 69) rfl)) rfl)⟩
theorem lk_L_111 : LnkV RL 111 Y_X9_best 3 := ⟨lc_X9_best, (WT_mem (t5_in (List.mem_of_getElem? (i := 229) rfl)) rfl), (WT_mem (t5_in (List.mem_of_getElem? (i := 230) rfl)) rfl), (WT_mem (t5_in (List.mem_of_getElem? (i := 231) rfl)) rfl)⟩
theorem lk_L_112 : LnkV RL 112 Y_X8_train 1 := ⟨lc_X8_train, (WT_mem (t3_in (List.mem_of_getElem? (i := 75) rfl)) rfl), (WT_mem (t3_in (List.mem_of_getElem? (i := 76) rfl)) rfl), (WT_mem (t3_in (List.mem_of_getElem? (i := 77) rfl)) rfl)⟩
theorem lk_L_115 : LnkV RL 115 Y_X9_train 1 := ⟨lc_X9_train, (WT_mem (t5_in (List.mem_of_getElem? (i := 233) rfl)) rfl), (WT_mem (t5_in (List.mem_of_getElem? (i := 234) rfl)) rfl), (WT_mem (t5_in (List.mem_of_getElem? (i := 235) rfl)) rfl)⟩
theorem lk_L_116 : LnkV RL 116 Y_X8_even 1 := ⟨lc_X8_even, (WT_mem (t3_in (List.mem_of_getElem? (i := 79) rfl)) rfl), (WT_mem (t3_in (List.mem_of_getElem? (i := 80) rfl)) rfl), (WT_mem (t3_in (List.mem_of_getElem? (i := 81) rfl)) rfl)⟩
theorem lk_L_119 : LnkV RL 119 Y_X9_even 1 := ⟨lc_X9_even, (WT_mem (t5_in (List.mem_of_getElem? (i := 237) rfl)) rfl), (WT_mem (t5_in (List.mem_of_getElem? (i := 238) rfl)) rfl), (WT_mem (t5_in (List.mem_of_getElem? (i := 239) rfl)) rfl)⟩
theorem lk_L_120 : LnkV RL 120 Y_X8_costs 2 := ⟨lc_X8_costs, (WT_mem (t3_in (List.mem_of_getElem? (i := 89) rfl)) rfl), (WT_mem (t3_in (List.mem_of_getElem? (i := 90) rfl)) rfl), (WT_mem (t3_in (List.mem_of_getElem? (i := 91) rfl)) rfl)⟩
theorem lk_L_123 : LnkV RL 123 Y_X9_costs 2 := ⟨lc_X9_costs, (WT_mem (t6_in (List.mem_of_getElem? (i := 5) rfl)) rfl), (WT_mem (t6_in (List.mem_of_getElem? (i := 6) rfl)) rfl), (WT_mem (t6_in (List.mem_of_getElem? (i := 7) rfl)) rfl)⟩
theorem lk_L_124 : LnkV RL 124 Y_X8_worst 1 := ⟨lc_X8_worst, (WT_mem (t3_in (List.mem_of_getElem? (i := 93) rfl)) rfl), (WT_mem (t3_in (List.mem_of_getElem? (i := 94) rfl)) rfl), (WT_mem (t3_in (List.mem_of_getElem? (i := 95) rfl)) rfl)⟩
theorem lk_L_127 : LnkV RL 127 Y_X9_worst 1 := ⟨lc_X9_worst, (WT_mem (t6_in (List.mem_of_getElem? (i := 9) rfl)) rfl), (WT_mem (t6_in (List.mem_of_getElem? (i := 10) rfl)) rfl), (WT_mem (t6_in (List.mem_of_getElem? (i := 11) rfl)) rfl)⟩
theorem lk_L_128 : LnkV RL 128 Y_X8_spoon 1 := ⟨lc_X8_spoon, (WT_mem (t3_in (List.mem_of_getElem? (i := 97) rfl)) rfl), (WT_mem (t3_in (List.mem_of_getElem? (i := 98) rfl)) rfl), (WT_mem (t3_in (List.mem_of_getElem? (i := 99) rfl)) rfl)⟩
theorem lk_L_131 : LnkV RL 131 Y_X9_spoon 1 := ⟨lc_X9_spoon, (WT_mem (t6_in (List.mem_of_getElem? (i := 13) rfl)) rfl), (WT_mem (t6_in (List.mem_of_getElem? (i := 14) rfl)) rfl), (WT_mem (t6_in (List.mem_of_getElem? (i := 15) rfl)) rfl)⟩
theorem lk_L_132 : LnkV RL 132 Y_X8_armFor 2 := ⟨lc_X8_armFor, (WT_mem (t3_in (List.mem_of_getElem? (i := 101) rfl)) rfl), (WT_mem (t3_in (List.mem_of_getElem? (i := 102) rfl)) rfl), (WT_mem (t3_in (List.mem_of_getElem? (i := 103) rfl)) rfl)⟩
theorem lk_L_135 : LnkV RL 135 Y_X9_armFor 2 := ⟨lc_X9_armFor, (WT_mem (t6_in (List.mem_of_getElem? (i := 17) rfl)) rfl), (WT_mem (t6_in (List.mem_of_getElem? (i := 18) rfl)) rfl), (WT_mem (t6_in (List.mem_of_getElem? (i := 19) rfl)) rfl)⟩
theorem lk_L_136 : LnkV RL 136 Y_X8_later 1 := ⟨lc_X8_later, (WT_mem (t3_in (List.mem_of_getElem? (i := 106) rfl)) rfl), (WT_mem (t3_in (List.mem_of_getElem? (i := 107) rfl)) rfl), (WT_mem (t3_in (List.mem_of_getElem? (i := 108) rfl)) rfl)⟩
theorem lk_L_139 : LnkV RL 139 Y_X9_later 1 := ⟨lc_X9_later, (WT_mem (t6_in (List.mem_of_getElem? (i := 22) rfl)) rfl), (WT_mem (t6_in (List.mem_of_getElem? (i := 23) rfl)) rfl), (WT_mem (t6_in (List.mem_of_getElem? (i := 24) rfl)) rfl)⟩
theorem lk_L_140 : LnkV RL 140 Y_X8_team 1 := ⟨lc_X8_team, (WT_mem (t3_in (List.mem_of_getElem? (i := 111) rfl)) rfl), (WT_mem (t3_in (List.mem_of_getElem? (i := 112) rfl)) rfl), (WT_mem (t3_in (List.mem_of_getElem? (i := 113) rfl)) rfl)⟩
theorem lk_L_143 : LnkV RL 143 Y_X9_team 1 := ⟨lc_X9_team, (WT_mem (t6_in (List.mem_of_getElem? (i := 26) rfl)) rfl), (WT_mem (t6_in (List.mem_of_getElem? (i := 27) rfl)) rfl), (WT_mem (t6_in (List.mem_of_getElem? (i := 28) rfl)) rfl)⟩
theorem lk_L_144 : LnkV RL 144 Y_X8_leg 2 := ⟨lc_X8_leg, (WT_mem (t3_in (List.mem_of_getElem? (i := 134) rfl)) rfl), (WT_mem (t3_in (List.mem_of_getElem? (i := 135) rfl)) rfl), (WT_mem (t3_in (List.mem_of_getElem? (i := 136) rfl)) rfl)⟩
theorem lk_L_147 : LnkV RL 147 Y_X9_leg 2 := ⟨lc_X9_leg, (WT_mem (t6_in (List.mem_of_getElem? (i := 38) rfl)) rfl), (WT_mem (t6_in (List.mem_of_getElem? (i := 39) rfl)) rfl), (WT_mem (t6_in (List.mem_of_getElem? (i := 40) rfl)) rfl)⟩
theorem lk_L_148 : LnkV RL 148 Y_X8_gum 5 := ⟨lc_X8_gum, (WT_mem (t3_in (List.mem_of_getElem? (i := 138) rfl)) rfl), (WT_mem (t3_in (List.mem_of_getElem? (i := 139) rfl)) rfl), (WT_mem (t3_in (List.mem_of_getElem? (i := 140) rfl)) rfl)⟩
theorem lk_L_152 : LnkV RL 152 Y_X9_gum 5 := ⟨lc_X9_gum, (WT_mem (t6_in (List.mem_of_getElem? (i := 43) rfl)) rfl), (WT_mem (t6_in (List.mem_of_getElem? (i := 44) rfl)) rfl), (WT_mem (t6_in (List.mem_of_getElem? (i := 45) rfl)) rfl)⟩
theorem lk_L_153 : LnkV RL 153 Y_X8_suspect 3 := ⟨lc_X8_suspect, (WT_mem (t3_in (List.mem_of_getElem? (i := 146) rfl)) rfl), (WT_mem (t3_in (List.mem_of_getElem? (i := 147) rfl)) rfl), (WT_mem (t3_in (List.mem_of_getElem? (i := 148) rfl)) rfl)⟩
theorem lk_L_156 : LnkV RL 156 Y_X9_suspect 3 := ⟨lc_X9_suspect, (WT_mem (t6_in (List.mem_of_getElem? (i := 51) rfl)) rfl), (WT_mem (t6_in (List.mem_of_getElem? (i := 52) rfl)) rfl), (WT_mem (t6_in (List.mem_of_getElem? (i := 53) rfl)) rfl)⟩
theorem lk_L_157 : LnkV RL 157 Y_X8_rain 1 := ⟨lc_X8_rain, (WT_mem (t3_in (List.mem_of_getElem? (i := 151) rfl)) rfl), (WT_mem (t3_in (List.mem_of_getElem? (i := 152) rfl)) rfl), (WT_mem (t3_in (List.mem_of_getElem? (i := 153) rfl)) rfl)⟩
theorem lk_L_160 : LnkV RL 160 Y_X9_rain 1 := ⟨lc_X9_rain, (WT_mem (t6_in (List.mem_of_getElem? (i := 55) rfl)) rfl), (WT_mem (t6_in (List.mem_of_getElem? (i := 56) rfl)) rfl), (WT_mem (t6_in (List.mem_of_getElem? (i := 57) rfl)) rfl)⟩
theorem lk_L_161 : LnkV RL 161 Y_X8_seed 1 := ⟨lc_X8_seed, (WT_mem (t3_in (List.mem_of_getElem? (i := 160) rfl)) rfl), (WT_mem (t3_in (List.mem_of_getElem? (i := 161) rfl)) rfl), (WT_mem (t3_in (List.mem_of_getElem? (i := 162) rfl)) rfl)⟩
theorem lk_L_164 : LnkV RL 164 Y_X9_seed 1 := ⟨lc_X9_seed, (WT_mem (t6_in (List.mem_of_getElem? (i := 64) rfl)) rfl), (WT_mem (t6_in (List.mem_of_getElem? (i := 65) rfl)) rfl), (WT_mem (t6_in (List.mem_of_getElem? (i := 66) rfl)) rfl)⟩
theorem lk_L_165 : LnkV RL 165 Y_X8_feed 2 := ⟨lc_X8_feed, (WT_mem (t3_in (List.mem_of_getElem? (i := 164) rfl)) rfl), (WT_mem (t3_in (List.mem_of_getElem? (i := 165) rfl)) rfl), (WT_mem (t3_in (List.mem_of_getElem? (i := 166) rfl)) rfl)⟩
theorem lk_L_168 : LnkV RL 168 Y_X9_feed 2 := ⟨lc_X9_feed, (WT_mem (t6_in (List.mem_of_getElem? (i := 68) rfl)) rfl), (WT_mem (t6_in (List.mem_of_getElem? (i := 69) rfl)) rfl), (WT_mem (t6_in (List.mem_of_getElem? (i := 70) rfl)) rfl)⟩
theorem lk_L_169 : LnkV RL 169 Y_X8_wipe 0 := ⟨lc_X8_wipe, (WT_mem (t3_in (List.mem_of_getElem? (i := 176) rfl)) rfl), (WT_mem (t3_in (List.mem_of_getElem? (i := 177) rfl)) rfl), (WT_mem (t3_in (List.mem_of_getElem? (i := 178) rfl)) rfl)⟩
theorem lk_L_172 : LnkV RL 172 Y_X9_wipe 0 := ⟨lc_X9_wipe, (WT_mem (t6_in (List.mem_of_getElem? (i := 72) rfl)) rfl), (WT_mem (t6_in (List.mem_of_getElem? (i := 73) rfl)) rfl), (WT_mem (t6_in (List.mem_of_getElem? (i := 74) rfl)) rfl)⟩
theorem lk_L_173 : LnkV RL 173 Y_X8_text 0 := ⟨lc_X8_text, (WT_mem (t3_in (List.mem_of_getElem? (i := 180) rfl)) rfl), (WT_mem (t3_in (List.mem_of_getElem? (i := 181) rfl)) rfl), (WT_mem (t3_in (List.mem_of_getElem? (i := 182) rfl)) rfl)⟩
theorem lk_L_176 : LnkV RL 176 Y_X9_text 0 := ⟨lc_X9_text, (WT_mem (t6_in (List.mem_of_getElem? (i := 76) rfl)) rfl), (WT_mem (t6_in (List.mem_of_getElem? (i := 77) rfl)) rfl), (WT_mem (t6_in (List.mem_of_getElem? (i := 78) rfl)) rfl)⟩
theorem lk_L_177 : LnkV RL 177 Y_X8_hold 2 := ⟨lc_X8_hold, (WT_mem (t4_in (List.mem_of_getElem? (i := 67) rfl)) rfl), (WT_mem (t4_in (List.mem_of_getElem? (i := 68) rfl)) rfl), (WT_mem (t4_in (List.mem_of_getElem? (i := 69) rfl)) rfl)⟩
theorem lk_L_180 : LnkV RL 180 Y_X9_hold 2 := ⟨lc_X9_hold, (WT_mem (t6_in (List.mem_of_getElem? (i := 143) rfl)) rfl), (WT_mem (t6_in (List.mem_of_getElem? (i := 144) rfl)) rfl), (WT_mem (t6_in (List.mem_of_getElem? (i := 145) rfl)) rfl)⟩
theorem lk_L_181 : LnkV RL 181 Y_X8_as 2 := ⟨lc_X8_as, (WT_mem (t4_in (List.mem_of_getElem? (i := 74) rfl)) rfl), (WT_mem (t4_in (List.mem_of_getElem? (i := 75) rfl)) rfl), (WT_mem (t4_in (List.mem_of_getElem? (i := 76) rfl)) rfl)⟩
theorem lk_L_184 : LnkV RL 184 Y_X9_as 2 := ⟨lc_X9_as, (WT_mem (t6_in (List.mem_of_getElem? (i := 147) rfl)) rfl), (WT_mem (t6_in (List.mem_of_getElem? (i := 148) rfl)) rfl), (WT_mem (t6_in (List.mem_of_getElem? (i := 149) rfl)) rfl)⟩
theorem lk_L_185 : LnkV RL 185 Y_X8_sheet 3 := ⟨lc_X8_sheet, (WT_mem (t4_in (List.mem_of_getElem? (i := 84) rfl)) rfl), (WT_mem (t4_in (List.mem_of_getElem? (i := 85) rfl)) rfl), (WT_mem (t4_in (List.mem_of_getElem? (i := 86) rfl)) rfl)⟩
theorem lk_L_188 : LnkV RL 188 Y_X9_sheet 3 := ⟨lc_X9_sheet, (WT_mem (t6_in (List.mem_of_getElem? (i := 156) rfl)) rfl), (WT_mem (t6_in (List.mem_of_getElem? (i := 157) rfl)) rfl), (WT_mem (t6_in (List.mem_of_getElem? (i := 158) rfl)) rfl)⟩
theorem lk_L_189 : LnkV RL 189 Y_X8_write 3 := ⟨lc_X8_write, (WT_mem (t4_in (List.mem_of_getElem? (i := 96) rfl)) rfl), (WT_mem (t4_in (List.mem_of_getElem? (i := 97) rfl)) rfl), (WT_mem (t4_in (List.mem_of_getElem? (i := 98) rfl)) rfl)⟩
theorem lk_L_192 : LnkV RL 192 Y_X9_write 3 := ⟨lc_X9_write, (WT_mem (t6_in (List.mem_of_getElem? (i := 164) rfl)) rfl), (WT_mem (t6_in (List.mem_of_getElem? (i := 165) rfl)) rfl), (WT_mem (t6_in (List.mem_of_getElem? (i := 166) rfl)) rfl)⟩
theorem lk_L_193 : LnkV RL 193 Y_X8_copy 5 := ⟨lc_X8_copy, (WT_mem (t4_in (List.mem_of_getElem? (i := 108) rfl)) rfl), (WT_mem (t4_in (List.mem_of_getElem? (i := 109) rfl)) rfl), (WT_mem (t4_in (List.mem_of_getElem? (i := 110) rfl)) rfl)⟩
theorem lk_L_197 : LnkV RL 197 Y_X9_copy 5 := ⟨lc_X9_copy, (WT_mem (t6_in (List.mem_of_getElem? (i := 168) rfl)) rfl), (WT_mem (t6_in (List.mem_of_getElem? (i := 169) rfl)) rfl), (WT_mem (t6_in (List.mem_of_getElem? (i := 170) rfl)) rfl)⟩
theorem lk_L_198 : LnkV RL 198 Y_X8_load 2 := ⟨lc_X8_load, (WT_mem (t4_in (List.mem_of_getElem? (i := 117) rfl)) rfl), (WT_mem (t4_in (List.mem_of_getElem? (i := 118) rfl)) rfl), (WT_mem (t4_in (List.mem_of_getElem? (i := 119) rfl)) rfl)⟩
theorem lk_L_201 : LnkV RL 201 Y_X9_load 2 := ⟨lc_X9_load, (WT_mem (t6_in (List.mem_of_getElem? (i := 172) rfl)) rfl), (WT_mem (t6_in (List.mem_of_getElem? (i := 173) rfl)) rfl), (WT_mem (t6_in (List.mem_of_getElem? (i := 174) rfl)) rfl)⟩
theorem lk_L_202 : LnkV RL 202 Y_X8_judge 1 := ⟨lc_X8_judge, (WT_mem (t4_in (List.mem_of_getElem? (i := 122) rfl)) rfl), (WT_mem (t4_in (List.mem_of_getElem? (i := 123) rfl)) rfl), (WT_mem (t4_in (List.mem_of_getElem? (i := 124) rfl)) rfl)⟩
theorem lk_L_205 : LnkV RL 205 Y_X9_judge 1 := ⟨lc_X9_judge, (WT_mem (t6_in (List.mem_of_getElem? (i := 176) rfl)) rfl), (WT_mem (t6_in (List.mem_of_getElem? (i := 177) rfl)) rfl), (WT_mem (t6_in (List.mem_of_getElem? (i := 178) rfl)) rfl)⟩
theorem lk_L_206 : LnkV RL 206 Y_X8_image 0 := ⟨lc_X8_image, (WT_mem (t4_in (List.mem_of_getElem? (i := 127) rfl)) rfl), (WT_mem (t4_in (List.mem_of_getElem? (i := 128) rfl)) rfl), (WT_mem (t4_in (List.mem_of_getElem? (i := 129) rfl)) rfl)⟩
theorem lk_L_209 : LnkV RL 209 Y_X9_image 0 := ⟨lc_X9_image, (WT_mem (t6_in (List.mem_of_getElem? (i := 180) rfl)) rfl), (WT_mem (t6_in (List.mem_of_getElem? (i := 181) rfl)) rfl), (WT_mem (t6_in (List.mem_of_getElem? (i := 182) rfl)) rfl)⟩
theorem lk_L_210 : LnkV RL 210 Y_X8_undo 0 := ⟨lc_X8_undo, (WT_mem (t4_in (List.mem_of_getElem? (i := 131) rfl)) rfl), (WT_mem (t4_in (List.mem_of_getElem? (i := 132) rfl)) rfl), (WT_mem (t4_in (List.mem_of_getElem? (i := 133) rfl)) rfl)⟩
theorem lk_L_213 : LnkV RL 213 Y_X9_undo 0 := ⟨lc_X9_undo, (WT_mem (t6_in (List.mem_of_getElem? (i := 184) rfl)) rfl), (WT_mem (t6_in (List.mem_of_getElem? (i := 185) rfl)) rfl), (WT_mem (t6_in (List.mem_of_getElem? (i := 186) rfl)) rfl)⟩
theorem lk_L_214 : LnkV RL 214 Y_X8_tear 0 := ⟨lc_X8_tear, (WT_mem (t4_in (List.mem_of_getElem? (i := 135) rfl)) rfl), (WT_mem (t4_in (List.mem_of_getElem? (i := 136) rfl)) rfl), (WT_mem (t4_in (List.mem_of_getElem? (i := 137) rfl)) rfl)⟩
theorem lk_L_217 : LnkV RL 217 Y_X9_tear 0 := ⟨lc_X9_tear, (WT_mem (t6_in (List.mem_of_getElem? (i := 188) rfl)) rfl), (WT_mem (t6_in (List.mem_of_getElem? (i := 189) rfl)) rfl), (WT_mem (t6_in (List.mem_of_getElem? (i := 190) rfl)) rfl)⟩
theorem lk_L_218 : LnkV RL 218 Y_X8_count 1 := ⟨lc_X8_count, (WT_mem (t4_in (List.mem_of_getElem? (i := 139) rfl)) rfl), (WT_mem (t4_in (List.mem_of_getElem? (i := 140) rfl)) rfl), (WT_mem (t4_in (List.mem_of_getElem? (i := 141) rfl)) rfl)⟩
theorem lk_L_221 : LnkV RL 221 Y_X9_count 1 := ⟨lc_X9_count, (WT_mem (t6_in (List.mem_of_getElem? (i := 192) rfl)) rfl), (WT_mem (t6_in (List.mem_of_getElem? (i := 193) rfl)) rfl), (WT_mem (t6_in (List.mem_of_getElem? (i := 194) rfl)) rfl)⟩
theorem lk_L_222 : LnkV RL 222 Y_X8_status 1 := ⟨lc_X8_status, (WT_mem (t4_in (List.mem_of_getElem? (i := 151) rfl)) rfl), (WT_mem (t4_in (List.mem_of_getElem? (i := 152) rfl)) rfl), (WT_mem (t4_in (List.mem_of_getElem? (i := 153) rfl)) rfl)⟩
theorem lk_L_225 : LnkV RL 225 Y_X9_status 1 := ⟨lc_X9_status, (WT_mem (t6_in (List.mem_of_getElem? (i := 204) rfl)) rfl), (WT_mem (t6_in (List.mem_of_getElem? (i := 205) rfl)) rfl), (WT_mem (t6_in (List.mem_of_getElem? (i := 206) rfl)) rfl)⟩
theorem fl_X0_11 : FL RX0 11 0 0 := ⟨_, rfl, by decide, (WT_mem (t1_in (List.mem_of_getElem? (i := 137) rfl)) rfl)⟩
theorem fl_X0_15 : FL RX0 15 0 1 := ⟨_, rfl, by decide, (WT_mem (t1_in (List.mem_of_getElem? (i := 138) rfl)) rfl)⟩
theorem fl_X0_18 : FL RX0 18 2 1 := ⟨_, rfl, by decide, (WT_mem (t1_in (List.mem_of_getElem? (i := 86) rfl)) rfl)⟩
theorem lk_X0_24 : LnkS RX0 24 Y_J7_fill_d0a16 2 := ⟨lc_J7_fill_d0a16, (WT_mem (t3_in (List.mem_of_getElem? (i := 23) rfl)) rfl), (WT_mem (t3_in (List.mem_of_getElem? (i := 24) rfl)) rfl)⟩
theorem fl_X0_36 : FL RX0 36 4 0 := ⟨_, rfl, by decide, (WT_mem (t1_in (List.mem_of_getElem? (i := 42) rfl)) rfl)⟩
theorem lk_X0_42 : LnkV RX0 42 Y_X2_oddsOf 5 := ⟨lc_X2_oddsOf, (WT_mem (t3_in (List.mem_of_getElem? (i := 27) rfl)) rfl), (WT_mem (t2_in (List.mem_of_getElem? (i := 114) rfl)) rfl), (WT_mem (t2_in (List.mem_of_getElem? (i := 115) rfl)) rfl)⟩
theorem lk_X0_46 : LnkV RX0 46 Y_X0_spread 3 := ⟨lc_X0_spread, (WT_mem (t3_in (List.mem_of_getElem? (i := 28) rfl)) rfl), (WT_mem (t3_in (List.mem_of_getElem? (i := 30) rfl)) rfl), (WT_mem (pv_in (List.mem_of_getElem? (i := 4) rfl)) rfl)⟩
theorem lk_X0_50 : LnkS RX0 50 Y_J9_max_7cf53 2 := ⟨lc_J9_max_7cf53, (WT_mem (t3_in (List.mem_of_getElem? (i := 32) rfl)) rfl), (WT_mem (t2_in (List.mem_of_getElem? (i := 131) rfl)) rfl)⟩
theorem fl_X1_21 : FL RX1 21 2 1 := ⟨_, rfl, by decide, (WT_mem (t1_in (List.mem_of_getElem? (i := 87) rfl)) rfl)⟩
theorem fl_X1_9 : FL RX1 9 1 0 := ⟨_, rfl, by decide, (WT_mem (t1_in (List.mem_of_getElem? (i := 121) rfl)) rfl)⟩
theorem lk_X1_27 : LnkS RX1 27 Y_J7_fill_53178 2 := ⟨lc_J7_fill_53178, (WT_mem (t3_in (List.mem_of_getElem? (i := 41) rfl)) rfl), (WT_mem (t1_in (List.mem_of_getElem? (i := 80) rfl)) rfl)⟩
theorem lk_X1_45 : LnkV RX1 45 Y_X1_bestPace 4 := ⟨lc_X1_bestPace, (WT_mem (t3_in (List.mem_of_getElem? (i := 62) rfl)) rfl), (WT_mem (t3_in (List.mem_of_getElem? (i := 64) rfl)) rfl), (WT_mem (pv_in (List.mem_of_getElem? (i := 7) rfl)) rfl)⟩
theorem fl_X1_18 : FL RX1 18 1 2 := ⟨_, rfl, by decide, (WT_mem (t1_in (List.mem_of_getElem? (i := 123) rfl)) rfl)⟩
theorem fl_X1_15 : FL RX1 15 1 1 := ⟨_, rfl, by decide, (WT_mem (t1_in (List.mem_of_getElem? (i := 122) rfl)) rfl)⟩
theorem lk_X1_38 : LnkV RX1 38 Y_X1_through 5 := ⟨lc_X1_through, (WT_mem (t3_in (List.mem_of_getElem? (i := 42) rfl)) rfl), (WT_mem (t3_in (List.mem_of_getElem? (i := 44) rfl)) rfl), (WT_mem (pv_in (List.mem_of_getElem? (i := 5) rfl)) rfl)⟩
theorem lk_X1_42 : LnkV RX1 42 Y_X1_goBack 0 := ⟨lc_X1_goBack, (WT_mem (t3_in (List.mem_of_getElem? (i := 49) rfl)) rfl), (WT_mem (t3_in (List.mem_of_getElem? (i := 51) rfl)) rfl), (WT_mem (pv_in (List.mem_of_getElem? (i := 6) rfl)) rfl)⟩
theorem fl_X1_33 : FL RX1 33 4 0 := ⟨_, rfl, by decide, (WT_mem (t1_in (List.mem_of_getElem? (i := 41) rfl)) rfl)⟩
theorem kc_X1_49 : Cond.constant RX1 49 (2147483647) ∈ WTb := (WT_mem (t3_in (List.mem_of_getElem? (i := 66) rfl)) rfl)
theorem lk_X1_50 : LnkV RX1 50 Y_X2_oddsOf 5 := ⟨lc_X2_oddsOf, (WT_mem (t3_in (List.mem_of_getElem? (i := 46) rfl)) rfl), (WT_mem (t2_in (List.mem_of_getElem? (i := 114) rfl)) rfl), (WT_mem (t2_in (List.mem_of_getElem? (i := 115) rfl)) rfl)⟩
theorem lk_X1_54 : LnkS RX1 54 Y_J9_max_7cf53 2 := ⟨lc_J9_max_7cf53, (WT_mem (t3_in (List.mem_of_getElem? (i := 47) rfl)) rfl), (WT_mem (t2_in (List.mem_of_getElem? (i := 131) rfl)) rfl)⟩
theorem fl_X1_60 : FL RX1 60 2 4 := ⟨_, rfl, by decide, (WT_mem (t1_in (List.mem_of_getElem? (i := 99) rfl)) rfl)⟩
theorem lk_X1_64 : LnkV RX1 64 Y_X4_takes 1 := ⟨lc_X4_takes, (WT_mem (t3_in (List.mem_of_getElem? (i := 48) rfl)) rfl), (WT_mem (t2_in (List.mem_of_getElem? (i := 96) rfl)) rfl), (WT_mem (t2_in (List.mem_of_getElem? (i := 97) rfl)) rfl)⟩
theorem fl_X2_17 : FL RX2 17 2 1 := ⟨_, rfl, by decide, (WT_mem (t1_in (List.mem_of_getElem? (i := 85) rfl)) rfl)⟩
theorem fl_X2_24 : FL RX2 24 2 3 := ⟨_, rfl, by decide, (WT_mem (t1_in (List.mem_of_getElem? (i := 92) rfl)) rfl)⟩
theorem lk_X2_51 : LnkV RX2 51 Y_X4_beNew 3 := ⟨lc_X4_beNew, (WT_mem (t2_in (List.mem_of_getElem? (i := 42) rfl)) rfl), (WT_mem (t2_in (List.mem_of_getElem? (i := 43) rfl)) rfl), (WT_mem (t2_in (List.mem_of_getElem? (i := 44) rfl)) rfl)⟩
theorem fp_X2_24 : FP RX2 24 2 3 .int := ⟨_, rfl, by decide, (WT_mem (t1_in (List.mem_of_getElem? (i := 92) rfl)) rfl), rfl, by decide +kernel⟩
theorem fl_X2_9 : FL RX2 9 2 0 := ⟨_, rfl, by decide, (WT_mem (t1_in (List.mem_of_getElem? (i := 82) rfl)) rfl)⟩
theorem fl_X2_21 : FL RX2 21 2 2 := ⟨_, rfl, by decide, (WT_mem (t1_in (List.mem_of_getElem? (i := 90) rfl)) rfl)⟩
theorem lk_X2_47 : LnkV RX2 47 Y_X4_become 1 := ⟨lc_X4_become, (WT_mem (t2_in (List.mem_of_getElem? (i := 217) rfl)) rfl), (WT_mem (t2_in (List.mem_of_getElem? (i := 218) rfl)) rfl), (WT_mem (t2_in (List.mem_of_getElem? (i := 219) rfl)) rfl)⟩
theorem fl_X2_28 : FL RX2 28 2 4 := ⟨_, rfl, by decide, (WT_mem (t1_in (List.mem_of_getElem? (i := 96) rfl)) rfl)⟩
theorem fp_X2_28 : FP RX2 28 2 4 .int := ⟨_, rfl, by decide, (WT_mem (t1_in (List.mem_of_getElem? (i := 96) rfl)) rfl), rfl, by decide +kernel⟩
theorem fl_X2_31 : FL RX2 31 2 5 := ⟨_, rfl, by decide, (WT_mem (t1_in (List.mem_of_getElem? (i := 100) rfl)) rfl)⟩
theorem fp_X2_31 : FP RX2 31 2 5 .int := ⟨_, rfl, by decide, (WT_mem (t1_in (List.mem_of_getElem? (i := 100) rfl)) rfl), rfl, by decide +kernel⟩
theorem fl_X2_111 : FL RX2 111 4 7 := ⟨_, rfl, by decide, (WT_mem (t1_in (List.mem_of_getElem? (i := 60) rfl)) rfl)⟩
theorem kc_X2_55 : Cond.constant RX2 55 (1103515245) ∈ WTb := (WT_mem (t2_in (List.mem_of_getElem? (i := 185) rfl)) rfl)
theorem lk_X2_114 : LnkV RX2 114 Y_X2_whoRuns 0 := ⟨lc_X2_whoRuns, (WT_mem (t2_in (List.mem_of_getElem? (i := 175) rfl)) rfl), (WT_mem (t2_in (List.mem_of_getElem? (i := 164) rfl)) rfl), (WT_mem (t2_in (List.mem_of_getElem? (i := 165) rfl)) rfl)⟩
theorem lk_X2_117 : LnkV RX2 117 Y_X2_step 1 := ⟨lc_X2_step, (WT_mem (t2_in (List.mem_of_getElem? (i := 176) rfl)) rfl), (WT_mem (t2_in (List.mem_of_getElem? (i := 177) rfl)) rfl), (WT_mem (t2_in (List.mem_of_getElem? (i := 178) rfl)) rfl)⟩
theorem lk_X2_59 : LnkV RX2 59 Y_X4_isHome 0 := ⟨lc_X4_isHome, (WT_mem (t2_in (List.mem_of_getElem? (i := 149) rfl)) rfl), (WT_mem (t2_in (List.mem_of_getElem? (i := 138) rfl)) rfl), (WT_mem (t2_in (List.mem_of_getElem? (i := 139) rfl)) rfl)⟩
theorem lk_X2_35 : LnkS RX2 35 Y_J7_fill_53178 2 := ⟨lc_J7_fill_53178, (WT_mem (t1_in (List.mem_of_getElem? (i := 79) rfl)) rfl), (WT_mem (t1_in (List.mem_of_getElem? (i := 80) rfl)) rfl)⟩
theorem fl_X2_99 : FL RX2 99 4 5 := ⟨_, rfl, by decide, (WT_mem (t1_in (List.mem_of_getElem? (i := 55) rfl)) rfl)⟩
theorem fl_X2_56 : FL RX2 56 4 4 := ⟨_, rfl, by decide, (WT_mem (t1_in (List.mem_of_getElem? (i := 53) rfl)) rfl)⟩
theorem lk_X2_63 : LnkS RX2 63 Y_J9_abs_0f7a4 1 := ⟨lc_J9_abs_0f7a4, (WT_mem (t2_in (List.mem_of_getElem? (i := 150) rfl)) rfl), (WT_mem (t2_in (List.mem_of_getElem? (i := 151) rfl)) rfl)⟩
theorem fl_X2_86 : FL RX2 86 4 0 := ⟨_, rfl, by decide, (WT_mem (t1_in (List.mem_of_getElem? (i := 44) rfl)) rfl)⟩
theorem fl_X2_89 : FL RX2 89 4 6 := ⟨_, rfl, by decide, (WT_mem (t1_in (List.mem_of_getElem? (i := 58) rfl)) rfl)⟩
theorem lk_X2_92 : LnkV RX2 92 Y_X2_nervesOf 1 := ⟨lc_X2_nervesOf, (WT_mem (t2_in (List.mem_of_getElem? (i := 145) rfl)) rfl), (WT_mem (t2_in (List.mem_of_getElem? (i := 146) rfl)) rfl), (WT_mem (t2_in (List.mem_of_getElem? (i := 147) rfl)) rfl)⟩
theorem lk_X2_95 : LnkV RX2 95 Y_X2_oddsOf 5 := ⟨lc_X2_oddsOf, (WT_mem (t2_in (List.mem_of_getElem? (i := 153) rfl)) rfl), (WT_mem (t2_in (List.mem_of_getElem? (i := 114) rfl)) rfl), (WT_mem (t2_in (List.mem_of_getElem? (i := 115) rfl)) rfl)⟩
theorem lk_X2_69 : LnkV RX2 69 Y_X4_rocks 1 := ⟨lc_X4_rocks, (WT_mem (t2_in (List.mem_of_getElem? (i := 117) rfl)) rfl), (WT_mem (t2_in (List.mem_of_getElem? (i := 102) rfl)) rfl), (WT_mem (t2_in (List.mem_of_getElem? (i := 103) rfl)) rfl)⟩
theorem lk_X2_72 : LnkV RX2 72 Y_X4_hurts 1 := ⟨lc_X4_hurts, (WT_mem (t2_in (List.mem_of_getElem? (i := 118) rfl)) rfl), (WT_mem (t2_in (List.mem_of_getElem? (i := 119) rfl)) rfl), (WT_mem (t2_in (List.mem_of_getElem? (i := 120) rfl)) rfl)⟩
theorem lk_X2_75 : LnkV RX2 75 Y_X4_holds 0 := ⟨lc_X4_holds, (WT_mem (t2_in (List.mem_of_getElem? (i := 126) rfl)) rfl), (WT_mem (t2_in (List.mem_of_getElem? (i := 64) rfl)) rfl), (WT_mem (t2_in (List.mem_of_getElem? (i := 65) rfl)) rfl)⟩
theorem lk_X2_79 : LnkS RX2 79 Y_J9_min_7cf53 2 := ⟨lc_J9_min_7cf53, (WT_mem (t2_in (List.mem_of_getElem? (i := 127) rfl)) rfl), (WT_mem (t2_in (List.mem_of_getElem? (i := 128) rfl)) rfl)⟩
theorem lk_X2_83 : LnkS RX2 83 Y_J9_max_7cf53 2 := ⟨lc_J9_max_7cf53, (WT_mem (t2_in (List.mem_of_getElem? (i := 130) rfl)) rfl), (WT_mem (t2_in (List.mem_of_getElem? (i := 131) rfl)) rfl)⟩
theorem lk_X2_120 : LnkV RX2 120 Y_X2_homeSet 0 := ⟨lc_X2_homeSet, (WT_mem (t2_in (List.mem_of_getElem? (i := 195) rfl)) rfl), (WT_mem (t2_in (List.mem_of_getElem? (i := 196) rfl)) rfl), (WT_mem (t2_in (List.mem_of_getElem? (i := 197) rfl)) rfl)⟩
theorem lk_X2_123 : LnkS RX2 123 Y_J6_bitCount_0f7a4 1 := ⟨lc_J6_bitCount_0f7a4, (WT_mem (t2_in (List.mem_of_getElem? (i := 199) rfl)) rfl), (WT_mem (t2_in (List.mem_of_getElem? (i := 200) rfl)) rfl)⟩
theorem lk_X2_128 : LnkV RX2 128 Y_X4_restart 0 := ⟨lc_X4_restart, (WT_mem (t2_in (List.mem_of_getElem? (i := 205) rfl)) rfl), (WT_mem (t2_in (List.mem_of_getElem? (i := 48) rfl)) rfl), (WT_mem (t2_in (List.mem_of_getElem? (i := 49) rfl)) rfl)⟩
theorem lk_X2_102 : LnkV RX2 102 Y_X2_oddsInStep 1 := ⟨lc_X2_oddsInStep, (WT_mem (t2_in (List.mem_of_getElem? (i := 180) rfl)) rfl), (WT_mem (t2_in (List.mem_of_getElem? (i := 142) rfl)) rfl), (WT_mem (t2_in (List.mem_of_getElem? (i := 143) rfl)) rfl)⟩
theorem lk_X2_105 : LnkV RX2 105 Y_X2_draw 0 := ⟨lc_X2_draw, (WT_mem (t2_in (List.mem_of_getElem? (i := 181) rfl)) rfl), (WT_mem (t2_in (List.mem_of_getElem? (i := 182) rfl)) rfl), (WT_mem (t2_in (List.mem_of_getElem? (i := 183) rfl)) rfl)⟩
theorem lk_X2_108 : LnkV RX2 108 Y_X4_takes 1 := ⟨lc_X4_takes, (WT_mem (t2_in (List.mem_of_getElem? (i := 186) rfl)) rfl), (WT_mem (t2_in (List.mem_of_getElem? (i := 96) rfl)) rfl), (WT_mem (t2_in (List.mem_of_getElem? (i := 97) rfl)) rfl)⟩
theorem fp_X2_99 : FP RX2 99 4 5 .int := ⟨_, rfl, by decide, (WT_mem (t1_in (List.mem_of_getElem? (i := 55) rfl)) rfl), rfl, by decide +kernel⟩
theorem fp_X2_56 : FP RX2 56 4 4 .int := ⟨_, rfl, by decide, (WT_mem (t1_in (List.mem_of_getElem? (i := 53) rfl)) rfl), rfl, by decide +kernel⟩
theorem fp_X2_111 : FP RX2 111 4 7 .int := ⟨_, rfl, by decide, (WT_mem (t1_in (List.mem_of_getElem? (i := 60) rfl)) rfl), rfl, by decide +kernel⟩
theorem fp_X2_89 : FP RX2 89 4 6 .int := ⟨_, rfl, by decide, (WT_mem (t1_in (List.mem_of_getElem? (i := 58) rfl)) rfl), rfl, by decide +kernel⟩
theorem fl_X3_12 : FL RX3 12 3 0 := ⟨_, rfl, by decide, (WT_mem (t1_in (List.mem_of_getElem? (i := 196) rfl)) rfl)⟩
theorem lk_X3_45 : LnkV RX3 45 Y_X6_isWord 1 := ⟨lc_X6_isWord, (WT_mem (t3_in (List.mem_of_getElem? (i := 206) rfl)) rfl), (WT_mem (t3_in (List.mem_of_getElem? (i := 207) rfl)) rfl), (WT_mem (t3_in (List.mem_of_getElem? (i := 208) rfl)) rfl)⟩
theorem lk_X3_29 : LnkV RX3 29 Y_X6_advance 0 := ⟨lc_X6_advance, (WT_mem (t4_in (List.mem_of_getElem? (i := 30) rfl)) rfl), (WT_mem (t3_in (List.mem_of_getElem? (i := 193) rfl)) rfl), (WT_mem (t3_in (List.mem_of_getElem? (i := 194) rfl)) rfl)⟩
theorem lk_X3_105 : LnkV RX3 105 Y_X6_value 0 := ⟨lc_X6_value, (WT_mem (t4_in (List.mem_of_getElem? (i := 31) rfl)) rfl), (WT_mem (t4_in (List.mem_of_getElem? (i := 32) rfl)) rfl), (WT_mem (t4_in (List.mem_of_getElem? (i := 33) rfl)) rfl)⟩
theorem lk_X3_63 : LnkV RX3 63 Y_X3_numberBehind 2 := ⟨lc_X3_numberBehind, (WT_mem (t4_in (List.mem_of_getElem? (i := 26) rfl)) rfl), (WT_mem (t4_in (List.mem_of_getElem? (i := 28) rfl)) rfl), (WT_mem (pv_in (List.mem_of_getElem? (i := 15) rfl)) rfl)⟩
theorem lk_X3_69 : LnkV RX3 69 Y_X3_perhaps 4 := ⟨lc_X3_perhaps, (WT_mem (t4_in (List.mem_of_getElem? (i := 37) rfl)) rfl), (WT_mem (t4_in (List.mem_of_getElem? (i := 39) rfl)) rfl), (WT_mem (pv_in (List.mem_of_getElem? (i := 16) rfl)) rfl)⟩
theorem fl_X3_73 : FL RX3 73 2 0 := ⟨_, rfl, by decide, (WT_mem (t1_in (List.mem_of_getElem? (i := 84) rfl)) rfl)⟩
theorem lk_X3_18 : LnkV RX3 18 Y_X6_rewind 0 := ⟨lc_X6_rewind, (WT_mem (t3_in (List.mem_of_getElem? (i := 188) rfl)) rfl), (WT_mem (t3_in (List.mem_of_getElem? (i := 189) rfl)) rfl), (WT_mem (t3_in (List.mem_of_getElem? (i := 190) rfl)) rfl)⟩
theorem lk_X3_21 : LnkV RX3 21 Y_X3_readItem 1 := ⟨lc_X3_readItem, (WT_mem (t3_in (List.mem_of_getElem? (i := 197) rfl)) rfl), (WT_mem (t3_in (List.mem_of_getElem? (i := 199) rfl)) rfl), (WT_mem (pv_in (List.mem_of_getElem? (i := 12) rfl)) rfl)⟩
theorem fl_X3_25 : FL RX3 25 6 3 := ⟨_, rfl, by decide, (WT_mem (t1_in (List.mem_of_getElem? (i := 179) rfl)) rfl)⟩
theorem fl_X3_32 : FL RX3 32 6 4 := ⟨_, rfl, by decide, (WT_mem (t1_in (List.mem_of_getElem? (i := 181) rfl)) rfl)⟩
theorem lk_X3_35 : LnkV RX3 35 Y_X3_groundTold 0 := ⟨lc_X3_groundTold, (WT_mem (t3_in (List.mem_of_getElem? (i := 201) rfl)) rfl), (WT_mem (t3_in (List.mem_of_getElem? (i := 203) rfl)) rfl), (WT_mem (pv_in (List.mem_of_getElem? (i := 13) rfl)) rfl)⟩
theorem lk_X3_39 : LnkV RX3 39 Y_X3_readGround 2 := ⟨lc_X3_readGround, (WT_mem (t4_in (List.mem_of_getElem? (i := 22) rfl)) rfl), (WT_mem (t4_in (List.mem_of_getElem? (i := 24) rfl)) rfl), (WT_mem (pv_in (List.mem_of_getElem? (i := 14) rfl)) rfl)⟩
theorem lk_X3_49 : LnkV RX3 49 Y_X3_readPick 1 := ⟨lc_X3_readPick, (WT_mem (t4_in (List.mem_of_getElem? (i := 42) rfl)) rfl), (WT_mem (t4_in (List.mem_of_getElem? (i := 44) rfl)) rfl), (WT_mem (pv_in (List.mem_of_getElem? (i := 17) rfl)) rfl)⟩
theorem lk_X3_52 : LnkV RX3 52 Y_X3_kindTold 0 := ⟨lc_X3_kindTold, (WT_mem (t4_in (List.mem_of_getElem? (i := 46) rfl)) rfl), (WT_mem (t4_in (List.mem_of_getElem? (i := 48) rfl)) rfl), (WT_mem (pv_in (List.mem_of_getElem? (i := 18) rfl)) rfl)⟩
theorem fl_X3_55 : FL RX3 55 2 3 := ⟨_, rfl, by decide, (WT_mem (t1_in (List.mem_of_getElem? (i := 94) rfl)) rfl)⟩
theorem lk_X3_60 : LnkV RX3 60 Y_X3_readRunner 2 := ⟨lc_X3_readRunner, (WT_mem (t4_in (List.mem_of_getElem? (i := 57) rfl)) rfl), (WT_mem (t4_in (List.mem_of_getElem? (i := 59) rfl)) rfl), (WT_mem (pv_in (List.mem_of_getElem? (i := 19) rfl)) rfl)⟩
theorem fl_X3_77 : FL RX3 77 2 4 := ⟨_, rfl, by decide, (WT_mem (t1_in (List.mem_of_getElem? (i := 98) rfl)) rfl)⟩
theorem fp_X3_77 : FP RX3 77 2 4 .int := ⟨_, rfl, by decide, (WT_mem (t1_in (List.mem_of_getElem? (i := 98) rfl)) rfl), rfl, by decide +kernel⟩
theorem lk_X3_86 : LnkV RX3 86 Y_X2_add 3 := ⟨lc_X2_add, (WT_mem (t4_in (List.mem_of_getElem? (i := 64) rfl)) rfl), (WT_mem (t2_in (List.mem_of_getElem? (i := 39) rfl)) rfl), (WT_mem (t2_in (List.mem_of_getElem? (i := 40) rfl)) rfl)⟩
theorem fl_X3_90 : FL RX3 90 2 1 := ⟨_, rfl, by decide, (WT_mem (t1_in (List.mem_of_getElem? (i := 89) rfl)) rfl)⟩
theorem fl_X3_94 : FL RX3 94 4 0 := ⟨_, rfl, by decide, (WT_mem (t1_in (List.mem_of_getElem? (i := 43) rfl)) rfl)⟩
theorem lk_X3_99 : LnkS RX3 99 Y_J7_fill_53178 2 := ⟨lc_J7_fill_53178, (WT_mem (t4_in (List.mem_of_getElem? (i := 65) rfl)) rfl), (WT_mem (t1_in (List.mem_of_getElem? (i := 80) rfl)) rfl)⟩
theorem fl_X4_9 : FL RX4 9 4 0 := ⟨_, rfl, by decide, (WT_mem (t1_in (List.mem_of_getElem? (i := 40) rfl)) rfl)⟩
theorem lk_X4_43 : LnkS RX4 43 Y_J7_fill_53178 2 := ⟨lc_J7_fill_53178, (WT_mem (t2_in (List.mem_of_getElem? (i := 46) rfl)) rfl), (WT_mem (t1_in (List.mem_of_getElem? (i := 80) rfl)) rfl)⟩
theorem fl_X4_21 : FL RX4 21 4 1 := ⟨_, rfl, by decide, (WT_mem (t1_in (List.mem_of_getElem? (i := 46) rfl)) rfl)⟩
theorem fp_X4_21 : FP RX4 21 4 1 .int := ⟨_, rfl, by decide, (WT_mem (t1_in (List.mem_of_getElem? (i := 46) rfl)) rfl), rfl, by decide +kernel⟩
theorem fl_X4_25 : FL RX4 25 4 2 := ⟨_, rfl, by decide, (WT_mem (t1_in (List.mem_of_getElem? (i := 48) rfl)) rfl)⟩
theorem fp_X4_25 : FP RX4 25 4 2 .int := ⟨_, rfl, by decide, (WT_mem (t1_in (List.mem_of_getElem? (i := 48) rfl)) rfl), rfl, by decide +kernel⟩
theorem fl_X4_28 : FL RX4 28 4 3 := ⟨_, rfl, by decide, (WT_mem (t1_in (List.mem_of_getElem? (i := 50) rfl)) rfl)⟩
theorem fp_X4_28 : FP RX4 28 4 3 .int := ⟨_, rfl, by decide, (WT_mem (t1_in (List.mem_of_getElem? (i := 50) rfl)) rfl), rfl, by decide +kernel⟩
theorem lk_X4_49 : LnkV RX4 49 Y_X4_restart 0 := ⟨lc_X4_restart, (WT_mem (t2_in (List.mem_of_getElem? (i := 47) rfl)) rfl), (WT_mem (t2_in (List.mem_of_getElem? (i := 48) rfl)) rfl), (WT_mem (t2_in (List.mem_of_getElem? (i := 49) rfl)) rfl)⟩
theorem fl_X4_31 : FL RX4 31 4 4 := ⟨_, rfl, by decide, (WT_mem (t1_in (List.mem_of_getElem? (i := 52) rfl)) rfl)⟩
theorem fp_X4_31 : FP RX4 31 4 4 .int := ⟨_, rfl, by decide, (WT_mem (t1_in (List.mem_of_getElem? (i := 52) rfl)) rfl), rfl, by decide +kernel⟩
theorem fl_X4_34 : FL RX4 34 4 5 := ⟨_, rfl, by decide, (WT_mem (t1_in (List.mem_of_getElem? (i := 54) rfl)) rfl)⟩
theorem fp_X4_34 : FP RX4 34 4 5 .int := ⟨_, rfl, by decide, (WT_mem (t1_in (List.mem_of_getElem? (i := 54) rfl)) rfl), rfl, by decide +kernel⟩
theorem fl_X4_37 : FL RX4 37 4 6 := ⟨_, rfl, by decide, (WT_mem (t1_in (List.mem_of_getElem? (i := 57) rfl)) rfl)⟩
theorem fp_X4_37 : FP RX4 37 4 6 .int := ⟨_, rfl, by decide, (WT_mem (t1_in (List.mem_of_getElem? (i := 57) rfl)) rfl), rfl, by decide +kernel⟩
theorem fl_X4_40 : FL RX4 40 4 7 := ⟨_, rfl, by decide, (WT_mem (t1_in (List.mem_of_getElem? (i := 59) rfl)) rfl)⟩
theorem fp_X4_40 : FP RX4 40 4 7 .int := ⟨_, rfl, by decide, (WT_mem (t1_in (List.mem_of_getElem? (i := 59) rfl)) rfl), rfl, by decide +kernel⟩
theorem lk_X4_73 : LnkV RX4 73 Y_X4_holds 0 := ⟨lc_X4_holds, (WT_mem (t2_in (List.mem_of_getElem? (i := 63) rfl)) rfl), (WT_mem (t2_in (List.mem_of_getElem? (i := 64) rfl)) rfl), (WT_mem (t2_in (List.mem_of_getElem? (i := 65) rfl)) rfl)⟩
theorem fl_X5_19 : FL RX5 19 5 2 := ⟨_, rfl, by decide, (WT_mem (t1_in (List.mem_of_getElem? (i := 212) rfl)) rfl)⟩
theorem fl_X5_9 : FL RX5 9 5 0 := ⟨_, rfl, by decide, (WT_mem (t1_in (List.mem_of_getElem? (i := 208) rfl)) rfl)⟩
theorem fl_X5_15 : FL RX5 15 5 1 := ⟨_, rfl, by decide, (WT_mem (t1_in (List.mem_of_getElem? (i := 210) rfl)) rfl)⟩
theorem fp_X5_15 : FP RX5 15 5 1 .int := ⟨_, rfl, by decide, (WT_mem (t1_in (List.mem_of_getElem? (i := 210) rfl)) rfl), rfl, by decide +kernel⟩
theorem fp_X5_19 : FP RX5 19 5 2 .int := ⟨_, rfl, by decide, (WT_mem (t1_in (List.mem_of_getElem? (i := 212) rfl)) rfl), rfl, by decide +kernel⟩
theorem lk_X5_22 : LnkS RX5 22 Y_J7_fill_53178 2 := ⟨lc_J7_fill_53178, (WT_mem (t4_in (List.mem_of_getElem? (i := 95) rfl)) rfl), (WT_mem (t1_in (List.mem_of_getElem? (i := 80) rfl)) rfl)⟩
theorem fl_X6_28 : FL RX6 28 6 5 := ⟨_, rfl, by decide, (WT_mem (t1_in (List.mem_of_getElem? (i := 182) rfl)) rfl)⟩
theorem fl_X6_25 : FL RX6 25 6 4 := ⟨_, rfl, by decide, (WT_mem (t1_in (List.mem_of_getElem? (i := 180) rfl)) rfl)⟩
theorem fp_X6_25 : FP RX6 25 6 4 .int := ⟨_, rfl, by decide, (WT_mem (t1_in (List.mem_of_getElem? (i := 180) rfl)) rfl), rfl, by decide +kernel⟩
theorem fl_X6_18 : FL RX6 18 6 2 := ⟨_, rfl, by decide, (WT_mem (t1_in (List.mem_of_getElem? (i := 176) rfl)) rfl)⟩
theorem fl_X6_15 : FL RX6 15 6 1 := ⟨_, rfl, by decide, (WT_mem (t1_in (List.mem_of_getElem? (i := 175) rfl)) rfl)⟩
theorem fl_X6_22 : FL RX6 22 6 3 := ⟨_, rfl, by decide, (WT_mem (t1_in (List.mem_of_getElem? (i := 178) rfl)) rfl)⟩
theorem fp_X6_22 : FP RX6 22 6 3 .int := ⟨_, rfl, by decide, (WT_mem (t1_in (List.mem_of_getElem? (i := 178) rfl)) rfl), rfl, by decide +kernel⟩
theorem lk_X6_42 : LnkS RX6 42 Y_J9_min_7cf53 2 := ⟨lc_J9_min_7cf53, (WT_mem (t3_in (List.mem_of_getElem? (i := 196) rfl)) rfl), (WT_mem (t2_in (List.mem_of_getElem? (i := 128) rfl)) rfl)⟩
theorem fp_X6_28 : FP RX6 28 6 5 .int := ⟨_, rfl, by decide, (WT_mem (t1_in (List.mem_of_getElem? (i := 182) rfl)) rfl), rfl, by decide +kernel⟩
theorem fl_X6_9 : FL RX6 9 6 0 := ⟨_, rfl, by decide, (WT_mem (t1_in (List.mem_of_getElem? (i := 174) rfl)) rfl)⟩
theorem fp_X6_18 : FP RX6 18 6 2 .int := ⟨_, rfl, by decide, (WT_mem (t1_in (List.mem_of_getElem? (i := 176) rfl)) rfl), rfl, by decide +kernel⟩
theorem lk_X6_48 : LnkV RX6 48 Y_J0_length_8abf5 0 := ⟨lc_J0_length_8abf5, (WT_mem (t3_in (List.mem_of_getElem? (i := 210) rfl)) rfl), (WT_mem (t3_in (List.mem_of_getElem? (i := 211) rfl)) rfl), (WT_mem (t3_in (List.mem_of_getElem? (i := 212) rfl)) rfl)⟩
theorem lk_X6_54 : LnkV RX6 54 Y_J0_charAt_5068e 1 := ⟨lc_J0_charAt_5068e, (WT_mem (t3_in (List.mem_of_getElem? (i := 220) rfl)) rfl), (WT_mem (t3_in (List.mem_of_getElem? (i := 221) rfl)) rfl), (WT_mem (t3_in (List.mem_of_getElem? (i := 222) rfl)) rfl)⟩
theorem lk_X6_31 : LnkS RX6 31 Y_X6_tokenBegunBy 1 := ⟨lc_X6_tokenBegunBy, (WT_mem (t3_in (List.mem_of_getElem? (i := 172) rfl)) rfl), (WT_mem (t3_in (List.mem_of_getElem? (i := 173) rfl)) rfl)⟩
theorem lk_X6_39 : LnkV RX6 39 Y_X6_advance 0 := ⟨lc_X6_advance, (WT_mem (t3_in (List.mem_of_getElem? (i := 192) rfl)) rfl), (WT_mem (t3_in (List.mem_of_getElem? (i := 193) rfl)) rfl), (WT_mem (t3_in (List.mem_of_getElem? (i := 194) rfl)) rfl)⟩
theorem lk_X7_42 : LnkS RX7 42 Y_J6_bitCount_0f7a4 1 := ⟨lc_J6_bitCount_0f7a4, (WT_mem (t3_in (List.mem_of_getElem? (i := 129) rfl)) rfl), (WT_mem (t2_in (List.mem_of_getElem? (i := 200) rfl)) rfl)⟩
theorem fl_X7_18 : FL RX7 18 2 3 := ⟨_, rfl, by decide, (WT_mem (t1_in (List.mem_of_getElem? (i := 93) rfl)) rfl)⟩
theorem fl_X7_15 : FL RX7 15 7 1 := ⟨_, rfl, by decide, (WT_mem (t1_in (List.mem_of_getElem? (i := 153) rfl)) rfl)⟩
theorem lk_X7_24 : LnkV RX7 24 Y_X1_atPaces 5 := ⟨lc_X1_atPaces, (WT_mem (t3_in (List.mem_of_getElem? (i := 124) rfl)) rfl), (WT_mem (t3_in (List.mem_of_getElem? (i := 38) rfl)) rfl), (WT_mem (t3_in (List.mem_of_getElem? (i := 39) rfl)) rfl)⟩
theorem kc_X7_30 : Cond.constant RX7 30 (2147483647) ∈ WTb := (WT_mem (t3_in (List.mem_of_getElem? (i := 125) rfl)) rfl)
theorem fl_X7_31 : FL RX7 31 7 2 := ⟨_, rfl, by decide, (WT_mem (t1_in (List.mem_of_getElem? (i := 154) rfl)) rfl)⟩
theorem fp_X7_31 : FP RX7 31 7 2 .int := ⟨_, rfl, by decide, (WT_mem (t1_in (List.mem_of_getElem? (i := 154) rfl)) rfl), rfl, by decide +kernel⟩
theorem lk_X7_34 : LnkS RX7 34 Y_X7_areUnlikeOf 4 := ⟨lc_X7_areUnlikeOf, (WT_mem (t3_in (List.mem_of_getElem? (i := 126) rfl)) rfl), (WT_mem (t3_in (List.mem_of_getElem? (i := 127) rfl)) rfl)⟩
theorem lk_X7_38 : LnkV RX7 38 Y_X7_weigh 3 := ⟨lc_X7_weigh, (WT_mem (t3_in (List.mem_of_getElem? (i := 130) rfl)) rfl), (WT_mem (t3_in (List.mem_of_getElem? (i := 132) rfl)) rfl), (WT_mem (pv_in (List.mem_of_getElem? (i := 10) rfl)) rfl)⟩
theorem fl_X7_9 : FL RX7 9 7 0 := ⟨_, rfl, by decide, (WT_mem (t1_in (List.mem_of_getElem? (i := 151) rfl)) rfl)⟩
theorem lk_X8_74 : LnkS RX8 74 Y_X8_within 3 := ⟨lc_X8_within, (WT_mem (t2_in (List.mem_of_getElem? (i := 22) rfl)) rfl), (WT_mem (t2_in (List.mem_of_getElem? (i := 23) rfl)) rfl)⟩
theorem fl_X8_16 : FL RX8 16 8 1 := ⟨_, rfl, by decide, (WT_mem (t1_in (List.mem_of_getElem? (i := 222) rfl)) rfl)⟩
theorem fl_X8_89 : FL RX8 89 2 3 := ⟨_, rfl, by decide, (WT_mem (t1_in (List.mem_of_getElem? (i := 95) rfl)) rfl)⟩
theorem lk_X8_78 : LnkV RX8 78 Y_X8_found 1 := ⟨lc_X8_found, (WT_mem (t2_in (List.mem_of_getElem? (i := 25) rfl)) rfl), (WT_mem (t2_in (List.mem_of_getElem? (i := 27) rfl)) rfl), (WT_mem (pv_in (List.mem_of_getElem? (i := 0) rfl)) rfl)⟩
theorem fl_X8_23 : FL RX8 23 8 3 := ⟨_, rfl, by decide, (WT_mem (t1_in (List.mem_of_getElem? (i := 224) rfl)) rfl)⟩
theorem lk_X8_151 : LnkV RX8 151 Y_X2_become 1 := ⟨lc_X2_become, (WT_mem (t2_in (List.mem_of_getElem? (i := 210) rfl)) rfl), (WT_mem (t2_in (List.mem_of_getElem? (i := 211) rfl)) rfl), (WT_mem (t2_in (List.mem_of_getElem? (i := 212) rfl)) rfl)⟩
theorem lk_X8_145 : LnkV RX8 145 Y_X2_go 1 := ⟨lc_X2_go, (WT_mem (t2_in (List.mem_of_getElem? (i := 171) rfl)) rfl), (WT_mem (t2_in (List.mem_of_getElem? (i := 172) rfl)) rfl), (WT_mem (t2_in (List.mem_of_getElem? (i := 173) rfl)) rfl)⟩
theorem lk_X8_155 : LnkV RX8 155 Y_X2_homeSet 0 := ⟨lc_X2_homeSet, (WT_mem (t2_in (List.mem_of_getElem? (i := 222) rfl)) rfl), (WT_mem (t2_in (List.mem_of_getElem? (i := 196) rfl)) rfl), (WT_mem (t2_in (List.mem_of_getElem? (i := 197) rfl)) rfl)⟩
theorem lk_X8_141 : LnkV RX8 141 Y_X2_whoRuns 0 := ⟨lc_X2_whoRuns, (WT_mem (t2_in (List.mem_of_getElem? (i := 163) rfl)) rfl), (WT_mem (t2_in (List.mem_of_getElem? (i := 164) rfl)) rfl), (WT_mem (t2_in (List.mem_of_getElem? (i := 165) rfl)) rfl)⟩
theorem fl_X8_99 : FL RX8 99 2 1 := ⟨_, rfl, by decide, (WT_mem (t1_in (List.mem_of_getElem? (i := 88) rfl)) rfl)⟩
theorem fl_X8_158 : FL RX8 158 4 5 := ⟨_, rfl, by decide, (WT_mem (t1_in (List.mem_of_getElem? (i := 56) rfl)) rfl)⟩
theorem lk_X8_96 : LnkV RX8 96 Y_X8_isRunner 1 := ⟨lc_X8_isRunner, (WT_mem (t2_in (List.mem_of_getElem? (i := 55) rfl)) rfl), (WT_mem (t2_in (List.mem_of_getElem? (i := 57) rfl)) rfl), (WT_mem (pv_in (List.mem_of_getElem? (i := 1) rfl)) rfl)⟩
theorem kc_X8_206 : Cond.constant RX8 206 (9999999) ∈ WTb := (WT_mem (t3_in (List.mem_of_getElem? (i := 105) rfl)) rfl)
theorem fl_X8_207 : FL RX8 207 4 2 := ⟨_, rfl, by decide, (WT_mem (t1_in (List.mem_of_getElem? (i := 49) rfl)) rfl)⟩
theorem fp_X8_207 : FP RX8 207 4 2 .int := ⟨_, rfl, by decide, (WT_mem (t1_in (List.mem_of_getElem? (i := 49) rfl)) rfl), rfl, by decide +kernel⟩
theorem lk_X8_199 : LnkV RX8 199 Y_X8_wholeMean 2 := ⟨lc_X8_wholeMean, (WT_mem (t3_in (List.mem_of_getElem? (i := 85) rfl)) rfl), (WT_mem (t3_in (List.mem_of_getElem? (i := 87) rfl)) rfl), (WT_mem (pv_in (List.mem_of_getElem? (i := 8) rfl)) rfl)⟩
theorem lk_X8_246 : LnkS RX8 246 Y_X8_isSpot 1 := ⟨lc_X8_isSpot, (WT_mem (t4_in (List.mem_of_getElem? (i := 71) rfl)) rfl), (WT_mem (t4_in (List.mem_of_getElem? (i := 72) rfl)) rfl)⟩
theorem fl_X8_249 : FL RX8 249 2 2 := ⟨_, rfl, by decide, (WT_mem (t1_in (List.mem_of_getElem? (i := 91) rfl)) rfl)⟩
theorem lk_X8_252 : LnkV RX8 252 Y_X4_isOfKind 1 := ⟨lc_X4_isOfKind, (WT_mem (t4_in (List.mem_of_getElem? (i := 78) rfl)) rfl), (WT_mem (t4_in (List.mem_of_getElem? (i := 79) rfl)) rfl), (WT_mem (t4_in (List.mem_of_getElem? (i := 80) rfl)) rfl)⟩
theorem lk_X8_70 : LnkS RX8 70 Y_X8_isYard 1 := ⟨lc_X8_isYard, (WT_mem (t2_in (List.mem_of_getElem? (i := 19) rfl)) rfl), (WT_mem (t2_in (List.mem_of_getElem? (i := 20) rfl)) rfl)⟩
theorem fl_X8_29 : FL RX8 29 8 4 := ⟨_, rfl, by decide, (WT_mem (t1_in (List.mem_of_getElem? (i := 225) rfl)) rfl)⟩
theorem lk_X8_184 : LnkV RX8 184 Y_X1_atBest 4 := ⟨lc_X1_atBest, (WT_mem (t3_in (List.mem_of_getElem? (i := 58) rfl)) rfl), (WT_mem (t3_in (List.mem_of_getElem? (i := 59) rfl)) rfl), (WT_mem (t3_in (List.mem_of_getElem? (i := 60) rfl)) rfl)⟩
theorem lk_X8_188 : LnkV RX8 188 Y_X1_chosenPace 2 := ⟨lc_X1_chosenPace, (WT_mem (t3_in (List.mem_of_getElem? (i := 71) rfl)) rfl), (WT_mem (t3_in (List.mem_of_getElem? (i := 72) rfl)) rfl), (WT_mem (t3_in (List.mem_of_getElem? (i := 73) rfl)) rfl)⟩
theorem lk_X8_108 : LnkS RX8 108 Y_X4_mostOf 1 := ⟨lc_X4_mostOf, (WT_mem (t2_in (List.mem_of_getElem? (i := 73) rfl)) rfl), (WT_mem (t2_in (List.mem_of_getElem? (i := 74) rfl)) rfl)⟩
theorem lk_X8_103 : LnkV RX8 103 Y_X4_tell 1 := ⟨lc_X4_tell, (WT_mem (t2_in (List.mem_of_getElem? (i := 59) rfl)) rfl), (WT_mem (t2_in (List.mem_of_getElem? (i := 60) rfl)) rfl), (WT_mem (t2_in (List.mem_of_getElem? (i := 61) rfl)) rfl)⟩
theorem lk_X8_111 : LnkV RX8 111 Y_X4_put 2 := ⟨lc_X4_put, (WT_mem (t2_in (List.mem_of_getElem? (i := 76) rfl)) rfl), (WT_mem (t2_in (List.mem_of_getElem? (i := 77) rfl)) rfl), (WT_mem (t2_in (List.mem_of_getElem? (i := 78) rfl)) rfl)⟩
theorem lk_X8_173 : LnkV RX8 173 Y_X8_isStretch 3 := ⟨lc_X8_isStretch, (WT_mem (t3_in (List.mem_of_getElem? (i := 11) rfl)) rfl), (WT_mem (t3_in (List.mem_of_getElem? (i := 13) rfl)) rfl), (WT_mem (pv_in (List.mem_of_getElem? (i := 3) rfl)) rfl)⟩
theorem fl_X8_118 : FL RX8 118 4 0 := ⟨_, rfl, by decide, (WT_mem (t1_in (List.mem_of_getElem? (i := 45) rfl)) rfl)⟩
theorem lk_X8_127 : LnkV RX8 127 Y_X2_oddsOf 5 := ⟨lc_X2_oddsOf, (WT_mem (t2_in (List.mem_of_getElem? (i := 113) rfl)) rfl), (WT_mem (t2_in (List.mem_of_getElem? (i := 114) rfl)) rfl), (WT_mem (t2_in (List.mem_of_getElem? (i := 115) rfl)) rfl)⟩
theorem lk_X8_255 : LnkS RX8 255 Y_X8_isSheet 1 := ⟨lc_X8_isSheet, (WT_mem (t4_in (List.mem_of_getElem? (i := 88) rfl)) rfl), (WT_mem (t4_in (List.mem_of_getElem? (i := 89) rfl)) rfl)⟩
theorem fl_X8_61 : FL RX8 61 8 9 := ⟨_, rfl, by decide, (WT_mem (t1_in (List.mem_of_getElem? (i := 230) rfl)) rfl)⟩
theorem lk_X8_262 : LnkV RX8 262 Y_X5_isMissing 0 := ⟨lc_X5_isMissing, (WT_mem (t4_in (List.mem_of_getElem? (i := 100) rfl)) rfl), (WT_mem (t4_in (List.mem_of_getElem? (i := 101) rfl)) rfl), (WT_mem (t4_in (List.mem_of_getElem? (i := 102) rfl)) rfl)⟩
theorem fl_X8_266 : FL RX8 266 5 1 := ⟨_, rfl, by decide, (WT_mem (t1_in (List.mem_of_getElem? (i := 211) rfl)) rfl)⟩
theorem lk_X8_269 : LnkV RX8 269 Y_X5_hasRow 2 := ⟨lc_X5_hasRow, (WT_mem (t4_in (List.mem_of_getElem? (i := 112) rfl)) rfl), (WT_mem (t4_in (List.mem_of_getElem? (i := 113) rfl)) rfl), (WT_mem (t4_in (List.mem_of_getElem? (i := 114) rfl)) rfl)⟩
theorem fl_X8_273 : FL RX8 273 5 0 := ⟨_, rfl, by decide, (WT_mem (t1_in (List.mem_of_getElem? (i := 209) rfl)) rfl)⟩
theorem lk_X8_180 : LnkV RX8 180 Y_X1_atPaces 5 := ⟨lc_X1_atPaces, (WT_mem (t3_in (List.mem_of_getElem? (i := 37) rfl)) rfl), (WT_mem (t3_in (List.mem_of_getElem? (i := 38) rfl)) rfl), (WT_mem (t3_in (List.mem_of_getElem? (i := 39) rfl)) rfl)⟩
theorem fl_X8_85 : FL RX8 85 2 4 := ⟨_, rfl, by decide, (WT_mem (t1_in (List.mem_of_getElem? (i := 97) rfl)) rfl)⟩
theorem lk_X8_288 : LnkS RX8 288 Y_J6_bitCount_0f7a4 1 := ⟨lc_J6_bitCount_0f7a4, (WT_mem (t3_in (List.mem_of_getElem? (i := 119) rfl)) rfl), (WT_mem (t2_in (List.mem_of_getElem? (i := 200) rfl)) rfl)⟩
theorem lk_X8_293 : LnkV RX8 293 Y_X2_countDrops 0 := ⟨lc_X2_countDrops, (WT_mem (t4_in (List.mem_of_getElem? (i := 143) rfl)) rfl), (WT_mem (t4_in (List.mem_of_getElem? (i := 144) rfl)) rfl), (WT_mem (t4_in (List.mem_of_getElem? (i := 145) rfl)) rfl)⟩
theorem lk_X8_234 : LnkV RX8 234 Y_X2_countGrass 0 := ⟨lc_X2_countGrass, (WT_mem (t3_in (List.mem_of_getElem? (i := 156) rfl)) rfl), (WT_mem (t3_in (List.mem_of_getElem? (i := 157) rfl)) rfl), (WT_mem (t3_in (List.mem_of_getElem? (i := 158) rfl)) rfl)⟩
theorem fl_X8_58 : FL RX8 58 8 8 := ⟨_, rfl, by decide, (WT_mem (t1_in (List.mem_of_getElem? (i := 229) rfl)) rfl)⟩
theorem fl_X8_237 : FL RX8 237 6 2 := ⟨_, rfl, by decide, (WT_mem (t1_in (List.mem_of_getElem? (i := 177) rfl)) rfl)⟩
theorem fl_X8_170 : FL RX8 170 2 5 := ⟨_, rfl, by decide, (WT_mem (t1_in (List.mem_of_getElem? (i := 101) rfl)) rfl)⟩
theorem lk_X8_296 : LnkV RX8 296 Y_X2_countHolding 0 := ⟨lc_X2_countHolding, (WT_mem (t4_in (List.mem_of_getElem? (i := 147) rfl)) rfl), (WT_mem (t4_in (List.mem_of_getElem? (i := 148) rfl)) rfl), (WT_mem (t4_in (List.mem_of_getElem? (i := 149) rfl)) rfl)⟩
theorem fl_X8_36 : FL RX8 36 8 5 := ⟨_, rfl, by decide, (WT_mem (t1_in (List.mem_of_getElem? (i := 226) rfl)) rfl)⟩
theorem lk_X8_176 : LnkV RX8 176 Y_X0_ofDrops 5 := ⟨lc_X0_ofDrops, (WT_mem (t3_in (List.mem_of_getElem? (i := 19) rfl)) rfl), (WT_mem (t3_in (List.mem_of_getElem? (i := 20) rfl)) rfl), (WT_mem (t3_in (List.mem_of_getElem? (i := 21) rfl)) rfl)⟩
theorem kc_X8_192 : Cond.constant RX8 192 (2147483647) ∈ WTb := (WT_mem (t3_in (List.mem_of_getElem? (i := 83) rfl)) rfl)
theorem lk_X8_193 : LnkS RX8 193 Y_J7_fill_53178 2 := ⟨lc_J7_fill_53178, (WT_mem (t3_in (List.mem_of_getElem? (i := 84) rfl)) rfl), (WT_mem (t1_in (List.mem_of_getElem? (i := 80) rfl)) rfl)⟩
theorem lk_X8_240 : LnkV RX8 240 Y_X6_put 1 := ⟨lc_X6_put, (WT_mem (t3_in (List.mem_of_getElem? (i := 168) rfl)) rfl), (WT_mem (t3_in (List.mem_of_getElem? (i := 169) rfl)) rfl), (WT_mem (t3_in (List.mem_of_getElem? (i := 170) rfl)) rfl)⟩
theorem fl_X8_9 : FL RX8 9 8 0 := ⟨_, rfl, by decide, (WT_mem (t1_in (List.mem_of_getElem? (i := 221) rfl)) rfl)⟩
theorem kc_X8_299 : Cond.constant RX8 299 (-100000001) ∈ WTb := (WT_mem (t2_in (List.mem_of_getElem? (i := 29) rfl)) rfl)
theorem fl_X8_82 : FL RX8 82 2 0 := ⟨_, rfl, by decide, (WT_mem (t1_in (List.mem_of_getElem? (i := 83) rfl)) rfl)⟩
theorem lk_X8_225 : LnkV RX8 225 Y_X8_tryGum 1 := ⟨lc_X8_tryGum, (WT_mem (t3_in (List.mem_of_getElem? (i := 142) rfl)) rfl), (WT_mem (t3_in (List.mem_of_getElem? (i := 144) rfl)) rfl), (WT_mem (pv_in (List.mem_of_getElem? (i := 11) rfl)) rfl)⟩
theorem fl_X8_20 : FL RX8 20 8 2 := ⟨_, rfl, by decide, (WT_mem (t1_in (List.mem_of_getElem? (i := 223) rfl)) rfl)⟩
theorem fl_X8_65 : FL RX8 65 8 10 := ⟨_, rfl, by decide, (WT_mem (t1_in (List.mem_of_getElem? (i := 231) rfl)) rfl)⟩
theorem fp_X8_65 : FP RX8 65 8 10 .boolean := ⟨_, rfl, by decide, (WT_mem (t1_in (List.mem_of_getElem? (i := 231) rfl)) rfl), rfl, by decide +kernel⟩
theorem fl_X8_43 : FL RX8 43 8 6 := ⟨_, rfl, by decide, (WT_mem (t1_in (List.mem_of_getElem? (i := 227) rfl)) rfl)⟩
theorem fl_X8_50 : FL RX8 50 8 7 := ⟨_, rfl, by decide, (WT_mem (t1_in (List.mem_of_getElem? (i := 228) rfl)) rfl)⟩
theorem fl_X8_54 : FL RX8 54 3 0 := ⟨_, rfl, by decide, (WT_mem (t1_in (List.mem_of_getElem? (i := 197) rfl)) rfl)⟩
theorem fl_X8_261 : FL RX8 261 5 2 := ⟨_, rfl, by decide, (WT_mem (t1_in (List.mem_of_getElem? (i := 213) rfl)) rfl)⟩
theorem lk_X8_285 : LnkV RX8 285 Y_X2_step 1 := ⟨lc_X2_step, (WT_mem (t4_in (List.mem_of_getElem? (i := 126) rfl)) rfl), (WT_mem (t2_in (List.mem_of_getElem? (i := 177) rfl)) rfl), (WT_mem (t2_in (List.mem_of_getElem? (i := 178) rfl)) rfl)⟩
theorem lk_X8_210 : LnkS RX8 210 Y_J9_max_7cf53 2 := ⟨lc_J9_max_7cf53, (WT_mem (t3_in (List.mem_of_getElem? (i := 110) rfl)) rfl), (WT_mem (t2_in (List.mem_of_getElem? (i := 131) rfl)) rfl)⟩
theorem lk_X8_215 : LnkV RX8 215 Y_X8_isTeamSet 1 := ⟨lc_X8_isTeamSet, (WT_mem (t3_in (List.mem_of_getElem? (i := 115) rfl)) rfl), (WT_mem (t3_in (List.mem_of_getElem? (i := 117) rfl)) rfl), (WT_mem (pv_in (List.mem_of_getElem? (i := 9) rfl)) rfl)⟩
theorem lk_X8_218 : LnkV RX8 218 Y_X7_choose 3 := ⟨lc_X7_choose, (WT_mem (t3_in (List.mem_of_getElem? (i := 120) rfl)) rfl), (WT_mem (t3_in (List.mem_of_getElem? (i := 121) rfl)) rfl), (WT_mem (t3_in (List.mem_of_getElem? (i := 122) rfl)) rfl)⟩
theorem fl_X8_222 : FL RX8 222 7 0 := ⟨_, rfl, by decide, (WT_mem (t1_in (List.mem_of_getElem? (i := 152) rfl)) rfl)⟩
theorem lk_X8_282 : LnkS RX8 282 Y_J9_min_7cf53 2 := ⟨lc_J9_min_7cf53, (WT_mem (t4_in (List.mem_of_getElem? (i := 121) rfl)) rfl), (WT_mem (t2_in (List.mem_of_getElem? (i := 128) rfl)) rfl)⟩
theorem lk_X8_115 : LnkS RX8 115 Y_X8_isPace 1 := ⟨lc_X8_isPace, (WT_mem (t2_in (List.mem_of_getElem? (i := 84) rfl)) rfl), (WT_mem (t2_in (List.mem_of_getElem? (i := 85) rfl)) rfl)⟩
theorem lk_X8_138 : LnkV RX8 138 Y_X2_nervesOf 1 := ⟨lc_X2_nervesOf, (WT_mem (t2_in (List.mem_of_getElem? (i := 158) rfl)) rfl), (WT_mem (t2_in (List.mem_of_getElem? (i := 146) rfl)) rfl), (WT_mem (t2_in (List.mem_of_getElem? (i := 147) rfl)) rfl)⟩
theorem lk_X8_131 : LnkV RX8 131 Y_X4_isHome 0 := ⟨lc_X4_isHome, (WT_mem (t2_in (List.mem_of_getElem? (i := 137) rfl)) rfl), (WT_mem (t2_in (List.mem_of_getElem? (i := 138) rfl)) rfl), (WT_mem (t2_in (List.mem_of_getElem? (i := 139) rfl)) rfl)⟩
theorem lk_X8_135 : LnkV RX8 135 Y_X2_oddsInStep 1 := ⟨lc_X2_oddsInStep, (WT_mem (t2_in (List.mem_of_getElem? (i := 141) rfl)) rfl), (WT_mem (t2_in (List.mem_of_getElem? (i := 142) rfl)) rfl), (WT_mem (t2_in (List.mem_of_getElem? (i := 143) rfl)) rfl)⟩
theorem fp_X8_85 : FP RX8 85 2 4 .int := ⟨_, rfl, by decide, (WT_mem (t1_in (List.mem_of_getElem? (i := 97) rfl)) rfl), rfl, by decide +kernel⟩
theorem lk_X8_161 : LnkV RX8 161 Y_X8_runAllHome 0 := ⟨lc_X8_runAllHome, (WT_mem (t2_in (List.mem_of_getElem? (i := 227) rfl)) rfl), (WT_mem (t2_in (List.mem_of_getElem? (i := 229) rfl)) rfl), (WT_mem (pv_in (List.mem_of_getElem? (i := 2) rfl)) rfl)⟩
theorem lk_X8_167 : LnkV RX8 167 Y_X2_placeOf 1 := ⟨lc_X2_placeOf, (WT_mem (t2_in (List.mem_of_getElem? (i := 239) rfl)) rfl), (WT_mem (t3_in (List.mem_of_getElem? (i := 0) rfl)) rfl), (WT_mem (t3_in (List.mem_of_getElem? (i := 1) rfl)) rfl)⟩
theorem lk_X8_231 : LnkV RX8 231 Y_X2_draw 0 := ⟨lc_X2_draw, (WT_mem (t3_in (List.mem_of_getElem? (i := 155) rfl)) rfl), (WT_mem (t2_in (List.mem_of_getElem? (i := 182) rfl)) rfl), (WT_mem (t2_in (List.mem_of_getElem? (i := 183) rfl)) rfl)⟩
theorem lk_X8_92 : LnkV RX8 92 Y_X2_add 3 := ⟨lc_X2_add, (WT_mem (t2_in (List.mem_of_getElem? (i := 38) rfl)) rfl), (WT_mem (t2_in (List.mem_of_getElem? (i := 39) rfl)) rfl), (WT_mem (t2_in (List.mem_of_getElem? (i := 40) rfl)) rfl)⟩
theorem fp_X8_170 : FP RX8 170 2 5 .int := ⟨_, rfl, by decide, (WT_mem (t1_in (List.mem_of_getElem? (i := 101) rfl)) rfl), rfl, by decide +kernel⟩
theorem lk_X8_258 : LnkV RX8 258 Y_X5_lay 2 := ⟨lc_X5_lay, (WT_mem (t4_in (List.mem_of_getElem? (i := 91) rfl)) rfl), (WT_mem (t4_in (List.mem_of_getElem? (i := 92) rfl)) rfl), (WT_mem (t4_in (List.mem_of_getElem? (i := 93) rfl)) rfl)⟩
theorem fl_X8_203 : FL RX8 203 4 3 := ⟨_, rfl, by decide, (WT_mem (t1_in (List.mem_of_getElem? (i := 51) rfl)) rfl)⟩
theorem fp_X8_203 : FP RX8 203 4 3 .int := ⟨_, rfl, by decide, (WT_mem (t1_in (List.mem_of_getElem? (i := 51) rfl)) rfl), rfl, by decide +kernel⟩
theorem lk_X8_148 : LnkV RX8 148 Y_X2_restart 0 := ⟨lc_X2_restart, (WT_mem (t2_in (List.mem_of_getElem? (i := 191) rfl)) rfl), (WT_mem (t2_in (List.mem_of_getElem? (i := 192) rfl)) rfl), (WT_mem (t2_in (List.mem_of_getElem? (i := 193) rfl)) rfl)⟩
theorem kc_X8_229 : Cond.constantLong RX8 229 (2) ∈ WTb := (WT_mem (t3_in (List.mem_of_getElem? (i := 150) rfl)) rfl)
theorem lk_X8_242 : LnkV RX8 242 Y_X3_readInto 1 := ⟨lc_X3_readInto, (WT_mem (t3_in (List.mem_of_getElem? (i := 184) rfl)) rfl), (WT_mem (t3_in (List.mem_of_getElem? (i := 185) rfl)) rfl), (WT_mem (t3_in (List.mem_of_getElem? (i := 186) rfl)) rfl)⟩
theorem fp_X8_237 : FP RX8 237 6 2 .int := ⟨_, rfl, by decide, (WT_mem (t1_in (List.mem_of_getElem? (i := 177) rfl)) rfl), rfl, by decide +kernel⟩
theorem lk_X8_121 : LnkV RX8 121 Y_X4_takes 1 := ⟨lc_X4_takes, (WT_mem (t2_in (List.mem_of_getElem? (i := 95) rfl)) rfl), (WT_mem (t2_in (List.mem_of_getElem? (i := 96) rfl)) rfl), (WT_mem (t2_in (List.mem_of_getElem? (i := 97) rfl)) rfl)⟩
theorem lk_X8_124 : LnkV RX8 124 Y_X4_rocks 1 := ⟨lc_X4_rocks, (WT_mem (t2_in (List.mem_of_getElem? (i := 101) rfl)) rfl), (WT_mem (t2_in (List.mem_of_getElem? (i := 102) rfl)) rfl), (WT_mem (t2_in (List.mem_of_getElem? (i := 103) rfl)) rfl)⟩
theorem fl_X8_300 : FL RX8 300 4 1 := ⟨_, rfl, by decide, (WT_mem (t1_in (List.mem_of_getElem? (i := 47) rfl)) rfl)⟩
theorem fp_X8_300 : FP RX8 300 4 1 .int := ⟨_, rfl, by decide, (WT_mem (t1_in (List.mem_of_getElem? (i := 47) rfl)) rfl), rfl, by decide +kernel⟩
theorem lk_X8_164 : LnkV RX8 164 Y_X2_leastInTime 0 := ⟨lc_X2_leastInTime, (WT_mem (t2_in (List.mem_of_getElem? (i := 231) rfl)) rfl), (WT_mem (t2_in (List.mem_of_getElem? (i := 232) rfl)) rfl), (WT_mem (t2_in (List.mem_of_getElem? (i := 233) rfl)) rfl)⟩
theorem lk_X8_265 : LnkV RX8 265 Y_X5_put 2 := ⟨lc_X5_put, (WT_mem (t4_in (List.mem_of_getElem? (i := 104) rfl)) rfl), (WT_mem (t4_in (List.mem_of_getElem? (i := 105) rfl)) rfl), (WT_mem (t4_in (List.mem_of_getElem? (i := 106) rfl)) rfl)⟩
theorem kc_X9_152 : Cond.constantLong RX9 152 (180) ∈ WTb := (WT_mem (t5_in (List.mem_of_getElem? (i := 128) rfl)) rfl)
theorem lk_X9_54 : LnkS RX9 54 Y_X9_in 3 := ⟨lc_X9_in, (WT_mem (t4_in (List.mem_of_getElem? (i := 227) rfl)) rfl), (WT_mem (t4_in (List.mem_of_getElem? (i := 228) rfl)) rfl)⟩
theorem fl_X9_9 : FL RX9 9 9 0 := ⟨_, rfl, by decide, (WT_mem (t4_in (List.mem_of_getElem? (i := 161) rfl)) rfl)⟩
theorem kc_X9_46 : Cond.constant RX9 46 (-100000001) ∈ WTb := (WT_mem (t4_in (List.mem_of_getElem? (i := 235) rfl)) rfl)
theorem lk_X9_48 : LnkV RX9 48 Y_X9_finds 1 := ⟨lc_X9_finds, (WT_mem (t4_in (List.mem_of_getElem? (i := 236) rfl)) rfl), (WT_mem (t4_in (List.mem_of_getElem? (i := 238) rfl)) rfl), (WT_mem (pv_in (List.mem_of_getElem? (i := 21) rfl)) rfl)⟩
theorem fl_X9_16 : FL RX9 16 9 2 := ⟨_, rfl, by decide, (WT_mem (t4_in (List.mem_of_getElem? (i := 163) rfl)) rfl)⟩
theorem lk_X9_166 : LnkS RX9 166 Y_X9_row 2 := ⟨lc_X9_row, (WT_mem (t5_in (List.mem_of_getElem? (i := 161) rfl)) rfl), (WT_mem (t5_in (List.mem_of_getElem? (i := 162) rfl)) rfl)⟩
theorem lk_X9_154 : LnkV RX9 154 Y_X9_stepsGo 1 := ⟨lc_X9_stepsGo, (WT_mem (t5_in (List.mem_of_getElem? (i := 129) rfl)) rfl), (WT_mem (t5_in (List.mem_of_getElem? (i := 131) rfl)) rfl), (WT_mem (pv_in (List.mem_of_getElem? (i := 37) rfl)) rfl)⟩
theorem lk_X9_157 : LnkV RX9 157 Y_X9_home 0 := ⟨lc_X9_home, (WT_mem (t5_in (List.mem_of_getElem? (i := 146) rfl)) rfl), (WT_mem (t5_in (List.mem_of_getElem? (i := 148) rfl)) rfl), (WT_mem (pv_in (List.mem_of_getElem? (i := 40) rfl)) rfl)⟩
theorem lk_X9_139 : LnkV RX9 139 Y_X9_runsNext 0 := ⟨lc_X9_runsNext, (WT_mem (t5_in (List.mem_of_getElem? (i := 115) rfl)) rfl), (WT_mem (t5_in (List.mem_of_getElem? (i := 117) rfl)) rfl), (WT_mem (pv_in (List.mem_of_getElem? (i := 35) rfl)) rfl)⟩
theorem lk_X9_62 : LnkV RX9 62 Y_X9_is 2 := ⟨lc_X9_is, (WT_mem (t5_in (List.mem_of_getElem? (i := 33) rfl)) rfl), (WT_mem (t5_in (List.mem_of_getElem? (i := 35) rfl)) rfl), (WT_mem (pv_in (List.mem_of_getElem? (i := 25) rfl)) rfl)⟩
theorem lk_X9_91 : LnkV RX9 91 Y_X9_isRunner 1 := ⟨lc_X9_isRunner, (WT_mem (t5_in (List.mem_of_getElem? (i := 28) rfl)) rfl), (WT_mem (t5_in (List.mem_of_getElem? (i := 30) rfl)) rfl), (WT_mem (pv_in (List.mem_of_getElem? (i := 24) rfl)) rfl)⟩
theorem kc_X9_206 : Cond.constantLong RX9 206 (9999999) ∈ WTb := (WT_mem (t6_in (List.mem_of_getElem? (i := 21) rfl)) rfl)
theorem lk_X9_77 : LnkV RX9 77 Y_X9_makes 3 := ⟨lc_X9_makes, (WT_mem (t5_in (List.mem_of_getElem? (i := 20) rfl)) rfl), (WT_mem (t5_in (List.mem_of_getElem? (i := 22) rfl)) rfl), (WT_mem (pv_in (List.mem_of_getElem? (i := 23) rfl)) rfl)⟩
theorem lk_X9_203 : LnkV RX9 203 Y_X9_meanOf 1 := ⟨lc_X9_meanOf, (WT_mem (t6_in (List.mem_of_getElem? (i := 1) rfl)) rfl), (WT_mem (t6_in (List.mem_of_getElem? (i := 3) rfl)) rfl), (WT_mem (pv_in (List.mem_of_getElem? (i := 51) rfl)) rfl)⟩
theorem lk_X9_143 : LnkV RX9 143 Y_X9_orNone 1 := ⟨lc_X9_orNone, (WT_mem (t5_in (List.mem_of_getElem? (i := 119) rfl)) rfl), (WT_mem (t5_in (List.mem_of_getElem? (i := 121) rfl)) rfl), (WT_mem (pv_in (List.mem_of_getElem? (i := 36) rfl)) rfl)⟩
theorem kc_X9_58 : Cond.constantLong RX9 58 (9) ∈ WTb := (WT_mem (t5_in (List.mem_of_getElem? (i := 13) rfl)) rfl)
theorem lk_X9_81 : LnkS RX9 81 Y_X9_isKind 1 := ⟨lc_X9_isKind, (WT_mem (t5_in (List.mem_of_getElem? (i := 9) rfl)) rfl), (WT_mem (t5_in (List.mem_of_getElem? (i := 10) rfl)) rfl)⟩
theorem kc_X9_319 : Cond.constant RX9 319 (-100000006) ∈ WTb := (WT_mem (t6_in (List.mem_of_getElem? (i := 151) rfl)) rfl)
theorem lk_X9_320 : LnkS RX9 320 Y_X9_above 1 := ⟨lc_X9_above, (WT_mem (t6_in (List.mem_of_getElem? (i := 152) rfl)) rfl), (WT_mem (t6_in (List.mem_of_getElem? (i := 153) rfl)) rfl)⟩
theorem kc_X9_323 : Cond.constant RX9 323 (-100000003) ∈ WTb := (WT_mem (t6_in (List.mem_of_getElem? (i := 155) rfl)) rfl)
theorem lk_X9_122 : LnkV RX9 122 Y_X9_oddsBy 5 := ⟨lc_X9_oddsBy, (WT_mem (t5_in (List.mem_of_getElem? (i := 81) rfl)) rfl), (WT_mem (t5_in (List.mem_of_getElem? (i := 83) rfl)) rfl), (WT_mem (pv_in (List.mem_of_getElem? (i := 30) rfl)) rfl)⟩
theorem fl_X9_22 : FL RX9 22 9 5 := ⟨_, rfl, by decide, (WT_mem (t4_in (List.mem_of_getElem? (i := 166) rfl)) rfl)⟩
theorem lk_X9_119 : LnkV RX9 119 Y_X9_takes 2 := ⟨lc_X9_takes, (WT_mem (t5_in (List.mem_of_getElem? (i := 69) rfl)) rfl), (WT_mem (t5_in (List.mem_of_getElem? (i := 71) rfl)) rfl), (WT_mem (pv_in (List.mem_of_getElem? (i := 28) rfl)) rfl)⟩
theorem lk_X9_200 : LnkV RX9 200 Y_X9_isMean 4 := ⟨lc_X9_isMean, (WT_mem (t5_in (List.mem_of_getElem? (i := 213) rfl)) rfl), (WT_mem (t5_in (List.mem_of_getElem? (i := 215) rfl)) rfl), (WT_mem (pv_in (List.mem_of_getElem? (i := 48) rfl)) rfl)⟩
theorem lk_X9_196 : LnkV RX9 196 Y_X9_means 3 := ⟨lc_X9_means, (WT_mem (t5_in (List.mem_of_getElem? (i := 217) rfl)) rfl), (WT_mem (t5_in (List.mem_of_getElem? (i := 219) rfl)) rfl), (WT_mem (pv_in (List.mem_of_getElem? (i := 49) rfl)) rfl)⟩
theorem fl_X9_25 : FL RX9 25 9 6 := ⟨_, rfl, by decide, (WT_mem (t4_in (List.mem_of_getElem? (i := 167) rfl)) rfl)⟩
theorem fl_X9_28 : FL RX9 28 9 7 := ⟨_, rfl, by decide, (WT_mem (t4_in (List.mem_of_getElem? (i := 168) rfl)) rfl)⟩
theorem fl_X9_31 : FL RX9 31 9 8 := ⟨_, rfl, by decide, (WT_mem (t4_in (List.mem_of_getElem? (i := 169) rfl)) rfl)⟩
theorem lk_X9_103 : LnkS RX9 103 Y_X9_isPart 2 := ⟨lc_X9_isPart, (WT_mem (t5_in (List.mem_of_getElem? (i := 45) rfl)) rfl), (WT_mem (t5_in (List.mem_of_getElem? (i := 46) rfl)) rfl)⟩
theorem lk_X9_72 : LnkV RX9 72 Y_X9_becomes 2 := ⟨lc_X9_becomes, (WT_mem (t4_in (List.mem_of_getElem? (i := 231) rfl)) rfl), (WT_mem (t4_in (List.mem_of_getElem? (i := 233) rfl)) rfl), (WT_mem (pv_in (List.mem_of_getElem? (i := 20) rfl)) rfl)⟩
theorem lk_X9_181 : LnkV RX9 181 Y_X9_isStretch 4 := ⟨lc_X9_isStretch, (WT_mem (t5_in (List.mem_of_getElem? (i := 193) rfl)) rfl), (WT_mem (t5_in (List.mem_of_getElem? (i := 195) rfl)) rfl), (WT_mem (pv_in (List.mem_of_getElem? (i := 45) rfl)) rfl)⟩
theorem lk_X9_185 : LnkV RX9 185 Y_X9_oddsAt 3 := ⟨lc_X9_oddsAt, (WT_mem (t5_in (List.mem_of_getElem? (i := 197) rfl)) rfl), (WT_mem (t5_in (List.mem_of_getElem? (i := 199) rfl)) rfl), (WT_mem (pv_in (List.mem_of_getElem? (i := 46) rfl)) rfl)⟩
theorem lk_X9_324 : LnkS RX9 324 Y_X9_isSheet 1 := ⟨lc_X9_isSheet, (WT_mem (t6_in (List.mem_of_getElem? (i := 160) rfl)) rfl), (WT_mem (t6_in (List.mem_of_getElem? (i := 161) rfl)) rfl)⟩
theorem fl_X9_37 : FL RX9 37 9 16 := ⟨_, rfl, by decide, (WT_mem (t4_in (List.mem_of_getElem? (i := 177) rfl)) rfl)⟩
theorem fl_X9_40 : FL RX9 40 9 17 := ⟨_, rfl, by decide, (WT_mem (t4_in (List.mem_of_getElem? (i := 178) rfl)) rfl)⟩
theorem fl_X9_43 : FL RX9 43 9 18 := ⟨_, rfl, by decide, (WT_mem (t4_in (List.mem_of_getElem? (i := 179) rfl)) rfl)⟩
theorem lk_X9_66 : LnkS RX9 66 Y_X9_isYard 1 := ⟨lc_X9_isYard, (WT_mem (t4_in (List.mem_of_getElem? (i := 223) rfl)) rfl), (WT_mem (t4_in (List.mem_of_getElem? (i := 224) rfl)) rfl)⟩
theorem lk_X9_160 : LnkS RX9 160 Y_X9_many 1 := ⟨lc_X9_many, (WT_mem (t5_in (List.mem_of_getElem? (i := 150) rfl)) rfl), (WT_mem (t5_in (List.mem_of_getElem? (i := 151) rfl)) rfl)⟩
theorem lk_X9_331 : LnkV RX9 331 Y_X9_allDrops 0 := ⟨lc_X9_allDrops, (WT_mem (t6_in (List.mem_of_getElem? (i := 196) rfl)) rfl), (WT_mem (t6_in (List.mem_of_getElem? (i := 198) rfl)) rfl), (WT_mem (pv_in (List.mem_of_getElem? (i := 67) rfl)) rfl)⟩
theorem lk_X9_221 : LnkV RX9 221 Y_X9_grass 0 := ⟨lc_X9_grass, (WT_mem (t6_in (List.mem_of_getElem? (i := 60) rfl)) rfl), (WT_mem (t6_in (List.mem_of_getElem? (i := 62) rfl)) rfl), (WT_mem (pv_in (List.mem_of_getElem? (i := 55) rfl)) rfl)⟩
theorem fl_X9_224 : FL RX9 224 9 10 := ⟨_, rfl, by decide, (WT_mem (t4_in (List.mem_of_getElem? (i := 171) rfl)) rfl)⟩
theorem lk_X9_334 : LnkV RX9 334 Y_X9_holding 0 := ⟨lc_X9_holding, (WT_mem (t6_in (List.mem_of_getElem? (i := 200) rfl)) rfl), (WT_mem (t6_in (List.mem_of_getElem? (i := 202) rfl)) rfl), (WT_mem (pv_in (List.mem_of_getElem? (i := 68) rfl)) rfl)⟩
theorem kc_X9_138 : Cond.constant RX9 138 (1103515245) ∈ WTb := (WT_mem (t5_in (List.mem_of_getElem? (i := 141) rfl)) rfl)
theorem lk_X9_189 (k : Nat) : LnkV RX9 189 (Y_X9_dropping k) 5 := ⟨lc_X9_dropping k, (WT_mem (t5_in (List.mem_of_getElem? (i := 205) rfl)) rfl), (WT_mem (t5_in (List.mem_of_getElem? (i := 207) rfl)) rfl), (WT_mem (pv_in (List.mem_of_getElem? (i := 47) rfl)) rfl)⟩
theorem kc_X9_70 : Cond.constantLong RX9 70 (4) ∈ WTb := (WT_mem (t4_in (List.mem_of_getElem? (i := 230) rfl)) rfl)
theorem kc_X9_86 : Cond.constant RX9 86 (-100000002) ∈ WTb := (WT_mem (t5_in (List.mem_of_getElem? (i := 15) rfl)) rfl)
theorem fl_X9_34 : FL RX9 34 9 9 := ⟨_, rfl, by decide, (WT_mem (t4_in (List.mem_of_getElem? (i := 170) rfl)) rfl)⟩
theorem fp_X9_224 : FP RX9 224 9 10 .int := ⟨_, rfl, by decide, (WT_mem (t4_in (List.mem_of_getElem? (i := 171) rfl)) rfl), rfl, by decide +kernel⟩
theorem fl_X9_19 : FL RX9 19 9 4 := ⟨_, rfl, by decide, (WT_mem (t4_in (List.mem_of_getElem? (i := 165) rfl)) rfl)⟩
theorem lk_X9_170 : LnkV RX9 170 Y_X9_isAhead 2 := ⟨lc_X9_isAhead, (WT_mem (t5_in (List.mem_of_getElem? (i := 176) rfl)) rfl), (WT_mem (t5_in (List.mem_of_getElem? (i := 178) rfl)) rfl), (WT_mem (pv_in (List.mem_of_getElem? (i := 44) rfl)) rfl)⟩
theorem lk_X9_257 : LnkV RX9 257 Y_X9_isWord 1 := ⟨lc_X9_isWord, (WT_mem (t6_in (List.mem_of_getElem? (i := 97) rfl)) rfl), (WT_mem (t6_in (List.mem_of_getElem? (i := 99) rfl)) rfl), (WT_mem (pv_in (List.mem_of_getElem? (i := 60) rfl)) rfl)⟩
theorem lk_X9_261 : LnkV RX9 261 Y_X9_token 0 := ⟨lc_X9_token, (WT_mem (t6_in (List.mem_of_getElem? (i := 80) rfl)) rfl), (WT_mem (t6_in (List.mem_of_getElem? (i := 82) rfl)) rfl), (WT_mem (pv_in (List.mem_of_getElem? (i := 56) rfl)) rfl)⟩
theorem lk_X9_287 : LnkV RX9 287 Y_X9_number 2 := ⟨lc_X9_number, (WT_mem (t6_in (List.mem_of_getElem? (i := 111) rfl)) rfl), (WT_mem (t6_in (List.mem_of_getElem? (i := 113) rfl)) rfl), (WT_mem (pv_in (List.mem_of_getElem? (i := 62) rfl)) rfl)⟩
theorem lk_X9_290 : LnkV RX9 290 Y_X9_takes_ 1 := ⟨lc_X9_takes_, (WT_mem (t6_in (List.mem_of_getElem? (i := 116) rfl)) rfl), (WT_mem (t6_in (List.mem_of_getElem? (i := 118) rfl)) rfl), (WT_mem (pv_in (List.mem_of_getElem? (i := 63) rfl)) rfl)⟩
theorem fl_X9_244 : FL RX9 244 9 15 := ⟨_, rfl, by decide, (WT_mem (t4_in (List.mem_of_getElem? (i := 176) rfl)) rfl)⟩
theorem lk_X9_216 : LnkV RX9 216 Y_X9_droppingAs 5 := ⟨lc_X9_droppingAs, (WT_mem (t6_in (List.mem_of_getElem? (i := 47) rfl)) rfl), (WT_mem (t6_in (List.mem_of_getElem? (i := 49) rfl)) rfl), (WT_mem (pv_in (List.mem_of_getElem? (i := 54) rfl)) rfl)⟩
theorem lk_X9_126 : LnkV RX9 126 Y_X9_isHome 1 := ⟨lc_X9_isHome, (WT_mem (t5_in (List.mem_of_getElem? (i := 93) rfl)) rfl), (WT_mem (t5_in (List.mem_of_getElem? (i := 95) rfl)) rfl), (WT_mem (pv_in (List.mem_of_getElem? (i := 32) rfl)) rfl)⟩
theorem fl_X9_13 : FL RX9 13 9 1 := ⟨_, rfl, by decide, (WT_mem (t4_in (List.mem_of_getElem? (i := 162) rfl)) rfl)⟩
theorem fl_X9_328 : FL RX9 328 9 3 := ⟨_, rfl, by decide, (WT_mem (t4_in (List.mem_of_getElem? (i := 164) rfl)) rfl)⟩
theorem fp_X9_328 : FP RX9 328 9 3 .boolean := ⟨_, rfl, by decide, (WT_mem (t4_in (List.mem_of_getElem? (i := 164) rfl)) rfl), rfl, by decide +kernel⟩
theorem kc_X9_60 : Cond.constantLong RX9 60 (6) ∈ WTb := (WT_mem (t5_in (List.mem_of_getElem? (i := 12) rfl)) rfl)
theorem kc_X9_101 : Cond.constantLong RX9 101 (3) ∈ WTb := (WT_mem (t5_in (List.mem_of_getElem? (i := 49) rfl)) rfl)
theorem kc_X9_84 : Cond.constantLong RX9 84 (5) ∈ WTb := (WT_mem (t5_in (List.mem_of_getElem? (i := 14) rfl)) rfl)
theorem kc_X9_99 : Cond.constantLong RX9 99 (30) ∈ WTb := (WT_mem (t5_in (List.mem_of_getElem? (i := 48) rfl)) rfl)
theorem fl_X9_241 : FL RX9 241 9 11 := ⟨_, rfl, by decide, (WT_mem (t4_in (List.mem_of_getElem? (i := 172) rfl)) rfl)⟩
theorem fl_X9_231 : FL RX9 231 9 12 := ⟨_, rfl, by decide, (WT_mem (t4_in (List.mem_of_getElem? (i := 173) rfl)) rfl)⟩
theorem fl_X9_228 : FL RX9 228 9 13 := ⟨_, rfl, by decide, (WT_mem (t4_in (List.mem_of_getElem? (i := 174) rfl)) rfl)⟩
theorem lk_X9_248 : LnkV RX9 248 Y_J0_length_8abf5 0 := ⟨lc_J0_length_8abf5, (WT_mem (t6_in (List.mem_of_getElem? (i := 101) rfl)) rfl), (WT_mem (t3_in (List.mem_of_getElem? (i := 211) rfl)) rfl), (WT_mem (t3_in (List.mem_of_getElem? (i := 212) rfl)) rfl)⟩
theorem lk_X9_253 : LnkV RX9 253 Y_J0_charAt_5068e 1 := ⟨lc_J0_charAt_5068e, (WT_mem (t6_in (List.mem_of_getElem? (i := 102) rfl)) rfl), (WT_mem (t3_in (List.mem_of_getElem? (i := 221) rfl)) rfl), (WT_mem (t3_in (List.mem_of_getElem? (i := 222) rfl)) rfl)⟩
theorem kc_X9_52 : Cond.constantLong RX9 52 (29) ∈ WTb := (WT_mem (t4_in (List.mem_of_getElem? (i := 226) rfl)) rfl)
theorem lk_X9_298 : LnkV RX9 298 Y_X9_groundHere 0 := ⟨lc_X9_groundHere, (WT_mem (t6_in (List.mem_of_getElem? (i := 92) rfl)) rfl), (WT_mem (t6_in (List.mem_of_getElem? (i := 94) rfl)) rfl), (WT_mem (pv_in (List.mem_of_getElem? (i := 59) rfl)) rfl)⟩
theorem lk_X9_301 : LnkV RX9 301 Y_X9_groundItem 1 := ⟨lc_X9_groundItem, (WT_mem (t6_in (List.mem_of_getElem? (i := 107) rfl)) rfl), (WT_mem (t6_in (List.mem_of_getElem? (i := 109) rfl)) rfl), (WT_mem (pv_in (List.mem_of_getElem? (i := 61) rfl)) rfl)⟩
theorem lk_X9_307 : LnkV RX9 307 Y_X9_kindHere 0 := ⟨lc_X9_kindHere, (WT_mem (t6_in (List.mem_of_getElem? (i := 121) rfl)) rfl), (WT_mem (t6_in (List.mem_of_getElem? (i := 123) rfl)) rfl), (WT_mem (pv_in (List.mem_of_getElem? (i := 64) rfl)) rfl)⟩
theorem lk_X9_310 : LnkV RX9 310 Y_X9_runnerItem 1 := ⟨lc_X9_runnerItem, (WT_mem (t6_in (List.mem_of_getElem? (i := 132) rfl)) rfl), (WT_mem (t6_in (List.mem_of_getElem? (i := 134) rfl)) rfl), (WT_mem (pv_in (List.mem_of_getElem? (i := 65) rfl)) rfl)⟩
theorem lk_X9_149 : LnkV RX9 149 Y_X9_step 1 := ⟨lc_X9_step, (WT_mem (t5_in (List.mem_of_getElem? (i := 133) rfl)) rfl), (WT_mem (t5_in (List.mem_of_getElem? (i := 135) rfl)) rfl), (WT_mem (pv_in (List.mem_of_getElem? (i := 38) rfl)) rfl)⟩
theorem lk_X9_208 : LnkV RX9 208 Y_X9_isTeam 1 := ⟨lc_X9_isTeam, (WT_mem (t6_in (List.mem_of_getElem? (i := 30) rfl)) rfl), (WT_mem (t6_in (List.mem_of_getElem? (i := 32) rfl)) rfl), (WT_mem (pv_in (List.mem_of_getElem? (i := 52) rfl)) rfl)⟩
theorem kc_X9_214 : Cond.constantLong RX9 214 (2) ∈ WTb := (WT_mem (t6_in (List.mem_of_getElem? (i := 42) rfl)) rfl)
theorem lk_X9_211 : LnkV RX9 211 Y_X9_bestTeam 1 := ⟨lc_X9_bestTeam, (WT_mem (t6_in (List.mem_of_getElem? (i := 34) rfl)) rfl), (WT_mem (t6_in (List.mem_of_getElem? (i := 36) rfl)) rfl), (WT_mem (pv_in (List.mem_of_getElem? (i := 53) rfl)) rfl)⟩
theorem lk_X9_107 : LnkS RX9 107 Y_X9_isPace 1 := ⟨lc_X9_isPace, (WT_mem (t5_in (List.mem_of_getElem? (i := 54) rfl)) rfl), (WT_mem (t5_in (List.mem_of_getElem? (i := 55) rfl)) rfl)⟩
theorem lk_X9_110 : LnkV RX9 110 Y_X9_paceAt 2 := ⟨lc_X9_paceAt, (WT_mem (t5_in (List.mem_of_getElem? (i := 61) rfl)) rfl), (WT_mem (t5_in (List.mem_of_getElem? (i := 63) rfl)) rfl), (WT_mem (pv_in (List.mem_of_getElem? (i := 27) rfl)) rfl)⟩
theorem lk_X9_193 : LnkV RX9 193 Y_X9_behind 4 := ⟨lc_X9_behind, (WT_mem (t5_in (List.mem_of_getElem? (i := 221) rfl)) rfl), (WT_mem (t5_in (List.mem_of_getElem? (i := 223) rfl)) rfl), (WT_mem (pv_in (List.mem_of_getElem? (i := 50) rfl)) rfl)⟩
theorem lk_X9_131 : LnkV RX9 131 Y_X9_nervesOf 1 := ⟨lc_X9_nervesOf, (WT_mem (t5_in (List.mem_of_getElem? (i := 102) rfl)) rfl), (WT_mem (t5_in (List.mem_of_getElem? (i := 104) rfl)) rfl), (WT_mem (pv_in (List.mem_of_getElem? (i := 34) rfl)) rfl)⟩
theorem kc_X9_129 : Cond.constantLong RX9 129 (-1) ∈ WTb := (WT_mem (t5_in (List.mem_of_getElem? (i := 106) rfl)) rfl)
theorem kc_X9_134 : Cond.constant RX9 134 (-100000005) ∈ WTb := (WT_mem (t5_in (List.mem_of_getElem? (i := 97) rfl)) rfl)
theorem lk_X9_135 : LnkV RX9 135 Y_X9_oddsNow 1 := ⟨lc_X9_oddsNow, (WT_mem (t5_in (List.mem_of_getElem? (i := 98) rfl)) rfl), (WT_mem (t5_in (List.mem_of_getElem? (i := 100) rfl)) rfl), (WT_mem (pv_in (List.mem_of_getElem? (i := 33) rfl)) rfl)⟩
theorem fl_X9_238 : FL RX9 238 9 14 := ⟨_, rfl, by decide, (WT_mem (t4_in (List.mem_of_getElem? (i := 175) rfl)) rfl)⟩
theorem fp_X9_244 : FP RX9 244 9 15 .boolean := ⟨_, rfl, by decide, (WT_mem (t4_in (List.mem_of_getElem? (i := 176) rfl)) rfl), rfl, by decide +kernel⟩
theorem lk_X9_113 : LnkV RX9 113 Y_X9_rocks 2 := ⟨lc_X9_rocks, (WT_mem (t5_in (List.mem_of_getElem? (i := 73) rfl)) rfl), (WT_mem (t5_in (List.mem_of_getElem? (i := 75) rfl)) rfl), (WT_mem (pv_in (List.mem_of_getElem? (i := 29) rfl)) rfl)⟩
theorem lk_X9_116 : LnkV RX9 116 Y_X9_hurts 2 := ⟨lc_X9_hurts, (WT_mem (t5_in (List.mem_of_getElem? (i := 85) rfl)) rfl), (WT_mem (t5_in (List.mem_of_getElem? (i := 87) rfl)) rfl), (WT_mem (pv_in (List.mem_of_getElem? (i := 31) rfl)) rfl)⟩
theorem lk_X9_96 : LnkV RX9 96 Y_X9_holds 1 := ⟨lc_X9_holds, (WT_mem (t5_in (List.mem_of_getElem? (i := 37) rfl)) rfl), (WT_mem (t5_in (List.mem_of_getElem? (i := 39) rfl)) rfl), (WT_mem (pv_in (List.mem_of_getElem? (i := 26) rfl)) rfl)⟩
theorem kc_X9_94 : Cond.constantLong RX9 94 (7) ∈ WTb := (WT_mem (t5_in (List.mem_of_getElem? (i := 32) rfl)) rfl)
theorem kc_X9_47 : Cond.constant RX9 47 (-100000004) ∈ WTb := (WT_mem (t5_in (List.mem_of_getElem? (i := 123) rfl)) rfl)
theorem kc_X9_75 : Cond.constantLong RX9 75 (99) ∈ WTb := (WT_mem (t5_in (List.mem_of_getElem? (i := 4) rfl)) rfl)
theorem lk_X9_173 : LnkV RX9 173 Y_X9_allGoHome 0 := ⟨lc_X9_allGoHome, (WT_mem (t5_in (List.mem_of_getElem? (i := 168) rfl)) rfl), (WT_mem (t5_in (List.mem_of_getElem? (i := 170) rfl)) rfl), (WT_mem (pv_in (List.mem_of_getElem? (i := 42) rfl)) rfl)⟩
theorem kc_X9_219 : Cond.constantLong RX9 219 (12) ∈ WTb := (WT_mem (t6_in (List.mem_of_getElem? (i := 59) rfl)) rfl)
theorem lk_X9_146 : LnkV RX9 146 Y_X9_draw 0 := ⟨lc_X9_draw, (WT_mem (t5_in (List.mem_of_getElem? (i := 137) rfl)) rfl), (WT_mem (t5_in (List.mem_of_getElem? (i := 139) rfl)) rfl), (WT_mem (pv_in (List.mem_of_getElem? (i := 39) rfl)) rfl)⟩
theorem lk_X9_87 : LnkV RX9 87 Y_X9_comes 4 := ⟨lc_X9_comes, (WT_mem (t5_in (List.mem_of_getElem? (i := 16) rfl)) rfl), (WT_mem (t5_in (List.mem_of_getElem? (i := 18) rfl)) rfl), (WT_mem (pv_in (List.mem_of_getElem? (i := 22) rfl)) rfl)⟩
theorem kc_X9_327 : Cond.constant RX9 327 (-100000007) ∈ WTb := (WT_mem (t6_in (List.mem_of_getElem? (i := 163) rfl)) rfl)
theorem lk_X9_163 : LnkV RX9 163 Y_X9_starts 0 := ⟨lc_X9_starts, (WT_mem (t5_in (List.mem_of_getElem? (i := 153) rfl)) rfl), (WT_mem (t5_in (List.mem_of_getElem? (i := 155) rfl)) rfl), (WT_mem (pv_in (List.mem_of_getElem? (i := 41) rfl)) rfl)⟩
theorem fp_X9_228 : FP RX9 228 9 13 .int := ⟨_, rfl, by decide, (WT_mem (t4_in (List.mem_of_getElem? (i := 174) rfl)) rfl), rfl, by decide +kernel⟩
theorem lk_X9_313 : LnkV RX9 313 Y_X9_item 0 := ⟨lc_X9_item, (WT_mem (t6_in (List.mem_of_getElem? (i := 88) rfl)) rfl), (WT_mem (t6_in (List.mem_of_getElem? (i := 90) rfl)) rfl), (WT_mem (pv_in (List.mem_of_getElem? (i := 58) rfl)) rfl)⟩
theorem lk_X9_316 : LnkV RX9 316 Y_X9_isSign 1 := ⟨lc_X9_isSign, (WT_mem (t6_in (List.mem_of_getElem? (i := 139) rfl)) rfl), (WT_mem (t6_in (List.mem_of_getElem? (i := 141) rfl)) rfl), (WT_mem (pv_in (List.mem_of_getElem? (i := 66) rfl)) rfl)⟩
theorem fp_X9_231 : FP RX9 231 9 12 .int := ⟨_, rfl, by decide, (WT_mem (t4_in (List.mem_of_getElem? (i := 173) rfl)) rfl), rfl, by decide +kernel⟩
theorem lk_X9_234 : LnkV RX9 234 Y_X9_isByte 3 := ⟨lc_X9_isByte, (WT_mem (t6_in (List.mem_of_getElem? (i := 84) rfl)) rfl), (WT_mem (t6_in (List.mem_of_getElem? (i := 86) rfl)) rfl), (WT_mem (pv_in (List.mem_of_getElem? (i := 57) rfl)) rfl)⟩
theorem fp_X9_238 : FP RX9 238 9 14 .int := ⟨_, rfl, by decide, (WT_mem (t4_in (List.mem_of_getElem? (i := 175) rfl)) rfl), rfl, by decide +kernel⟩
theorem fp_X9_241 : FP RX9 241 9 11 .int := ⟨_, rfl, by decide, (WT_mem (t4_in (List.mem_of_getElem? (i := 172) rfl)) rfl), rfl, by decide +kernel⟩
theorem lk_X9_176 : LnkV RX9 176 Y_X9_firstHome 0 := ⟨lc_X9_firstHome, (WT_mem (t5_in (List.mem_of_getElem? (i := 172) rfl)) rfl), (WT_mem (t5_in (List.mem_of_getElem? (i := 174) rfl)) rfl), (WT_mem (pv_in (List.mem_of_getElem? (i := 43) rfl)) rfl)⟩
theorem kc_X9_179 : Cond.constantLong RX9 179 (10) ∈ WTb := (WT_mem (t5_in (List.mem_of_getElem? (i := 188) rfl)) rfl)
