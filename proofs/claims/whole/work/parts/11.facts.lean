abbrev miX0_isUnder : Mi := (yX0_isUnder, cX0_isUnder, 2, (some .boolean))
abbrev miX0_leak : Mi := (yX0_leak, cX0_leak, 4, (some .int))
abbrev miX0_lift : Mi := (yX0_lift, cX0_lift, 4, (some .int))
abbrev miX7_began : Mi := (yX7_began, cX7_began, 2, none)
abbrev miX0_rolls : Mi := (yX0_rolls, cX0_rolls, 3, (some .int))
abbrev miX1_rolls : Mi := (yX1_rolls, cX1_rolls, 3, (some .int))
abbrev miX9_rolls : Mi := (yX9_rolls, cX9_rolls, 3, (some .int))
abbrev miX0_seeps : Mi := (yX0_seeps, cX0_seeps, 3, (some .int))
abbrev miX0_hoops : Mi := (yX0_hoops, cX0_hoops, 4, (some .int))
abbrev miX4_hoops : Mi := (yX4_hoops, cX4_hoops, 3, (some .int))
abbrev miX2_hoops : Mi := (yX2_hoops, cX2_hoops, 3, (some .int))
abbrev miX2_seeps : Mi := (yX2_seeps, cX2_seeps, 3, (some .int))
abbrev miX8_seeps : Mi := (yX8_seeps, cX8_seeps, 3, (some .int))
abbrev miX0_floods : Mi := (yX0_floods, cX0_floods, 3, (some .int))
abbrev miX8_leak : Mi := (yX8_leak, cX8_leak, 4, (some .int))
abbrev miX1_leak : Mi := (yX1_leak, cX1_leak, 4, (some .int))
abbrev miX8_lift : Mi := (yX8_lift, cX8_lift, 4, (some .int))
abbrev miX1_lift : Mi := (yX1_lift, cX1_lift, 4, (some .int))
abbrev miX1_floods : Mi := (yX1_floods, cX1_floods, 3, (some .int))
abbrev miX4_leak : Mi := (yX4_leak, cX4_leak, 4, (some .int))
abbrev miX2_leak : Mi := (yX2_leak, cX2_leak, 4, (some .int))
abbrev miX4_lift : Mi := (yX4_lift, cX4_lift, 4, (some .int))
abbrev miX2_lift : Mi := (yX2_lift, cX2_lift, 4, (some .int))
abbrev miX3_take : Mi := (yX3_take, cX3_take, 3, none)
abbrev miX3_isStaked : Mi := (yX3_isStaked, cX3_isStaked, 2, (some .boolean))
abbrev miX3_putStaked : Mi := (yX3_putStaked, cX3_putStaked, 4, (some .int))
abbrev miX5_lengthOf : Mi := (yX5_lengthOf, cX5_lengthOf, 2, (some .int))
abbrev miX5_begin : Mi := (yX5_begin, cX5_begin, 2, none)
abbrev miX10_waterAt : Mi := (yX10_waterAt, cX10_waterAt, 2, (some .int))
abbrev miX10_saltAt : Mi := (yX10_saltAt, cX10_saltAt, 2, (some .int))
abbrev miX10_bung : Mi := (yX10_bung, cX10_bung, 3, (some .int))
abbrev miX10_has : Mi := (yX10_has, cX10_has, 2, (some .boolean))
abbrev miX10_riseAt : Mi := (yX10_riseAt, cX10_riseAt, 2, (some .int))
abbrev miX10_stakedIn : Mi := (yX10_stakedIn, cX10_stakedIn, 5, (some .int))
abbrev miX9_leak : Mi := (yX9_leak, cX9_leak, 4, (some .int))
abbrev miX10_leaks : Mi := (yX10_leaks, cX10_leaks, 4, (some .int))
abbrev miX9_lift : Mi := (yX9_lift, cX9_lift, 4, (some .int))
abbrev miX10_pays : Mi := (yX10_pays, cX10_pays, 5, (some .int))
abbrev miX6_compares : Mi := (yX6_compares, cX6_compares, 5, (some .boolean))
abbrev miX6_holds : Mi := (yX6_holds, cX6_holds, 5, (some .boolean))
abbrev miX6_willOf : Mi := (yX6_willOf, cX6_willOf, 6, (some .int))
abbrev miX10_will : Mi := (yX10_will, cX10_will, 3, (some .int))
abbrev miX10_pass : Mi := (yX10_pass, cX10_pass, 8, (some .int))
abbrev miX5_weigh : Mi := (yX5_weigh, cX5_weigh, 5, none)
abbrev miX5_tryAll : Mi := (yX5_tryAll, cX5_tryAll, 7, none)
abbrev miX5_lookAhead : Mi := (yX5_lookAhead, cX5_lookAhead, 3, none)
abbrev miX5_valueFrom : Mi := (yX5_valueFrom, cX5_valueFrom, 8, (some .int))
abbrev miX5_gameOf : Mi := (yX5_gameOf, cX5_gameOf, 2, (some .int))
abbrev miX6_take : Mi := (yX6_take, cX6_take, 2, none)
abbrev miX6_isDigit : Mi := (yX6_isDigit, cX6_isDigit, 1, (some .boolean))
abbrev miX6_isLetter : Mi := (yX6_isLetter, cX6_isLetter, 1, (some .boolean))
abbrev miX6_endOf : Mi := (yX6_endOf, cX6_endOf, 5, (some .int))
abbrev miJ0_isLatin1_aae02 : Mi := (yJ0_isLatin1_aae02, cJ0_isLatin1_aae02, 1, (some .boolean))
abbrev miJ3_checkIndex_8e157 : Mi := (yJ3_checkIndex_8e157, cJ3_checkIndex_8e157, 3, (some .int))
abbrev miJ0_checkIndex_df160 : Mi := (yJ0_checkIndex_df160, cJ0_checkIndex_df160, 2, none)
abbrev miJ1_charAt_3b067 : Mi := (yJ1_charAt_3b067, cJ1_charAt_3b067, 2, (some .char))
abbrev miJ0_charAt_5068e : Mi := (yJ0_charAt_5068e, cJ0_charAt_5068e, 2, (some .char))
abbrev miJ0_coder_7d493 : Mi := (yJ0_coder_7d493, cJ0_coder_7d493, 1, (some .byte))
abbrev miJ0_length_8abf5 : Mi := (yJ0_length_8abf5, cJ0_length_8abf5, 1, (some .int))
abbrev miX6_isWordAt : Mi := (yX6_isWordAt, cX6_isWordAt, 5, (some .boolean))
abbrev miX6_wordOf : Mi := (yX6_wordOf, cX6_wordOf, 6, (some .int))
abbrev miX6_tokenOf : Mi := (yX6_tokenOf, cX6_tokenOf, 5, (some .int))
abbrev miX6_part : Mi := (yX6_part, cX6_part, 7, none)
abbrev miX6_expect : Mi := (yX6_expect, cX6_expect, 4, (some .int))
abbrev miX6_emit : Mi := (yX6_emit, cX6_emit, 2, none)
abbrev miX6_readValue : Mi := (yX6_readValue, cX6_readValue, 1, (some .int))
abbrev miX6_readOne : Mi := (yX6_readOne, cX6_readOne, 6, none)
abbrev miX6_readAll : Mi := (yX6_readAll, cX6_readAll, 3, none)
abbrev miX6_readCondition : Mi := (yX6_readCondition, cX6_readCondition, 3, none)
abbrev miX6_readRule : Mi := (yX6_readRule, cX6_readRule, 3, none)
abbrev miX6_read : Mi := (yX6_read, cX6_read, 4, (some .int))
abbrev miX7_clear : Mi := (yX7_clear, cX7_clear, 1, none)
abbrev miX10_copy : Mi := (yX10_copy, cX10_copy, 2, none)
abbrev miX10_take : Mi := (yX10_take, cX10_take, 2, none)
abbrev miX10_isOver : Mi := (yX10_isOver, cX10_isOver, 2, (some .boolean))
abbrev miX10_allFill : Mi := (yX10_allFill, cX10_allFill, 4, (some .int))
abbrev miX10_floatsOf : Mi := (yX10_floatsOf, cX10_floatsOf, 3, (some .int))
abbrev miX10_may : Mi := (yX10_may, cX10_may, 3, (some .boolean))
abbrev miX10_restAct : Mi := (yX10_restAct, cX10_restAct, 3, (some .int))
abbrev miX10_rest : Mi := (yX10_rest, cX10_rest, 5, (some .int))
abbrev miX10_isCloseToAny : Mi := (yX10_isCloseToAny, cX10_isCloseToAny, 5, (some .boolean))
abbrev miX10_loneKind : Mi := (yX10_loneKind, cX10_loneKind, 1, (some .int))
abbrev miX10_loneChalk : Mi := (yX10_loneChalk, cX10_loneChalk, 1, (some .int))
abbrev miX10_loneFill : Mi := (yX10_loneFill, cX10_loneFill, 1, (some .int))
abbrev miX10_deniedBehind : Mi := (yX10_deniedBehind, cX10_deniedBehind, 7, (some .int))
abbrev miX10_lastReported : Mi := (yX10_lastReported, cX10_lastReported, 3, (some .int))
abbrev miX10_denied : Mi := (yX10_denied, cX10_denied, 9, (some .int))
abbrev miX11_within : Mi := (yX11_within, cX11_within, 3, (some .boolean))
abbrev miX11_barrel : Mi := (yX11_barrel, cX11_barrel, 6, (some .int))
abbrev miX11_barrelOf : Mi := (yX11_barrelOf, cX11_barrelOf, 4, (some .int))
abbrev miX11_put : Mi := (yX11_put, cX11_put, 4, (some .int))
abbrev miX11_change : Mi := (yX11_change, cX11_change, 5, (some .int))
abbrev miX11_remake : Mi := (yX11_remake, cX11_remake, 3, (some .int))
abbrev miX11_water : Mi := (yX11_water, cX11_water, 3, (some .int))
abbrev miX11_tier : Mi := (yX11_tier, cX11_tier, 4, (some .int))
abbrev miX11_tierOf : Mi := (yX11_tierOf, cX11_tierOf, 3, (some .int))
abbrev miX11_ends : Mi := (yX11_ends, cX11_ends, 3, (some .int))
abbrev miX11_anew : Mi := (yX11_anew, cX11_anew, 2, (some .int))
abbrev miX11_state : Mi := (yX11_state, cX11_state, 3, (some .int))
abbrev miX11_feed : Mi := (yX11_feed, cX11_feed, 5, (some .int))
abbrev miX11_rules : Mi := (yX11_rules, cX11_rules, 2, (some .int))
abbrev miX11_goBy : Mi := (yX11_goBy, cX11_goBy, 3, (some .int))
abbrev miX11_tide : Mi := (yX11_tide, cX11_tide, 1, (some .int))
abbrev miX11_on : Mi := (yX11_on, cX11_on, 2, (some .int))
abbrev miX11_when : Mi := (yX11_when, cX11_when, 3, (some .int))
abbrev miX11_chalkFor : Mi := (yX11_chalkFor, cX11_chalkFor, 6, (some .int))
abbrev miX11_tierFor : Mi := (yX11_tierFor, cX11_tierFor, 7, (some .int))
abbrev miX11_dry : Mi := (yX11_dry, cX11_dry, 3, (some .int))
abbrev miX11_least : Mi := (yX11_least, cX11_least, 6, (some .int))
abbrev miX11_left : Mi := (yX11_left, cX11_left, 3, (some .int))
abbrev miX11_raftOf : Mi := (yX11_raftOf, cX11_raftOf, 5, (some .int))
abbrev miX11_countRafts : Mi := (yX11_countRafts, cX11_countRafts, 4, (some .int))
abbrev miX11_rafts : Mi := (yX11_rafts, cX11_rafts, 2, (some .int))
abbrev miX11_best : Mi := (yX11_best, cX11_best, 2, (some .int))
abbrev miX11_ith : Mi := (yX11_ith, cX11_ith, 3, (some .int))
abbrev miX11_ways : Mi := (yX11_ways, cX11_ways, 2, (some .int))
abbrev miX11_isSetOfBarrels : Mi := (yX11_isSetOfBarrels, cX11_isSetOfBarrels, 2, (some .boolean))
abbrev miX11_chart : Mi := (yX11_chart, cX11_chart, 3, (some .int))
abbrev miJ6_numberOfTrailingZeros_0f7a4 : Mi := (yJ6_numberOfTrailingZeros_0f7a4, cJ6_numberOfTrailingZeros_0f7a4, 2, (some .int))
abbrev miX11_bars : Mi := (yX11_bars, cX11_bars, 4, (some .int))
abbrev miX11_game : Mi := (yX11_game, cX11_game, 2, (some .int))
abbrev miX11_play : Mi := (yX11_play, cX11_play, 2, (some .int))
abbrev miX11_report : Mi := (yX11_report, cX11_report, 7, (some .int))
abbrev miX11_forget : Mi := (yX11_forget, cX11_forget, 2, (some .int))
abbrev miX11_lone : Mi := (yX11_lone, cX11_lone, 4, (some .int))
abbrev miJ6_bitCount_0f7a4 : Mi := (yJ6_bitCount_0f7a4, cJ6_bitCount_0f7a4, 1, (some .int))
abbrev miX11_liar : Mi := (yX11_liar, cX11_liar, 4, (some .int))
abbrev miX11_seed : Mi := (yX11_seed, cX11_seed, 3, (some .int))
abbrev miX11_actByLot : Mi := (yX11_actByLot, cX11_actByLot, 2, (some .int))
abbrev miX11_nextLot : Mi := (yX11_nextLot, cX11_nextLot, 1, (some .int))
abbrev miX11_lot : Mi := (yX11_lot, cX11_lot, 1, (some .int))
abbrev miX11_times : Mi := (yX11_times, cX11_times, 8, (some .int))
abbrev miX11_prove : Mi := (yX11_prove, cX11_prove, 3, (some .int))
abbrev miX11_isRowField : Mi := (yX11_isRowField, cX11_isRowField, 3, (some .boolean))
abbrev miX11_row : Mi := (yX11_row, cX11_row, 3, (some .int))
abbrev miX11_alterRow : Mi := (yX11_alterRow, cX11_alterRow, 4, (some .int))
abbrev miX11_isAct : Mi := (yX11_isAct, cX11_isAct, 2, (some .boolean))
abbrev miX11_judge : Mi := (yX11_judge, cX11_judge, 4, (some .int))
abbrev miX11_isSheet : Mi := (yX11_isSheet, cX11_isSheet, 1, (some .boolean))
abbrev miX11_sheet : Mi := (yX11_sheet, cX11_sheet, 5, (some .int))
abbrev miX11_narrowed : Mi := (yX11_narrowed, cX11_narrowed, 2, (some .int))
abbrev miX11_write : Mi := (yX11_write, cX11_write, 4, (some .int))
abbrev miX11_refusalAs : Mi := (yX11_refusalAs, cX11_refusalAs, 3, (some .int))
abbrev miX11_item : Mi := (yX11_item, cX11_item, 5, (some .int))
abbrev miX11_goAll : Mi := (yX11_goAll, cX11_goAll, 8, (some .int))
abbrev miX11_wouldBe : Mi := (yX11_wouldBe, cX11_wouldBe, 8, (some .int))
abbrev miX11_isShelf : Mi := (yX11_isShelf, cX11_isShelf, 1, (some .boolean))
abbrev miX11_place : Mi := (yX11_place, cX11_place, 5, (some .int))
abbrev miX11_placeRow : Mi := (yX11_placeRow, cX11_placeRow, 3, (some .int))
abbrev miX11_shelf : Mi := (yX11_shelf, cX11_shelf, 4, (some .int))
abbrev miX11_holdsNothing : Mi := (yX11_holdsNothing, cX11_holdsNothing, 2, (some .boolean))
abbrev miX11_taken : Mi := (yX11_taken, cX11_taken, 6, (some .int))
abbrev miX11_act : Mi := (yX11_act, cX11_act, 7, (some .int))
abbrev miX11_trace : Mi := (yX11_trace, cX11_trace, 2, (some .int))
abbrev miX11_many : Mi := (yX11_many, cX11_many, 2, (some .int))
abbrev miX11_keep : Mi := (yX11_keep, cX11_keep, 1, (some .int))
abbrev miX11_again : Mi := (yX11_again, cX11_again, 1, (some .int))
abbrev miX12_in : Mi := (yX12_in, cX12_in, 6, (some .boolean))
abbrev miX12_held : Mi := (yX12_held, cX12_held, 3, (some .int))
abbrev miX12_ones : Mi := (yX12_ones, cX12_ones, 3, (some .int))
abbrev miX12_isBarrel : Mi := (yX12_isBarrel, cX12_isBarrel, 2, (some .boolean))
abbrev miX12_of : Mi := (yX12_of, cX12_of, 3, (some .int))
abbrev miX12_sets : Mi := (yX12_sets, cX12_sets, 4, none)
abbrev miX12_becomes : Mi := (yX12_becomes, cX12_becomes, 4, (some .int))
abbrev miX12_puts : Mi := (yX12_puts, cX12_puts, 2, none)
abbrev miX12_back : Mi := (yX12_back, cX12_back, 2, none)
abbrev miX12_takes : Mi := (yX12_takes, cX12_takes, 1, none)
abbrev miX12_isOver : Mi := (yX12_isOver, cX12_isOver, 1, (some .boolean))
abbrev miX12_waterOf : Mi := (yX12_waterOf, cX12_waterOf, 2, (some .int))
abbrev miX12_rise : Mi := (yX12_rise, cX12_rise, 1, (some .int))
abbrev miX12_salt : Mi := (yX12_salt, cX12_salt, 1, (some .int))
abbrev miX12_above : Mi := (yX12_above, cX12_above, 1, (some .int))
abbrev miX12_leaksBy : Mi := (yX12_leaksBy, cX12_leaksBy, 4, (some .int))
abbrev miX12_floatsBy : Mi := (yX12_floatsBy, cX12_floatsBy, 5, (some .int))
abbrev miX12_stakedBelow : Mi := (yX12_stakedBelow, cX12_stakedBelow, 4, (some .int))
abbrev miX12_leaks : Mi := (yX12_leaks, cX12_leaks, 2, (some .int))
abbrev miX12_floats : Mi := (yX12_floats, cX12_floats, 2, (some .int))
abbrev miX12_pays : Mi := (yX12_pays, cX12_pays, 3, (some .int))
abbrev miX12_factOf : Mi := (yX12_factOf, cX12_factOf, 3, (some .int))
abbrev miX12_done : Mi := (yX12_done, cX12_done, 3, (some .int))
abbrev miX12_holds : Mi := (yX12_holds, cX12_holds, 7, (some .boolean))
abbrev miX12_will : Mi := (yX12_will, cX12_will, 4, (some .int))
abbrev miX12_isStakeable : Mi := (yX12_isStakeable, cX12_isStakeable, 2, (some .boolean))
abbrev miX12_staked : Mi := (yX12_staked, cX12_staked, 3, (some .int))
abbrev miX12_fillAll : Mi := (yX12_fillAll, cX12_fillAll, 3, (some .int))
abbrev miX12_does : Mi := (yX12_does, cX12_does, 4, (some .int))
abbrev miX12_tideGoes : Mi := (yX12_tideGoes, cX12_tideGoes, 4, (some .int))
abbrev miX12_actOfRest : Mi := (yX12_actOfRest, cX12_actOfRest, 2, (some .int))
abbrev miX12_restGoes : Mi := (yX12_restGoes, cX12_restGoes, 4, (some .int))
abbrev miX12_barrel : Mi := (yX12_barrel, cX12_barrel, 6, (some .int))
abbrev miX12_barrelOf : Mi := (yX12_barrelOf, cX12_barrelOf, 3, (some .int))
abbrev miX12_change : Mi := (yX12_change, cX12_change, 5, (some .int))
abbrev miX12_remake : Mi := (yX12_remake, cX12_remake, 3, (some .int))
abbrev miX12_water : Mi := (yX12_water, cX12_water, 3, (some .int))
abbrev miX12_tier : Mi := (yX12_tier, cX12_tier, 4, (some .int))
abbrev miX12_tierOf : Mi := (yX12_tierOf, cX12_tierOf, 3, (some .int))
abbrev miX12_ends : Mi := (yX12_ends, cX12_ends, 2, (some .int))
abbrev miX12_anew : Mi := (yX12_anew, cX12_anew, 2, (some .int))
abbrev miX12_state : Mi := (yX12_state, cX12_state, 2, (some .int))
abbrev miX12_feed : Mi := (yX12_feed, cX12_feed, 5, (some .int))
abbrev miX12_isRow : Mi := (yX12_isRow, cX12_isRow, 3, (some .boolean))
abbrev miX12_next : Mi := (yX12_next, cX12_next, 1, none)
abbrev miX12_isWord : Mi := (yX12_isWord, cX12_isWord, 3, (some .boolean))
abbrev miX12_isByte : Mi := (yX12_isByte, cX12_isByte, 2, (some .boolean))
abbrev miX12_lays : Mi := (yX12_lays, cX12_lays, 2, none)
abbrev miX12_kindHere : Mi := (yX12_kindHere, cX12_kindHere, 1, (some .int))
abbrev miX12_doHere : Mi := (yX12_doHere, cX12_doHere, 1, (some .int))
abbrev miX12_factHere : Mi := (yX12_factHere, cX12_factHere, 1, (some .int))
abbrev miX12_goesBy : Mi := (yX12_goesBy, cX12_goesBy, 2, none)
abbrev miX12_valueHere : Mi := (yX12_valueHere, cX12_valueHere, 3, none)
abbrev miX12_one : Mi := (yX12_one, cX12_one, 3, none)
abbrev miX12_both : Mi := (yX12_both, cX12_both, 1, none)
abbrev miX12_either : Mi := (yX12_either, cX12_either, 1, none)
abbrev miX12_ruleHere : Mi := (yX12_ruleHere, cX12_ruleHere, 4, none)
abbrev miX12_rules : Mi := (yX12_rules, cX12_rules, 2, (some .int))
abbrev miX12_tide : Mi := (yX12_tide, cX12_tide, 1, (some .int))
abbrev miX12_on : Mi := (yX12_on, cX12_on, 3, (some .int))
abbrev miX12_when : Mi := (yX12_when, cX12_when, 3, (some .int))
abbrev miX12_bestOf : Mi := (yX12_bestOf, cX12_bestOf, 8, (some .int))
abbrev miX12_chalkFor : Mi := (yX12_chalkFor, cX12_chalkFor, 2, (some .int))
abbrev miX12_tierFor : Mi := (yX12_tierFor, cX12_tierFor, 2, (some .int))
abbrev miX12_dry : Mi := (yX12_dry, cX12_dry, 3, (some .int))
abbrev miX12_least : Mi := (yX12_least, cX12_least, 6, (some .int))
abbrev miX12_left : Mi := (yX12_left, cX12_left, 4, (some .int))
abbrev miX12_isClose : Mi := (yX12_isClose, cX12_isClose, 3, (some .boolean))
abbrev miX12_raftOf : Mi := (yX12_raftOf, cX12_raftOf, 6, (some .int))
abbrev miX12_rafts : Mi := (yX12_rafts, cX12_rafts, 5, (some .int))
abbrev miX12_isPlan : Mi := (yX12_isPlan, cX12_isPlan, 1, (some .boolean))
abbrev miX12_longOf : Mi := (yX12_longOf, cX12_longOf, 2, (some .int))
abbrev miX12_plansOf : Mi := (yX12_plansOf, cX12_plansOf, 4, (some .int))
abbrev miX12_actsOf : Mi := (yX12_actsOf, cX12_actsOf, 5, none)
abbrev miX12_findBest : Mi := (yX12_findBest, cX12_findBest, 7, none)
abbrev miX12_best : Mi := (yX12_best, cX12_best, 2, (some .int))
abbrev miX12_ith : Mi := (yX12_ith, cX12_ith, 3, (some .int))
abbrev miX12_ways : Mi := (yX12_ways, cX12_ways, 2, (some .int))
abbrev miX12_areBarrels : Mi := (yX12_areBarrels, cX12_areBarrels, 2, (some .boolean))
abbrev miX12_findCharts : Mi := (yX12_findCharts, cX12_findCharts, 8, none)
abbrev miX12_chart : Mi := (yX12_chart, cX12_chart, 3, (some .int))
abbrev miX12_bars : Mi := (yX12_bars, cX12_bars, 4, (some .int))
abbrev miX12_valueOf : Mi := (yX12_valueOf, cX12_valueOf, 6, (some .int))
abbrev miX12_game : Mi := (yX12_game, cX12_game, 2, (some .int))
abbrev miX12_play : Mi := (yX12_play, cX12_play, 6, (some .int))
abbrev miX12_report : Mi := (yX12_report, cX12_report, 7, (some .int))
abbrev miX12_forget : Mi := (yX12_forget, cX12_forget, 1, (some .int))
abbrev miX12_fitting : Mi := (yX12_fitting, cX12_fitting, 11, (some .int))
abbrev miX12_findLone : Mi := (yX12_findLone, cX12_findLone, 5, none)
abbrev miX12_lone : Mi := (yX12_lone, cX12_lone, 2, (some .int))
abbrev miX12_liar : Mi := (yX12_liar, cX12_liar, 2, (some .int))
abbrev miX12_seed : Mi := (yX12_seed, cX12_seed, 2, (some .int))
abbrev miX12_lotGoes : Mi := (yX12_lotGoes, cX12_lotGoes, 1, (some .int))
abbrev miX12_lot : Mi := (yX12_lot, cX12_lot, 1, (some .int))
abbrev miX12_times : Mi := (yX12_times, cX12_times, 7, (some .int))
abbrev miX12_prove : Mi := (yX12_prove, cX12_prove, 3, (some .int))
abbrev miX12_row : Mi := (yX12_row, cX12_row, 3, (some .int))
abbrev miX12_alterRow : Mi := (yX12_alterRow, cX12_alterRow, 5, (some .int))
abbrev miX12_judge : Mi := (yX12_judge, cX12_judge, 4, (some .int))
abbrev miX12_isSheet : Mi := (yX12_isSheet, cX12_isSheet, 1, (some .boolean))
abbrev miX12_sheet : Mi := (yX12_sheet, cX12_sheet, 5, (some .int))
abbrev miX12_write : Mi := (yX12_write, cX12_write, 5, (some .int))
abbrev miX12_item : Mi := (yX12_item, cX12_item, 4, (some .int))
abbrev miX12_whyNoBytes : Mi := (yX12_whyNoBytes, cX12_whyNoBytes, 3, (some .int))
abbrev miX12_goAll : Mi := (yX12_goAll, cX12_goAll, 8, (some .int))
abbrev miX12_wouldBe : Mi := (yX12_wouldBe, cX12_wouldBe, 7, (some .int))
abbrev miX12_shelf : Mi := (yX12_shelf, cX12_shelf, 6, (some .int))
abbrev miX12_holdsNothing : Mi := (yX12_holdsNothing, cX12_holdsNothing, 2, (some .boolean))
abbrev miX12_taken : Mi := (yX12_taken, cX12_taken, 4, (some .int))
abbrev miX12_ran : Mi := (yX12_ran, cX12_ran, 2, none)
abbrev miX12_rollsBy : Mi := (yX12_rollsBy, cX12_rollsBy, 3, (some .int))
abbrev miX12_seepsBy : Mi := (yX12_seepsBy, cX12_seepsBy, 3, (some .int))
abbrev miX12_hoopsBy : Mi := (yX12_hoopsBy, cX12_hoopsBy, 4, (some .int))
abbrev miX12_floodsBy : Mi := (yX12_floodsBy, cX12_floodsBy, 4, (some .int))
abbrev miX12_act : Mi := (yX12_act, cX12_act, 6, (some .int))
abbrev miX12_trace : Mi := (yX12_trace, cX12_trace, 2, (some .int))
abbrev miX12_many : Mi := (yX12_many, cX12_many, 2, (some .int))
abbrev miX12_keep : Mi := (yX12_keep, cX12_keep, 2, (some .int))
abbrev miX12_again : Mi := (yX12_again, cX12_again, 2, (some .int))
theorem pn_J0 : plainName RJ0 = true := by decide +kernel
theorem pn_J1 : plainName RJ1 = true := by decide +kernel
theorem pn_J3 : plainName RJ3 = true := by decide +kernel
theorem pn_J6 : plainName RJ6 = true := by decide +kernel
theorem pn_X0 : plainName RX0 = true := by decide +kernel
theorem pn_X1 : plainName RX1 = true := by decide +kernel
theorem pn_X10 : plainName RX10 = true := by decide +kernel
theorem pn_X11 : plainName RX11 = true := by decide +kernel
theorem pn_X12 : plainName RX12 = true := by decide +kernel
theorem pn_X2 : plainName RX2 = true := by decide +kernel
theorem pn_X3 : plainName RX3 = true := by decide +kernel
theorem pn_X4 : plainName RX4 = true := by decide +kernel
theorem pn_X5 : plainName RX5 = true := by decide +kernel
theorem pn_X6 : plainName RX6 = true := by decide +kernel
theorem pn_X7 : plainName RX7 = true := by decide +kernel
theorem pn_X8 : plainName RX8 = true := by decide +kernel
theorem pn_X9 : plainName RX9 = true := by decide +kernel
set_option maxRecDepth 100000 in
theorem t_0 : Cond.selects RX10 yX10_stakedIn yX10_stakedIn ∈ tb := tb_of 0 (by decide +kernel) (by decide +kernel)
set_option maxRecDepth 100000 in
theorem t_1 : Cond.selects RX6 yX6_holds yX6_holds ∈ tb := tb_of 1 (by decide +kernel) (by decide +kernel)
set_option maxRecDepth 100000 in
theorem t_2 : Cond.selects RX6 yX6_compares yX6_compares ∈ tb := tb_of 2 (by decide +kernel) (by decide +kernel)
set_option maxRecDepth 100000 in
theorem t_3 : Cond.selects RX6 yX6_part yX6_part ∈ tb := tb_of 3 (by decide +kernel) (by decide +kernel)
set_option maxRecDepth 100000 in
theorem t_4 : Cond.selects RX6 yX6_readRule yX6_readRule ∈ tb := tb_of 4 (by decide +kernel) (by decide +kernel)
set_option maxRecDepth 100000 in
theorem t_5 : Cond.selects RX6 yX6_readCondition yX6_readCondition ∈ tb := tb_of 5 (by decide +kernel) (by decide +kernel)
set_option maxRecDepth 100000 in
theorem t_6 : Cond.selects RX6 yX6_readAll yX6_readAll ∈ tb := tb_of 6 (by decide +kernel) (by decide +kernel)
set_option maxRecDepth 100000 in
theorem t_7 : Cond.selects RX6 yX6_readOne yX6_readOne ∈ tb := tb_of 7 (by decide +kernel) (by decide +kernel)
set_option maxRecDepth 100000 in
theorem t_8 : Cond.selects RX6 yX6_readValue yX6_readValue ∈ tb := tb_of 8 (by decide +kernel) (by decide +kernel)
set_option maxRecDepth 100000 in
theorem t_9 : Cond.selects RX6 yX6_expect yX6_expect ∈ tb := tb_of 9 (by decide +kernel) (by decide +kernel)
set_option maxRecDepth 100000 in
theorem t_10 : Cond.selects RX6 yX6_emit yX6_emit ∈ tb := tb_of 10 (by decide +kernel) (by decide +kernel)
set_option maxRecDepth 100000 in
theorem t_11 : Cond.selects RX11 yX11_goBy yX11_goBy ∈ tb := tb_of 11 (by decide +kernel) (by decide +kernel)
set_option maxRecDepth 100000 in
theorem t_12 : Cond.selects RX10 yX10_bung yX10_bung ∈ tb := tb_of 12 (by decide +kernel) (by decide +kernel)
set_option maxRecDepth 100000 in
theorem t_13 : Cond.selects RX11 yX11_countRafts yX11_countRafts ∈ tb := tb_of 13 (by decide +kernel) (by decide +kernel)
set_option maxRecDepth 100000 in
theorem t_14 : Cond.selects RX11 yX11_raftOf yX11_raftOf ∈ tb := tb_of 14 (by decide +kernel) (by decide +kernel)
set_option maxRecDepth 100000 in
theorem t_15 : Cond.selects RX5 yX5_begin yX5_begin ∈ tb := tb_of 15 (by decide +kernel) (by decide +kernel)
set_option maxRecDepth 100000 in
theorem t_16 : Cond.selects RX5 yX5_tryAll yX5_tryAll ∈ tb := tb_of 16 (by decide +kernel) (by decide +kernel)
set_option maxRecDepth 100000 in
theorem t_17 : Cond.selects RX5 yX5_weigh yX5_weigh ∈ tb := tb_of 17 (by decide +kernel) (by decide +kernel)
set_option maxRecDepth 100000 in
theorem t_18 : Cond.selects RX11 yX11_isSetOfBarrels yX11_isSetOfBarrels ∈ tb := tb_of 18 (by decide +kernel) (by decide +kernel)
set_option maxRecDepth 100000 in
theorem t_19 : Cond.selects RX5 yX5_valueFrom yX5_valueFrom ∈ tb := tb_of 19 (by decide +kernel) (by decide +kernel)
set_option maxRecDepth 100000 in
theorem t_20 : Cond.selects RX10 yX10_lastReported yX10_lastReported ∈ tb := tb_of 20 (by decide +kernel) (by decide +kernel)
set_option maxRecDepth 100000 in
theorem t_21 : Cond.selects RX10 yX10_deniedBehind yX10_deniedBehind ∈ tb := tb_of 21 (by decide +kernel) (by decide +kernel)
set_option maxRecDepth 100000 in
theorem t_22 : Cond.selects RX11 yX11_actByLot yX11_actByLot ∈ tb := tb_of 22 (by decide +kernel) (by decide +kernel)
set_option maxRecDepth 100000 in
theorem t_23 : Cond.selects RX11 yX11_isRowField yX11_isRowField ∈ tb := tb_of 23 (by decide +kernel) (by decide +kernel)
set_option maxRecDepth 100000 in
theorem t_24 : Cond.selects RX11 yX11_isAct yX11_isAct ∈ tb := tb_of 24 (by decide +kernel) (by decide +kernel)
set_option maxRecDepth 100000 in
theorem t_25 : Cond.selects RX11 yX11_refusalAs yX11_refusalAs ∈ tb := tb_of 25 (by decide +kernel) (by decide +kernel)
set_option maxRecDepth 100000 in
theorem t_26 : Cond.selects RX11 yX11_place yX11_place ∈ tb := tb_of 26 (by decide +kernel) (by decide +kernel)
set_option maxRecDepth 100000 in
theorem t_27 : Cond.selects RX11 yX11_placeRow yX11_placeRow ∈ tb := tb_of 27 (by decide +kernel) (by decide +kernel)
set_option maxRecDepth 100000 in
theorem t_28 : Cond.selects RX11 yX11_holdsNothing yX11_holdsNothing ∈ tb := tb_of 28 (by decide +kernel) (by decide +kernel)
set_option maxRecDepth 100000 in
theorem t_29 : Cond.selects RX12 yX12_sets yX12_sets ∈ tb := tb_of 29 (by decide +kernel) (by decide +kernel)
set_option maxRecDepth 100000 in
theorem t_30 : Cond.selects RX12 yX12_isBarrel yX12_isBarrel ∈ tb := tb_of 30 (by decide +kernel) (by decide +kernel)
set_option maxRecDepth 100000 in
theorem t_31 : Cond.selects RX12 yX12_leaks yX12_leaks ∈ tb := tb_of 31 (by decide +kernel) (by decide +kernel)
set_option maxRecDepth 100000 in
theorem t_32 : Cond.selects RX12 yX12_of yX12_of ∈ tb := tb_of 32 (by decide +kernel) (by decide +kernel)
set_option maxRecDepth 100000 in
theorem t_33 : Cond.selects RX12 yX12_rise yX12_rise ∈ tb := tb_of 33 (by decide +kernel) (by decide +kernel)
set_option maxRecDepth 100000 in
theorem t_34 : Cond.selects RX12 yX12_waterOf yX12_waterOf ∈ tb := tb_of 34 (by decide +kernel) (by decide +kernel)
set_option maxRecDepth 100000 in
theorem t_35 : Cond.selects RX12 yX12_salt yX12_salt ∈ tb := tb_of 35 (by decide +kernel) (by decide +kernel)
set_option maxRecDepth 100000 in
theorem t_36 : Cond.selects RX12 yX12_stakedBelow yX12_stakedBelow ∈ tb := tb_of 36 (by decide +kernel) (by decide +kernel)
set_option maxRecDepth 100000 in
theorem t_37 : Cond.selects RX12 yX12_floats yX12_floats ∈ tb := tb_of 37 (by decide +kernel) (by decide +kernel)
set_option maxRecDepth 100000 in
theorem t_38 : Cond.selects RX12 yX12_pays yX12_pays ∈ tb := tb_of 38 (by decide +kernel) (by decide +kernel)
set_option maxRecDepth 100000 in
theorem t_39 : Cond.selects RX12 yX12_isStakeable yX12_isStakeable ∈ tb := tb_of 39 (by decide +kernel) (by decide +kernel)
set_option maxRecDepth 100000 in
theorem t_40 : Cond.selects RX12 yX12_will yX12_will ∈ tb := tb_of 40 (by decide +kernel) (by decide +kernel)
set_option maxRecDepth 100000 in
theorem t_41 : Cond.selects RX12 yX12_holds yX12_holds ∈ tb := tb_of 41 (by decide +kernel) (by decide +kernel)
set_option maxRecDepth 100000 in
theorem t_42 : Cond.selects RX12 yX12_factOf yX12_factOf ∈ tb := tb_of 42 (by decide +kernel) (by decide +kernel)
set_option maxRecDepth 100000 in
theorem t_43 : Cond.selects RX12 yX12_becomes yX12_becomes ∈ tb := tb_of 43 (by decide +kernel) (by decide +kernel)
set_option maxRecDepth 100000 in
theorem t_44 : Cond.selects RX12 yX12_isOver yX12_isOver ∈ tb := tb_of 44 (by decide +kernel) (by decide +kernel)
set_option maxRecDepth 100000 in
theorem t_45 : Cond.selects RX12 yX12_staked yX12_staked ∈ tb := tb_of 45 (by decide +kernel) (by decide +kernel)
set_option maxRecDepth 100000 in
theorem t_46 : Cond.selects RX12 yX12_fillAll yX12_fillAll ∈ tb := tb_of 46 (by decide +kernel) (by decide +kernel)
set_option maxRecDepth 100000 in
theorem t_47 : Cond.selects RX12 yX12_next yX12_next ∈ tb := tb_of 47 (by decide +kernel) (by decide +kernel)
set_option maxRecDepth 100000 in
theorem t_48 : Cond.selects RX12 yX12_isRow yX12_isRow ∈ tb := tb_of 48 (by decide +kernel) (by decide +kernel)
set_option maxRecDepth 100000 in
theorem t_49 : Cond.selects RX12 yX12_ruleHere yX12_ruleHere ∈ tb := tb_of 49 (by decide +kernel) (by decide +kernel)
set_option maxRecDepth 100000 in
theorem t_50 : Cond.selects RX12 yX12_kindHere yX12_kindHere ∈ tb := tb_of 50 (by decide +kernel) (by decide +kernel)
set_option maxRecDepth 100000 in
theorem t_51 : Cond.selects RX12 yX12_isWord yX12_isWord ∈ tb := tb_of 51 (by decide +kernel) (by decide +kernel)
set_option maxRecDepth 100000 in
theorem t_52 : Cond.selects RX12 yX12_goesBy yX12_goesBy ∈ tb := tb_of 52 (by decide +kernel) (by decide +kernel)
set_option maxRecDepth 100000 in
theorem t_53 : Cond.selects RX12 yX12_either yX12_either ∈ tb := tb_of 53 (by decide +kernel) (by decide +kernel)
set_option maxRecDepth 100000 in
theorem t_54 : Cond.selects RX12 yX12_both yX12_both ∈ tb := tb_of 54 (by decide +kernel) (by decide +kernel)
set_option maxRecDepth 100000 in
theorem t_55 : Cond.selects RX12 yX12_one yX12_one ∈ tb := tb_of 55 (by decide +kernel) (by decide +kernel)
set_option maxRecDepth 100000 in
theorem t_56 : Cond.selects RX12 yX12_isByte yX12_isByte ∈ tb := tb_of 56 (by decide +kernel) (by decide +kernel)
set_option maxRecDepth 100000 in
theorem t_57 : Cond.selects RX12 yX12_valueHere yX12_valueHere ∈ tb := tb_of 57 (by decide +kernel) (by decide +kernel)
set_option maxRecDepth 100000 in
theorem t_58 : Cond.selects RX12 yX12_factHere yX12_factHere ∈ tb := tb_of 58 (by decide +kernel) (by decide +kernel)
set_option maxRecDepth 100000 in
theorem t_59 : Cond.selects RX12 yX12_lays yX12_lays ∈ tb := tb_of 59 (by decide +kernel) (by decide +kernel)
set_option maxRecDepth 100000 in
theorem t_60 : Cond.selects RX12 yX12_doHere yX12_doHere ∈ tb := tb_of 60 (by decide +kernel) (by decide +kernel)
set_option maxRecDepth 100000 in
theorem t_61 : Cond.selects RX12 yX12_actOfRest yX12_actOfRest ∈ tb := tb_of 61 (by decide +kernel) (by decide +kernel)
set_option maxRecDepth 100000 in
theorem t_62 : Cond.selects RX12 yX12_tideGoes yX12_tideGoes ∈ tb := tb_of 62 (by decide +kernel) (by decide +kernel)
set_option maxRecDepth 100000 in
theorem t_63 : Cond.selects RX12 yX12_does yX12_does ∈ tb := tb_of 63 (by decide +kernel) (by decide +kernel)
set_option maxRecDepth 100000 in
theorem t_64 : Cond.selects RX12 yX12_puts yX12_puts ∈ tb := tb_of 64 (by decide +kernel) (by decide +kernel)
set_option maxRecDepth 100000 in
theorem t_65 : Cond.selects RX12 yX12_restGoes yX12_restGoes ∈ tb := tb_of 65 (by decide +kernel) (by decide +kernel)
set_option maxRecDepth 100000 in
theorem t_66 : Cond.selects RX12 yX12_takes yX12_takes ∈ tb := tb_of 66 (by decide +kernel) (by decide +kernel)
set_option maxRecDepth 100000 in
theorem t_67 : Cond.selects RX12 yX12_back yX12_back ∈ tb := tb_of 67 (by decide +kernel) (by decide +kernel)
set_option maxRecDepth 100000 in
theorem t_68 : Cond.selects RX12 yX12_bestOf yX12_bestOf ∈ tb := tb_of 68 (by decide +kernel) (by decide +kernel)
set_option maxRecDepth 100000 in
theorem t_69 : Cond.selects RX12 yX12_raftOf yX12_raftOf ∈ tb := tb_of 69 (by decide +kernel) (by decide +kernel)
set_option maxRecDepth 100000 in
theorem t_70 : Cond.selects RX12 yX12_isClose yX12_isClose ∈ tb := tb_of 70 (by decide +kernel) (by decide +kernel)
set_option maxRecDepth 100000 in
theorem t_71 : Cond.selects RX12 yX12_findBest yX12_findBest ∈ tb := tb_of 71 (by decide +kernel) (by decide +kernel)
set_option maxRecDepth 100000 in
theorem t_72 : Cond.selects RX12 yX12_longOf yX12_longOf ∈ tb := tb_of 72 (by decide +kernel) (by decide +kernel)
set_option maxRecDepth 100000 in
theorem t_73 : Cond.selects RX12 yX12_plansOf yX12_plansOf ∈ tb := tb_of 73 (by decide +kernel) (by decide +kernel)
set_option maxRecDepth 100000 in
theorem t_74 : Cond.selects RX12 yX12_actsOf yX12_actsOf ∈ tb := tb_of 74 (by decide +kernel) (by decide +kernel)
set_option maxRecDepth 100000 in
theorem t_75 : Cond.selects RX12 yX12_areBarrels yX12_areBarrels ∈ tb := tb_of 75 (by decide +kernel) (by decide +kernel)
set_option maxRecDepth 100000 in
theorem t_76 : Cond.selects RX12 yX12_findCharts yX12_findCharts ∈ tb := tb_of 76 (by decide +kernel) (by decide +kernel)
set_option maxRecDepth 100000 in
theorem t_77 : Cond.selects RX12 yX12_valueOf yX12_valueOf ∈ tb := tb_of 77 (by decide +kernel) (by decide +kernel)
set_option maxRecDepth 100000 in
theorem t_78 : Cond.selects RX12 yX12_findLone yX12_findLone ∈ tb := tb_of 78 (by decide +kernel) (by decide +kernel)
set_option maxRecDepth 100000 in
theorem t_79 : Cond.selects RX12 yX12_fitting yX12_fitting ∈ tb := tb_of 79 (by decide +kernel) (by decide +kernel)
set_option maxRecDepth 100000 in
theorem t_80 : Cond.selects RX12 yX12_lotGoes yX12_lotGoes ∈ tb := tb_of 80 (by decide +kernel) (by decide +kernel)
set_option maxRecDepth 100000 in
theorem t_81 : Cond.selects RX12 yX12_whyNoBytes yX12_whyNoBytes ∈ tb := tb_of 81 (by decide +kernel) (by decide +kernel)
set_option maxRecDepth 100000 in
theorem t_82 : Cond.selects RX12 yX12_holdsNothing yX12_holdsNothing ∈ tb := tb_of 82 (by decide +kernel) (by decide +kernel)
set_option maxRecDepth 100000 in
theorem t_83 : Cond.selects RX12 yX12_rollsBy yX12_rollsBy ∈ tb := tb_of 83 (by decide +kernel) (by decide +kernel)
set_option maxRecDepth 100000 in
theorem t_84 : Cond.selects RX12 yX12_ran yX12_ran ∈ tb := tb_of 84 (by decide +kernel) (by decide +kernel)
set_option maxRecDepth 100000 in
theorem t_85 : Cond.selects RX12 yX12_seepsBy yX12_seepsBy ∈ tb := tb_of 85 (by decide +kernel) (by decide +kernel)
set_option maxRecDepth 100000 in
theorem t_86 : Cond.selects RX12 yX12_hoopsBy yX12_hoopsBy ∈ tb := tb_of 86 (by decide +kernel) (by decide +kernel)
set_option maxRecDepth 100000 in
theorem t_87 : Cond.selects RX12 yX12_floodsBy yX12_floodsBy ∈ tb := tb_of 87 (by decide +kernel) (by decide +kernel)
set_option maxRecDepth 100000 in
theorem t_89 : Cond.initialized RX11 ∈ tb := tb_of 89 (by decide +kernel) (by decide +kernel)
set_option maxRecDepth 100000 in
theorem t_90 : Cond.initialized RX3 ∈ tb := tb_of 90 (by decide +kernel) (by decide +kernel)
set_option maxRecDepth 100000 in
theorem t_91 : Cond.initialized RX7 ∈ tb := tb_of 91 (by decide +kernel) (by decide +kernel)
set_option maxRecDepth 100000 in
theorem t_92 : Cond.initialized RX6 ∈ tb := tb_of 92 (by decide +kernel) (by decide +kernel)
set_option maxRecDepth 100000 in
theorem t_93 : Cond.initialized RX0 ∈ tb := tb_of 93 (by decide +kernel) (by decide +kernel)
set_option maxRecDepth 100000 in
theorem t_94 : Cond.initialized RX9 ∈ tb := tb_of 94 (by decide +kernel) (by decide +kernel)
set_option maxRecDepth 100000 in
theorem t_95 : Cond.initialized RX8 ∈ tb := tb_of 95 (by decide +kernel) (by decide +kernel)
set_option maxRecDepth 100000 in
theorem t_96 : Cond.initialized RX1 ∈ tb := tb_of 96 (by decide +kernel) (by decide +kernel)
set_option maxRecDepth 100000 in
theorem t_97 : Cond.initialized RX4 ∈ tb := tb_of 97 (by decide +kernel) (by decide +kernel)
set_option maxRecDepth 100000 in
theorem t_98 : Cond.initialized RX2 ∈ tb := tb_of 98 (by decide +kernel) (by decide +kernel)
set_option maxRecDepth 100000 in
theorem t_99 : Cond.initialized RX10 ∈ tb := tb_of 99 (by decide +kernel) (by decide +kernel)
set_option maxRecDepth 100000 in
theorem t_100 : Cond.initialized RX5 ∈ tb := tb_of 100 (by decide +kernel) (by decide +kernel)
set_option maxRecDepth 100000 in
theorem t_101 : Cond.initialized RX12 ∈ tb := tb_of 101 (by decide +kernel) (by decide +kernel)
set_option maxRecDepth 100000 in
theorem t_102 : Cond.initialized "java/lang/Math" ∈ tb := tb_of 102 (by decide +kernel) (by decide +kernel)
set_option maxRecDepth 100000 in
theorem t_103 : Cond.initialized RJ0 ∈ tb := tb_of 103 (by decide +kernel) (by decide +kernel)
set_option maxRecDepth 100000 in
theorem t_104 : Cond.initialized RJ1 ∈ tb := tb_of 104 (by decide +kernel) (by decide +kernel)
set_option maxRecDepth 100000 in
theorem t_105 : Cond.initialized RJ3 ∈ tb := tb_of 105 (by decide +kernel) (by decide +kernel)
set_option maxRecDepth 100000 in
theorem t_107 : Cond.initialized RJ10 ∈ tb := tb_of 107 (by decide +kernel) (by decide +kernel)
set_option maxRecDepth 100000 in
theorem t_108 : Cond.initialized RJ6 ∈ tb := tb_of 108 (by decide +kernel) (by decide +kernel)
set_option maxRecDepth 100000 in
theorem t_123 : Cond.fieldLink RX3 9 "FloodCellar$Flood" "fills" "[I" ∈ tb := tb_of 123 (by decide +kernel) (by decide +kernel)
set_option maxRecDepth 100000 in
theorem t_124 : Cond.fieldLink RX11 114 "FloodCellar$Flood" "fills" "[I" ∈ tb := tb_of 124 (by decide +kernel) (by decide +kernel)
set_option maxRecDepth 100000 in
theorem t_125 : Cond.fieldLink RX6 51 "FloodCellar$Flood" "fills" "[I" ∈ tb := tb_of 125 (by decide +kernel) (by decide +kernel)
set_option maxRecDepth 100000 in
theorem t_126 : Cond.fieldLink RX10 103 "FloodCellar$Flood" "fills" "[I" ∈ tb := tb_of 126 (by decide +kernel) (by decide +kernel)
set_option maxRecDepth 100000 in
theorem t_127 : Cond.fieldLink RX3 15 "FloodCellar$Flood" "chalks" "[I" ∈ tb := tb_of 127 (by decide +kernel) (by decide +kernel)
set_option maxRecDepth 100000 in
theorem t_128 : Cond.fieldLink RX11 117 "FloodCellar$Flood" "chalks" "[I" ∈ tb := tb_of 128 (by decide +kernel) (by decide +kernel)
set_option maxRecDepth 100000 in
theorem t_129 : Cond.fieldLink RX6 54 "FloodCellar$Flood" "chalks" "[I" ∈ tb := tb_of 129 (by decide +kernel) (by decide +kernel)
set_option maxRecDepth 100000 in
theorem t_130 : Cond.fieldLink RX10 132 "FloodCellar$Flood" "chalks" "[I" ∈ tb := tb_of 130 (by decide +kernel) (by decide +kernel)
set_option maxRecDepth 100000 in
theorem t_131 : Cond.fieldLink RX3 18 "FloodCellar$Flood" "staked" "I" ∈ tb := tb_of 131 (by decide +kernel) (by decide +kernel)
set_option maxRecDepth 100000 in
theorem t_132 : Cond.fieldLink RX11 128 "FloodCellar$Flood" "staked" "I" ∈ tb := tb_of 132 (by decide +kernel) (by decide +kernel)
set_option maxRecDepth 100000 in
theorem t_133 : Cond.fieldLink RX5 82 "FloodCellar$Flood" "staked" "I" ∈ tb := tb_of 133 (by decide +kernel) (by decide +kernel)
set_option maxRecDepth 100000 in
theorem t_134 : Cond.fieldLink RX10 125 "FloodCellar$Flood" "staked" "I" ∈ tb := tb_of 134 (by decide +kernel) (by decide +kernel)
set_option maxRecDepth 100000 in
theorem t_135 : Cond.fieldLink RX5 39 "FloodCellar$Flood" "tide" "I" ∈ tb := tb_of 135 (by decide +kernel) (by decide +kernel)
set_option maxRecDepth 100000 in
theorem t_136 : Cond.fieldLink RX3 22 "FloodCellar$Flood" "tide" "I" ∈ tb := tb_of 136 (by decide +kernel) (by decide +kernel)
set_option maxRecDepth 100000 in
theorem t_137 : Cond.fieldLink RX6 46 "FloodCellar$Flood" "tide" "I" ∈ tb := tb_of 137 (by decide +kernel) (by decide +kernel)
set_option maxRecDepth 100000 in
theorem t_138 : Cond.fieldLink RX10 96 "FloodCellar$Flood" "tide" "I" ∈ tb := tb_of 138 (by decide +kernel) (by decide +kernel)
set_option maxRecDepth 100000 in
theorem t_139 : Cond.fieldLink RX11 161 "FloodCellar$Flood" "tide" "I" ∈ tb := tb_of 139 (by decide +kernel) (by decide +kernel)
set_option maxRecDepth 100000 in
theorem t_156 : Cond.fieldLink RX7 9 "FloodCellar$Trace" "bodies" "[I" ∈ tb := tb_of 156 (by decide +kernel) (by decide +kernel)
set_option maxRecDepth 100000 in
theorem t_157 : Cond.fieldLink RX11 365 "FloodCellar$Trace" "bodies" "[I" ∈ tb := tb_of 157 (by decide +kernel) (by decide +kernel)
set_option maxRecDepth 100000 in
theorem t_158 : Cond.fieldLink RX7 15 "FloodCellar$Trace" "size" "I" ∈ tb := tb_of 158 (by decide +kernel) (by decide +kernel)
set_option maxRecDepth 100000 in
theorem t_159 : Cond.fieldLink RX11 362 "FloodCellar$Trace" "size" "I" ∈ tb := tb_of 159 (by decide +kernel) (by decide +kernel)
set_option maxRecDepth 100000 in
theorem t_160 : Cond.fieldLink RX0 19 "FloodCellar$Trace" "n" "I" ∈ tb := tb_of 160 (by decide +kernel) (by decide +kernel)
set_option maxRecDepth 100000 in
theorem t_161 : Cond.fieldLink RX2 33 "FloodCellar$Trace" "n" "I" ∈ tb := tb_of 161 (by decide +kernel) (by decide +kernel)
set_option maxRecDepth 100000 in
theorem t_162 : Cond.fieldLink RX11 335 "FloodCellar$Trace" "n" "I" ∈ tb := tb_of 162 (by decide +kernel) (by decide +kernel)
set_option maxRecDepth 100000 in
theorem t_163 : Cond.fieldLink RX1 33 "FloodCellar$Trace" "a" "I" ∈ tb := tb_of 163 (by decide +kernel) (by decide +kernel)
set_option maxRecDepth 100000 in
theorem t_164 : Cond.fieldLink RX0 27 "FloodCellar$Trace" "a" "I" ∈ tb := tb_of 164 (by decide +kernel) (by decide +kernel)
set_option maxRecDepth 100000 in
theorem t_165 : Cond.fieldLink RX11 338 "FloodCellar$Trace" "a" "I" ∈ tb := tb_of 165 (by decide +kernel) (by decide +kernel)
set_option maxRecDepth 100000 in
theorem t_166 : Cond.fieldLink RX7 19 "FloodCellar$Trace" "parted" "Z" ∈ tb := tb_of 166 (by decide +kernel) (by decide +kernel)
set_option maxRecDepth 100000 in
theorem t_167 : Cond.fieldLink RX0 30 "FloodCellar$Trace" "parted" "Z" ∈ tb := tb_of 167 (by decide +kernel) (by decide +kernel)
set_option maxRecDepth 100000 in
theorem t_168 : Cond.fieldLink RX11 358 "FloodCellar$Trace" "parted" "Z" ∈ tb := tb_of 168 (by decide +kernel) (by decide +kernel)
set_option maxRecDepth 100000 in
theorem t_186 : Cond.fieldLink RX6 33 "FloodCellar$Rules" "count" "I" ∈ tb := tb_of 186 (by decide +kernel) (by decide +kernel)
set_option maxRecDepth 100000 in
theorem t_187 : Cond.fieldLink RX11 196 "FloodCellar$Rules" "count" "I" ∈ tb := tb_of 187 (by decide +kernel) (by decide +kernel)
set_option maxRecDepth 100000 in
theorem t_188 : Cond.fieldLink RX6 9 "FloodCellar$Rules" "kinds" "[I" ∈ tb := tb_of 188 (by decide +kernel) (by decide +kernel)
set_option maxRecDepth 100000 in
theorem t_189 : Cond.fieldLink RX6 15 "FloodCellar$Rules" "deeds" "[I" ∈ tb := tb_of 189 (by decide +kernel) (by decide +kernel)
set_option maxRecDepth 100000 in
theorem t_190 : Cond.fieldLink RX6 18 "FloodCellar$Rules" "starts" "[I" ∈ tb := tb_of 190 (by decide +kernel) (by decide +kernel)
set_option maxRecDepth 100000 in
theorem t_191 : Cond.fieldLink RX6 21 "FloodCellar$Rules" "code" "[I" ∈ tb := tb_of 191 (by decide +kernel) (by decide +kernel)
set_option maxRecDepth 100000 in
theorem t_192 : Cond.fieldLink RX6 37 "FloodCellar$Rules" "codeSize" "I" ∈ tb := tb_of 192 (by decide +kernel) (by decide +kernel)
set_option maxRecDepth 100000 in
theorem t_193 : Cond.fieldLink RX6 24 "FloodCellar$Rules" "facts" "[I" ∈ tb := tb_of 193 (by decide +kernel) (by decide +kernel)
set_option maxRecDepth 100000 in
theorem t_194 : Cond.fieldLink RX6 27 "FloodCellar$Rules" "tokens" "[I" ∈ tb := tb_of 194 (by decide +kernel) (by decide +kernel)
set_option maxRecDepth 100000 in
theorem t_195 : Cond.fieldLink RX6 30 "FloodCellar$Rules" "places" "[I" ∈ tb := tb_of 195 (by decide +kernel) (by decide +kernel)
set_option maxRecDepth 100000 in
theorem t_196 : Cond.fieldLink RX6 74 "FloodCellar$Rules" "at" "I" ∈ tb := tb_of 196 (by decide +kernel) (by decide +kernel)
set_option maxRecDepth 100000 in
theorem t_197 : Cond.fieldLink RX6 77 "FloodCellar$Rules" "fault" "I" ∈ tb := tb_of 197 (by decide +kernel) (by decide +kernel)
set_option maxRecDepth 100000 in
theorem t_238 : Cond.superclass RX9 RX0 ∈ tb := tb_of 238 (by decide +kernel) (by decide +kernel)
set_option maxRecDepth 100000 in
theorem t_245 : Cond.superclass RX8 RX0 ∈ tb := tb_of 245 (by decide +kernel) (by decide +kernel)
set_option maxRecDepth 100000 in
theorem t_252 : Cond.superclass RX1 RX8 ∈ tb := tb_of 252 (by decide +kernel) (by decide +kernel)
set_option maxRecDepth 100000 in
theorem t_259 : Cond.superclass RX4 RX0 ∈ tb := tb_of 259 (by decide +kernel) (by decide +kernel)
set_option maxRecDepth 100000 in
theorem t_266 : Cond.superclass RX2 RX4 ∈ tb := tb_of 266 (by decide +kernel) (by decide +kernel)
set_option maxRecDepth 100000 in
theorem t_277 : Cond.fieldLink RX10 60 "FloodCellar$Vault" "natures" "[LFloodCellar$Barrel;" ∈ tb := tb_of 277 (by decide +kernel) (by decide +kernel)
set_option maxRecDepth 100000 in
theorem t_278 : Cond.fieldLink RX11 341 "FloodCellar$Vault" "natures" "[LFloodCellar$Barrel;" ∈ tb := tb_of 278 (by decide +kernel) (by decide +kernel)
set_option maxRecDepth 100000 in
theorem t_279 : Cond.fieldLink RX10 9 "FloodCellar$Vault" "kinds" "[I" ∈ tb := tb_of 279 (by decide +kernel) (by decide +kernel)
set_option maxRecDepth 100000 in
theorem t_280 : Cond.fieldLink RX11 105 "FloodCellar$Vault" "kinds" "[I" ∈ tb := tb_of 280 (by decide +kernel) (by decide +kernel)
set_option maxRecDepth 100000 in
theorem t_281 : Cond.fieldLink RX10 15 "FloodCellar$Vault" "tiers" "[I" ∈ tb := tb_of 281 (by decide +kernel) (by decide +kernel)
set_option maxRecDepth 100000 in
theorem t_282 : Cond.fieldLink RX11 108 "FloodCellar$Vault" "tiers" "[I" ∈ tb := tb_of 282 (by decide +kernel) (by decide +kernel)
set_option maxRecDepth 100000 in
theorem t_283 : Cond.fieldLink RX10 18 "FloodCellar$Vault" "waters" "[I" ∈ tb := tb_of 283 (by decide +kernel) (by decide +kernel)
set_option maxRecDepth 100000 in
theorem t_284 : Cond.fieldLink RX11 152 "FloodCellar$Vault" "waters" "[I" ∈ tb := tb_of 284 (by decide +kernel) (by decide +kernel)
set_option maxRecDepth 100000 in
theorem t_285 : Cond.fieldLink RX10 21 "FloodCellar$Vault" "steps" "[I" ∈ tb := tb_of 285 (by decide +kernel) (by decide +kernel)
set_option maxRecDepth 100000 in
theorem t_286 : Cond.fieldLink RX11 155 "FloodCellar$Vault" "steps" "[I" ∈ tb := tb_of 286 (by decide +kernel) (by decide +kernel)
set_option maxRecDepth 100000 in
theorem t_287 : Cond.fieldLink RX10 24 "FloodCellar$Vault" "grates" "[I" ∈ tb := tb_of 287 (by decide +kernel) (by decide +kernel)
set_option maxRecDepth 100000 in
theorem t_288 : Cond.fieldLink RX11 158 "FloodCellar$Vault" "grates" "[I" ∈ tb := tb_of 288 (by decide +kernel) (by decide +kernel)
set_option maxRecDepth 100000 in
theorem t_289 : Cond.fieldLink RX10 30 "FloodCellar$Vault" "now" "LFloodCellar$Flood;" ∈ tb := tb_of 289 (by decide +kernel) (by decide +kernel)
set_option maxRecDepth 100000 in
theorem t_290 : Cond.fieldLink RX5 35 "FloodCellar$Vault" "now" "LFloodCellar$Flood;" ∈ tb := tb_of 290 (by decide +kernel) (by decide +kernel)
set_option maxRecDepth 100000 in
theorem t_291 : Cond.fieldLink RX11 111 "FloodCellar$Vault" "now" "LFloodCellar$Flood;" ∈ tb := tb_of 291 (by decide +kernel) (by decide +kernel)
set_option maxRecDepth 100000 in
theorem t_292 : Cond.fieldLink RX10 37 "FloodCellar$Vault" "rules" "LFloodCellar$Rules;" ∈ tb := tb_of 292 (by decide +kernel) (by decide +kernel)
set_option maxRecDepth 100000 in
theorem t_293 : Cond.fieldLink RX11 189 "FloodCellar$Vault" "rules" "LFloodCellar$Rules;" ∈ tb := tb_of 293 (by decide +kernel) (by decide +kernel)
set_option maxRecDepth 100000 in
theorem t_294 : Cond.fieldLink RX10 41 "FloodCellar$Vault" "reportTides" "[I" ∈ tb := tb_of 294 (by decide +kernel) (by decide +kernel)
set_option maxRecDepth 100000 in
theorem t_295 : Cond.fieldLink RX11 261 "FloodCellar$Vault" "reportTides" "[I" ∈ tb := tb_of 295 (by decide +kernel) (by decide +kernel)
set_option maxRecDepth 100000 in
theorem t_296 : Cond.fieldLink RX10 44 "FloodCellar$Vault" "reportAsked" "[I" ∈ tb := tb_of 296 (by decide +kernel) (by decide +kernel)
set_option maxRecDepth 100000 in
theorem t_297 : Cond.fieldLink RX11 264 "FloodCellar$Vault" "reportAsked" "[I" ∈ tb := tb_of 297 (by decide +kernel) (by decide +kernel)
set_option maxRecDepth 100000 in
theorem t_298 : Cond.fieldLink RX10 47 "FloodCellar$Vault" "reportLeast" "[I" ∈ tb := tb_of 298 (by decide +kernel) (by decide +kernel)
set_option maxRecDepth 100000 in
theorem t_299 : Cond.fieldLink RX11 267 "FloodCellar$Vault" "reportLeast" "[I" ∈ tb := tb_of 299 (by decide +kernel) (by decide +kernel)
set_option maxRecDepth 100000 in
theorem t_300 : Cond.fieldLink RX10 50 "FloodCellar$Vault" "reportMost" "[I" ∈ tb := tb_of 300 (by decide +kernel) (by decide +kernel)
set_option maxRecDepth 100000 in
theorem t_301 : Cond.fieldLink RX11 270 "FloodCellar$Vault" "reportMost" "[I" ∈ tb := tb_of 301 (by decide +kernel) (by decide +kernel)
set_option maxRecDepth 100000 in
theorem t_302 : Cond.fieldLink RX11 101 "FloodCellar$Vault" "count" "I" ∈ tb := tb_of 302 (by decide +kernel) (by decide +kernel)
set_option maxRecDepth 100000 in
theorem t_303 : Cond.fieldLink RX10 75 "FloodCellar$Vault" "count" "I" ∈ tb := tb_of 303 (by decide +kernel) (by decide +kernel)
set_option maxRecDepth 100000 in
theorem t_304 : Cond.fieldLink RX5 88 "FloodCellar$Vault" "count" "I" ∈ tb := tb_of 304 (by decide +kernel) (by decide +kernel)
set_option maxRecDepth 100000 in
theorem t_305 : Cond.fieldLink RX10 53 "FloodCellar$Vault" "end" "I" ∈ tb := tb_of 305 (by decide +kernel) (by decide +kernel)
set_option maxRecDepth 100000 in
theorem t_306 : Cond.fieldLink RX5 29 "FloodCellar$Vault" "end" "I" ∈ tb := tb_of 306 (by decide +kernel) (by decide +kernel)
set_option maxRecDepth 100000 in
theorem t_307 : Cond.fieldLink RX11 164 "FloodCellar$Vault" "end" "I" ∈ tb := tb_of 307 (by decide +kernel) (by decide +kernel)
set_option maxRecDepth 100000 in
theorem t_308 : Cond.fieldLink RX10 78 "FloodCellar$Vault" "score" "I" ∈ tb := tb_of 308 (by decide +kernel) (by decide +kernel)
set_option maxRecDepth 100000 in
theorem t_309 : Cond.fieldLink RX11 167 "FloodCellar$Vault" "score" "I" ∈ tb := tb_of 309 (by decide +kernel) (by decide +kernel)
set_option maxRecDepth 100000 in
theorem t_310 : Cond.fieldLink RX10 81 "FloodCellar$Vault" "reports" "I" ∈ tb := tb_of 310 (by decide +kernel) (by decide +kernel)
set_option maxRecDepth 100000 in
theorem t_311 : Cond.fieldLink RX11 258 "FloodCellar$Vault" "reports" "I" ∈ tb := tb_of 311 (by decide +kernel) (by decide +kernel)
set_option maxRecDepth 100000 in
theorem t_312 : Cond.fieldLink RX10 57 "FloodCellar$Vault" "z" "I" ∈ tb := tb_of 312 (by decide +kernel) (by decide +kernel)
set_option maxRecDepth 100000 in
theorem t_313 : Cond.fieldLink RX11 288 "FloodCellar$Vault" "z" "I" ∈ tb := tb_of 313 (by decide +kernel) (by decide +kernel)
set_option maxRecDepth 100000 in
theorem t_358 : Cond.fieldLink RX5 25 "FloodCellar$Plans" "vault" "LFloodCellar$Vault;" ∈ tb := tb_of 358 (by decide +kernel) (by decide +kernel)
set_option maxRecDepth 100000 in
theorem t_359 : Cond.fieldLink RX5 12 "FloodCellar$Plans" "floods" "[LFloodCellar$Flood;" ∈ tb := tb_of 359 (by decide +kernel) (by decide +kernel)
set_option maxRecDepth 100000 in
theorem t_360 : Cond.fieldLink RX5 18 "FloodCellar$Plans" "acts" "[I" ∈ tb := tb_of 360 (by decide +kernel) (by decide +kernel)
set_option maxRecDepth 100000 in
theorem t_361 : Cond.fieldLink RX5 55 "FloodCellar$Plans" "length" "I" ∈ tb := tb_of 361 (by decide +kernel) (by decide +kernel)
set_option maxRecDepth 100000 in
theorem t_362 : Cond.fieldLink RX5 66 "FloodCellar$Plans" "wanted" "I" ∈ tb := tb_of 362 (by decide +kernel) (by decide +kernel)
set_option maxRecDepth 100000 in
theorem t_363 : Cond.fieldLink RX5 22 "FloodCellar$Plans" "first" "[I" ∈ tb := tb_of 363 (by decide +kernel) (by decide +kernel)
set_option maxRecDepth 100000 in
theorem t_364 : Cond.fieldLink RX11 232 "FloodCellar$Plans" "first" "[I" ∈ tb := tb_of 364 (by decide +kernel) (by decide +kernel)
set_option maxRecDepth 100000 in
theorem t_365 : Cond.fieldLink RX5 95 "FloodCellar$Plans" "most" "I" ∈ tb := tb_of 365 (by decide +kernel) (by decide +kernel)
set_option maxRecDepth 100000 in
theorem t_366 : Cond.fieldLink RX11 226 "FloodCellar$Plans" "most" "I" ∈ tb := tb_of 366 (by decide +kernel) (by decide +kernel)
set_option maxRecDepth 100000 in
theorem t_367 : Cond.fieldLink RX5 69 "FloodCellar$Plans" "ties" "I" ∈ tb := tb_of 367 (by decide +kernel) (by decide +kernel)
set_option maxRecDepth 100000 in
theorem t_368 : Cond.fieldLink RX11 235 "FloodCellar$Plans" "ties" "I" ∈ tb := tb_of 368 (by decide +kernel) (by decide +kernel)
set_option maxRecDepth 100000 in
theorem t_369 : Cond.fieldLink RX5 72 "FloodCellar$Plans" "fewest" "I" ∈ tb := tb_of 369 (by decide +kernel) (by decide +kernel)
set_option maxRecDepth 100000 in
theorem t_370 : Cond.fieldLink RX11 241 "FloodCellar$Plans" "fewest" "I" ∈ tb := tb_of 370 (by decide +kernel) (by decide +kernel)
set_option maxRecDepth 100000 in
theorem t_371 : Cond.fieldLink RX5 75 "FloodCellar$Plans" "reached" "I" ∈ tb := tb_of 371 (by decide +kernel) (by decide +kernel)
set_option maxRecDepth 100000 in
theorem t_372 : Cond.fieldLink RX11 244 "FloodCellar$Plans" "reached" "I" ∈ tb := tb_of 372 (by decide +kernel) (by decide +kernel)
set_option maxRecDepth 100000 in
theorem t_373 : Cond.fieldLink RX5 98 "FloodCellar$Plans" "opening" "I" ∈ tb := tb_of 373 (by decide +kernel) (by decide +kernel)
set_option maxRecDepth 100000 in
theorem t_374 : Cond.fieldLink RX11 255 "FloodCellar$Plans" "opening" "I" ∈ tb := tb_of 374 (by decide +kernel) (by decide +kernel)
set_option maxRecDepth 100000 in
theorem t_398 : Cond.fieldLink RX11 81 "FloodCellar" "vault" "LFloodCellar$Vault;" ∈ tb := tb_of 398 (by decide +kernel) (by decide +kernel)
set_option maxRecDepth 100000 in
theorem t_399 : Cond.fieldLink RX11 85 "FloodCellar" "kept" "LFloodCellar$Vault;" ∈ tb := tb_of 399 (by decide +kernel) (by decide +kernel)
set_option maxRecDepth 100000 in
theorem t_400 : Cond.fieldLink RX11 370 "FloodCellar" "isKept" "Z" ∈ tb := tb_of 400 (by decide +kernel) (by decide +kernel)
set_option maxRecDepth 100000 in
theorem t_401 : Cond.fieldLink RX11 10 "FloodCellar" "trial" "LFloodCellar$Flood;" ∈ tb := tb_of 401 (by decide +kernel) (by decide +kernel)
set_option maxRecDepth 100000 in
theorem t_402 : Cond.fieldLink RX11 93 "FloodCellar" "plans" "LFloodCellar$Plans;" ∈ tb := tb_of 402 (by decide +kernel) (by decide +kernel)
set_option maxRecDepth 100000 in
theorem t_403 : Cond.fieldLink RX11 19 "FloodCellar" "ran" "LFloodCellar$Trace;" ∈ tb := tb_of 403 (by decide +kernel) (by decide +kernel)
set_option maxRecDepth 100000 in
theorem t_404 : Cond.fieldLink RX11 23 "FloodCellar" "tape" "[B" ∈ tb := tb_of 404 (by decide +kernel) (by decide +kernel)
set_option maxRecDepth 100000 in
theorem t_405 : Cond.fieldLink RX11 182 "FloodCellar" "tapeSize" "I" ∈ tb := tb_of 405 (by decide +kernel) (by decide +kernel)
set_option maxRecDepth 100000 in
theorem t_406 : Cond.fieldLink RX11 30 "FloodCellar" "told" "LFloodCellar$Rules;" ∈ tb := tb_of 406 (by decide +kernel) (by decide +kernel)
set_option maxRecDepth 100000 in
theorem t_407 : Cond.fieldLink RX11 34 "FloodCellar" "rowFields" "[I" ∈ tb := tb_of 407 (by decide +kernel) (by decide +kernel)
set_option maxRecDepth 100000 in
theorem t_408 : Cond.fieldLink RX11 297 "FloodCellar" "rowCount" "I" ∈ tb := tb_of 408 (by decide +kernel) (by decide +kernel)
set_option maxRecDepth 100000 in
theorem t_409 : Cond.fieldLink RX11 38 "FloodCellar" "sheetSorts" "[I" ∈ tb := tb_of 409 (by decide +kernel) (by decide +kernel)
set_option maxRecDepth 100000 in
theorem t_410 : Cond.fieldLink RX11 41 "FloodCellar" "sheetSizes" "[I" ∈ tb := tb_of 410 (by decide +kernel) (by decide +kernel)
set_option maxRecDepth 100000 in
theorem t_411 : Cond.fieldLink RX11 46 "FloodCellar" "sheetItems" "[[I" ∈ tb := tb_of 411 (by decide +kernel) (by decide +kernel)
set_option maxRecDepth 100000 in
theorem t_412 : Cond.fieldLink RX11 49 "FloodCellar" "shelfHolds" "[I" ∈ tb := tb_of 412 (by decide +kernel) (by decide +kernel)
set_option maxRecDepth 100000 in
theorem t_413 : Cond.fieldLink RX11 52 "FloodCellar" "shelfNumbers" "[I" ∈ tb := tb_of 413 (by decide +kernel) (by decide +kernel)
set_option maxRecDepth 100000 in
theorem t_414 : Cond.fieldLink RX11 55 "FloodCellar" "shelfSizes" "[I" ∈ tb := tb_of 414 (by decide +kernel) (by decide +kernel)
set_option maxRecDepth 100000 in
theorem t_454 : Cond.methodLink RX11 97 yX11_within ∈ tb := tb_of 454 (by decide +kernel) (by decide +kernel)
set_option maxRecDepth 100000 in
theorem t_455 : Cond.static yX11_within ∈ tb := tb_of 455 (by decide +kernel) (by decide +kernel)
set_option maxRecDepth 100000 in
theorem t_456 : Cond.code yX11_within cX11_within 3 (some .boolean) ∈ tb := tb_of 456 (by decide +kernel) (by decide +kernel)
set_option maxRecDepth 100000 in
theorem t_457 : Cond.methodLink RX11 120 yX3_putStaked ∈ tb := tb_of 457 (by decide +kernel) (by decide +kernel)
set_option maxRecDepth 100000 in
theorem t_458 : Cond.instanceMethod yX3_putStaked ∈ tb := tb_of 458 (by decide +kernel) (by decide +kernel)
set_option maxRecDepth 100000 in
theorem t_459 : Cond.selects RX3 yX3_putStaked yX3_putStaked ∈ tb := tb_of 459 (by decide +kernel) (by decide +kernel)
set_option maxRecDepth 100000 in
theorem t_460 : Cond.code yX3_putStaked cX3_putStaked 4 (some .int) ∈ tb := tb_of 460 (by decide +kernel) (by decide +kernel)
set_option maxRecDepth 100000 in
theorem t_465 : Cond.methodLink RX11 124 yX10_has ∈ tb := tb_of 465 (by decide +kernel) (by decide +kernel)
set_option maxRecDepth 100000 in
theorem t_466 : Cond.instanceMethod yX10_has ∈ tb := tb_of 466 (by decide +kernel) (by decide +kernel)
set_option maxRecDepth 100000 in
theorem t_467 : Cond.selects RX10 yX10_has yX10_has ∈ tb := tb_of 467 (by decide +kernel) (by decide +kernel)
set_option maxRecDepth 100000 in
theorem t_468 : Cond.code yX10_has cX10_has 2 (some .boolean) ∈ tb := tb_of 468 (by decide +kernel) (by decide +kernel)
set_option maxRecDepth 100000 in
theorem t_469 : Cond.methodLink RX11 131 yX10_leaks ∈ tb := tb_of 469 (by decide +kernel) (by decide +kernel)
set_option maxRecDepth 100000 in
theorem t_470 : Cond.instanceMethod yX10_leaks ∈ tb := tb_of 470 (by decide +kernel) (by decide +kernel)
set_option maxRecDepth 100000 in
theorem t_471 : Cond.selects RX10 yX10_leaks yX10_leaks ∈ tb := tb_of 471 (by decide +kernel) (by decide +kernel)
set_option maxRecDepth 100000 in
theorem t_472 : Cond.code yX10_leaks cX10_leaks 4 (some .int) ∈ tb := tb_of 472 (by decide +kernel) (by decide +kernel)
set_option maxRecDepth 100000 in
theorem t_473 : Cond.methodLink RX10 106 yX10_riseAt ∈ tb := tb_of 473 (by decide +kernel) (by decide +kernel)
set_option maxRecDepth 100000 in
theorem t_474 : Cond.instanceMethod yX10_riseAt ∈ tb := tb_of 474 (by decide +kernel) (by decide +kernel)
set_option maxRecDepth 100000 in
theorem t_475 : Cond.selects RX10 yX10_riseAt yX10_riseAt ∈ tb := tb_of 475 (by decide +kernel) (by decide +kernel)
set_option maxRecDepth 100000 in
theorem t_476 : Cond.code yX10_riseAt cX10_riseAt 2 (some .int) ∈ tb := tb_of 476 (by decide +kernel) (by decide +kernel)
set_option maxRecDepth 100000 in
theorem t_477 : Cond.methodLink RX10 99 yX10_waterAt ∈ tb := tb_of 477 (by decide +kernel) (by decide +kernel)
set_option maxRecDepth 100000 in
theorem t_478 : Cond.instanceMethod yX10_waterAt ∈ tb := tb_of 478 (by decide +kernel) (by decide +kernel)
set_option maxRecDepth 100000 in
theorem t_479 : Cond.selects RX10 yX10_waterAt yX10_waterAt ∈ tb := tb_of 479 (by decide +kernel) (by decide +kernel)
set_option maxRecDepth 100000 in
theorem t_480 : Cond.code yX10_waterAt cX10_waterAt 2 (some .int) ∈ tb := tb_of 480 (by decide +kernel) (by decide +kernel)
set_option maxRecDepth 100000 in
theorem t_481 : Cond.methodLink RX10 109 yX10_saltAt ∈ tb := tb_of 481 (by decide +kernel) (by decide +kernel)
set_option maxRecDepth 100000 in
theorem t_482 : Cond.instanceMethod yX10_saltAt ∈ tb := tb_of 482 (by decide +kernel) (by decide +kernel)
set_option maxRecDepth 100000 in
theorem t_483 : Cond.selects RX10 yX10_saltAt yX10_saltAt ∈ tb := tb_of 483 (by decide +kernel) (by decide +kernel)
set_option maxRecDepth 100000 in
theorem t_484 : Cond.code yX10_saltAt cX10_saltAt 2 (some .int) ∈ tb := tb_of 484 (by decide +kernel) (by decide +kernel)
set_option maxRecDepth 100000 in
theorem t_485 : Cond.methodLink RX10 112 yX0_leak ∈ tb := tb_of 485 (by decide +kernel) (by decide +kernel)
set_option maxRecDepth 100000 in
theorem t_486 : Cond.instanceMethod yX0_leak ∈ tb := tb_of 486 (by decide +kernel) (by decide +kernel)
set_option maxRecDepth 100000 in
theorem t_487 : Cond.selects RX0 yX0_leak yX0_leak ∈ tb := tb_of 487 (by decide +kernel) (by decide +kernel)
set_option maxRecDepth 100000 in
theorem t_488 : Cond.sameMethod RX0 RX0 "leak" "(III)I" ∈ tb := tb_of 488 (by decide +kernel) (by decide +kernel)
set_option maxRecDepth 100000 in
theorem t_489 : Cond.selects RX1 yX0_leak yX1_leak ∈ tb := tb_of 489 (by decide +kernel) (by decide +kernel)
set_option maxRecDepth 100000 in
theorem t_490 : Cond.instanceMethod yX1_leak ∈ tb := tb_of 490 (by decide +kernel) (by decide +kernel)
set_option maxRecDepth 100000 in
theorem t_491 : Cond.code yX1_leak cX1_leak 4 (some .int) ∈ tb := tb_of 491 (by decide +kernel) (by decide +kernel)
set_option maxRecDepth 100000 in
theorem t_492 : Cond.methodLink RX1 7 yX8_leak ∈ tb := tb_of 492 (by decide +kernel) (by decide +kernel)
set_option maxRecDepth 100000 in
theorem t_493 : Cond.instanceMethod yX8_leak ∈ tb := tb_of 493 (by decide +kernel) (by decide +kernel)
set_option maxRecDepth 100000 in
theorem t_494 : Cond.code yX8_leak cX8_leak 4 (some .int) ∈ tb := tb_of 494 (by decide +kernel) (by decide +kernel)
set_option maxRecDepth 100000 in
theorem t_495 : Cond.methodLink RX8 7 yX0_leak ∈ tb := tb_of 495 (by decide +kernel) (by decide +kernel)
set_option maxRecDepth 100000 in
theorem t_496 : Cond.methodLink RX1 11 Lib.Math.max.name ∈ tb := tb_of 496 (by decide +kernel) (by decide +kernel)
set_option maxRecDepth 100000 in
theorem t_497 : Cond.static Lib.Math.max.name ∈ tb := tb_of 497 (by decide +kernel) (by decide +kernel)
set_option maxRecDepth 100000 in
theorem t_498 : Cond.code Lib.Math.max.name Lib.Math.max.code 2 (some .int) ∈ tb := tb_of 498 (by decide +kernel) (by decide +kernel)
set_option maxRecDepth 100000 in
theorem t_499 : Cond.selects RX2 yX0_leak yX2_leak ∈ tb := tb_of 499 (by decide +kernel) (by decide +kernel)
set_option maxRecDepth 100000 in
theorem t_500 : Cond.instanceMethod yX2_leak ∈ tb := tb_of 500 (by decide +kernel) (by decide +kernel)
set_option maxRecDepth 100000 in
theorem t_501 : Cond.code yX2_leak cX2_leak 4 (some .int) ∈ tb := tb_of 501 (by decide +kernel) (by decide +kernel)
set_option maxRecDepth 100000 in
theorem t_502 : Cond.methodLink RX2 7 yX4_leak ∈ tb := tb_of 502 (by decide +kernel) (by decide +kernel)
set_option maxRecDepth 100000 in
theorem t_503 : Cond.instanceMethod yX4_leak ∈ tb := tb_of 503 (by decide +kernel) (by decide +kernel)
set_option maxRecDepth 100000 in
theorem t_504 : Cond.code yX4_leak cX4_leak 4 (some .int) ∈ tb := tb_of 504 (by decide +kernel) (by decide +kernel)
set_option maxRecDepth 100000 in
theorem t_505 : Cond.selects RX4 yX0_leak yX4_leak ∈ tb := tb_of 505 (by decide +kernel) (by decide +kernel)
set_option maxRecDepth 100000 in
theorem t_506 : Cond.selects RX8 yX0_leak yX8_leak ∈ tb := tb_of 506 (by decide +kernel) (by decide +kernel)
set_option maxRecDepth 100000 in
theorem t_507 : Cond.selects RX9 yX0_leak yX9_leak ∈ tb := tb_of 507 (by decide +kernel) (by decide +kernel)
set_option maxRecDepth 100000 in
theorem t_508 : Cond.instanceMethod yX9_leak ∈ tb := tb_of 508 (by decide +kernel) (by decide +kernel)
set_option maxRecDepth 100000 in
theorem t_509 : Cond.code yX9_leak cX9_leak 4 (some .int) ∈ tb := tb_of 509 (by decide +kernel) (by decide +kernel)
set_option maxRecDepth 100000 in
theorem t_510 : Cond.code yX0_leak cX0_leak 4 (some .int) ∈ tb := tb_of 510 (by decide +kernel) (by decide +kernel)
set_option maxRecDepth 100000 in
theorem t_511 : Cond.methodLink RX10 118 yX10_stakedIn ∈ tb := tb_of 511 (by decide +kernel) (by decide +kernel)
set_option maxRecDepth 100000 in
theorem t_513 : Cond.instanceMethod yX10_stakedIn ∈ tb := tb_of 513 (by decide +kernel) (by decide +kernel)
set_option maxRecDepth 100000 in
theorem t_514 : Cond.code yX10_stakedIn cX10_stakedIn 5 (some .int) ∈ tb := tb_of 514 (by decide +kernel) (by decide +kernel)
set_option maxRecDepth 100000 in
theorem t_515 : Cond.methodLink RX10 128 yX3_isStaked ∈ tb := tb_of 515 (by decide +kernel) (by decide +kernel)
set_option maxRecDepth 100000 in
theorem t_516 : Cond.instanceMethod yX3_isStaked ∈ tb := tb_of 516 (by decide +kernel) (by decide +kernel)
set_option maxRecDepth 100000 in
theorem t_517 : Cond.selects RX3 yX3_isStaked yX3_isStaked ∈ tb := tb_of 517 (by decide +kernel) (by decide +kernel)
set_option maxRecDepth 100000 in
theorem t_518 : Cond.code yX3_isStaked cX3_isStaked 2 (some .boolean) ∈ tb := tb_of 518 (by decide +kernel) (by decide +kernel)
set_option maxRecDepth 100000 in
theorem t_519 : Cond.methodLink RX10 122 Lib.Math.max.name ∈ tb := tb_of 519 (by decide +kernel) (by decide +kernel)
set_option maxRecDepth 100000 in
theorem t_520 : Cond.methodLink RX11 135 yX10_floatsOf ∈ tb := tb_of 520 (by decide +kernel) (by decide +kernel)
set_option maxRecDepth 100000 in
theorem t_521 : Cond.instanceMethod yX10_floatsOf ∈ tb := tb_of 521 (by decide +kernel) (by decide +kernel)
set_option maxRecDepth 100000 in
theorem t_522 : Cond.selects RX10 yX10_floatsOf yX10_floatsOf ∈ tb := tb_of 522 (by decide +kernel) (by decide +kernel)
set_option maxRecDepth 100000 in
theorem t_523 : Cond.code yX10_floatsOf cX10_floatsOf 3 (some .int) ∈ tb := tb_of 523 (by decide +kernel) (by decide +kernel)
set_option maxRecDepth 100000 in
theorem t_524 : Cond.methodLink RX10 135 yX0_lift ∈ tb := tb_of 524 (by decide +kernel) (by decide +kernel)
set_option maxRecDepth 100000 in
theorem t_525 : Cond.instanceMethod yX0_lift ∈ tb := tb_of 525 (by decide +kernel) (by decide +kernel)
set_option maxRecDepth 100000 in
theorem t_526 : Cond.selects RX0 yX0_lift yX0_lift ∈ tb := tb_of 526 (by decide +kernel) (by decide +kernel)
set_option maxRecDepth 100000 in
theorem t_527 : Cond.sameMethod RX0 RX0 "lift" "(III)I" ∈ tb := tb_of 527 (by decide +kernel) (by decide +kernel)
set_option maxRecDepth 100000 in
theorem t_528 : Cond.selects RX1 yX0_lift yX1_lift ∈ tb := tb_of 528 (by decide +kernel) (by decide +kernel)
set_option maxRecDepth 100000 in
theorem t_529 : Cond.instanceMethod yX1_lift ∈ tb := tb_of 529 (by decide +kernel) (by decide +kernel)
set_option maxRecDepth 100000 in
theorem t_530 : Cond.code yX1_lift cX1_lift 4 (some .int) ∈ tb := tb_of 530 (by decide +kernel) (by decide +kernel)
set_option maxRecDepth 100000 in
theorem t_531 : Cond.methodLink RX1 17 yX8_lift ∈ tb := tb_of 531 (by decide +kernel) (by decide +kernel)
set_option maxRecDepth 100000 in
theorem t_532 : Cond.instanceMethod yX8_lift ∈ tb := tb_of 532 (by decide +kernel) (by decide +kernel)
set_option maxRecDepth 100000 in
theorem t_533 : Cond.code yX8_lift cX8_lift 4 (some .int) ∈ tb := tb_of 533 (by decide +kernel) (by decide +kernel)
set_option maxRecDepth 100000 in
theorem t_534 : Cond.methodLink RX8 11 yX0_lift ∈ tb := tb_of 534 (by decide +kernel) (by decide +kernel)
set_option maxRecDepth 100000 in
theorem t_535 : Cond.selects RX2 yX0_lift yX2_lift ∈ tb := tb_of 535 (by decide +kernel) (by decide +kernel)
set_option maxRecDepth 100000 in
theorem t_536 : Cond.instanceMethod yX2_lift ∈ tb := tb_of 536 (by decide +kernel) (by decide +kernel)
set_option maxRecDepth 100000 in
theorem t_537 : Cond.code yX2_lift cX2_lift 4 (some .int) ∈ tb := tb_of 537 (by decide +kernel) (by decide +kernel)
set_option maxRecDepth 100000 in
theorem t_538 : Cond.methodLink RX2 11 yX4_lift ∈ tb := tb_of 538 (by decide +kernel) (by decide +kernel)
set_option maxRecDepth 100000 in
theorem t_539 : Cond.instanceMethod yX4_lift ∈ tb := tb_of 539 (by decide +kernel) (by decide +kernel)
set_option maxRecDepth 100000 in
theorem t_540 : Cond.code yX4_lift cX4_lift 4 (some .int) ∈ tb := tb_of 540 (by decide +kernel) (by decide +kernel)
set_option maxRecDepth 100000 in
theorem t_541 : Cond.methodLink RX4 7 yX0_lift ∈ tb := tb_of 541 (by decide +kernel) (by decide +kernel)
set_option maxRecDepth 100000 in
theorem t_542 : Cond.methodLink RX2 14 Lib.Math.min.name ∈ tb := tb_of 542 (by decide +kernel) (by decide +kernel)
set_option maxRecDepth 100000 in
theorem t_543 : Cond.static Lib.Math.min.name ∈ tb := tb_of 543 (by decide +kernel) (by decide +kernel)
set_option maxRecDepth 100000 in
theorem t_544 : Cond.code Lib.Math.min.name Lib.Math.min.code 2 (some .int) ∈ tb := tb_of 544 (by decide +kernel) (by decide +kernel)
set_option maxRecDepth 100000 in
theorem t_545 : Cond.selects RX4 yX0_lift yX4_lift ∈ tb := tb_of 545 (by decide +kernel) (by decide +kernel)
set_option maxRecDepth 100000 in
theorem t_546 : Cond.selects RX8 yX0_lift yX8_lift ∈ tb := tb_of 546 (by decide +kernel) (by decide +kernel)
set_option maxRecDepth 100000 in
theorem t_547 : Cond.selects RX9 yX0_lift yX9_lift ∈ tb := tb_of 547 (by decide +kernel) (by decide +kernel)
set_option maxRecDepth 100000 in
theorem t_548 : Cond.instanceMethod yX9_lift ∈ tb := tb_of 548 (by decide +kernel) (by decide +kernel)
set_option maxRecDepth 100000 in
theorem t_549 : Cond.code yX9_lift cX9_lift 4 (some .int) ∈ tb := tb_of 549 (by decide +kernel) (by decide +kernel)
set_option maxRecDepth 100000 in
theorem t_550 : Cond.code yX0_lift cX0_lift 4 (some .int) ∈ tb := tb_of 550 (by decide +kernel) (by decide +kernel)
set_option maxRecDepth 100000 in
theorem t_551 : Cond.methodLink RX11 138 yX10_pays ∈ tb := tb_of 551 (by decide +kernel) (by decide +kernel)
set_option maxRecDepth 100000 in
theorem t_552 : Cond.instanceMethod yX10_pays ∈ tb := tb_of 552 (by decide +kernel) (by decide +kernel)
set_option maxRecDepth 100000 in
theorem t_553 : Cond.selects RX10 yX10_pays yX10_pays ∈ tb := tb_of 553 (by decide +kernel) (by decide +kernel)
set_option maxRecDepth 100000 in
theorem t_554 : Cond.code yX10_pays cX10_pays 5 (some .int) ∈ tb := tb_of 554 (by decide +kernel) (by decide +kernel)
set_option maxRecDepth 100000 in
theorem t_555 : Cond.methodLink RX11 141 yX10_may ∈ tb := tb_of 555 (by decide +kernel) (by decide +kernel)
set_option maxRecDepth 100000 in
theorem t_556 : Cond.instanceMethod yX10_may ∈ tb := tb_of 556 (by decide +kernel) (by decide +kernel)
set_option maxRecDepth 100000 in
theorem t_557 : Cond.selects RX10 yX10_may yX10_may ∈ tb := tb_of 557 (by decide +kernel) (by decide +kernel)
set_option maxRecDepth 100000 in
theorem t_558 : Cond.code yX10_may cX10_may 3 (some .boolean) ∈ tb := tb_of 558 (by decide +kernel) (by decide +kernel)
set_option maxRecDepth 100000 in
theorem t_559 : Cond.methodLink RX10 142 yX10_pays ∈ tb := tb_of 559 (by decide +kernel) (by decide +kernel)
set_option maxRecDepth 100000 in
theorem t_560 : Cond.methodLink RX10 145 yX10_will ∈ tb := tb_of 560 (by decide +kernel) (by decide +kernel)
set_option maxRecDepth 100000 in
theorem t_561 : Cond.instanceMethod yX10_will ∈ tb := tb_of 561 (by decide +kernel) (by decide +kernel)
set_option maxRecDepth 100000 in
theorem t_562 : Cond.selects RX10 yX10_will yX10_will ∈ tb := tb_of 562 (by decide +kernel) (by decide +kernel)
set_option maxRecDepth 100000 in
theorem t_563 : Cond.code yX10_will cX10_will 3 (some .int) ∈ tb := tb_of 563 (by decide +kernel) (by decide +kernel)
set_option maxRecDepth 100000 in
theorem t_564 : Cond.methodLink RX10 138 yX6_willOf ∈ tb := tb_of 564 (by decide +kernel) (by decide +kernel)
set_option maxRecDepth 100000 in
theorem t_565 : Cond.instanceMethod yX6_willOf ∈ tb := tb_of 565 (by decide +kernel) (by decide +kernel)
set_option maxRecDepth 100000 in
theorem t_566 : Cond.selects RX6 yX6_willOf yX6_willOf ∈ tb := tb_of 566 (by decide +kernel) (by decide +kernel)
set_option maxRecDepth 100000 in
theorem t_567 : Cond.code yX6_willOf cX6_willOf 6 (some .int) ∈ tb := tb_of 567 (by decide +kernel) (by decide +kernel)
set_option maxRecDepth 100000 in
theorem t_568 : Cond.methodLink RX6 57 yX0_isUnder ∈ tb := tb_of 568 (by decide +kernel) (by decide +kernel)
set_option maxRecDepth 100000 in
theorem t_569 : Cond.static yX0_isUnder ∈ tb := tb_of 569 (by decide +kernel) (by decide +kernel)
set_option maxRecDepth 100000 in
theorem t_570 : Cond.code yX0_isUnder cX0_isUnder 2 (some .boolean) ∈ tb := tb_of 570 (by decide +kernel) (by decide +kernel)
set_option maxRecDepth 100000 in
theorem t_571 : Cond.fieldLink RX0 7 "FloodCellar$Barrel" "ABOVE" "[I" ∈ tb := tb_of 571 (by decide +kernel) (by decide +kernel)
set_option maxRecDepth 100000 in
theorem t_573 : Cond.methodLink RX6 63 yX6_holds ∈ tb := tb_of 573 (by decide +kernel) (by decide +kernel)
set_option maxRecDepth 100000 in
theorem t_575 : Cond.instanceMethod yX6_holds ∈ tb := tb_of 575 (by decide +kernel) (by decide +kernel)
set_option maxRecDepth 100000 in
theorem t_576 : Cond.code yX6_holds cX6_holds 5 (some .boolean) ∈ tb := tb_of 576 (by decide +kernel) (by decide +kernel)
set_option maxRecDepth 100000 in
theorem t_577 : Cond.methodLink RX6 67 yX6_compares ∈ tb := tb_of 577 (by decide +kernel) (by decide +kernel)
set_option maxRecDepth 100000 in
theorem t_579 : Cond.instanceMethod yX6_compares ∈ tb := tb_of 579 (by decide +kernel) (by decide +kernel)
set_option maxRecDepth 100000 in
theorem t_580 : Cond.code yX6_compares cX6_compares 5 (some .boolean) ∈ tb := tb_of 580 (by decide +kernel) (by decide +kernel)
set_option maxRecDepth 100000 in
theorem t_581 : Cond.methodLink RX11 145 yX10_will ∈ tb := tb_of 581 (by decide +kernel) (by decide +kernel)
set_option maxRecDepth 100000 in
theorem t_586 : Cond.methodLink RX11 148 yX11_put ∈ tb := tb_of 586 (by decide +kernel) (by decide +kernel)
set_option maxRecDepth 100000 in
theorem t_587 : Cond.static yX11_put ∈ tb := tb_of 587 (by decide +kernel) (by decide +kernel)
set_option maxRecDepth 100000 in
theorem t_588 : Cond.code yX11_put cX11_put 4 (some .int) ∈ tb := tb_of 588 (by decide +kernel) (by decide +kernel)
set_option maxRecDepth 100000 in
theorem t_617 : Cond.methodLink RX11 170 yX10_isOver ∈ tb := tb_of 617 (by decide +kernel) (by decide +kernel)
set_option maxRecDepth 100000 in
theorem t_618 : Cond.instanceMethod yX10_isOver ∈ tb := tb_of 618 (by decide +kernel) (by decide +kernel)
set_option maxRecDepth 100000 in
theorem t_619 : Cond.selects RX10 yX10_isOver yX10_isOver ∈ tb := tb_of 619 (by decide +kernel) (by decide +kernel)
set_option maxRecDepth 100000 in
theorem t_620 : Cond.code yX10_isOver cX10_isOver 2 (some .boolean) ∈ tb := tb_of 620 (by decide +kernel) (by decide +kernel)
set_option maxRecDepth 100000 in
theorem t_621 : Cond.methodLink RX11 174 yX10_waterAt ∈ tb := tb_of 621 (by decide +kernel) (by decide +kernel)
set_option maxRecDepth 100000 in
theorem t_622 : Cond.methodLink RX11 178 yX10_allFill ∈ tb := tb_of 622 (by decide +kernel) (by decide +kernel)
set_option maxRecDepth 100000 in
theorem t_623 : Cond.instanceMethod yX10_allFill ∈ tb := tb_of 623 (by decide +kernel) (by decide +kernel)
set_option maxRecDepth 100000 in
theorem t_624 : Cond.selects RX10 yX10_allFill yX10_allFill ∈ tb := tb_of 624 (by decide +kernel) (by decide +kernel)
set_option maxRecDepth 100000 in
theorem t_625 : Cond.code yX10_allFill cX10_allFill 4 (some .int) ∈ tb := tb_of 625 (by decide +kernel) (by decide +kernel)
set_option maxRecDepth 100000 in
theorem t_634 : Cond.methodLink RX11 185 yX6_read ∈ tb := tb_of 634 (by decide +kernel) (by decide +kernel)
set_option maxRecDepth 100000 in
theorem t_635 : Cond.instanceMethod yX6_read ∈ tb := tb_of 635 (by decide +kernel) (by decide +kernel)
set_option maxRecDepth 100000 in
theorem t_636 : Cond.selects RX6 yX6_read yX6_read ∈ tb := tb_of 636 (by decide +kernel) (by decide +kernel)
set_option maxRecDepth 100000 in
theorem t_637 : Cond.code yX6_read cX6_read 4 (some .int) ∈ tb := tb_of 637 (by decide +kernel) (by decide +kernel)
set_option maxRecDepth 100000 in
theorem t_638 : Cond.methodLink RX6 70 yX6_part ∈ tb := tb_of 638 (by decide +kernel) (by decide +kernel)
set_option maxRecDepth 100000 in
theorem t_640 : Cond.instanceMethod yX6_part ∈ tb := tb_of 640 (by decide +kernel) (by decide +kernel)
set_option maxRecDepth 100000 in
theorem t_641 : Cond.code yX6_part cX6_part 7 none ∈ tb := tb_of 641 (by decide +kernel) (by decide +kernel)
set_option maxRecDepth 100000 in
theorem t_642 : Cond.methodLink RX6 104 yX6_endOf ∈ tb := tb_of 642 (by decide +kernel) (by decide +kernel)
set_option maxRecDepth 100000 in
theorem t_643 : Cond.static yX6_endOf ∈ tb := tb_of 643 (by decide +kernel) (by decide +kernel)
set_option maxRecDepth 100000 in
theorem t_644 : Cond.code yX6_endOf cX6_endOf 5 (some .int) ∈ tb := tb_of 644 (by decide +kernel) (by decide +kernel)
set_option maxRecDepth 100000 in
theorem t_645 : Cond.methodLink RX6 111 yX6_isLetter ∈ tb := tb_of 645 (by decide +kernel) (by decide +kernel)
set_option maxRecDepth 100000 in
theorem t_646 : Cond.static yX6_isLetter ∈ tb := tb_of 646 (by decide +kernel) (by decide +kernel)
set_option maxRecDepth 100000 in
theorem t_647 : Cond.code yX6_isLetter cX6_isLetter 1 (some .boolean) ∈ tb := tb_of 647 (by decide +kernel) (by decide +kernel)
set_option maxRecDepth 100000 in
theorem t_648 : Cond.methodLink RX6 114 yX6_isDigit ∈ tb := tb_of 648 (by decide +kernel) (by decide +kernel)
set_option maxRecDepth 100000 in
theorem t_649 : Cond.static yX6_isDigit ∈ tb := tb_of 649 (by decide +kernel) (by decide +kernel)
set_option maxRecDepth 100000 in
theorem t_650 : Cond.code yX6_isDigit cX6_isDigit 1 (some .boolean) ∈ tb := tb_of 650 (by decide +kernel) (by decide +kernel)
set_option maxRecDepth 100000 in
theorem t_651 : Cond.methodLink RX6 108 yX6_tokenOf ∈ tb := tb_of 651 (by decide +kernel) (by decide +kernel)
set_option maxRecDepth 100000 in
theorem t_652 : Cond.static yX6_tokenOf ∈ tb := tb_of 652 (by decide +kernel) (by decide +kernel)
set_option maxRecDepth 100000 in
theorem t_653 : Cond.code yX6_tokenOf cX6_tokenOf 5 (some .int) ∈ tb := tb_of 653 (by decide +kernel) (by decide +kernel)
set_option maxRecDepth 100000 in
theorem t_654 : Cond.methodLink RX6 117 yX6_wordOf ∈ tb := tb_of 654 (by decide +kernel) (by decide +kernel)
set_option maxRecDepth 100000 in
theorem t_655 : Cond.static yX6_wordOf ∈ tb := tb_of 655 (by decide +kernel) (by decide +kernel)
set_option maxRecDepth 100000 in
theorem t_656 : Cond.code yX6_wordOf cX6_wordOf 6 (some .int) ∈ tb := tb_of 656 (by decide +kernel) (by decide +kernel)
set_option maxRecDepth 100000 in
theorem t_658 : Cond.methodLink RX6 122 yJ0_length_8abf5 ∈ tb := tb_of 658 (by decide +kernel) (by decide +kernel)
set_option maxRecDepth 100000 in
theorem t_659 : Cond.instanceMethod yJ0_length_8abf5 ∈ tb := tb_of 659 (by decide +kernel) (by decide +kernel)
set_option maxRecDepth 100000 in
theorem t_660 : Cond.selects RJ0 yJ0_length_8abf5 yJ0_length_8abf5 ∈ tb := tb_of 660 (by decide +kernel) (by decide +kernel)
set_option maxRecDepth 100000 in
theorem t_661 : Cond.code yJ0_length_8abf5 cJ0_length_8abf5 1 (some .int) ∈ tb := tb_of 661 (by decide +kernel) (by decide +kernel)
set_option maxRecDepth 100000 in
theorem t_662 : Cond.methodLink RJ0 335 yJ0_coder_7d493 ∈ tb := tb_of 662 (by decide +kernel) (by decide +kernel)
set_option maxRecDepth 100000 in
theorem t_663 : Cond.instanceMethod yJ0_coder_7d493 ∈ tb := tb_of 663 (by decide +kernel) (by decide +kernel)
set_option maxRecDepth 100000 in
theorem t_664 : Cond.selects RJ0 yJ0_coder_7d493 yJ0_coder_7d493 ∈ tb := tb_of 664 (by decide +kernel) (by decide +kernel)
set_option maxRecDepth 100000 in
theorem t_665 : Cond.code yJ0_coder_7d493 cJ0_coder_7d493 1 (some .byte) ∈ tb := tb_of 665 (by decide +kernel) (by decide +kernel)
set_option maxRecDepth 100000 in
theorem t_666 : Cond.fieldLink RJ0 38 "java/lang/String" "COMPACT_STRINGS" "Z" ∈ tb := tb_of 666 (by decide +kernel) (by decide +kernel)
set_option maxRecDepth 100000 in
theorem t_668 : Cond.methodLink RX6 127 yJ0_charAt_5068e ∈ tb := tb_of 668 (by decide +kernel) (by decide +kernel)
set_option maxRecDepth 100000 in
theorem t_669 : Cond.instanceMethod yJ0_charAt_5068e ∈ tb := tb_of 669 (by decide +kernel) (by decide +kernel)
set_option maxRecDepth 100000 in
theorem t_670 : Cond.selects RJ0 yJ0_charAt_5068e yJ0_charAt_5068e ∈ tb := tb_of 670 (by decide +kernel) (by decide +kernel)
set_option maxRecDepth 100000 in
theorem t_671 : Cond.code yJ0_charAt_5068e cJ0_charAt_5068e 2 (some .char) ∈ tb := tb_of 671 (by decide +kernel) (by decide +kernel)
set_option maxRecDepth 100000 in
theorem t_672 : Cond.methodLink RJ0 492 yJ0_isLatin1_aae02 ∈ tb := tb_of 672 (by decide +kernel) (by decide +kernel)
set_option maxRecDepth 100000 in
theorem t_673 : Cond.instanceMethod yJ0_isLatin1_aae02 ∈ tb := tb_of 673 (by decide +kernel) (by decide +kernel)
set_option maxRecDepth 100000 in
theorem t_674 : Cond.selects RJ0 yJ0_isLatin1_aae02 yJ0_isLatin1_aae02 ∈ tb := tb_of 674 (by decide +kernel) (by decide +kernel)
set_option maxRecDepth 100000 in
theorem t_675 : Cond.code yJ0_isLatin1_aae02 cJ0_isLatin1_aae02 1 (some .boolean) ∈ tb := tb_of 675 (by decide +kernel) (by decide +kernel)
set_option maxRecDepth 100000 in
theorem t_676 : Cond.methodLink RJ0 495 yJ1_charAt_3b067 ∈ tb := tb_of 676 (by decide +kernel) (by decide +kernel)
set_option maxRecDepth 100000 in
theorem t_677 : Cond.static yJ1_charAt_3b067 ∈ tb := tb_of 677 (by decide +kernel) (by decide +kernel)
set_option maxRecDepth 100000 in
theorem t_678 : Cond.code yJ1_charAt_3b067 cJ1_charAt_3b067 2 (some .char) ∈ tb := tb_of 678 (by decide +kernel) (by decide +kernel)
set_option maxRecDepth 100000 in
theorem t_679 : Cond.methodLink RJ1 9 yJ0_checkIndex_df160 ∈ tb := tb_of 679 (by decide +kernel) (by decide +kernel)
set_option maxRecDepth 100000 in
theorem t_680 : Cond.static yJ0_checkIndex_df160 ∈ tb := tb_of 680 (by decide +kernel) (by decide +kernel)
set_option maxRecDepth 100000 in
theorem t_681 : Cond.code yJ0_checkIndex_df160 cJ0_checkIndex_df160 2 none ∈ tb := tb_of 681 (by decide +kernel) (by decide +kernel)
set_option maxRecDepth 100000 in
theorem t_682 : Cond.fieldLink RJ0 1053 "jdk/internal/util/Preconditions" "SIOOBE_FORMATTER" "Ljava/util/function/BiFunction;" ∈ tb := tb_of 682 (by decide +kernel) (by decide +kernel)
set_option maxRecDepth 100000 in
theorem t_684 : Cond.methodLink RJ0 1059 yJ3_checkIndex_8e157 ∈ tb := tb_of 684 (by decide +kernel) (by decide +kernel)
set_option maxRecDepth 100000 in
theorem t_685 : Cond.static yJ3_checkIndex_8e157 ∈ tb := tb_of 685 (by decide +kernel) (by decide +kernel)
set_option maxRecDepth 100000 in
theorem t_686 : Cond.code yJ3_checkIndex_8e157 cJ3_checkIndex_8e157 3 (some .int) ∈ tb := tb_of 686 (by decide +kernel) (by decide +kernel)
set_option maxRecDepth 100000 in
theorem t_706 : Cond.methodLink RX6 131 yX6_isWordAt ∈ tb := tb_of 706 (by decide +kernel) (by decide +kernel)
set_option maxRecDepth 100000 in
theorem t_707 : Cond.static yX6_isWordAt ∈ tb := tb_of 707 (by decide +kernel) (by decide +kernel)
set_option maxRecDepth 100000 in
theorem t_708 : Cond.code yX6_isWordAt cX6_isWordAt 5 (some .boolean) ∈ tb := tb_of 708 (by decide +kernel) (by decide +kernel)
set_option maxRecDepth 100000 in
theorem t_709 : Cond.methodLink RX6 80 yX6_readRule ∈ tb := tb_of 709 (by decide +kernel) (by decide +kernel)
set_option maxRecDepth 100000 in
theorem t_711 : Cond.instanceMethod yX6_readRule ∈ tb := tb_of 711 (by decide +kernel) (by decide +kernel)
set_option maxRecDepth 100000 in
theorem t_712 : Cond.code yX6_readRule cX6_readRule 3 none ∈ tb := tb_of 712 (by decide +kernel) (by decide +kernel)
set_option maxRecDepth 100000 in
theorem t_713 : Cond.methodLink RX6 83 yX6_readCondition ∈ tb := tb_of 713 (by decide +kernel) (by decide +kernel)
set_option maxRecDepth 100000 in
theorem t_715 : Cond.instanceMethod yX6_readCondition ∈ tb := tb_of 715 (by decide +kernel) (by decide +kernel)
set_option maxRecDepth 100000 in
theorem t_716 : Cond.code yX6_readCondition cX6_readCondition 3 none ∈ tb := tb_of 716 (by decide +kernel) (by decide +kernel)
set_option maxRecDepth 100000 in
theorem t_717 : Cond.methodLink RX6 91 yX6_readAll ∈ tb := tb_of 717 (by decide +kernel) (by decide +kernel)
set_option maxRecDepth 100000 in
theorem t_719 : Cond.instanceMethod yX6_readAll ∈ tb := tb_of 719 (by decide +kernel) (by decide +kernel)
set_option maxRecDepth 100000 in
theorem t_720 : Cond.code yX6_readAll cX6_readAll 3 none ∈ tb := tb_of 720 (by decide +kernel) (by decide +kernel)
set_option maxRecDepth 100000 in
theorem t_721 : Cond.methodLink RX6 97 yX6_readOne ∈ tb := tb_of 721 (by decide +kernel) (by decide +kernel)
set_option maxRecDepth 100000 in
theorem t_723 : Cond.instanceMethod yX6_readOne ∈ tb := tb_of 723 (by decide +kernel) (by decide +kernel)
set_option maxRecDepth 100000 in
theorem t_724 : Cond.code yX6_readOne cX6_readOne 6 none ∈ tb := tb_of 724 (by decide +kernel) (by decide +kernel)
set_option maxRecDepth 100000 in
theorem t_725 : Cond.methodLink RX6 100 yX6_readValue ∈ tb := tb_of 725 (by decide +kernel) (by decide +kernel)
set_option maxRecDepth 100000 in
theorem t_727 : Cond.instanceMethod yX6_readValue ∈ tb := tb_of 727 (by decide +kernel) (by decide +kernel)
set_option maxRecDepth 100000 in
theorem t_728 : Cond.code yX6_readValue cX6_readValue 1 (some .int) ∈ tb := tb_of 728 (by decide +kernel) (by decide +kernel)
set_option maxRecDepth 100000 in
theorem t_729 : Cond.methodLink RX6 87 yX6_expect ∈ tb := tb_of 729 (by decide +kernel) (by decide +kernel)
set_option maxRecDepth 100000 in
theorem t_731 : Cond.instanceMethod yX6_expect ∈ tb := tb_of 731 (by decide +kernel) (by decide +kernel)
set_option maxRecDepth 100000 in
theorem t_732 : Cond.code yX6_expect cX6_expect 4 (some .int) ∈ tb := tb_of 732 (by decide +kernel) (by decide +kernel)
set_option maxRecDepth 100000 in
theorem t_733 : Cond.methodLink RX6 94 yX6_emit ∈ tb := tb_of 733 (by decide +kernel) (by decide +kernel)
set_option maxRecDepth 100000 in
theorem t_735 : Cond.instanceMethod yX6_emit ∈ tb := tb_of 735 (by decide +kernel) (by decide +kernel)
set_option maxRecDepth 100000 in
theorem t_736 : Cond.code yX6_emit cX6_emit 2 none ∈ tb := tb_of 736 (by decide +kernel) (by decide +kernel)
set_option maxRecDepth 100000 in
theorem t_737 : Cond.methodLink RX11 192 yX6_take ∈ tb := tb_of 737 (by decide +kernel) (by decide +kernel)
set_option maxRecDepth 100000 in
theorem t_738 : Cond.instanceMethod yX6_take ∈ tb := tb_of 738 (by decide +kernel) (by decide +kernel)
set_option maxRecDepth 100000 in
theorem t_739 : Cond.selects RX6 yX6_take yX6_take ∈ tb := tb_of 739 (by decide +kernel) (by decide +kernel)
set_option maxRecDepth 100000 in
theorem t_740 : Cond.code yX6_take cX6_take 2 none ∈ tb := tb_of 740 (by decide +kernel) (by decide +kernel)
set_option maxRecDepth 100000 in
theorem t_741 : Cond.methodLink RX6 40 arraycopyName ∈ tb := tb_of 741 (by decide +kernel) (by decide +kernel)
set_option maxRecDepth 100000 in
theorem t_742 : Cond.static arraycopyName ∈ tb := tb_of 742 (by decide +kernel) (by decide +kernel)
set_option maxRecDepth 100000 in
theorem t_743 : Cond.native arraycopyName ∈ tb := tb_of 743 (by decide +kernel) (by decide +kernel)
set_option maxRecDepth 100000 in
theorem t_748 : Cond.methodLink RX11 197 yX10_restAct ∈ tb := tb_of 748 (by decide +kernel) (by decide +kernel)
set_option maxRecDepth 100000 in
theorem t_749 : Cond.instanceMethod yX10_restAct ∈ tb := tb_of 749 (by decide +kernel) (by decide +kernel)
set_option maxRecDepth 100000 in
theorem t_750 : Cond.selects RX10 yX10_restAct yX10_restAct ∈ tb := tb_of 750 (by decide +kernel) (by decide +kernel)
set_option maxRecDepth 100000 in
theorem t_751 : Cond.code yX10_restAct cX10_restAct 3 (some .int) ∈ tb := tb_of 751 (by decide +kernel) (by decide +kernel)
set_option maxRecDepth 100000 in
theorem t_752 : Cond.methodLink RX10 148 yX10_may ∈ tb := tb_of 752 (by decide +kernel) (by decide +kernel)
set_option maxRecDepth 100000 in
theorem t_753 : Cond.methodLink RX11 200 yX11_goBy ∈ tb := tb_of 753 (by decide +kernel) (by decide +kernel)
set_option maxRecDepth 100000 in
theorem t_755 : Cond.instanceMethod yX11_goBy ∈ tb := tb_of 755 (by decide +kernel) (by decide +kernel)
set_option maxRecDepth 100000 in
theorem t_756 : Cond.code yX11_goBy cX11_goBy 3 (some .int) ∈ tb := tb_of 756 (by decide +kernel) (by decide +kernel)
set_option maxRecDepth 100000 in
theorem t_757 : Cond.methodLink RX11 212 yX10_pass ∈ tb := tb_of 757 (by decide +kernel) (by decide +kernel)
set_option maxRecDepth 100000 in
theorem t_758 : Cond.instanceMethod yX10_pass ∈ tb := tb_of 758 (by decide +kernel) (by decide +kernel)
set_option maxRecDepth 100000 in
theorem t_759 : Cond.selects RX10 yX10_pass yX10_pass ∈ tb := tb_of 759 (by decide +kernel) (by decide +kernel)
set_option maxRecDepth 100000 in
theorem t_760 : Cond.code yX10_pass cX10_pass 8 (some .int) ∈ tb := tb_of 760 (by decide +kernel) (by decide +kernel)
set_option maxRecDepth 100000 in
theorem t_761 : Cond.methodLink RX10 163 yX10_has ∈ tb := tb_of 761 (by decide +kernel) (by decide +kernel)
set_option maxRecDepth 100000 in
theorem t_762 : Cond.methodLink RX10 166 yX3_putStaked ∈ tb := tb_of 762 (by decide +kernel) (by decide +kernel)
set_option maxRecDepth 100000 in
theorem t_763 : Cond.methodLink RX10 169 yX10_bung ∈ tb := tb_of 763 (by decide +kernel) (by decide +kernel)
set_option maxRecDepth 100000 in
theorem t_765 : Cond.instanceMethod yX10_bung ∈ tb := tb_of 765 (by decide +kernel) (by decide +kernel)
set_option maxRecDepth 100000 in
theorem t_766 : Cond.code yX10_bung cX10_bung 3 (some .int) ∈ tb := tb_of 766 (by decide +kernel) (by decide +kernel)
set_option maxRecDepth 100000 in
theorem t_767 : Cond.methodLink RX10 84 Lib.Math.min.name ∈ tb := tb_of 767 (by decide +kernel) (by decide +kernel)
set_option maxRecDepth 100000 in
theorem t_768 : Cond.methodLink RX10 172 yX10_leaks ∈ tb := tb_of 768 (by decide +kernel) (by decide +kernel)
set_option maxRecDepth 100000 in
theorem t_773 : Cond.methodLink RX11 203 yX3_take ∈ tb := tb_of 773 (by decide +kernel) (by decide +kernel)
set_option maxRecDepth 100000 in
theorem t_774 : Cond.instanceMethod yX3_take ∈ tb := tb_of 774 (by decide +kernel) (by decide +kernel)
set_option maxRecDepth 100000 in
theorem t_775 : Cond.selects RX3 yX3_take yX3_take ∈ tb := tb_of 775 (by decide +kernel) (by decide +kernel)
set_option maxRecDepth 100000 in
theorem t_776 : Cond.code yX3_take cX3_take 3 none ∈ tb := tb_of 776 (by decide +kernel) (by decide +kernel)
set_option maxRecDepth 100000 in
theorem t_777 : Cond.methodLink RX11 206 yX10_rest ∈ tb := tb_of 777 (by decide +kernel) (by decide +kernel)
set_option maxRecDepth 100000 in
theorem t_778 : Cond.instanceMethod yX10_rest ∈ tb := tb_of 778 (by decide +kernel) (by decide +kernel)
set_option maxRecDepth 100000 in
theorem t_779 : Cond.selects RX10 yX10_rest yX10_rest ∈ tb := tb_of 779 (by decide +kernel) (by decide +kernel)
set_option maxRecDepth 100000 in
theorem t_780 : Cond.code yX10_rest cX10_rest 5 (some .int) ∈ tb := tb_of 780 (by decide +kernel) (by decide +kernel)
set_option maxRecDepth 100000 in
theorem t_781 : Cond.methodLink RX10 152 yX10_isOver ∈ tb := tb_of 781 (by decide +kernel) (by decide +kernel)
set_option maxRecDepth 100000 in
theorem t_782 : Cond.methodLink RX10 156 yX10_restAct ∈ tb := tb_of 782 (by decide +kernel) (by decide +kernel)
set_option maxRecDepth 100000 in
theorem t_783 : Cond.methodLink RX10 160 yX10_pass ∈ tb := tb_of 783 (by decide +kernel) (by decide +kernel)
set_option maxRecDepth 100000 in
theorem t_788 : Cond.methodLink RX11 209 yX3_isStaked ∈ tb := tb_of 788 (by decide +kernel) (by decide +kernel)
set_option maxRecDepth 100000 in
theorem t_813 : Cond.methodLink RX11 215 yX11_countRafts ∈ tb := tb_of 813 (by decide +kernel) (by decide +kernel)
set_option maxRecDepth 100000 in
theorem t_815 : Cond.instanceMethod yX11_countRafts ∈ tb := tb_of 815 (by decide +kernel) (by decide +kernel)
set_option maxRecDepth 100000 in
theorem t_816 : Cond.code yX11_countRafts cX11_countRafts 4 (some .int) ∈ tb := tb_of 816 (by decide +kernel) (by decide +kernel)
set_option maxRecDepth 100000 in
theorem t_817 : Cond.methodLink RX11 219 yX11_raftOf ∈ tb := tb_of 817 (by decide +kernel) (by decide +kernel)
set_option maxRecDepth 100000 in
theorem t_819 : Cond.instanceMethod yX11_raftOf ∈ tb := tb_of 819 (by decide +kernel) (by decide +kernel)
set_option maxRecDepth 100000 in
theorem t_820 : Cond.code yX11_raftOf cX11_raftOf 5 (some .int) ∈ tb := tb_of 820 (by decide +kernel) (by decide +kernel)
set_option maxRecDepth 100000 in
theorem t_821 : Cond.methodLink RX11 374 yX10_isCloseToAny ∈ tb := tb_of 821 (by decide +kernel) (by decide +kernel)
set_option maxRecDepth 100000 in
theorem t_822 : Cond.instanceMethod yX10_isCloseToAny ∈ tb := tb_of 822 (by decide +kernel) (by decide +kernel)
set_option maxRecDepth 100000 in
theorem t_823 : Cond.selects RX10 yX10_isCloseToAny yX10_isCloseToAny ∈ tb := tb_of 823 (by decide +kernel) (by decide +kernel)
set_option maxRecDepth 100000 in
theorem t_824 : Cond.code yX10_isCloseToAny cX10_isCloseToAny 5 (some .boolean) ∈ tb := tb_of 824 (by decide +kernel) (by decide +kernel)
set_option maxRecDepth 100000 in
theorem t_825 : Cond.methodLink RX10 175 yX10_floatsOf ∈ tb := tb_of 825 (by decide +kernel) (by decide +kernel)
set_option maxRecDepth 100000 in
theorem t_830 : Cond.methodLink RX11 222 yX5_lookAhead ∈ tb := tb_of 830 (by decide +kernel) (by decide +kernel)
set_option maxRecDepth 100000 in
theorem t_831 : Cond.instanceMethod yX5_lookAhead ∈ tb := tb_of 831 (by decide +kernel) (by decide +kernel)
set_option maxRecDepth 100000 in
theorem t_832 : Cond.selects RX5 yX5_lookAhead yX5_lookAhead ∈ tb := tb_of 832 (by decide +kernel) (by decide +kernel)
set_option maxRecDepth 100000 in
theorem t_833 : Cond.code yX5_lookAhead cX5_lookAhead 3 none ∈ tb := tb_of 833 (by decide +kernel) (by decide +kernel)
set_option maxRecDepth 100000 in
theorem t_834 : Cond.methodLink RX5 62 yX5_begin ∈ tb := tb_of 834 (by decide +kernel) (by decide +kernel)
set_option maxRecDepth 100000 in
theorem t_836 : Cond.instanceMethod yX5_begin ∈ tb := tb_of 836 (by decide +kernel) (by decide +kernel)
set_option maxRecDepth 100000 in
theorem t_837 : Cond.code yX5_begin cX5_begin 2 none ∈ tb := tb_of 837 (by decide +kernel) (by decide +kernel)
set_option maxRecDepth 100000 in
theorem t_838 : Cond.methodLink RX5 51 yX5_lengthOf ∈ tb := tb_of 838 (by decide +kernel) (by decide +kernel)
set_option maxRecDepth 100000 in
theorem t_839 : Cond.instanceMethod yX5_lengthOf ∈ tb := tb_of 839 (by decide +kernel) (by decide +kernel)
set_option maxRecDepth 100000 in
theorem t_840 : Cond.selects RX5 yX5_lengthOf yX5_lengthOf ∈ tb := tb_of 840 (by decide +kernel) (by decide +kernel)
set_option maxRecDepth 100000 in
theorem t_841 : Cond.code yX5_lengthOf cX5_lengthOf 2 (some .int) ∈ tb := tb_of 841 (by decide +kernel) (by decide +kernel)
set_option maxRecDepth 100000 in
theorem t_842 : Cond.methodLink RX5 42 Lib.Math.min.name ∈ tb := tb_of 842 (by decide +kernel) (by decide +kernel)
set_option maxRecDepth 100000 in
theorem t_843 : Cond.methodLink RX5 48 Lib.Math.max.name ∈ tb := tb_of 843 (by decide +kernel) (by decide +kernel)
set_option maxRecDepth 100000 in
theorem t_844 : Cond.methodLink RX5 58 yX3_take ∈ tb := tb_of 844 (by decide +kernel) (by decide +kernel)
set_option maxRecDepth 100000 in
theorem t_845 : Cond.methodLink RX5 78 yX5_tryAll ∈ tb := tb_of 845 (by decide +kernel) (by decide +kernel)
set_option maxRecDepth 100000 in
theorem t_847 : Cond.instanceMethod yX5_tryAll ∈ tb := tb_of 847 (by decide +kernel) (by decide +kernel)
set_option maxRecDepth 100000 in
theorem t_848 : Cond.code yX5_tryAll cX5_tryAll 7 none ∈ tb := tb_of 848 (by decide +kernel) (by decide +kernel)
set_option maxRecDepth 100000 in
theorem t_849 : Cond.methodLink RX5 85 yX5_weigh ∈ tb := tb_of 849 (by decide +kernel) (by decide +kernel)
set_option maxRecDepth 100000 in
theorem t_851 : Cond.instanceMethod yX5_weigh ∈ tb := tb_of 851 (by decide +kernel) (by decide +kernel)
set_option maxRecDepth 100000 in
theorem t_852 : Cond.code yX5_weigh cX5_weigh 5 none ∈ tb := tb_of 852 (by decide +kernel) (by decide +kernel)
set_option maxRecDepth 100000 in
theorem t_853 : Cond.methodLink RX5 91 yX10_pass ∈ tb := tb_of 853 (by decide +kernel) (by decide +kernel)
set_option maxRecDepth 100000 in
theorem t_858 : Cond.methodLink RX11 229 yX5_lengthOf ∈ tb := tb_of 858 (by decide +kernel) (by decide +kernel)
set_option maxRecDepth 100000 in
theorem t_867 : Cond.methodLink RX11 238 yX11_isSetOfBarrels ∈ tb := tb_of 867 (by decide +kernel) (by decide +kernel)
set_option maxRecDepth 100000 in
theorem t_869 : Cond.instanceMethod yX11_isSetOfBarrels ∈ tb := tb_of 869 (by decide +kernel) (by decide +kernel)
set_option maxRecDepth 100000 in
theorem t_870 : Cond.code yX11_isSetOfBarrels cX11_isSetOfBarrels 2 (some .boolean) ∈ tb := tb_of 870 (by decide +kernel) (by decide +kernel)
set_option maxRecDepth 100000 in
theorem t_875 : Cond.methodLink RX11 247 yJ6_numberOfTrailingZeros_0f7a4 ∈ tb := tb_of 875 (by decide +kernel) (by decide +kernel)
set_option maxRecDepth 100000 in
theorem t_876 : Cond.static yJ6_numberOfTrailingZeros_0f7a4 ∈ tb := tb_of 876 (by decide +kernel) (by decide +kernel)
set_option maxRecDepth 100000 in
theorem t_877 : Cond.code yJ6_numberOfTrailingZeros_0f7a4 cJ6_numberOfTrailingZeros_0f7a4 2 (some .int) ∈ tb := tb_of 877 (by decide +kernel) (by decide +kernel)
set_option maxRecDepth 100000 in
theorem t_878 : Cond.constant RJ6 264 65536 ∈ tb := tb_of 878 (by decide +kernel) (by decide +kernel)
set_option maxRecDepth 100000 in
theorem t_883 : Cond.methodLink RX11 252 yX5_gameOf ∈ tb := tb_of 883 (by decide +kernel) (by decide +kernel)
set_option maxRecDepth 100000 in
theorem t_884 : Cond.instanceMethod yX5_gameOf ∈ tb := tb_of 884 (by decide +kernel) (by decide +kernel)
set_option maxRecDepth 100000 in
theorem t_885 : Cond.selects RX5 yX5_gameOf yX5_gameOf ∈ tb := tb_of 885 (by decide +kernel) (by decide +kernel)
set_option maxRecDepth 100000 in
theorem t_886 : Cond.code yX5_gameOf cX5_gameOf 2 (some .int) ∈ tb := tb_of 886 (by decide +kernel) (by decide +kernel)
set_option maxRecDepth 100000 in
theorem t_887 : Cond.methodLink RX5 101 yX5_valueFrom ∈ tb := tb_of 887 (by decide +kernel) (by decide +kernel)
set_option maxRecDepth 100000 in
theorem t_889 : Cond.instanceMethod yX5_valueFrom ∈ tb := tb_of 889 (by decide +kernel) (by decide +kernel)
set_option maxRecDepth 100000 in
theorem t_890 : Cond.code yX5_valueFrom cX5_valueFrom 8 (some .int) ∈ tb := tb_of 890 (by decide +kernel) (by decide +kernel)
set_option maxRecDepth 100000 in
theorem t_907 : Cond.methodLink RX11 273 yX10_denied ∈ tb := tb_of 907 (by decide +kernel) (by decide +kernel)
set_option maxRecDepth 100000 in
theorem t_908 : Cond.instanceMethod yX10_denied ∈ tb := tb_of 908 (by decide +kernel) (by decide +kernel)
set_option maxRecDepth 100000 in
theorem t_909 : Cond.selects RX10 yX10_denied yX10_denied ∈ tb := tb_of 909 (by decide +kernel) (by decide +kernel)
set_option maxRecDepth 100000 in
theorem t_910 : Cond.code yX10_denied cX10_denied 9 (some .int) ∈ tb := tb_of 910 (by decide +kernel) (by decide +kernel)
set_option maxRecDepth 100000 in
theorem t_911 : Cond.methodLink RX10 178 yX10_loneKind ∈ tb := tb_of 911 (by decide +kernel) (by decide +kernel)
set_option maxRecDepth 100000 in
theorem t_912 : Cond.static yX10_loneKind ∈ tb := tb_of 912 (by decide +kernel) (by decide +kernel)
set_option maxRecDepth 100000 in
theorem t_913 : Cond.code yX10_loneKind cX10_loneKind 1 (some .int) ∈ tb := tb_of 913 (by decide +kernel) (by decide +kernel)
set_option maxRecDepth 100000 in
theorem t_914 : Cond.methodLink RX10 181 yX10_loneChalk ∈ tb := tb_of 914 (by decide +kernel) (by decide +kernel)
set_option maxRecDepth 100000 in
theorem t_915 : Cond.static yX10_loneChalk ∈ tb := tb_of 915 (by decide +kernel) (by decide +kernel)
set_option maxRecDepth 100000 in
theorem t_916 : Cond.code yX10_loneChalk cX10_loneChalk 1 (some .int) ∈ tb := tb_of 916 (by decide +kernel) (by decide +kernel)
set_option maxRecDepth 100000 in
theorem t_917 : Cond.methodLink RX10 184 yX10_loneFill ∈ tb := tb_of 917 (by decide +kernel) (by decide +kernel)
set_option maxRecDepth 100000 in
theorem t_918 : Cond.static yX10_loneFill ∈ tb := tb_of 918 (by decide +kernel) (by decide +kernel)
set_option maxRecDepth 100000 in
theorem t_919 : Cond.code yX10_loneFill cX10_loneFill 1 (some .int) ∈ tb := tb_of 919 (by decide +kernel) (by decide +kernel)
set_option maxRecDepth 100000 in
theorem t_920 : Cond.methodLink RX10 187 yX10_lastReported ∈ tb := tb_of 920 (by decide +kernel) (by decide +kernel)
set_option maxRecDepth 100000 in
theorem t_922 : Cond.instanceMethod yX10_lastReported ∈ tb := tb_of 922 (by decide +kernel) (by decide +kernel)
set_option maxRecDepth 100000 in
theorem t_923 : Cond.code yX10_lastReported cX10_lastReported 3 (some .int) ∈ tb := tb_of 923 (by decide +kernel) (by decide +kernel)
set_option maxRecDepth 100000 in
theorem t_924 : Cond.methodLink RX10 191 yX10_deniedBehind ∈ tb := tb_of 924 (by decide +kernel) (by decide +kernel)
set_option maxRecDepth 100000 in
theorem t_926 : Cond.instanceMethod yX10_deniedBehind ∈ tb := tb_of 926 (by decide +kernel) (by decide +kernel)
set_option maxRecDepth 100000 in
theorem t_927 : Cond.code yX10_deniedBehind cX10_deniedBehind 7 (some .int) ∈ tb := tb_of 927 (by decide +kernel) (by decide +kernel)
set_option maxRecDepth 100000 in
theorem t_928 : Cond.methodLink RX11 276 yX10_loneKind ∈ tb := tb_of 928 (by decide +kernel) (by decide +kernel)
set_option maxRecDepth 100000 in
theorem t_929 : Cond.methodLink RX11 279 yX10_loneChalk ∈ tb := tb_of 929 (by decide +kernel) (by decide +kernel)
set_option maxRecDepth 100000 in
theorem t_930 : Cond.methodLink RX11 282 yX10_loneFill ∈ tb := tb_of 930 (by decide +kernel) (by decide +kernel)
set_option maxRecDepth 100000 in
theorem t_935 : Cond.methodLink RX11 285 yJ6_bitCount_0f7a4 ∈ tb := tb_of 935 (by decide +kernel) (by decide +kernel)
set_option maxRecDepth 100000 in
theorem t_936 : Cond.static yJ6_bitCount_0f7a4 ∈ tb := tb_of 936 (by decide +kernel) (by decide +kernel)
set_option maxRecDepth 100000 in
theorem t_937 : Cond.code yJ6_bitCount_0f7a4 cJ6_bitCount_0f7a4 1 (some .int) ∈ tb := tb_of 937 (by decide +kernel) (by decide +kernel)
set_option maxRecDepth 100000 in
theorem t_938 : Cond.constant RJ6 265 1431655765 ∈ tb := tb_of 938 (by decide +kernel) (by decide +kernel)
set_option maxRecDepth 100000 in
theorem t_939 : Cond.constant RJ6 266 858993459 ∈ tb := tb_of 939 (by decide +kernel) (by decide +kernel)
set_option maxRecDepth 100000 in
theorem t_940 : Cond.constant RJ6 267 252645135 ∈ tb := tb_of 940 (by decide +kernel) (by decide +kernel)
set_option maxRecDepth 100000 in
theorem t_949 : Cond.methodLink RX11 291 yX11_nextLot ∈ tb := tb_of 949 (by decide +kernel) (by decide +kernel)
set_option maxRecDepth 100000 in
theorem t_950 : Cond.static yX11_nextLot ∈ tb := tb_of 950 (by decide +kernel) (by decide +kernel)
set_option maxRecDepth 100000 in
theorem t_951 : Cond.code yX11_nextLot cX11_nextLot 1 (some .int) ∈ tb := tb_of 951 (by decide +kernel) (by decide +kernel)
set_option maxRecDepth 100000 in
theorem t_952 : Cond.constant RX11 373 1103515245 ∈ tb := tb_of 952 (by decide +kernel) (by decide +kernel)
set_option maxRecDepth 100000 in
theorem t_953 : Cond.methodLink RX11 294 yX11_actByLot ∈ tb := tb_of 953 (by decide +kernel) (by decide +kernel)
set_option maxRecDepth 100000 in
theorem t_955 : Cond.instanceMethod yX11_actByLot ∈ tb := tb_of 955 (by decide +kernel) (by decide +kernel)
set_option maxRecDepth 100000 in
theorem t_956 : Cond.code yX11_actByLot cX11_actByLot 2 (some .int) ∈ tb := tb_of 956 (by decide +kernel) (by decide +kernel)
set_option maxRecDepth 100000 in
theorem t_969 : Cond.methodLink RX11 300 yX11_isRowField ∈ tb := tb_of 969 (by decide +kernel) (by decide +kernel)
set_option maxRecDepth 100000 in
theorem t_971 : Cond.instanceMethod yX11_isRowField ∈ tb := tb_of 971 (by decide +kernel) (by decide +kernel)
set_option maxRecDepth 100000 in
theorem t_972 : Cond.code yX11_isRowField cX11_isRowField 3 (some .boolean) ∈ tb := tb_of 972 (by decide +kernel) (by decide +kernel)
set_option maxRecDepth 100000 in
theorem t_981 : Cond.methodLink RX11 304 yX11_isAct ∈ tb := tb_of 981 (by decide +kernel) (by decide +kernel)
set_option maxRecDepth 100000 in
theorem t_983 : Cond.instanceMethod yX11_isAct ∈ tb := tb_of 983 (by decide +kernel) (by decide +kernel)
set_option maxRecDepth 100000 in
theorem t_984 : Cond.code yX11_isAct cX11_isAct 2 (some .boolean) ∈ tb := tb_of 984 (by decide +kernel) (by decide +kernel)
set_option maxRecDepth 100000 in
theorem t_989 : Cond.methodLink RX11 307 yX11_isSheet ∈ tb := tb_of 989 (by decide +kernel) (by decide +kernel)
set_option maxRecDepth 100000 in
theorem t_990 : Cond.static yX11_isSheet ∈ tb := tb_of 990 (by decide +kernel) (by decide +kernel)
set_option maxRecDepth 100000 in
theorem t_991 : Cond.code yX11_isSheet cX11_isSheet 1 (some .boolean) ∈ tb := tb_of 991 (by decide +kernel) (by decide +kernel)
set_option maxRecDepth 100000 in
theorem t_996 : Cond.methodLink RX11 310 yX11_narrowed ∈ tb := tb_of 996 (by decide +kernel) (by decide +kernel)
set_option maxRecDepth 100000 in
theorem t_997 : Cond.static yX11_narrowed ∈ tb := tb_of 997 (by decide +kernel) (by decide +kernel)
set_option maxRecDepth 100000 in
theorem t_998 : Cond.code yX11_narrowed cX11_narrowed 2 (some .int) ∈ tb := tb_of 998 (by decide +kernel) (by decide +kernel)
set_option maxRecDepth 100000 in
theorem t_1003 : Cond.methodLink RX11 313 yX11_refusalAs ∈ tb := tb_of 1003 (by decide +kernel) (by decide +kernel)
set_option maxRecDepth 100000 in
theorem t_1005 : Cond.instanceMethod yX11_refusalAs ∈ tb := tb_of 1005 (by decide +kernel) (by decide +kernel)
set_option maxRecDepth 100000 in
theorem t_1006 : Cond.code yX11_refusalAs cX11_refusalAs 3 (some .int) ∈ tb := tb_of 1006 (by decide +kernel) (by decide +kernel)
set_option maxRecDepth 100000 in
theorem t_1019 : Cond.methodLink RX11 316 yX11_isShelf ∈ tb := tb_of 1019 (by decide +kernel) (by decide +kernel)
set_option maxRecDepth 100000 in
theorem t_1020 : Cond.static yX11_isShelf ∈ tb := tb_of 1020 (by decide +kernel) (by decide +kernel)
set_option maxRecDepth 100000 in
theorem t_1021 : Cond.code yX11_isShelf cX11_isShelf 1 (some .boolean) ∈ tb := tb_of 1021 (by decide +kernel) (by decide +kernel)
set_option maxRecDepth 100000 in
theorem t_1022 : Cond.methodLink RX11 319 yX11_place ∈ tb := tb_of 1022 (by decide +kernel) (by decide +kernel)
set_option maxRecDepth 100000 in
theorem t_1024 : Cond.instanceMethod yX11_place ∈ tb := tb_of 1024 (by decide +kernel) (by decide +kernel)
set_option maxRecDepth 100000 in
theorem t_1025 : Cond.code yX11_place cX11_place 5 (some .int) ∈ tb := tb_of 1025 (by decide +kernel) (by decide +kernel)
set_option maxRecDepth 100000 in
theorem t_1026 : Cond.methodLink RX11 323 yX11_placeRow ∈ tb := tb_of 1026 (by decide +kernel) (by decide +kernel)
set_option maxRecDepth 100000 in
theorem t_1028 : Cond.instanceMethod yX11_placeRow ∈ tb := tb_of 1028 (by decide +kernel) (by decide +kernel)
set_option maxRecDepth 100000 in
theorem t_1029 : Cond.code yX11_placeRow cX11_placeRow 3 (some .int) ∈ tb := tb_of 1029 (by decide +kernel) (by decide +kernel)
set_option maxRecDepth 100000 in
theorem t_1034 : Cond.methodLink RX11 326 yX11_holdsNothing ∈ tb := tb_of 1034 (by decide +kernel) (by decide +kernel)
set_option maxRecDepth 100000 in
theorem t_1036 : Cond.instanceMethod yX11_holdsNothing ∈ tb := tb_of 1036 (by decide +kernel) (by decide +kernel)
set_option maxRecDepth 100000 in
theorem t_1037 : Cond.code yX11_holdsNothing cX11_holdsNothing 2 (some .boolean) ∈ tb := tb_of 1037 (by decide +kernel) (by decide +kernel)
set_option maxRecDepth 100000 in
theorem t_1038 : Cond.methodLink RX11 329 yX0_isUnder ∈ tb := tb_of 1038 (by decide +kernel) (by decide +kernel)
set_option maxRecDepth 100000 in
theorem t_1043 : Cond.methodLink RX11 332 yX7_clear ∈ tb := tb_of 1043 (by decide +kernel) (by decide +kernel)
set_option maxRecDepth 100000 in
theorem t_1044 : Cond.instanceMethod yX7_clear ∈ tb := tb_of 1044 (by decide +kernel) (by decide +kernel)
set_option maxRecDepth 100000 in
theorem t_1045 : Cond.selects RX7 yX7_clear yX7_clear ∈ tb := tb_of 1045 (by decide +kernel) (by decide +kernel)
set_option maxRecDepth 100000 in
theorem t_1046 : Cond.code yX7_clear cX7_clear 1 none ∈ tb := tb_of 1046 (by decide +kernel) (by decide +kernel)
set_option maxRecDepth 100000 in
theorem t_1047 : Cond.methodLink RX11 345 yX0_rolls ∈ tb := tb_of 1047 (by decide +kernel) (by decide +kernel)
set_option maxRecDepth 100000 in
theorem t_1048 : Cond.instanceMethod yX0_rolls ∈ tb := tb_of 1048 (by decide +kernel) (by decide +kernel)
set_option maxRecDepth 100000 in
theorem t_1049 : Cond.selects RX0 yX0_rolls yX0_rolls ∈ tb := tb_of 1049 (by decide +kernel) (by decide +kernel)
set_option maxRecDepth 100000 in
theorem t_1050 : Cond.sameMethod RX0 RX0 "rolls" "(LFloodCellar$Trace;I)I" ∈ tb := tb_of 1050 (by decide +kernel) (by decide +kernel)
set_option maxRecDepth 100000 in
theorem t_1051 : Cond.selects RX1 yX0_rolls yX1_rolls ∈ tb := tb_of 1051 (by decide +kernel) (by decide +kernel)
set_option maxRecDepth 100000 in
theorem t_1052 : Cond.instanceMethod yX1_rolls ∈ tb := tb_of 1052 (by decide +kernel) (by decide +kernel)
set_option maxRecDepth 100000 in
theorem t_1053 : Cond.code yX1_rolls cX1_rolls 3 (some .int) ∈ tb := tb_of 1053 (by decide +kernel) (by decide +kernel)
set_option maxRecDepth 100000 in
theorem t_1054 : Cond.methodLink RX1 20 yX7_began ∈ tb := tb_of 1054 (by decide +kernel) (by decide +kernel)
set_option maxRecDepth 100000 in
theorem t_1055 : Cond.instanceMethod yX7_began ∈ tb := tb_of 1055 (by decide +kernel) (by decide +kernel)
set_option maxRecDepth 100000 in
theorem t_1056 : Cond.selects RX7 yX7_began yX7_began ∈ tb := tb_of 1056 (by decide +kernel) (by decide +kernel)
set_option maxRecDepth 100000 in
theorem t_1057 : Cond.code yX7_began cX7_began 2 none ∈ tb := tb_of 1057 (by decide +kernel) (by decide +kernel)
set_option maxRecDepth 100000 in
theorem t_1058 : Cond.methodLink RX1 26 ⟨"FloodCellar$Tun", "rolls", "(LFloodCellar$Trace;I)I"⟩ ∈ tb := tb_of 1058 (by decide +kernel) (by decide +kernel)
set_option maxRecDepth 100000 in
theorem t_1059 : Cond.sameMethod RX8 RX0 "rolls" "(LFloodCellar$Trace;I)I" ∈ tb := tb_of 1059 (by decide +kernel) (by decide +kernel)
set_option maxRecDepth 100000 in
theorem t_1061 : Cond.selects RX2 yX0_rolls yX0_rolls ∈ tb := tb_of 1061 (by decide +kernel) (by decide +kernel)
set_option maxRecDepth 100000 in
theorem t_1062 : Cond.selects RX4 yX0_rolls yX0_rolls ∈ tb := tb_of 1062 (by decide +kernel) (by decide +kernel)
set_option maxRecDepth 100000 in
theorem t_1063 : Cond.selects RX8 yX0_rolls yX0_rolls ∈ tb := tb_of 1063 (by decide +kernel) (by decide +kernel)
set_option maxRecDepth 100000 in
theorem t_1064 : Cond.selects RX9 yX0_rolls yX9_rolls ∈ tb := tb_of 1064 (by decide +kernel) (by decide +kernel)
set_option maxRecDepth 100000 in
theorem t_1065 : Cond.instanceMethod yX9_rolls ∈ tb := tb_of 1065 (by decide +kernel) (by decide +kernel)
set_option maxRecDepth 100000 in
theorem t_1066 : Cond.code yX9_rolls cX9_rolls 3 (some .int) ∈ tb := tb_of 1066 (by decide +kernel) (by decide +kernel)
set_option maxRecDepth 100000 in
theorem t_1067 : Cond.methodLink RX9 7 yX7_began ∈ tb := tb_of 1067 (by decide +kernel) (by decide +kernel)
set_option maxRecDepth 100000 in
theorem t_1068 : Cond.methodLink RX9 13 yX0_rolls ∈ tb := tb_of 1068 (by decide +kernel) (by decide +kernel)
set_option maxRecDepth 100000 in
theorem t_1069 : Cond.code yX0_rolls cX0_rolls 3 (some .int) ∈ tb := tb_of 1069 (by decide +kernel) (by decide +kernel)
set_option maxRecDepth 100000 in
theorem t_1070 : Cond.methodLink RX0 13 yX7_began ∈ tb := tb_of 1070 (by decide +kernel) (by decide +kernel)
set_option maxRecDepth 100000 in
theorem t_1071 : Cond.methodLink RX11 349 yX0_seeps ∈ tb := tb_of 1071 (by decide +kernel) (by decide +kernel)
set_option maxRecDepth 100000 in
theorem t_1072 : Cond.instanceMethod yX0_seeps ∈ tb := tb_of 1072 (by decide +kernel) (by decide +kernel)
set_option maxRecDepth 100000 in
theorem t_1073 : Cond.selects RX0 yX0_seeps yX0_seeps ∈ tb := tb_of 1073 (by decide +kernel) (by decide +kernel)
set_option maxRecDepth 100000 in
theorem t_1074 : Cond.sameMethod RX0 RX0 "seeps" "(LFloodCellar$Trace;I)I" ∈ tb := tb_of 1074 (by decide +kernel) (by decide +kernel)
set_option maxRecDepth 100000 in
theorem t_1075 : Cond.selects RX1 yX0_seeps yX8_seeps ∈ tb := tb_of 1075 (by decide +kernel) (by decide +kernel)
set_option maxRecDepth 100000 in
theorem t_1076 : Cond.instanceMethod yX8_seeps ∈ tb := tb_of 1076 (by decide +kernel) (by decide +kernel)
set_option maxRecDepth 100000 in
theorem t_1077 : Cond.code yX8_seeps cX8_seeps 3 (some .int) ∈ tb := tb_of 1077 (by decide +kernel) (by decide +kernel)
set_option maxRecDepth 100000 in
theorem t_1078 : Cond.methodLink RX8 14 yX7_began ∈ tb := tb_of 1078 (by decide +kernel) (by decide +kernel)
set_option maxRecDepth 100000 in
theorem t_1079 : Cond.methodLink RX8 20 yX0_seeps ∈ tb := tb_of 1079 (by decide +kernel) (by decide +kernel)
set_option maxRecDepth 100000 in
theorem t_1080 : Cond.selects RX2 yX0_seeps yX2_seeps ∈ tb := tb_of 1080 (by decide +kernel) (by decide +kernel)
set_option maxRecDepth 100000 in
theorem t_1081 : Cond.instanceMethod yX2_seeps ∈ tb := tb_of 1081 (by decide +kernel) (by decide +kernel)
set_option maxRecDepth 100000 in
theorem t_1082 : Cond.code yX2_seeps cX2_seeps 3 (some .int) ∈ tb := tb_of 1082 (by decide +kernel) (by decide +kernel)
set_option maxRecDepth 100000 in
theorem t_1083 : Cond.methodLink RX2 20 yX7_began ∈ tb := tb_of 1083 (by decide +kernel) (by decide +kernel)
set_option maxRecDepth 100000 in
theorem t_1084 : Cond.methodLink RX2 26 ⟨"FloodCellar$Keg", "seeps", "(LFloodCellar$Trace;I)I"⟩ ∈ tb := tb_of 1084 (by decide +kernel) (by decide +kernel)
set_option maxRecDepth 100000 in
theorem t_1085 : Cond.sameMethod RX4 RX0 "seeps" "(LFloodCellar$Trace;I)I" ∈ tb := tb_of 1085 (by decide +kernel) (by decide +kernel)
set_option maxRecDepth 100000 in
theorem t_1087 : Cond.selects RX4 yX0_seeps yX0_seeps ∈ tb := tb_of 1087 (by decide +kernel) (by decide +kernel)
set_option maxRecDepth 100000 in
theorem t_1088 : Cond.selects RX8 yX0_seeps yX8_seeps ∈ tb := tb_of 1088 (by decide +kernel) (by decide +kernel)
set_option maxRecDepth 100000 in
theorem t_1089 : Cond.selects RX9 yX0_seeps yX0_seeps ∈ tb := tb_of 1089 (by decide +kernel) (by decide +kernel)
set_option maxRecDepth 100000 in
theorem t_1090 : Cond.code yX0_seeps cX0_seeps 3 (some .int) ∈ tb := tb_of 1090 (by decide +kernel) (by decide +kernel)
set_option maxRecDepth 100000 in
theorem t_1091 : Cond.methodLink RX0 23 yX0_rolls ∈ tb := tb_of 1091 (by decide +kernel) (by decide +kernel)
set_option maxRecDepth 100000 in
theorem t_1092 : Cond.methodLink RX11 352 yX0_hoops ∈ tb := tb_of 1092 (by decide +kernel) (by decide +kernel)
set_option maxRecDepth 100000 in
theorem t_1093 : Cond.instanceMethod yX0_hoops ∈ tb := tb_of 1093 (by decide +kernel) (by decide +kernel)
set_option maxRecDepth 100000 in
theorem t_1094 : Cond.selects RX0 yX0_hoops yX0_hoops ∈ tb := tb_of 1094 (by decide +kernel) (by decide +kernel)
set_option maxRecDepth 100000 in
theorem t_1095 : Cond.sameMethod RX0 RX0 "hoops" "(LFloodCellar$Trace;I)I" ∈ tb := tb_of 1095 (by decide +kernel) (by decide +kernel)
set_option maxRecDepth 100000 in
theorem t_1096 : Cond.selects RX1 yX0_hoops yX0_hoops ∈ tb := tb_of 1096 (by decide +kernel) (by decide +kernel)
set_option maxRecDepth 100000 in
theorem t_1097 : Cond.selects RX2 yX0_hoops yX2_hoops ∈ tb := tb_of 1097 (by decide +kernel) (by decide +kernel)
set_option maxRecDepth 100000 in
theorem t_1098 : Cond.instanceMethod yX2_hoops ∈ tb := tb_of 1098 (by decide +kernel) (by decide +kernel)
set_option maxRecDepth 100000 in
theorem t_1099 : Cond.code yX2_hoops cX2_hoops 3 (some .int) ∈ tb := tb_of 1099 (by decide +kernel) (by decide +kernel)
set_option maxRecDepth 100000 in
theorem t_1100 : Cond.methodLink RX2 30 yX4_hoops ∈ tb := tb_of 1100 (by decide +kernel) (by decide +kernel)
set_option maxRecDepth 100000 in
theorem t_1101 : Cond.instanceMethod yX4_hoops ∈ tb := tb_of 1101 (by decide +kernel) (by decide +kernel)
set_option maxRecDepth 100000 in
theorem t_1102 : Cond.code yX4_hoops cX4_hoops 3 (some .int) ∈ tb := tb_of 1102 (by decide +kernel) (by decide +kernel)
set_option maxRecDepth 100000 in
theorem t_1103 : Cond.methodLink RX4 11 yX7_began ∈ tb := tb_of 1103 (by decide +kernel) (by decide +kernel)
set_option maxRecDepth 100000 in
theorem t_1104 : Cond.methodLink RX4 17 yX0_hoops ∈ tb := tb_of 1104 (by decide +kernel) (by decide +kernel)
set_option maxRecDepth 100000 in
theorem t_1105 : Cond.methodLink RX2 37 ⟨"FloodCellar$Cask", "rolls", "(LFloodCellar$Trace;I)I"⟩ ∈ tb := tb_of 1105 (by decide +kernel) (by decide +kernel)
set_option maxRecDepth 100000 in
theorem t_1106 : Cond.sameMethod RX2 RX0 "rolls" "(LFloodCellar$Trace;I)I" ∈ tb := tb_of 1106 (by decide +kernel) (by decide +kernel)
set_option maxRecDepth 100000 in
theorem t_1107 : Cond.selects RX2 ⟨"FloodCellar$Cask", "rolls", "(LFloodCellar$Trace;I)I"⟩ yX0_rolls ∈ tb := tb_of 1107 (by decide +kernel) (by decide +kernel)
set_option maxRecDepth 100000 in
theorem t_1108 : Cond.selects RX4 yX0_hoops yX4_hoops ∈ tb := tb_of 1108 (by decide +kernel) (by decide +kernel)
set_option maxRecDepth 100000 in
theorem t_1109 : Cond.selects RX8 yX0_hoops yX0_hoops ∈ tb := tb_of 1109 (by decide +kernel) (by decide +kernel)
set_option maxRecDepth 100000 in
theorem t_1110 : Cond.selects RX9 yX0_hoops yX0_hoops ∈ tb := tb_of 1110 (by decide +kernel) (by decide +kernel)
set_option maxRecDepth 100000 in
theorem t_1111 : Cond.code yX0_hoops cX0_hoops 4 (some .int) ∈ tb := tb_of 1111 (by decide +kernel) (by decide +kernel)
set_option maxRecDepth 100000 in
theorem t_1112 : Cond.methodLink RX11 355 yX0_floods ∈ tb := tb_of 1112 (by decide +kernel) (by decide +kernel)
set_option maxRecDepth 100000 in
theorem t_1113 : Cond.instanceMethod yX0_floods ∈ tb := tb_of 1113 (by decide +kernel) (by decide +kernel)
set_option maxRecDepth 100000 in
theorem t_1114 : Cond.selects RX0 yX0_floods yX0_floods ∈ tb := tb_of 1114 (by decide +kernel) (by decide +kernel)
set_option maxRecDepth 100000 in
theorem t_1115 : Cond.sameMethod RX0 RX0 "floods" "(LFloodCellar$Trace;I)I" ∈ tb := tb_of 1115 (by decide +kernel) (by decide +kernel)
set_option maxRecDepth 100000 in
theorem t_1116 : Cond.selects RX1 yX0_floods yX1_floods ∈ tb := tb_of 1116 (by decide +kernel) (by decide +kernel)
set_option maxRecDepth 100000 in
theorem t_1117 : Cond.instanceMethod yX1_floods ∈ tb := tb_of 1117 (by decide +kernel) (by decide +kernel)
set_option maxRecDepth 100000 in
theorem t_1118 : Cond.code yX1_floods cX1_floods 3 (some .int) ∈ tb := tb_of 1118 (by decide +kernel) (by decide +kernel)
set_option maxRecDepth 100000 in
theorem t_1119 : Cond.methodLink RX1 30 ⟨"FloodCellar$Tun", "floods", "(LFloodCellar$Trace;I)I"⟩ ∈ tb := tb_of 1119 (by decide +kernel) (by decide +kernel)
set_option maxRecDepth 100000 in
theorem t_1120 : Cond.sameMethod RX8 RX0 "floods" "(LFloodCellar$Trace;I)I" ∈ tb := tb_of 1120 (by decide +kernel) (by decide +kernel)
set_option maxRecDepth 100000 in
theorem t_1122 : Cond.methodLink RX1 37 ⟨"FloodCellar$Butt", "seeps", "(LFloodCellar$Trace;I)I"⟩ ∈ tb := tb_of 1122 (by decide +kernel) (by decide +kernel)
set_option maxRecDepth 100000 in
theorem t_1123 : Cond.sameMethod RX1 RX8 "seeps" "(LFloodCellar$Trace;I)I" ∈ tb := tb_of 1123 (by decide +kernel) (by decide +kernel)
set_option maxRecDepth 100000 in
theorem t_1125 : Cond.selects RX1 ⟨"FloodCellar$Butt", "seeps", "(LFloodCellar$Trace;I)I"⟩ yX8_seeps ∈ tb := tb_of 1125 (by decide +kernel) (by decide +kernel)
set_option maxRecDepth 100000 in
theorem t_1126 : Cond.selects RX2 yX0_floods yX0_floods ∈ tb := tb_of 1126 (by decide +kernel) (by decide +kernel)
set_option maxRecDepth 100000 in
theorem t_1127 : Cond.selects RX4 yX0_floods yX0_floods ∈ tb := tb_of 1127 (by decide +kernel) (by decide +kernel)
set_option maxRecDepth 100000 in
theorem t_1128 : Cond.selects RX8 yX0_floods yX0_floods ∈ tb := tb_of 1128 (by decide +kernel) (by decide +kernel)
set_option maxRecDepth 100000 in
theorem t_1129 : Cond.selects RX9 yX0_floods yX0_floods ∈ tb := tb_of 1129 (by decide +kernel) (by decide +kernel)
set_option maxRecDepth 100000 in
theorem t_1130 : Cond.code yX0_floods cX0_floods 3 (some .int) ∈ tb := tb_of 1130 (by decide +kernel) (by decide +kernel)
set_option maxRecDepth 100000 in
theorem t_1131 : Cond.methodLink RX0 34 yX0_seeps ∈ tb := tb_of 1131 (by decide +kernel) (by decide +kernel)
set_option maxRecDepth 100000 in
theorem t_1132 : Cond.methodLink RX0 37 yX0_hoops ∈ tb := tb_of 1132 (by decide +kernel) (by decide +kernel)
set_option maxRecDepth 100000 in
theorem t_1145 : Cond.methodLink RX11 368 yX10_take ∈ tb := tb_of 1145 (by decide +kernel) (by decide +kernel)
set_option maxRecDepth 100000 in
theorem t_1146 : Cond.instanceMethod yX10_take ∈ tb := tb_of 1146 (by decide +kernel) (by decide +kernel)
set_option maxRecDepth 100000 in
theorem t_1147 : Cond.selects RX10 yX10_take yX10_take ∈ tb := tb_of 1147 (by decide +kernel) (by decide +kernel)
set_option maxRecDepth 100000 in
theorem t_1148 : Cond.code yX10_take cX10_take 2 none ∈ tb := tb_of 1148 (by decide +kernel) (by decide +kernel)
set_option maxRecDepth 100000 in
theorem t_1149 : Cond.methodLink RX10 64 yX10_copy ∈ tb := tb_of 1149 (by decide +kernel) (by decide +kernel)
set_option maxRecDepth 100000 in
theorem t_1150 : Cond.static yX10_copy ∈ tb := tb_of 1150 (by decide +kernel) (by decide +kernel)
set_option maxRecDepth 100000 in
theorem t_1151 : Cond.code yX10_copy cX10_copy 2 none ∈ tb := tb_of 1151 (by decide +kernel) (by decide +kernel)
set_option maxRecDepth 100000 in
theorem t_1152 : Cond.methodLink RX10 90 arraycopyName ∈ tb := tb_of 1152 (by decide +kernel) (by decide +kernel)
set_option maxRecDepth 100000 in
theorem t_1153 : Cond.methodLink RX10 68 yX3_take ∈ tb := tb_of 1153 (by decide +kernel) (by decide +kernel)
set_option maxRecDepth 100000 in
theorem t_1154 : Cond.methodLink RX10 72 yX6_take ∈ tb := tb_of 1154 (by decide +kernel) (by decide +kernel)
set_option maxRecDepth 100000 in
theorem t_1165 : Cond.fieldLink RX12 7 "FloodCellarModel" "d" "[I" ∈ tb := tb_of 1165 (by decide +kernel) (by decide +kernel)
set_option maxRecDepth 100000 in
theorem t_1166 : Cond.fieldLink RX12 13 "FloodCellarModel" "kept" "[I" ∈ tb := tb_of 1166 (by decide +kernel) (by decide +kernel)
set_option maxRecDepth 100000 in
theorem t_1167 : Cond.fieldLink RX12 427 "FloodCellarModel" "isKept" "Z" ∈ tb := tb_of 1167 (by decide +kernel) (by decide +kernel)
set_option maxRecDepth 100000 in
theorem t_1168 : Cond.fieldLink RX12 16 "FloodCellarModel" "aside" "[I" ∈ tb := tb_of 1168 (by decide +kernel) (by decide +kernel)
set_option maxRecDepth 100000 in
theorem t_1169 : Cond.fieldLink RX12 65 "FloodCellarModel" "asides" "I" ∈ tb := tb_of 1169 (by decide +kernel) (by decide +kernel)
set_option maxRecDepth 100000 in
theorem t_1170 : Cond.fieldLink RX12 19 "FloodCellarModel" "pile" "[I" ∈ tb := tb_of 1170 (by decide +kernel) (by decide +kernel)
set_option maxRecDepth 100000 in
theorem t_1171 : Cond.fieldLink RX12 22 "FloodCellarModel" "leaking" "[I" ∈ tb := tb_of 1171 (by decide +kernel) (by decide +kernel)
set_option maxRecDepth 100000 in
theorem t_1172 : Cond.fieldLink RX12 25 "FloodCellarModel" "tape" "[I" ∈ tb := tb_of 1172 (by decide +kernel) (by decide +kernel)
set_option maxRecDepth 100000 in
theorem t_1173 : Cond.fieldLink RX12 171 "FloodCellarModel" "taped" "I" ∈ tb := tb_of 1173 (by decide +kernel) (by decide +kernel)
set_option maxRecDepth 100000 in
theorem t_1174 : Cond.fieldLink RX12 176 "FloodCellarModel" "at" "I" ∈ tb := tb_of 1174 (by decide +kernel) (by decide +kernel)
set_option maxRecDepth 100000 in
theorem t_1175 : Cond.fieldLink RX12 179 "FloodCellarModel" "begun" "I" ∈ tb := tb_of 1175 (by decide +kernel) (by decide +kernel)
set_option maxRecDepth 100000 in
theorem t_1176 : Cond.fieldLink RX12 186 "FloodCellarModel" "token" "I" ∈ tb := tb_of 1176 (by decide +kernel) (by decide +kernel)
set_option maxRecDepth 100000 in
theorem t_1177 : Cond.fieldLink RX12 182 "FloodCellarModel" "value" "J" ∈ tb := tb_of 1177 (by decide +kernel) (by decide +kernel)
set_option maxRecDepth 100000 in
theorem t_1178 : Cond.fieldLink RX12 205 "FloodCellarModel" "isWrong" "Z" ∈ tb := tb_of 1178 (by decide +kernel) (by decide +kernel)
set_option maxRecDepth 100000 in
theorem t_1179 : Cond.fieldLink RX12 264 "FloodCellarModel" "open" "I" ∈ tb := tb_of 1179 (by decide +kernel) (by decide +kernel)
set_option maxRecDepth 100000 in
theorem t_1180 : Cond.fieldLink RX12 28 "FloodCellarModel" "code" "[I" ∈ tb := tb_of 1180 (by decide +kernel) (by decide +kernel)
set_option maxRecDepth 100000 in
theorem t_1181 : Cond.fieldLink RX12 209 "FloodCellarModel" "coded" "I" ∈ tb := tb_of 1181 (by decide +kernel) (by decide +kernel)
set_option maxRecDepth 100000 in
theorem t_1182 : Cond.fieldLink RX12 31 "FloodCellarModel" "told" "[I" ∈ tb := tb_of 1182 (by decide +kernel) (by decide +kernel)
set_option maxRecDepth 100000 in
theorem t_1183 : Cond.fieldLink RX12 286 "FloodCellarModel" "tells" "I" ∈ tb := tb_of 1183 (by decide +kernel) (by decide +kernel)
set_option maxRecDepth 100000 in
theorem t_1184 : Cond.fieldLink RX12 34 "FloodCellarModel" "acts" "[I" ∈ tb := tb_of 1184 (by decide +kernel) (by decide +kernel)
set_option maxRecDepth 100000 in
theorem t_1185 : Cond.fieldLink RX12 324 "FloodCellarModel" "mostWorth" "I" ∈ tb := tb_of 1185 (by decide +kernel) (by decide +kernel)
set_option maxRecDepth 100000 in
theorem t_1186 : Cond.fieldLink RX12 331 "FloodCellarModel" "firstBest" "I" ∈ tb := tb_of 1186 (by decide +kernel) (by decide +kernel)
set_option maxRecDepth 100000 in
theorem t_1187 : Cond.fieldLink RX12 334 "FloodCellarModel" "manyBest" "I" ∈ tb := tb_of 1187 (by decide +kernel) (by decide +kernel)
set_option maxRecDepth 100000 in
theorem t_1188 : Cond.fieldLink RX12 345 "FloodCellarModel" "fewest" "I" ∈ tb := tb_of 1188 (by decide +kernel) (by decide +kernel)
set_option maxRecDepth 100000 in
theorem t_1189 : Cond.fieldLink RX12 348 "FloodCellarModel" "everStaked" "I" ∈ tb := tb_of 1189 (by decide +kernel) (by decide +kernel)
set_option maxRecDepth 100000 in
theorem t_1190 : Cond.fieldLink RX12 362 "FloodCellarModel" "loneMany" "I" ∈ tb := tb_of 1190 (by decide +kernel) (by decide +kernel)
set_option maxRecDepth 100000 in
theorem t_1191 : Cond.fieldLink RX12 365 "FloodCellarModel" "loneFirst" "I" ∈ tb := tb_of 1191 (by decide +kernel) (by decide +kernel)
set_option maxRecDepth 100000 in
theorem t_1192 : Cond.fieldLink RX12 37 "FloodCellarModel" "row" "[I" ∈ tb := tb_of 1192 (by decide +kernel) (by decide +kernel)
set_option maxRecDepth 100000 in
theorem t_1193 : Cond.fieldLink RX12 382 "FloodCellarModel" "rows" "I" ∈ tb := tb_of 1193 (by decide +kernel) (by decide +kernel)
set_option maxRecDepth 100000 in
theorem t_1194 : Cond.fieldLink RX12 40 "FloodCellarModel" "sortOf" "[I" ∈ tb := tb_of 1194 (by decide +kernel) (by decide +kernel)
set_option maxRecDepth 100000 in
theorem t_1195 : Cond.fieldLink RX12 43 "FloodCellarModel" "sizeOf" "[I" ∈ tb := tb_of 1195 (by decide +kernel) (by decide +kernel)
set_option maxRecDepth 100000 in
theorem t_1196 : Cond.fieldLink RX12 46 "FloodCellarModel" "item" "[I" ∈ tb := tb_of 1196 (by decide +kernel) (by decide +kernel)
set_option maxRecDepth 100000 in
theorem t_1197 : Cond.fieldLink RX12 49 "FloodCellarModel" "shelfHas" "[I" ∈ tb := tb_of 1197 (by decide +kernel) (by decide +kernel)
set_option maxRecDepth 100000 in
theorem t_1198 : Cond.fieldLink RX12 52 "FloodCellarModel" "shelfWhich" "[I" ∈ tb := tb_of 1198 (by decide +kernel) (by decide +kernel)
set_option maxRecDepth 100000 in
theorem t_1199 : Cond.fieldLink RX12 55 "FloodCellarModel" "shelfSize" "[I" ∈ tb := tb_of 1199 (by decide +kernel) (by decide +kernel)
set_option maxRecDepth 100000 in
theorem t_1200 : Cond.fieldLink RX12 58 "FloodCellarModel" "traced" "[I" ∈ tb := tb_of 1200 (by decide +kernel) (by decide +kernel)
set_option maxRecDepth 100000 in
theorem t_1201 : Cond.fieldLink RX12 400 "FloodCellarModel" "traceMany" "I" ∈ tb := tb_of 1201 (by decide +kernel) (by decide +kernel)
set_option maxRecDepth 100000 in
theorem t_1202 : Cond.fieldLink RX12 409 "FloodCellarModel" "who" "I" ∈ tb := tb_of 1202 (by decide +kernel) (by decide +kernel)
set_option maxRecDepth 100000 in
theorem t_1203 : Cond.fieldLink RX12 403 "FloodCellarModel" "isParted" "Z" ∈ tb := tb_of 1203 (by decide +kernel) (by decide +kernel)
set_option maxRecDepth 100000 in
theorem t_1287 : Cond.constantLong RX12 147 5 ∈ tb := tb_of 1287 (by decide +kernel) (by decide +kernel)
set_option maxRecDepth 100000 in
theorem t_1288 : Cond.methodLink RX12 61 yX12_in ∈ tb := tb_of 1288 (by decide +kernel) (by decide +kernel)
set_option maxRecDepth 100000 in
theorem t_1289 : Cond.static yX12_in ∈ tb := tb_of 1289 (by decide +kernel) (by decide +kernel)
set_option maxRecDepth 100000 in
theorem t_1290 : Cond.code yX12_in cX12_in 6 (some .boolean) ∈ tb := tb_of 1290 (by decide +kernel) (by decide +kernel)
set_option maxRecDepth 100000 in
theorem t_1291 : Cond.constantLong RX12 149 99 ∈ tb := tb_of 1291 (by decide +kernel) (by decide +kernel)
set_option maxRecDepth 100000 in
theorem t_1292 : Cond.constantLong RX12 151 9 ∈ tb := tb_of 1292 (by decide +kernel) (by decide +kernel)
set_option maxRecDepth 100000 in
theorem t_1293 : Cond.methodLink RX12 123 yX12_sets ∈ tb := tb_of 1293 (by decide +kernel) (by decide +kernel)
set_option maxRecDepth 100000 in
theorem t_1295 : Cond.instanceMethod yX12_sets ∈ tb := tb_of 1295 (by decide +kernel) (by decide +kernel)
set_option maxRecDepth 100000 in
theorem t_1296 : Cond.code yX12_sets cX12_sets 4 none ∈ tb := tb_of 1296 (by decide +kernel) (by decide +kernel)
set_option maxRecDepth 100000 in
theorem t_1301 : Cond.methodLink RX12 153 yX12_isBarrel ∈ tb := tb_of 1301 (by decide +kernel) (by decide +kernel)
set_option maxRecDepth 100000 in
theorem t_1303 : Cond.instanceMethod yX12_isBarrel ∈ tb := tb_of 1303 (by decide +kernel) (by decide +kernel)
set_option maxRecDepth 100000 in
theorem t_1304 : Cond.code yX12_isBarrel cX12_isBarrel 2 (some .boolean) ∈ tb := tb_of 1304 (by decide +kernel) (by decide +kernel)
set_option maxRecDepth 100000 in
theorem t_1305 : Cond.methodLink RX12 130 yX12_leaks ∈ tb := tb_of 1305 (by decide +kernel) (by decide +kernel)
set_option maxRecDepth 100000 in
theorem t_1307 : Cond.instanceMethod yX12_leaks ∈ tb := tb_of 1307 (by decide +kernel) (by decide +kernel)
set_option maxRecDepth 100000 in
theorem t_1308 : Cond.code yX12_leaks cX12_leaks 2 (some .int) ∈ tb := tb_of 1308 (by decide +kernel) (by decide +kernel)
set_option maxRecDepth 100000 in
theorem t_1309 : Cond.methodLink RX12 80 yX12_of ∈ tb := tb_of 1309 (by decide +kernel) (by decide +kernel)
set_option maxRecDepth 100000 in
theorem t_1311 : Cond.instanceMethod yX12_of ∈ tb := tb_of 1311 (by decide +kernel) (by decide +kernel)
set_option maxRecDepth 100000 in
theorem t_1312 : Cond.code yX12_of cX12_of 3 (some .int) ∈ tb := tb_of 1312 (by decide +kernel) (by decide +kernel)
set_option maxRecDepth 100000 in
theorem t_1313 : Cond.methodLink RX12 84 yX12_rise ∈ tb := tb_of 1313 (by decide +kernel) (by decide +kernel)
set_option maxRecDepth 100000 in
theorem t_1315 : Cond.instanceMethod yX12_rise ∈ tb := tb_of 1315 (by decide +kernel) (by decide +kernel)
set_option maxRecDepth 100000 in
theorem t_1316 : Cond.code yX12_rise cX12_rise 1 (some .int) ∈ tb := tb_of 1316 (by decide +kernel) (by decide +kernel)
set_option maxRecDepth 100000 in
theorem t_1317 : Cond.methodLink RX12 72 yX12_waterOf ∈ tb := tb_of 1317 (by decide +kernel) (by decide +kernel)
set_option maxRecDepth 100000 in
theorem t_1319 : Cond.instanceMethod yX12_waterOf ∈ tb := tb_of 1319 (by decide +kernel) (by decide +kernel)
set_option maxRecDepth 100000 in
theorem t_1320 : Cond.code yX12_waterOf cX12_waterOf 2 (some .int) ∈ tb := tb_of 1320 (by decide +kernel) (by decide +kernel)
set_option maxRecDepth 100000 in
theorem t_1321 : Cond.methodLink RX12 88 yX12_salt ∈ tb := tb_of 1321 (by decide +kernel) (by decide +kernel)
set_option maxRecDepth 100000 in
theorem t_1323 : Cond.instanceMethod yX12_salt ∈ tb := tb_of 1323 (by decide +kernel) (by decide +kernel)
set_option maxRecDepth 100000 in
theorem t_1324 : Cond.code yX12_salt cX12_salt 1 (some .int) ∈ tb := tb_of 1324 (by decide +kernel) (by decide +kernel)
set_option maxRecDepth 100000 in
theorem t_1325 : Cond.methodLink RX12 91 yX12_leaksBy ∈ tb := tb_of 1325 (by decide +kernel) (by decide +kernel)
set_option maxRecDepth 100000 in
theorem t_1326 : Cond.static yX12_leaksBy ∈ tb := tb_of 1326 (by decide +kernel) (by decide +kernel)
set_option maxRecDepth 100000 in
theorem t_1327 : Cond.code yX12_leaksBy cX12_leaksBy 4 (some .int) ∈ tb := tb_of 1327 (by decide +kernel) (by decide +kernel)
set_option maxRecDepth 100000 in
theorem t_1328 : Cond.methodLink RX12 95 yX12_stakedBelow ∈ tb := tb_of 1328 (by decide +kernel) (by decide +kernel)
set_option maxRecDepth 100000 in
theorem t_1330 : Cond.instanceMethod yX12_stakedBelow ∈ tb := tb_of 1330 (by decide +kernel) (by decide +kernel)
set_option maxRecDepth 100000 in
theorem t_1331 : Cond.code yX12_stakedBelow cX12_stakedBelow 4 (some .int) ∈ tb := tb_of 1331 (by decide +kernel) (by decide +kernel)
set_option maxRecDepth 100000 in
theorem t_1332 : Cond.methodLink RX12 76 yX12_held ∈ tb := tb_of 1332 (by decide +kernel) (by decide +kernel)
set_option maxRecDepth 100000 in
theorem t_1333 : Cond.static yX12_held ∈ tb := tb_of 1333 (by decide +kernel) (by decide +kernel)
set_option maxRecDepth 100000 in
theorem t_1334 : Cond.code yX12_held cX12_held 3 (some .int) ∈ tb := tb_of 1334 (by decide +kernel) (by decide +kernel)
set_option maxRecDepth 100000 in
theorem t_1335 : Cond.methodLink RX12 101 yX12_floats ∈ tb := tb_of 1335 (by decide +kernel) (by decide +kernel)
set_option maxRecDepth 100000 in
theorem t_1337 : Cond.instanceMethod yX12_floats ∈ tb := tb_of 1337 (by decide +kernel) (by decide +kernel)
set_option maxRecDepth 100000 in
theorem t_1338 : Cond.code yX12_floats cX12_floats 2 (some .int) ∈ tb := tb_of 1338 (by decide +kernel) (by decide +kernel)
set_option maxRecDepth 100000 in
theorem t_1339 : Cond.methodLink RX12 98 yX12_floatsBy ∈ tb := tb_of 1339 (by decide +kernel) (by decide +kernel)
set_option maxRecDepth 100000 in
theorem t_1340 : Cond.static yX12_floatsBy ∈ tb := tb_of 1340 (by decide +kernel) (by decide +kernel)
set_option maxRecDepth 100000 in
theorem t_1341 : Cond.code yX12_floatsBy cX12_floatsBy 5 (some .int) ∈ tb := tb_of 1341 (by decide +kernel) (by decide +kernel)
set_option maxRecDepth 100000 in
theorem t_1342 : Cond.methodLink RX12 120 yX12_pays ∈ tb := tb_of 1342 (by decide +kernel) (by decide +kernel)
set_option maxRecDepth 100000 in
theorem t_1344 : Cond.instanceMethod yX12_pays ∈ tb := tb_of 1344 (by decide +kernel) (by decide +kernel)
set_option maxRecDepth 100000 in
theorem t_1345 : Cond.code yX12_pays cX12_pays 3 (some .int) ∈ tb := tb_of 1345 (by decide +kernel) (by decide +kernel)
set_option maxRecDepth 100000 in
theorem t_1346 : Cond.methodLink RX12 133 yX12_isStakeable ∈ tb := tb_of 1346 (by decide +kernel) (by decide +kernel)
set_option maxRecDepth 100000 in
theorem t_1348 : Cond.instanceMethod yX12_isStakeable ∈ tb := tb_of 1348 (by decide +kernel) (by decide +kernel)
set_option maxRecDepth 100000 in
theorem t_1349 : Cond.code yX12_isStakeable cX12_isStakeable 2 (some .boolean) ∈ tb := tb_of 1349 (by decide +kernel) (by decide +kernel)
set_option maxRecDepth 100000 in
theorem t_1350 : Cond.methodLink RX12 117 yX12_will ∈ tb := tb_of 1350 (by decide +kernel) (by decide +kernel)
set_option maxRecDepth 100000 in
theorem t_1352 : Cond.instanceMethod yX12_will ∈ tb := tb_of 1352 (by decide +kernel) (by decide +kernel)
set_option maxRecDepth 100000 in
theorem t_1353 : Cond.code yX12_will cX12_will 4 (some .int) ∈ tb := tb_of 1353 (by decide +kernel) (by decide +kernel)
set_option maxRecDepth 100000 in
theorem t_1354 : Cond.methodLink RX12 110 yX12_above ∈ tb := tb_of 1354 (by decide +kernel) (by decide +kernel)
set_option maxRecDepth 100000 in
theorem t_1355 : Cond.static yX12_above ∈ tb := tb_of 1355 (by decide +kernel) (by decide +kernel)
set_option maxRecDepth 100000 in
theorem t_1356 : Cond.code yX12_above cX12_above 1 (some .int) ∈ tb := tb_of 1356 (by decide +kernel) (by decide +kernel)
set_option maxRecDepth 100000 in
theorem t_1357 : Cond.methodLink RX12 113 yX12_holds ∈ tb := tb_of 1357 (by decide +kernel) (by decide +kernel)
set_option maxRecDepth 100000 in
theorem t_1359 : Cond.instanceMethod yX12_holds ∈ tb := tb_of 1359 (by decide +kernel) (by decide +kernel)
set_option maxRecDepth 100000 in
theorem t_1360 : Cond.code yX12_holds cX12_holds 7 (some .boolean) ∈ tb := tb_of 1360 (by decide +kernel) (by decide +kernel)
set_option maxRecDepth 100000 in
theorem t_1361 : Cond.methodLink RX12 104 yX12_factOf ∈ tb := tb_of 1361 (by decide +kernel) (by decide +kernel)
set_option maxRecDepth 100000 in
theorem t_1363 : Cond.instanceMethod yX12_factOf ∈ tb := tb_of 1363 (by decide +kernel) (by decide +kernel)
set_option maxRecDepth 100000 in
theorem t_1364 : Cond.code yX12_factOf cX12_factOf 3 (some .int) ∈ tb := tb_of 1364 (by decide +kernel) (by decide +kernel)
set_option maxRecDepth 100000 in
theorem t_1365 : Cond.methodLink RX12 107 yX12_done ∈ tb := tb_of 1365 (by decide +kernel) (by decide +kernel)
set_option maxRecDepth 100000 in
theorem t_1366 : Cond.static yX12_done ∈ tb := tb_of 1366 (by decide +kernel) (by decide +kernel)
set_option maxRecDepth 100000 in
theorem t_1367 : Cond.code yX12_done cX12_done 3 (some .int) ∈ tb := tb_of 1367 (by decide +kernel) (by decide +kernel)
set_option maxRecDepth 100000 in
theorem t_1372 : Cond.methodLink RX12 156 yX12_becomes ∈ tb := tb_of 1372 (by decide +kernel) (by decide +kernel)
set_option maxRecDepth 100000 in
theorem t_1374 : Cond.instanceMethod yX12_becomes ∈ tb := tb_of 1374 (by decide +kernel) (by decide +kernel)
set_option maxRecDepth 100000 in
theorem t_1375 : Cond.code yX12_becomes cX12_becomes 4 (some .int) ∈ tb := tb_of 1375 (by decide +kernel) (by decide +kernel)
set_option maxRecDepth 100000 in
theorem t_1384 : Cond.constantLong RX12 159 15 ∈ tb := tb_of 1384 (by decide +kernel) (by decide +kernel)
set_option maxRecDepth 100000 in
theorem t_1397 : Cond.constantLong RX12 161 16 ∈ tb := tb_of 1397 (by decide +kernel) (by decide +kernel)
set_option maxRecDepth 100000 in
theorem t_1406 : Cond.methodLink RX12 137 yX12_isOver ∈ tb := tb_of 1406 (by decide +kernel) (by decide +kernel)
set_option maxRecDepth 100000 in
theorem t_1408 : Cond.instanceMethod yX12_isOver ∈ tb := tb_of 1408 (by decide +kernel) (by decide +kernel)
set_option maxRecDepth 100000 in
theorem t_1409 : Cond.code yX12_isOver cX12_isOver 1 (some .boolean) ∈ tb := tb_of 1409 (by decide +kernel) (by decide +kernel)
set_option maxRecDepth 100000 in
theorem t_1410 : Cond.methodLink RX12 163 yX12_staked ∈ tb := tb_of 1410 (by decide +kernel) (by decide +kernel)
set_option maxRecDepth 100000 in
theorem t_1412 : Cond.instanceMethod yX12_staked ∈ tb := tb_of 1412 (by decide +kernel) (by decide +kernel)
set_option maxRecDepth 100000 in
theorem t_1413 : Cond.code yX12_staked cX12_staked 3 (some .int) ∈ tb := tb_of 1413 (by decide +kernel) (by decide +kernel)
set_option maxRecDepth 100000 in
theorem t_1414 : Cond.methodLink RX12 166 yX12_fillAll ∈ tb := tb_of 1414 (by decide +kernel) (by decide +kernel)
set_option maxRecDepth 100000 in
theorem t_1416 : Cond.instanceMethod yX12_fillAll ∈ tb := tb_of 1416 (by decide +kernel) (by decide +kernel)
set_option maxRecDepth 100000 in
theorem t_1417 : Cond.code yX12_fillAll cX12_fillAll 3 (some .int) ∈ tb := tb_of 1417 (by decide +kernel) (by decide +kernel)
set_option maxRecDepth 100000 in
theorem t_1422 : Cond.constantLong RX12 169 8 ∈ tb := tb_of 1422 (by decide +kernel) (by decide +kernel)
set_option maxRecDepth 100000 in
theorem t_1423 : Cond.constantLong RX12 174 255 ∈ tb := tb_of 1423 (by decide +kernel) (by decide +kernel)
set_option maxRecDepth 100000 in
theorem t_1428 : Cond.methodLink RX12 244 yX12_next ∈ tb := tb_of 1428 (by decide +kernel) (by decide +kernel)
set_option maxRecDepth 100000 in
theorem t_1430 : Cond.instanceMethod yX12_next ∈ tb := tb_of 1430 (by decide +kernel) (by decide +kernel)
set_option maxRecDepth 100000 in
theorem t_1431 : Cond.code yX12_next cX12_next 1 none ∈ tb := tb_of 1431 (by decide +kernel) (by decide +kernel)
set_option maxRecDepth 100000 in
theorem t_1432 : Cond.methodLink RX12 189 yX12_isRow ∈ tb := tb_of 1432 (by decide +kernel) (by decide +kernel)
set_option maxRecDepth 100000 in
theorem t_1434 : Cond.instanceMethod yX12_isRow ∈ tb := tb_of 1434 (by decide +kernel) (by decide +kernel)
set_option maxRecDepth 100000 in
theorem t_1435 : Cond.code yX12_isRow cX12_isRow 3 (some .boolean) ∈ tb := tb_of 1435 (by decide +kernel) (by decide +kernel)
set_option maxRecDepth 100000 in
theorem t_1436 : Cond.constantLong RX12 193 27 ∈ tb := tb_of 1436 (by decide +kernel) (by decide +kernel)
set_option maxRecDepth 100000 in
theorem t_1437 : Cond.constantLong RX12 195 97 ∈ tb := tb_of 1437 (by decide +kernel) (by decide +kernel)
set_option maxRecDepth 100000 in
theorem t_1438 : Cond.constantLong RX12 197 (-1) ∈ tb := tb_of 1438 (by decide +kernel) (by decide +kernel)
set_option maxRecDepth 100000 in
theorem t_1439 : Cond.constantLong RX12 199 10 ∈ tb := tb_of 1439 (by decide +kernel) (by decide +kernel)
set_option maxRecDepth 100000 in
theorem t_1440 : Cond.constantLong RX12 201 48 ∈ tb := tb_of 1440 (by decide +kernel) (by decide +kernel)
set_option maxRecDepth 100000 in
theorem t_1441 : Cond.constantLong RX12 203 100000 ∈ tb := tb_of 1441 (by decide +kernel) (by decide +kernel)
set_option maxRecDepth 100000 in
theorem t_1442 : Cond.methodLink RX12 294 yX12_ruleHere ∈ tb := tb_of 1442 (by decide +kernel) (by decide +kernel)
set_option maxRecDepth 100000 in
theorem t_1444 : Cond.instanceMethod yX12_ruleHere ∈ tb := tb_of 1444 (by decide +kernel) (by decide +kernel)
set_option maxRecDepth 100000 in
theorem t_1445 : Cond.code yX12_ruleHere cX12_ruleHere 4 none ∈ tb := tb_of 1445 (by decide +kernel) (by decide +kernel)
set_option maxRecDepth 100000 in
theorem t_1446 : Cond.methodLink RX12 283 yX12_kindHere ∈ tb := tb_of 1446 (by decide +kernel) (by decide +kernel)
set_option maxRecDepth 100000 in
theorem t_1448 : Cond.instanceMethod yX12_kindHere ∈ tb := tb_of 1448 (by decide +kernel) (by decide +kernel)
set_option maxRecDepth 100000 in
theorem t_1449 : Cond.code yX12_kindHere cX12_kindHere 1 (some .int) ∈ tb := tb_of 1449 (by decide +kernel) (by decide +kernel)
set_option maxRecDepth 100000 in
theorem t_1450 : Cond.constantLong RX12 212 29596818 ∈ tb := tb_of 1450 (by decide +kernel) (by decide +kernel)
set_option maxRecDepth 100000 in
theorem t_1451 : Cond.methodLink RX12 214 yX12_isWord ∈ tb := tb_of 1451 (by decide +kernel) (by decide +kernel)
set_option maxRecDepth 100000 in
theorem t_1453 : Cond.instanceMethod yX12_isWord ∈ tb := tb_of 1453 (by decide +kernel) (by decide +kernel)
set_option maxRecDepth 100000 in
theorem t_1454 : Cond.code yX12_isWord cX12_isWord 3 (some .boolean) ∈ tb := tb_of 1454 (by decide +kernel) (by decide +kernel)
set_option maxRecDepth 100000 in
theorem t_1455 : Cond.constantLong RX12 218 16085 ∈ tb := tb_of 1455 (by decide +kernel) (by decide +kernel)
set_option maxRecDepth 100000 in
theorem t_1456 : Cond.constantLong RX12 220 15161 ∈ tb := tb_of 1456 (by decide +kernel) (by decide +kernel)
set_option maxRecDepth 100000 in
theorem t_1457 : Cond.constantLong RX12 222 55235 ∈ tb := tb_of 1457 (by decide +kernel) (by decide +kernel)
set_option maxRecDepth 100000 in
theorem t_1458 : Cond.constantLong RX12 224 8161 ∈ tb := tb_of 1458 (by decide +kernel) (by decide +kernel)
set_option maxRecDepth 100000 in
theorem t_1459 : Cond.constantLong RX12 226 60302 ∈ tb := tb_of 1459 (by decide +kernel) (by decide +kernel)
set_option maxRecDepth 100000 in
theorem t_1460 : Cond.methodLink RX12 254 yX12_goesBy ∈ tb := tb_of 1460 (by decide +kernel) (by decide +kernel)
set_option maxRecDepth 100000 in
theorem t_1462 : Cond.instanceMethod yX12_goesBy ∈ tb := tb_of 1462 (by decide +kernel) (by decide +kernel)
set_option maxRecDepth 100000 in
theorem t_1463 : Cond.code yX12_goesBy cX12_goesBy 2 none ∈ tb := tb_of 1463 (by decide +kernel) (by decide +kernel)
set_option maxRecDepth 100000 in
theorem t_1464 : Cond.constantLong RX12 289 249 ∈ tb := tb_of 1464 (by decide +kernel) (by decide +kernel)
set_option maxRecDepth 100000 in
theorem t_1465 : Cond.methodLink RX12 267 yX12_either ∈ tb := tb_of 1465 (by decide +kernel) (by decide +kernel)
set_option maxRecDepth 100000 in
theorem t_1467 : Cond.instanceMethod yX12_either ∈ tb := tb_of 1467 (by decide +kernel) (by decide +kernel)
set_option maxRecDepth 100000 in
theorem t_1468 : Cond.code yX12_either cX12_either 1 none ∈ tb := tb_of 1468 (by decide +kernel) (by decide +kernel)
set_option maxRecDepth 100000 in
theorem t_1469 : Cond.methodLink RX12 278 yX12_both ∈ tb := tb_of 1469 (by decide +kernel) (by decide +kernel)
set_option maxRecDepth 100000 in
theorem t_1471 : Cond.instanceMethod yX12_both ∈ tb := tb_of 1471 (by decide +kernel) (by decide +kernel)
set_option maxRecDepth 100000 in
theorem t_1472 : Cond.code yX12_both cX12_both 1 none ∈ tb := tb_of 1472 (by decide +kernel) (by decide +kernel)
set_option maxRecDepth 100000 in
theorem t_1473 : Cond.methodLink RX12 273 yX12_one ∈ tb := tb_of 1473 (by decide +kernel) (by decide +kernel)
set_option maxRecDepth 100000 in
theorem t_1475 : Cond.instanceMethod yX12_one ∈ tb := tb_of 1475 (by decide +kernel) (by decide +kernel)
set_option maxRecDepth 100000 in
theorem t_1476 : Cond.code yX12_one cX12_one 3 none ∈ tb := tb_of 1476 (by decide +kernel) (by decide +kernel)
set_option maxRecDepth 100000 in
theorem t_1477 : Cond.constantLong RX12 258 10631 ∈ tb := tb_of 1477 (by decide +kernel) (by decide +kernel)
set_option maxRecDepth 100000 in
theorem t_1478 : Cond.methodLink RX12 260 yX12_isByte ∈ tb := tb_of 1478 (by decide +kernel) (by decide +kernel)
set_option maxRecDepth 100000 in
theorem t_1480 : Cond.instanceMethod yX12_isByte ∈ tb := tb_of 1480 (by decide +kernel) (by decide +kernel)
set_option maxRecDepth 100000 in
theorem t_1481 : Cond.code yX12_isByte cX12_isByte 2 (some .boolean) ∈ tb := tb_of 1481 (by decide +kernel) (by decide +kernel)
set_option maxRecDepth 100000 in
theorem t_1482 : Cond.methodLink RX12 270 yX12_valueHere ∈ tb := tb_of 1482 (by decide +kernel) (by decide +kernel)
set_option maxRecDepth 100000 in
theorem t_1484 : Cond.instanceMethod yX12_valueHere ∈ tb := tb_of 1484 (by decide +kernel) (by decide +kernel)
set_option maxRecDepth 100000 in
theorem t_1485 : Cond.code yX12_valueHere cX12_valueHere 3 none ∈ tb := tb_of 1485 (by decide +kernel) (by decide +kernel)
set_option maxRecDepth 100000 in
theorem t_1486 : Cond.methodLink RX12 247 yX12_factHere ∈ tb := tb_of 1486 (by decide +kernel) (by decide +kernel)
set_option maxRecDepth 100000 in
theorem t_1488 : Cond.instanceMethod yX12_factHere ∈ tb := tb_of 1488 (by decide +kernel) (by decide +kernel)
set_option maxRecDepth 100000 in
theorem t_1489 : Cond.code yX12_factHere cX12_factHere 1 (some .int) ∈ tb := tb_of 1489 (by decide +kernel) (by decide +kernel)
set_option maxRecDepth 100000 in
theorem t_1490 : Cond.constantLong RX12 234 400334 ∈ tb := tb_of 1490 (by decide +kernel) (by decide +kernel)
set_option maxRecDepth 100000 in
theorem t_1491 : Cond.constantLong RX12 236 124995 ∈ tb := tb_of 1491 (by decide +kernel) (by decide +kernel)
set_option maxRecDepth 100000 in
theorem t_1492 : Cond.constantLong RX12 238 1752851 ∈ tb := tb_of 1492 (by decide +kernel) (by decide +kernel)
set_option maxRecDepth 100000 in
theorem t_1493 : Cond.constantLong RX12 240 361373 ∈ tb := tb_of 1493 (by decide +kernel) (by decide +kernel)
set_option maxRecDepth 100000 in
theorem t_1494 : Cond.constantLong RX12 242 212302449 ∈ tb := tb_of 1494 (by decide +kernel) (by decide +kernel)
set_option maxRecDepth 100000 in
theorem t_1495 : Cond.methodLink RX12 250 yX12_lays ∈ tb := tb_of 1495 (by decide +kernel) (by decide +kernel)
set_option maxRecDepth 100000 in
theorem t_1497 : Cond.instanceMethod yX12_lays ∈ tb := tb_of 1497 (by decide +kernel) (by decide +kernel)
set_option maxRecDepth 100000 in
theorem t_1498 : Cond.code yX12_lays cX12_lays 2 none ∈ tb := tb_of 1498 (by decide +kernel) (by decide +kernel)
set_option maxRecDepth 100000 in
theorem t_1499 : Cond.constantLong RX12 276 1111 ∈ tb := tb_of 1499 (by decide +kernel) (by decide +kernel)
set_option maxRecDepth 100000 in
theorem t_1500 : Cond.constantLong RX12 281 423 ∈ tb := tb_of 1500 (by decide +kernel) (by decide +kernel)
set_option maxRecDepth 100000 in
theorem t_1501 : Cond.methodLink RX12 291 yX12_doHere ∈ tb := tb_of 1501 (by decide +kernel) (by decide +kernel)
set_option maxRecDepth 100000 in
theorem t_1503 : Cond.instanceMethod yX12_doHere ∈ tb := tb_of 1503 (by decide +kernel) (by decide +kernel)
set_option maxRecDepth 100000 in
theorem t_1504 : Cond.code yX12_doHere cX12_doHere 1 (some .int) ∈ tb := tb_of 1504 (by decide +kernel) (by decide +kernel)
set_option maxRecDepth 100000 in
theorem t_1505 : Cond.constantLong RX12 228 10492070 ∈ tb := tb_of 1505 (by decide +kernel) (by decide +kernel)
set_option maxRecDepth 100000 in
theorem t_1506 : Cond.constantLong RX12 230 6477035 ∈ tb := tb_of 1506 (by decide +kernel) (by decide +kernel)
set_option maxRecDepth 100000 in
theorem t_1507 : Cond.constantLong RX12 232 55060 ∈ tb := tb_of 1507 (by decide +kernel) (by decide +kernel)
set_option maxRecDepth 100000 in
theorem t_1512 : Cond.methodLink RX12 141 yX12_actOfRest ∈ tb := tb_of 1512 (by decide +kernel) (by decide +kernel)
set_option maxRecDepth 100000 in
theorem t_1514 : Cond.instanceMethod yX12_actOfRest ∈ tb := tb_of 1514 (by decide +kernel) (by decide +kernel)
set_option maxRecDepth 100000 in
theorem t_1515 : Cond.code yX12_actOfRest cX12_actOfRest 2 (some .int) ∈ tb := tb_of 1515 (by decide +kernel) (by decide +kernel)
set_option maxRecDepth 100000 in
theorem t_1516 : Cond.methodLink RX12 144 yX12_tideGoes ∈ tb := tb_of 1516 (by decide +kernel) (by decide +kernel)
set_option maxRecDepth 100000 in
theorem t_1518 : Cond.instanceMethod yX12_tideGoes ∈ tb := tb_of 1518 (by decide +kernel) (by decide +kernel)
set_option maxRecDepth 100000 in
theorem t_1519 : Cond.code yX12_tideGoes cX12_tideGoes 4 (some .int) ∈ tb := tb_of 1519 (by decide +kernel) (by decide +kernel)
set_option maxRecDepth 100000 in
theorem t_1520 : Cond.methodLink RX12 127 yX12_does ∈ tb := tb_of 1520 (by decide +kernel) (by decide +kernel)
set_option maxRecDepth 100000 in
theorem t_1522 : Cond.instanceMethod yX12_does ∈ tb := tb_of 1522 (by decide +kernel) (by decide +kernel)
set_option maxRecDepth 100000 in
theorem t_1523 : Cond.code yX12_does cX12_does 4 (some .int) ∈ tb := tb_of 1523 (by decide +kernel) (by decide +kernel)
set_option maxRecDepth 100000 in
theorem t_1528 : Cond.methodLink RX12 297 yX12_puts ∈ tb := tb_of 1528 (by decide +kernel) (by decide +kernel)
set_option maxRecDepth 100000 in
theorem t_1530 : Cond.instanceMethod yX12_puts ∈ tb := tb_of 1530 (by decide +kernel) (by decide +kernel)
set_option maxRecDepth 100000 in
theorem t_1531 : Cond.code yX12_puts cX12_puts 2 none ∈ tb := tb_of 1531 (by decide +kernel) (by decide +kernel)
set_option maxRecDepth 100000 in
theorem t_1532 : Cond.methodLink RX12 300 yX12_restGoes ∈ tb := tb_of 1532 (by decide +kernel) (by decide +kernel)
set_option maxRecDepth 100000 in
theorem t_1534 : Cond.instanceMethod yX12_restGoes ∈ tb := tb_of 1534 (by decide +kernel) (by decide +kernel)
set_option maxRecDepth 100000 in
theorem t_1535 : Cond.code yX12_restGoes cX12_restGoes 4 (some .int) ∈ tb := tb_of 1535 (by decide +kernel) (by decide +kernel)
set_option maxRecDepth 100000 in
theorem t_1536 : Cond.methodLink RX12 303 yX12_takes ∈ tb := tb_of 1536 (by decide +kernel) (by decide +kernel)
set_option maxRecDepth 100000 in
theorem t_1538 : Cond.instanceMethod yX12_takes ∈ tb := tb_of 1538 (by decide +kernel) (by decide +kernel)
set_option maxRecDepth 100000 in
theorem t_1539 : Cond.code yX12_takes cX12_takes 1 none ∈ tb := tb_of 1539 (by decide +kernel) (by decide +kernel)
set_option maxRecDepth 100000 in
theorem t_1540 : Cond.methodLink RX12 69 yX12_back ∈ tb := tb_of 1540 (by decide +kernel) (by decide +kernel)
set_option maxRecDepth 100000 in
theorem t_1542 : Cond.instanceMethod yX12_back ∈ tb := tb_of 1542 (by decide +kernel) (by decide +kernel)
set_option maxRecDepth 100000 in
theorem t_1543 : Cond.code yX12_back cX12_back 2 none ∈ tb := tb_of 1543 (by decide +kernel) (by decide +kernel)
set_option maxRecDepth 100000 in
theorem t_1552 : Cond.methodLink RX12 306 yX12_bestOf ∈ tb := tb_of 1552 (by decide +kernel) (by decide +kernel)
set_option maxRecDepth 100000 in
theorem t_1554 : Cond.instanceMethod yX12_bestOf ∈ tb := tb_of 1554 (by decide +kernel) (by decide +kernel)
set_option maxRecDepth 100000 in
theorem t_1555 : Cond.code yX12_bestOf cX12_bestOf 8 (some .int) ∈ tb := tb_of 1555 (by decide +kernel) (by decide +kernel)
set_option maxRecDepth 100000 in
theorem t_1576 : Cond.methodLink RX12 313 yX12_raftOf ∈ tb := tb_of 1576 (by decide +kernel) (by decide +kernel)
set_option maxRecDepth 100000 in
theorem t_1578 : Cond.instanceMethod yX12_raftOf ∈ tb := tb_of 1578 (by decide +kernel) (by decide +kernel)
set_option maxRecDepth 100000 in
theorem t_1579 : Cond.code yX12_raftOf cX12_raftOf 6 (some .int) ∈ tb := tb_of 1579 (by decide +kernel) (by decide +kernel)
set_option maxRecDepth 100000 in
theorem t_1580 : Cond.methodLink RX12 309 yX12_isClose ∈ tb := tb_of 1580 (by decide +kernel) (by decide +kernel)
set_option maxRecDepth 100000 in
theorem t_1582 : Cond.instanceMethod yX12_isClose ∈ tb := tb_of 1582 (by decide +kernel) (by decide +kernel)
set_option maxRecDepth 100000 in
theorem t_1583 : Cond.code yX12_isClose cX12_isClose 3 (some .boolean) ∈ tb := tb_of 1583 (by decide +kernel) (by decide +kernel)
set_option maxRecDepth 100000 in
theorem t_1588 : Cond.methodLink RX12 337 yX12_isPlan ∈ tb := tb_of 1588 (by decide +kernel) (by decide +kernel)
set_option maxRecDepth 100000 in
theorem t_1589 : Cond.static yX12_isPlan ∈ tb := tb_of 1589 (by decide +kernel) (by decide +kernel)
set_option maxRecDepth 100000 in
theorem t_1590 : Cond.code yX12_isPlan cX12_isPlan 1 (some .boolean) ∈ tb := tb_of 1590 (by decide +kernel) (by decide +kernel)
set_option maxRecDepth 100000 in
theorem t_1591 : Cond.constantLong RX12 316 4 ∈ tb := tb_of 1591 (by decide +kernel) (by decide +kernel)
set_option maxRecDepth 100000 in
theorem t_1592 : Cond.methodLink RX12 340 yX12_findBest ∈ tb := tb_of 1592 (by decide +kernel) (by decide +kernel)
set_option maxRecDepth 100000 in
theorem t_1594 : Cond.instanceMethod yX12_findBest ∈ tb := tb_of 1594 (by decide +kernel) (by decide +kernel)
set_option maxRecDepth 100000 in
theorem t_1595 : Cond.code yX12_findBest cX12_findBest 7 none ∈ tb := tb_of 1595 (by decide +kernel) (by decide +kernel)
set_option maxRecDepth 100000 in
theorem t_1596 : Cond.methodLink RX12 318 yX12_longOf ∈ tb := tb_of 1596 (by decide +kernel) (by decide +kernel)
set_option maxRecDepth 100000 in
theorem t_1598 : Cond.instanceMethod yX12_longOf ∈ tb := tb_of 1598 (by decide +kernel) (by decide +kernel)
set_option maxRecDepth 100000 in
theorem t_1599 : Cond.code yX12_longOf cX12_longOf 2 (some .int) ∈ tb := tb_of 1599 (by decide +kernel) (by decide +kernel)
set_option maxRecDepth 100000 in
theorem t_1600 : Cond.methodLink RX12 321 yX12_plansOf ∈ tb := tb_of 1600 (by decide +kernel) (by decide +kernel)
set_option maxRecDepth 100000 in
theorem t_1602 : Cond.instanceMethod yX12_plansOf ∈ tb := tb_of 1602 (by decide +kernel) (by decide +kernel)
set_option maxRecDepth 100000 in
theorem t_1603 : Cond.code yX12_plansOf cX12_plansOf 4 (some .int) ∈ tb := tb_of 1603 (by decide +kernel) (by decide +kernel)
set_option maxRecDepth 100000 in
theorem t_1604 : Cond.methodLink RX12 327 yX12_actsOf ∈ tb := tb_of 1604 (by decide +kernel) (by decide +kernel)
set_option maxRecDepth 100000 in
theorem t_1606 : Cond.instanceMethod yX12_actsOf ∈ tb := tb_of 1606 (by decide +kernel) (by decide +kernel)
set_option maxRecDepth 100000 in
theorem t_1607 : Cond.code yX12_actsOf cX12_actsOf 5 none ∈ tb := tb_of 1607 (by decide +kernel) (by decide +kernel)
set_option maxRecDepth 100000 in
theorem t_1612 : Cond.constantLong RX12 343 3 ∈ tb := tb_of 1612 (by decide +kernel) (by decide +kernel)
set_option maxRecDepth 100000 in
theorem t_1621 : Cond.methodLink RX12 351 yX12_areBarrels ∈ tb := tb_of 1621 (by decide +kernel) (by decide +kernel)
set_option maxRecDepth 100000 in
theorem t_1623 : Cond.instanceMethod yX12_areBarrels ∈ tb := tb_of 1623 (by decide +kernel) (by decide +kernel)
set_option maxRecDepth 100000 in
theorem t_1624 : Cond.code yX12_areBarrels cX12_areBarrels 2 (some .boolean) ∈ tb := tb_of 1624 (by decide +kernel) (by decide +kernel)
set_option maxRecDepth 100000 in
theorem t_1625 : Cond.methodLink RX12 354 yX12_findCharts ∈ tb := tb_of 1625 (by decide +kernel) (by decide +kernel)
set_option maxRecDepth 100000 in
theorem t_1627 : Cond.instanceMethod yX12_findCharts ∈ tb := tb_of 1627 (by decide +kernel) (by decide +kernel)
set_option maxRecDepth 100000 in
theorem t_1628 : Cond.code yX12_findCharts cX12_findCharts 8 none ∈ tb := tb_of 1628 (by decide +kernel) (by decide +kernel)
set_option maxRecDepth 100000 in
theorem t_1637 : Cond.methodLink RX12 358 yX12_valueOf ∈ tb := tb_of 1637 (by decide +kernel) (by decide +kernel)
set_option maxRecDepth 100000 in
theorem t_1639 : Cond.instanceMethod yX12_valueOf ∈ tb := tb_of 1639 (by decide +kernel) (by decide +kernel)
set_option maxRecDepth 100000 in
theorem t_1640 : Cond.code yX12_valueOf cX12_valueOf 6 (some .int) ∈ tb := tb_of 1640 (by decide +kernel) (by decide +kernel)
set_option maxRecDepth 100000 in
theorem t_1641 : Cond.constant RX12 357 1000000 ∈ tb := tb_of 1641 (by decide +kernel) (by decide +kernel)
set_option maxRecDepth 100000 in
theorem t_1658 : Cond.methodLink RX12 371 yX12_findLone ∈ tb := tb_of 1658 (by decide +kernel) (by decide +kernel)
set_option maxRecDepth 100000 in
theorem t_1660 : Cond.instanceMethod yX12_findLone ∈ tb := tb_of 1660 (by decide +kernel) (by decide +kernel)
set_option maxRecDepth 100000 in
theorem t_1661 : Cond.code yX12_findLone cX12_findLone 5 none ∈ tb := tb_of 1661 (by decide +kernel) (by decide +kernel)
set_option maxRecDepth 100000 in
theorem t_1662 : Cond.methodLink RX12 368 yX12_fitting ∈ tb := tb_of 1662 (by decide +kernel) (by decide +kernel)
set_option maxRecDepth 100000 in
theorem t_1664 : Cond.instanceMethod yX12_fitting ∈ tb := tb_of 1664 (by decide +kernel) (by decide +kernel)
set_option maxRecDepth 100000 in
theorem t_1665 : Cond.code yX12_fitting cX12_fitting 11 (some .int) ∈ tb := tb_of 1665 (by decide +kernel) (by decide +kernel)
set_option maxRecDepth 100000 in
theorem t_1678 : Cond.methodLink RX12 375 yX12_lotGoes ∈ tb := tb_of 1678 (by decide +kernel) (by decide +kernel)
set_option maxRecDepth 100000 in
theorem t_1680 : Cond.instanceMethod yX12_lotGoes ∈ tb := tb_of 1680 (by decide +kernel) (by decide +kernel)
set_option maxRecDepth 100000 in
theorem t_1681 : Cond.code yX12_lotGoes cX12_lotGoes 1 (some .int) ∈ tb := tb_of 1681 (by decide +kernel) (by decide +kernel)
set_option maxRecDepth 100000 in
theorem t_1682 : Cond.constant RX12 374 1103515245 ∈ tb := tb_of 1682 (by decide +kernel) (by decide +kernel)
set_option maxRecDepth 100000 in
theorem t_1687 : Cond.constantLong RX12 378 40 ∈ tb := tb_of 1687 (by decide +kernel) (by decide +kernel)
set_option maxRecDepth 100000 in
theorem t_1688 : Cond.constantLong RX12 380 999 ∈ tb := tb_of 1688 (by decide +kernel) (by decide +kernel)
set_option maxRecDepth 100000 in
theorem t_1697 : Cond.constantLong RX12 385 2 ∈ tb := tb_of 1697 (by decide +kernel) (by decide +kernel)
set_option maxRecDepth 100000 in
theorem t_1710 : Cond.methodLink RX12 387 yX12_isSheet ∈ tb := tb_of 1710 (by decide +kernel) (by decide +kernel)
set_option maxRecDepth 100000 in
theorem t_1711 : Cond.static yX12_isSheet ∈ tb := tb_of 1711 (by decide +kernel) (by decide +kernel)
set_option maxRecDepth 100000 in
theorem t_1712 : Cond.code yX12_isSheet cX12_isSheet 1 (some .boolean) ∈ tb := tb_of 1712 (by decide +kernel) (by decide +kernel)
set_option maxRecDepth 100000 in
theorem t_1725 : Cond.methodLink RX12 392 yX12_whyNoBytes ∈ tb := tb_of 1725 (by decide +kernel) (by decide +kernel)
set_option maxRecDepth 100000 in
theorem t_1727 : Cond.instanceMethod yX12_whyNoBytes ∈ tb := tb_of 1727 (by decide +kernel) (by decide +kernel)
set_option maxRecDepth 100000 in
theorem t_1728 : Cond.code yX12_whyNoBytes cX12_whyNoBytes 3 (some .int) ∈ tb := tb_of 1728 (by decide +kernel) (by decide +kernel)
set_option maxRecDepth 100000 in
theorem t_1729 : Cond.constantLong RX12 390 20 ∈ tb := tb_of 1729 (by decide +kernel) (by decide +kernel)
set_option maxRecDepth 100000 in
theorem t_1742 : Cond.constantLong RX12 395 14 ∈ tb := tb_of 1742 (by decide +kernel) (by decide +kernel)
set_option maxRecDepth 100000 in
theorem t_1743 : Cond.methodLink RX12 397 yX12_holdsNothing ∈ tb := tb_of 1743 (by decide +kernel) (by decide +kernel)
set_option maxRecDepth 100000 in
theorem t_1745 : Cond.instanceMethod yX12_holdsNothing ∈ tb := tb_of 1745 (by decide +kernel) (by decide +kernel)
set_option maxRecDepth 100000 in
theorem t_1746 : Cond.code yX12_holdsNothing cX12_holdsNothing 2 (some .boolean) ∈ tb := tb_of 1746 (by decide +kernel) (by decide +kernel)
set_option maxRecDepth 100000 in
theorem t_1751 : Cond.methodLink RX12 412 yX12_rollsBy ∈ tb := tb_of 1751 (by decide +kernel) (by decide +kernel)
set_option maxRecDepth 100000 in
theorem t_1753 : Cond.instanceMethod yX12_rollsBy ∈ tb := tb_of 1753 (by decide +kernel) (by decide +kernel)
set_option maxRecDepth 100000 in
theorem t_1754 : Cond.code yX12_rollsBy cX12_rollsBy 3 (some .int) ∈ tb := tb_of 1754 (by decide +kernel) (by decide +kernel)
set_option maxRecDepth 100000 in
theorem t_1755 : Cond.methodLink RX12 406 yX12_ran ∈ tb := tb_of 1755 (by decide +kernel) (by decide +kernel)
set_option maxRecDepth 100000 in
theorem t_1757 : Cond.instanceMethod yX12_ran ∈ tb := tb_of 1757 (by decide +kernel) (by decide +kernel)
set_option maxRecDepth 100000 in
theorem t_1758 : Cond.code yX12_ran cX12_ran 2 none ∈ tb := tb_of 1758 (by decide +kernel) (by decide +kernel)
set_option maxRecDepth 100000 in
theorem t_1759 : Cond.methodLink RX12 415 yX12_seepsBy ∈ tb := tb_of 1759 (by decide +kernel) (by decide +kernel)
set_option maxRecDepth 100000 in
theorem t_1761 : Cond.instanceMethod yX12_seepsBy ∈ tb := tb_of 1761 (by decide +kernel) (by decide +kernel)
set_option maxRecDepth 100000 in
theorem t_1762 : Cond.code yX12_seepsBy cX12_seepsBy 3 (some .int) ∈ tb := tb_of 1762 (by decide +kernel) (by decide +kernel)
set_option maxRecDepth 100000 in
theorem t_1763 : Cond.methodLink RX12 418 yX12_hoopsBy ∈ tb := tb_of 1763 (by decide +kernel) (by decide +kernel)
set_option maxRecDepth 100000 in
theorem t_1765 : Cond.instanceMethod yX12_hoopsBy ∈ tb := tb_of 1765 (by decide +kernel) (by decide +kernel)
set_option maxRecDepth 100000 in
theorem t_1766 : Cond.code yX12_hoopsBy cX12_hoopsBy 4 (some .int) ∈ tb := tb_of 1766 (by decide +kernel) (by decide +kernel)
set_option maxRecDepth 100000 in
theorem t_1767 : Cond.methodLink RX12 421 yX12_floodsBy ∈ tb := tb_of 1767 (by decide +kernel) (by decide +kernel)
set_option maxRecDepth 100000 in
theorem t_1769 : Cond.instanceMethod yX12_floodsBy ∈ tb := tb_of 1769 (by decide +kernel) (by decide +kernel)
set_option maxRecDepth 100000 in
theorem t_1770 : Cond.code yX12_floodsBy cX12_floodsBy 4 (some .int) ∈ tb := tb_of 1770 (by decide +kernel) (by decide +kernel)
set_option maxRecDepth 100000 in
theorem t_1779 : Cond.methodLink RX12 424 yX12_ones ∈ tb := tb_of 1779 (by decide +kernel) (by decide +kernel)
set_option maxRecDepth 100000 in
theorem t_1780 : Cond.static yX12_ones ∈ tb := tb_of 1780 (by decide +kernel) (by decide +kernel)
set_option maxRecDepth 100000 in
theorem t_1781 : Cond.code yX12_ones cX12_ones 3 (some .int) ∈ tb := tb_of 1781 (by decide +kernel) (by decide +kernel)
set_option maxRecDepth 100000 in
theorem t_1791 : Cond.sameMethod RX8 RX8 "leak" "(III)I" ∈ tb := tb_of 1791 (by decide +kernel) (by decide +kernel)
set_option maxRecDepth 100000 in
theorem t_1792 : Cond.sameMethod RX4 RX4 "leak" "(III)I" ∈ tb := tb_of 1792 (by decide +kernel) (by decide +kernel)
set_option maxRecDepth 100000 in
theorem t_1793 : Cond.sameMethod RX8 RX8 "lift" "(III)I" ∈ tb := tb_of 1793 (by decide +kernel) (by decide +kernel)
set_option maxRecDepth 100000 in
theorem t_1794 : Cond.sameMethod RX4 RX4 "lift" "(III)I" ∈ tb := tb_of 1794 (by decide +kernel) (by decide +kernel)
set_option maxRecDepth 100000 in
theorem t_1795 : Cond.sameMethod RX4 RX4 "hoops" "(LFloodCellar$Trace;I)I" ∈ tb := tb_of 1795 (by decide +kernel) (by decide +kernel)
set_option maxRecDepth 100000 in
theorem t_1801 : Cond.fieldLink RJ0 9 "java/lang/String" "value" "[B" ∈ tb := tb_of 1801 (by decide +kernel) (by decide +kernel)
set_option maxRecDepth 100000 in
theorem t_1802 : Cond.fieldLink RJ0 15 "java/lang/String" "coder" "B" ∈ tb := tb_of 1802 (by decide +kernel) (by decide +kernel)
set_option maxRecDepth 100000 in
theorem ki_0 : Int32.ofInt (0) = 0 := by decide
set_option maxRecDepth 100000 in
theorem ki_1 : Int32.ofInt (1) = 1 := by decide
set_option maxRecDepth 100000 in
theorem ki_2 : Int32.ofInt (2) = 2 := by decide
set_option maxRecDepth 100000 in
theorem kb_99 : (Int8.ofInt (99)).toInt32 = 99 := by decide
set_option maxRecDepth 100000 in
theorem kb_9 : (Int8.ofInt (9)).toInt32 = 9 := by decide
set_option maxRecDepth 100000 in
theorem kb_11 : (Int8.ofInt (11)).toInt32 = 11 := by decide
set_option maxRecDepth 100000 in
theorem fl_X7_19 : Fl RX7 19 7 4 0 := ⟨RX7, TX7, 5, rfl, by decide, by decide, rfl, inT7, t_166⟩
set_option maxRecDepth 100000 in
theorem fl_X7_15 : Fl RX7 15 7 1 0 := ⟨RX7, TX7, 5, rfl, by decide, by decide, rfl, inT7, t_158⟩
set_option maxRecDepth 100000 in
theorem kb_30 : (Int8.ofInt (30)).toInt32 = 30 := by decide
set_option maxRecDepth 100000 in
theorem fl_X7_9 : Fl RX7 9 7 0 2 := ⟨RX7, TX7, 5, rfl, by decide, by decide, rfl, inT7, t_156⟩
set_option maxRecDepth 100000 in
theorem fp_X7_15 : Fp RX7 15 7 1 0 .int := ⟨RX7, TX7, 5, tyX7, rfl, by decide, by decide, rfl, inT7, t_158, tyX7_ok, nmX7, rfl, by decide +kernel⟩
set_option maxRecDepth 100000 in
theorem kb_10 : (Int8.ofInt (10)).toInt32 = 10 := by decide
set_option maxRecDepth 100000 in
theorem cv_X0_13 : Cv RX0 13 miX7_began 1 7 := ⟨t_1070, t_1055, t_1056, t_91, t_1057, ⟨by decide +kernel, by decide +kernel, by decide +kernel⟩, by decide, by decide, _, _, rfl⟩
set_option maxRecDepth 100000 in
theorem ki_3 : Int32.ofInt (3) = 3 := by decide
set_option maxRecDepth 100000 in
theorem fl_X0_19 : Fl RX0 19 7 2 0 := ⟨RX7, TX7, 5, rfl, by decide, by decide, rfl, inT7, t_160⟩
set_option maxRecDepth 100000 in
theorem kb_50 : (Int8.ofInt (50)).toInt32 = 50 := by decide
set_option maxRecDepth 100000 in
theorem cv_X1_20 : Cv RX1 20 miX7_began 1 7 := ⟨t_1054, t_1055, t_1056, t_91, t_1057, ⟨by decide +kernel, by decide +kernel, by decide +kernel⟩, by decide, by decide, _, _, rfl⟩
set_option maxRecDepth 100000 in
theorem kb_7 : (Int8.ofInt (7)).toInt32 = 7 := by decide
set_option maxRecDepth 100000 in
theorem ci_X1_26 : Ci RX1 26 ⟨"FloodCellar$Tun", "rolls", "(LFloodCellar$Trace;I)I"⟩ miX0_rolls 2 := ⟨t_1058, t_1059, t_252, t_245, t_1048, t_93, t_1069, ⟨by decide +kernel, by decide +kernel⟩, by decide, rfl⟩
set_option maxRecDepth 100000 in
theorem kb_20 : (Int8.ofInt (20)).toInt32 = 20 := by decide
set_option maxRecDepth 100000 in
theorem cv_X9_7 : Cv RX9 7 miX7_began 1 7 := ⟨t_1067, t_1055, t_1056, t_91, t_1057, ⟨by decide +kernel, by decide +kernel, by decide +kernel⟩, by decide, by decide, _, _, rfl⟩
set_option maxRecDepth 100000 in
theorem cp_X9_13 : Cp RX9 13 miX0_rolls 2 := ⟨t_1068, t_1050, t_238, t_1048, t_93, t_1069, ⟨by decide +kernel, by decide +kernel⟩, by decide⟩
set_option maxRecDepth 100000 in
theorem kb_16 : (Int8.ofInt (16)).toInt32 = 16 := by decide
set_option maxRecDepth 100000 in
theorem ki_4 : Int32.ofInt (4) = 4 := by decide
set_option maxRecDepth 100000 in
theorem fl_X0_27 : Fl RX0 27 7 3 0 := ⟨RX7, TX7, 5, rfl, by decide, by decide, rfl, inT7, t_164⟩
set_option maxRecDepth 100000 in
theorem cu_X0_23_0 : Cu RX0 23 yX0_rolls miX0_rolls miX0_rolls 2 0 := ⟨_, _, _, rfl, by decide, t_1091, t_1050, t_1048, t_1049, t_1048, t_93, t_1069, t_1069, ⟨by decide +kernel, by decide +kernel, by decide +kernel⟩, by decide, rfl⟩
set_option maxRecDepth 100000 in
theorem cu_X0_23_9 : Cu RX0 23 yX0_rolls miX0_rolls miX9_rolls 2 9 := ⟨_, _, _, rfl, by decide, t_1091, t_1050, t_1048, t_1064, t_1065, t_94, t_1069, t_1066, ⟨by decide +kernel, by decide +kernel, by decide +kernel⟩, by decide, rfl⟩
set_option maxRecDepth 100000 in
theorem cu_X0_23_8 : Cu RX0 23 yX0_rolls miX0_rolls miX0_rolls 2 8 := ⟨_, _, _, rfl, by decide, t_1091, t_1050, t_1048, t_1063, t_1048, t_93, t_1069, t_1069, ⟨by decide +kernel, by decide +kernel, by decide +kernel⟩, by decide, rfl⟩
set_option maxRecDepth 100000 in
theorem cu_X0_23_1 : Cu RX0 23 yX0_rolls miX0_rolls miX1_rolls 2 1 := ⟨_, _, _, rfl, by decide, t_1091, t_1050, t_1048, t_1051, t_1052, t_96, t_1069, t_1053, ⟨by decide +kernel, by decide +kernel, by decide +kernel⟩, by decide, rfl⟩
set_option maxRecDepth 100000 in
theorem cu_X0_23_4 : Cu RX0 23 yX0_rolls miX0_rolls miX0_rolls 2 4 := ⟨_, _, _, rfl, by decide, t_1091, t_1050, t_1048, t_1062, t_1048, t_93, t_1069, t_1069, ⟨by decide +kernel, by decide +kernel, by decide +kernel⟩, by decide, rfl⟩
set_option maxRecDepth 100000 in
theorem cu_X0_23_2 : Cu RX0 23 yX0_rolls miX0_rolls miX0_rolls 2 2 := ⟨_, _, _, rfl, by decide, t_1091, t_1050, t_1048, t_1061, t_1048, t_93, t_1069, t_1069, ⟨by decide +kernel, by decide +kernel, by decide +kernel⟩, by decide, rfl⟩
set_option maxRecDepth 100000 in
theorem kb_12 : (Int8.ofInt (12)).toInt32 = 12 := by decide
set_option maxRecDepth 100000 in
theorem fp_X0_30 : Fp RX0 30 7 4 0 .boolean := ⟨RX7, TX7, 5, tyX7, rfl, by decide, by decide, rfl, inT7, t_167, tyX7_ok, nmX7, rfl, by decide +kernel⟩
set_option maxRecDepth 100000 in
theorem kb_40 : (Int8.ofInt (40)).toInt32 = 40 := by decide
set_option maxRecDepth 100000 in
theorem cv_X4_11 : Cv RX4 11 miX7_began 1 7 := ⟨t_1103, t_1055, t_1056, t_91, t_1057, ⟨by decide +kernel, by decide +kernel, by decide +kernel⟩, by decide, by decide, _, _, rfl⟩
set_option maxRecDepth 100000 in
theorem cp_X4_17 : Cp RX4 17 miX0_hoops 2 := ⟨t_1104, t_1095, t_259, t_1093, t_93, t_1111, ⟨by decide +kernel, by decide +kernel⟩, by decide⟩
set_option maxRecDepth 100000 in
theorem kb_61 : (Int8.ofInt (61)).toInt32 = 61 := by decide
set_option maxRecDepth 100000 in
theorem cv_X2_20 : Cv RX2 20 miX7_began 1 7 := ⟨t_1083, t_1055, t_1056, t_91, t_1057, ⟨by decide +kernel, by decide +kernel, by decide +kernel⟩, by decide, by decide, _, _, rfl⟩
set_option maxRecDepth 100000 in
theorem cp_X2_30 : Cp RX2 30 miX4_hoops 2 := ⟨t_1100, t_1795, t_266, t_1101, t_97, t_1102, ⟨by decide +kernel, by decide +kernel⟩, by decide⟩
set_option maxRecDepth 100000 in
theorem fl_X2_33 : Fl RX2 33 7 2 0 := ⟨RX7, TX7, 5, rfl, by decide, by decide, rfl, inT7, t_161⟩
set_option maxRecDepth 100000 in
theorem cu_X2_37_2 : Cu RX2 37 ⟨"FloodCellar$Cask", "rolls", "(LFloodCellar$Trace;I)I"⟩ miX0_rolls miX0_rolls 2 2 := ⟨_, _, _, rfl, by decide, t_1105, t_1106, t_1048, t_1107, t_1048, t_93, t_1069, t_1069, ⟨by decide +kernel, by decide +kernel, by decide +kernel⟩, by decide, rfl⟩
set_option maxRecDepth 100000 in
theorem kb_60 : (Int8.ofInt (60)).toInt32 = 60 := by decide
set_option maxRecDepth 100000 in
theorem ci_X2_26 : Ci RX2 26 ⟨"FloodCellar$Keg", "seeps", "(LFloodCellar$Trace;I)I"⟩ miX0_seeps 2 := ⟨t_1084, t_1085, t_266, t_259, t_1072, t_93, t_1090, ⟨by decide +kernel, by decide +kernel⟩, by decide, rfl⟩
set_option maxRecDepth 100000 in
theorem cv_X8_14 : Cv RX8 14 miX7_began 1 7 := ⟨t_1078, t_1055, t_1056, t_91, t_1057, ⟨by decide +kernel, by decide +kernel, by decide +kernel⟩, by decide, by decide, _, _, rfl⟩
set_option maxRecDepth 100000 in
theorem cp_X8_20 : Cp RX8 20 miX0_seeps 2 := ⟨t_1079, t_1074, t_245, t_1072, t_93, t_1090, ⟨by decide +kernel, by decide +kernel⟩, by decide⟩
set_option maxRecDepth 100000 in
theorem kb_17 : (Int8.ofInt (17)).toInt32 = 17 := by decide
set_option maxRecDepth 100000 in
theorem kb_13 : (Int8.ofInt (13)).toInt32 = 13 := by decide
set_option maxRecDepth 100000 in
theorem cu_X0_34_0 : Cu RX0 34 yX0_seeps miX0_seeps miX0_seeps 2 0 := ⟨_, _, _, rfl, by decide, t_1131, t_1074, t_1072, t_1073, t_1072, t_93, t_1090, t_1090, ⟨by decide +kernel, by decide +kernel, by decide +kernel⟩, by decide, rfl⟩
set_option maxRecDepth 100000 in
theorem cu_X0_34_9 : Cu RX0 34 yX0_seeps miX0_seeps miX0_seeps 2 9 := ⟨_, _, _, rfl, by decide, t_1131, t_1074, t_1072, t_1089, t_1072, t_93, t_1090, t_1090, ⟨by decide +kernel, by decide +kernel, by decide +kernel⟩, by decide, rfl⟩
set_option maxRecDepth 100000 in
theorem cu_X0_34_8 : Cu RX0 34 yX0_seeps miX0_seeps miX8_seeps 2 8 := ⟨_, _, _, rfl, by decide, t_1131, t_1074, t_1072, t_1088, t_1076, t_95, t_1090, t_1077, ⟨by decide +kernel, by decide +kernel, by decide +kernel⟩, by decide, rfl⟩
set_option maxRecDepth 100000 in
theorem cu_X0_34_1 : Cu RX0 34 yX0_seeps miX0_seeps miX8_seeps 2 1 := ⟨_, _, _, rfl, by decide, t_1131, t_1074, t_1072, t_1075, t_1076, t_95, t_1090, t_1077, ⟨by decide +kernel, by decide +kernel, by decide +kernel⟩, by decide, rfl⟩
set_option maxRecDepth 100000 in
theorem cu_X0_34_4 : Cu RX0 34 yX0_seeps miX0_seeps miX0_seeps 2 4 := ⟨_, _, _, rfl, by decide, t_1131, t_1074, t_1072, t_1087, t_1072, t_93, t_1090, t_1090, ⟨by decide +kernel, by decide +kernel, by decide +kernel⟩, by decide, rfl⟩
set_option maxRecDepth 100000 in
theorem cu_X0_34_2 : Cu RX0 34 yX0_seeps miX0_seeps miX2_seeps 2 2 := ⟨_, _, _, rfl, by decide, t_1131, t_1074, t_1072, t_1080, t_1081, t_98, t_1090, t_1082, ⟨by decide +kernel, by decide +kernel, by decide +kernel⟩, by decide, rfl⟩
set_option maxRecDepth 100000 in
theorem cu_X0_37_0 : Cu RX0 37 yX0_hoops miX0_hoops miX0_hoops 2 0 := ⟨_, _, _, rfl, by decide, t_1132, t_1095, t_1093, t_1094, t_1093, t_93, t_1111, t_1111, ⟨by decide +kernel, by decide +kernel, by decide +kernel⟩, by decide, rfl⟩
set_option maxRecDepth 100000 in
theorem cu_X0_37_9 : Cu RX0 37 yX0_hoops miX0_hoops miX0_hoops 2 9 := ⟨_, _, _, rfl, by decide, t_1132, t_1095, t_1093, t_1110, t_1093, t_93, t_1111, t_1111, ⟨by decide +kernel, by decide +kernel, by decide +kernel⟩, by decide, rfl⟩
set_option maxRecDepth 100000 in
theorem cu_X0_37_8 : Cu RX0 37 yX0_hoops miX0_hoops miX0_hoops 2 8 := ⟨_, _, _, rfl, by decide, t_1132, t_1095, t_1093, t_1109, t_1093, t_93, t_1111, t_1111, ⟨by decide +kernel, by decide +kernel, by decide +kernel⟩, by decide, rfl⟩
set_option maxRecDepth 100000 in
theorem cu_X0_37_1 : Cu RX0 37 yX0_hoops miX0_hoops miX0_hoops 2 1 := ⟨_, _, _, rfl, by decide, t_1132, t_1095, t_1093, t_1096, t_1093, t_93, t_1111, t_1111, ⟨by decide +kernel, by decide +kernel, by decide +kernel⟩, by decide, rfl⟩
set_option maxRecDepth 100000 in
theorem cu_X0_37_4 : Cu RX0 37 yX0_hoops miX0_hoops miX4_hoops 2 4 := ⟨_, _, _, rfl, by decide, t_1132, t_1095, t_1093, t_1108, t_1101, t_97, t_1111, t_1102, ⟨by decide +kernel, by decide +kernel, by decide +kernel⟩, by decide, rfl⟩
set_option maxRecDepth 100000 in
theorem cu_X0_37_2 : Cu RX0 37 yX0_hoops miX0_hoops miX2_hoops 2 2 := ⟨_, _, _, rfl, by decide, t_1132, t_1095, t_1093, t_1097, t_1098, t_98, t_1111, t_1099, ⟨by decide +kernel, by decide +kernel, by decide +kernel⟩, by decide, rfl⟩
set_option maxRecDepth 100000 in
theorem cp_X8_7 : Cp RX8 7 miX0_leak 3 := ⟨t_495, t_488, t_245, t_486, t_93, t_510, ⟨by decide +kernel, by decide +kernel⟩, by decide⟩
set_option maxRecDepth 100000 in
theorem cp_X1_7 : Cp RX1 7 miX8_leak 3 := ⟨t_492, t_1791, t_252, t_493, t_95, t_494, ⟨by decide +kernel, by decide +kernel⟩, by decide⟩
set_option maxRecDepth 100000 in
theorem mx_X1_11 : Mx RX1 11 Lib.Math.max.name Lib.Math.max.code := ⟨t_496, t_497, t_102, t_498⟩
set_option maxRecDepth 100000 in
theorem cp_X8_11 : Cp RX8 11 miX0_lift 3 := ⟨t_534, t_527, t_245, t_525, t_93, t_550, ⟨by decide +kernel, by decide +kernel⟩, by decide⟩
set_option maxRecDepth 100000 in
theorem cp_X1_17 : Cp RX1 17 miX8_lift 3 := ⟨t_531, t_1793, t_252, t_532, t_95, t_533, ⟨by decide +kernel, by decide +kernel⟩, by decide⟩
set_option maxRecDepth 100000 in
theorem kb_51 : (Int8.ofInt (51)).toInt32 = 51 := by decide
set_option maxRecDepth 100000 in
theorem ci_X1_30 : Ci RX1 30 ⟨"FloodCellar$Tun", "floods", "(LFloodCellar$Trace;I)I"⟩ miX0_floods 2 := ⟨t_1119, t_1120, t_252, t_245, t_1113, t_93, t_1130, ⟨by decide +kernel, by decide +kernel⟩, by decide, rfl⟩
set_option maxRecDepth 100000 in
theorem fl_X1_33 : Fl RX1 33 7 3 0 := ⟨RX7, TX7, 5, rfl, by decide, by decide, rfl, inT7, t_163⟩
set_option maxRecDepth 100000 in
theorem cu_X1_37_1 : Cu RX1 37 ⟨"FloodCellar$Butt", "seeps", "(LFloodCellar$Trace;I)I"⟩ miX8_seeps miX8_seeps 2 1 := ⟨_, _, _, rfl, by decide, t_1122, t_1123, t_1076, t_1125, t_1076, t_95, t_1077, t_1077, ⟨by decide +kernel, by decide +kernel, by decide +kernel⟩, by decide, rfl⟩
set_option maxRecDepth 100000 in
theorem cp_X2_7 : Cp RX2 7 miX4_leak 3 := ⟨t_502, t_1792, t_266, t_503, t_97, t_504, ⟨by decide +kernel, by decide +kernel⟩, by decide⟩
set_option maxRecDepth 100000 in
theorem cp_X4_7 : Cp RX4 7 miX0_lift 3 := ⟨t_541, t_527, t_259, t_525, t_93, t_550, ⟨by decide +kernel, by decide +kernel⟩, by decide⟩
set_option maxRecDepth 100000 in
theorem cp_X2_11 : Cp RX2 11 miX4_lift 3 := ⟨t_538, t_1794, t_266, t_539, t_97, t_540, ⟨by decide +kernel, by decide +kernel⟩, by decide⟩
set_option maxRecDepth 100000 in
theorem mx_X2_14 : Mx RX2 14 Lib.Math.min.name Lib.Math.min.code := ⟨t_542, t_543, t_102, t_544⟩
set_option maxRecDepth 100000 in
theorem kb_6 : (Int8.ofInt (6)).toInt32 = 6 := by decide
set_option maxRecDepth 100000 in
theorem fl_X3_18 : Fl RX3 18 3 2 0 := ⟨RX3, TX3, 4, rfl, by decide, by decide, rfl, inT3, t_131⟩
set_option maxRecDepth 100000 in
theorem fp_X3_18 : Fp RX3 18 3 2 0 .int := ⟨RX3, TX3, 4, tyX3, rfl, by decide, by decide, rfl, inT3, t_131, tyX3_ok, nmX3, rfl, by decide +kernel⟩
set_option maxRecDepth 100000 in
theorem fl_X3_22 : Fl RX3 22 3 3 0 := ⟨RX3, TX3, 4, rfl, by decide, by decide, rfl, inT3, t_136⟩
set_option maxRecDepth 100000 in
theorem fp_X3_22 : Fp RX3 22 3 3 0 .int := ⟨RX3, TX3, 4, tyX3, rfl, by decide, by decide, rfl, inT3, t_136, tyX3_ok, nmX3, rfl, by decide +kernel⟩
set_option maxRecDepth 100000 in
theorem fl_X3_9 : Fl RX3 9 3 0 2 := ⟨RX3, TX3, 4, rfl, by decide, by decide, rfl, inT3, t_123⟩
set_option maxRecDepth 100000 in
theorem fl_X3_15 : Fl RX3 15 3 1 2 := ⟨RX3, TX3, 4, rfl, by decide, by decide, rfl, inT3, t_127⟩
set_option maxRecDepth 100000 in
theorem ii_1 : ∀ x : Int32, x + Int32.ofInt (1) = x + 1 := fun x => congrArg (x + ·) (by decide)
set_option maxRecDepth 100000 in
theorem ki_m1 : Int32.ofInt (-1) = -1 := by decide
set_option maxRecDepth 100000 in
theorem fl_X5_25 : Fl RX5 25 5 0 2 := ⟨RX5, TX5, 11, rfl, by decide, by decide, rfl, inT5, t_358⟩
set_option maxRecDepth 100000 in
theorem fl_X5_29 : Fl RX5 29 10 13 0 := ⟨RX10, TX10, 17, rfl, by decide, by decide, rfl, inT10, t_306⟩
set_option maxRecDepth 100000 in
theorem fl_X5_35 : Fl RX5 35 10 6 2 := ⟨RX10, TX10, 17, rfl, by decide, by decide, rfl, inT10, t_290⟩
set_option maxRecDepth 100000 in
theorem fl_X5_39 : Fl RX5 39 3 3 0 := ⟨RX3, TX3, 4, rfl, by decide, by decide, rfl, inT3, t_135⟩
set_option maxRecDepth 100000 in
theorem mx_X5_42 : Mx RX5 42 Lib.Math.min.name Lib.Math.min.code := ⟨t_842, t_543, t_102, t_544⟩
set_option maxRecDepth 100000 in
theorem mx_X5_48 : Mx RX5 48 Lib.Math.max.name Lib.Math.max.code := ⟨t_843, t_497, t_102, t_498⟩
set_option maxRecDepth 100000 in
theorem cv_X5_51 : Cv RX5 51 miX5_lengthOf 1 5 := ⟨t_838, t_839, t_840, t_100, t_841, ⟨by decide +kernel, by decide +kernel, by decide +kernel⟩, by decide, by decide, _, _, rfl⟩
set_option maxRecDepth 100000 in
theorem fp_X5_55 : Fp RX5 55 5 3 0 .int := ⟨RX5, TX5, 11, tyX5, rfl, by decide, by decide, rfl, inT5, t_361, tyX5_ok, nmX5, rfl, by decide +kernel⟩
set_option maxRecDepth 100000 in
theorem fl_X5_12 : Fl RX5 12 5 1 2 := ⟨RX5, TX5, 11, rfl, by decide, by decide, rfl, inT5, t_359⟩
set_option maxRecDepth 100000 in
theorem cv_X5_58 : Cv RX5 58 miX3_take 1 3 := ⟨t_844, t_774, t_775, t_90, t_776, ⟨by decide +kernel, by decide +kernel, by decide +kernel⟩, by decide, by decide, _, _, rfl⟩
set_option maxRecDepth 100000 in
theorem fl_X10_18 : Fl RX10 18 10 3 2 := ⟨RX10, TX10, 17, rfl, by decide, by decide, rfl, inT10, t_283⟩
set_option maxRecDepth 100000 in
theorem cv_X10_99 : Cv RX10 99 miX10_waterAt 1 10 := ⟨t_477, t_478, t_479, t_99, t_480, ⟨by decide +kernel, by decide +kernel, by decide +kernel⟩, by decide, by decide, _, _, rfl⟩
set_option maxRecDepth 100000 in
theorem fl_X10_132 : Fl RX10 132 3 1 2 := ⟨RX3, TX3, 4, rfl, by decide, by decide, rfl, inT3, t_130⟩
set_option maxRecDepth 100000 in
theorem mx_X10_84 : Mx RX10 84 Lib.Math.min.name Lib.Math.min.code := ⟨t_767, t_543, t_102, t_544⟩
set_option maxRecDepth 100000 in
theorem fl_X10_103 : Fl RX10 103 3 0 2 := ⟨RX3, TX3, 4, rfl, by decide, by decide, rfl, inT3, t_126⟩
set_option maxRecDepth 100000 in
theorem fl_X10_96 : Fl RX10 96 3 3 0 := ⟨RX3, TX3, 4, rfl, by decide, by decide, rfl, inT3, t_138⟩
set_option maxRecDepth 100000 in
theorem cv_X10_109 : Cv RX10 109 miX10_saltAt 1 10 := ⟨t_481, t_482, t_483, t_99, t_484, ⟨by decide +kernel, by decide +kernel, by decide +kernel⟩, by decide, by decide, _, _, rfl⟩
set_option maxRecDepth 100000 in
theorem fl_X10_75 : Fl RX10 75 10 12 0 := ⟨RX10, TX10, 17, rfl, by decide, by decide, rfl, inT10, t_303⟩
set_option maxRecDepth 100000 in
theorem fl_X10_125 : Fl RX10 125 3 2 0 := ⟨RX3, TX3, 4, rfl, by decide, by decide, rfl, inT3, t_134⟩
set_option maxRecDepth 100000 in
theorem fl_X10_15 : Fl RX10 15 10 2 2 := ⟨RX10, TX10, 17, rfl, by decide, by decide, rfl, inT10, t_281⟩
set_option maxRecDepth 100000 in
theorem cv_X10_128 : Cv RX10 128 miX3_isStaked 1 3 := ⟨t_515, t_516, t_517, t_90, t_518, ⟨by decide +kernel, by decide +kernel, by decide +kernel⟩, by decide, by decide, _, _, rfl⟩
set_option maxRecDepth 100000 in
theorem fl_X10_60 : Fl RX10 60 10 0 2 := ⟨RX10, TX10, 17, rfl, by decide, by decide, rfl, inT10, t_277⟩
set_option maxRecDepth 100000 in
theorem fl_X10_9 : Fl RX10 9 10 1 2 := ⟨RX10, TX10, 17, rfl, by decide, by decide, rfl, inT10, t_279⟩
set_option maxRecDepth 100000 in
theorem cv_X10_106 : Cv RX10 106 miX10_riseAt 1 10 := ⟨t_473, t_474, t_475, t_99, t_476, ⟨by decide +kernel, by decide +kernel, by decide +kernel⟩, by decide, by decide, _, _, rfl⟩
set_option maxRecDepth 100000 in
theorem fl_X10_24 : Fl RX10 24 10 5 2 := ⟨RX10, TX10, 17, rfl, by decide, by decide, rfl, inT10, t_287⟩
set_option maxRecDepth 100000 in
theorem cv_X10_118 : Cv RX10 118 miX10_stakedIn 2 10 := ⟨t_511, t_513, t_0, t_99, t_514, ⟨by decide +kernel, by decide +kernel, by decide +kernel⟩, by decide, by decide, _, _, rfl⟩
set_option maxRecDepth 100000 in
theorem mx_X10_122 : Mx RX10 122 Lib.Math.max.name Lib.Math.max.code := ⟨t_519, t_497, t_102, t_498⟩
set_option maxRecDepth 100000 in
theorem cu_X10_112_0 : Cu RX10 112 yX0_leak miX0_leak miX0_leak 3 0 := ⟨_, _, _, rfl, by decide, t_485, t_488, t_486, t_487, t_486, t_93, t_510, t_510, ⟨by decide +kernel, by decide +kernel, by decide +kernel⟩, by decide, rfl⟩
set_option maxRecDepth 100000 in
theorem cu_X10_112_9 : Cu RX10 112 yX0_leak miX0_leak miX9_leak 3 9 := ⟨_, _, _, rfl, by decide, t_485, t_488, t_486, t_507, t_508, t_94, t_510, t_509, ⟨by decide +kernel, by decide +kernel, by decide +kernel⟩, by decide, rfl⟩
set_option maxRecDepth 100000 in
theorem cu_X10_112_8 : Cu RX10 112 yX0_leak miX0_leak miX8_leak 3 8 := ⟨_, _, _, rfl, by decide, t_485, t_488, t_486, t_506, t_493, t_95, t_510, t_494, ⟨by decide +kernel, by decide +kernel, by decide +kernel⟩, by decide, rfl⟩
set_option maxRecDepth 100000 in
theorem cu_X10_112_1 : Cu RX10 112 yX0_leak miX0_leak miX1_leak 3 1 := ⟨_, _, _, rfl, by decide, t_485, t_488, t_486, t_489, t_490, t_96, t_510, t_491, ⟨by decide +kernel, by decide +kernel, by decide +kernel⟩, by decide, rfl⟩
set_option maxRecDepth 100000 in
theorem cu_X10_112_4 : Cu RX10 112 yX0_leak miX0_leak miX4_leak 3 4 := ⟨_, _, _, rfl, by decide, t_485, t_488, t_486, t_505, t_503, t_97, t_510, t_504, ⟨by decide +kernel, by decide +kernel, by decide +kernel⟩, by decide, rfl⟩
set_option maxRecDepth 100000 in
theorem cu_X10_112_2 : Cu RX10 112 yX0_leak miX0_leak miX2_leak 3 2 := ⟨_, _, _, rfl, by decide, t_485, t_488, t_486, t_499, t_500, t_98, t_510, t_501, ⟨by decide +kernel, by decide +kernel, by decide +kernel⟩, by decide, rfl⟩
set_option maxRecDepth 100000 in
theorem fl_X10_21 : Fl RX10 21 10 4 2 := ⟨RX10, TX10, 17, rfl, by decide, by decide, rfl, inT10, t_285⟩
set_option maxRecDepth 100000 in
theorem cu_X10_135_0 : Cu RX10 135 yX0_lift miX0_lift miX0_lift 3 0 := ⟨_, _, _, rfl, by decide, t_524, t_527, t_525, t_526, t_525, t_93, t_550, t_550, ⟨by decide +kernel, by decide +kernel, by decide +kernel⟩, by decide, rfl⟩
set_option maxRecDepth 100000 in
theorem cu_X10_135_9 : Cu RX10 135 yX0_lift miX0_lift miX9_lift 3 9 := ⟨_, _, _, rfl, by decide, t_524, t_527, t_525, t_547, t_548, t_94, t_550, t_549, ⟨by decide +kernel, by decide +kernel, by decide +kernel⟩, by decide, rfl⟩
set_option maxRecDepth 100000 in
theorem cu_X10_135_8 : Cu RX10 135 yX0_lift miX0_lift miX8_lift 3 8 := ⟨_, _, _, rfl, by decide, t_524, t_527, t_525, t_546, t_532, t_95, t_550, t_533, ⟨by decide +kernel, by decide +kernel, by decide +kernel⟩, by decide, rfl⟩
set_option maxRecDepth 100000 in
theorem cu_X10_135_1 : Cu RX10 135 yX0_lift miX0_lift miX1_lift 3 1 := ⟨_, _, _, rfl, by decide, t_524, t_527, t_525, t_528, t_529, t_96, t_550, t_530, ⟨by decide +kernel, by decide +kernel, by decide +kernel⟩, by decide, rfl⟩
set_option maxRecDepth 100000 in
theorem cu_X10_135_4 : Cu RX10 135 yX0_lift miX0_lift miX4_lift 3 4 := ⟨_, _, _, rfl, by decide, t_524, t_527, t_525, t_545, t_539, t_97, t_550, t_540, ⟨by decide +kernel, by decide +kernel, by decide +kernel⟩, by decide, rfl⟩
set_option maxRecDepth 100000 in
theorem cu_X10_135_2 : Cu RX10 135 yX0_lift miX0_lift miX2_lift 3 2 := ⟨_, _, _, rfl, by decide, t_524, t_527, t_525, t_535, t_536, t_98, t_550, t_537, ⟨by decide +kernel, by decide +kernel, by decide +kernel⟩, by decide, rfl⟩
set_option maxRecDepth 100000 in
theorem kb_14 : (Int8.ofInt (14)).toInt32 = 14 := by decide
set_option maxRecDepth 100000 in
theorem ks_16383 : (Int16.ofInt (16383)).toInt32 = 16383 := by decide
set_option maxRecDepth 100000 in
theorem ks_10000 : (Int16.ofInt (10000)).toInt32 = 10000 := by decide
set_option maxRecDepth 100000 in
theorem kb_28 : (Int8.ofInt (28)).toInt32 = 28 := by decide
set_option maxRecDepth 100000 in
theorem fl_X6_24 : Fl RX6 24 6 6 2 := ⟨RX6, TX6, 11, rfl, by decide, by decide, rfl, inT6, t_193⟩
set_option maxRecDepth 100000 in
theorem fl_X6_18 : Fl RX6 18 6 3 2 := ⟨RX6, TX6, 11, rfl, by decide, by decide, rfl, inT6, t_190⟩
set_option maxRecDepth 100000 in
theorem fl_X6_21 : Fl RX6 21 6 4 2 := ⟨RX6, TX6, 11, rfl, by decide, by decide, rfl, inT6, t_191⟩
set_option maxRecDepth 100000 in
theorem kb_m2 : (Int8.ofInt (-2)).toInt32 = -2 := by decide
set_option maxRecDepth 100000 in
theorem kb_m3 : (Int8.ofInt (-3)).toInt32 = -3 := by decide
set_option maxRecDepth 100000 in
theorem cv_X6_67 : Cv RX6 67 miX6_compares 1 6 := ⟨t_577, t_579, t_2, t_92, t_580, ⟨by decide +kernel, by decide +kernel, by decide +kernel⟩, by decide, by decide, _, _, rfl⟩
set_option maxRecDepth 100000 in
theorem fl_X6_46 : Fl RX6 46 3 3 0 := ⟨RX3, TX3, 4, rfl, by decide, by decide, rfl, inT3, t_137⟩
set_option maxRecDepth 100000 in
theorem fl_X6_51 : Fl RX6 51 3 0 2 := ⟨RX3, TX3, 4, rfl, by decide, by decide, rfl, inT3, t_125⟩
set_option maxRecDepth 100000 in
theorem fl_X6_54 : Fl RX6 54 3 1 2 := ⟨RX3, TX3, 4, rfl, by decide, by decide, rfl, inT3, t_129⟩
set_option maxRecDepth 100000 in
theorem fl_X6_33 : Fl RX6 33 6 0 0 := ⟨RX6, TX6, 11, rfl, by decide, by decide, rfl, inT6, t_186⟩
set_option maxRecDepth 100000 in
theorem fl_X6_9 : Fl RX6 9 6 1 2 := ⟨RX6, TX6, 11, rfl, by decide, by decide, rfl, inT6, t_188⟩
set_option maxRecDepth 100000 in
theorem cs_X6_57 : Cs RX6 57 miX0_isUnder 2 := ⟨t_568, t_569, t_93, t_570, ⟨by decide +kernel, by decide +kernel, by decide +kernel⟩, by decide⟩
set_option maxRecDepth 100000 in
theorem cv_X6_63 : Cv RX6 63 miX6_holds 1 6 := ⟨t_573, t_575, t_1, t_92, t_576, ⟨by decide +kernel, by decide +kernel, by decide +kernel⟩, by decide, by decide, _, _, rfl⟩
set_option maxRecDepth 100000 in
theorem fl_X6_15 : Fl RX6 15 6 2 2 := ⟨RX6, TX6, 11, rfl, by decide, by decide, rfl, inT6, t_189⟩
set_option maxRecDepth 100000 in
theorem fl_X10_37 : Fl RX10 37 10 7 2 := ⟨RX10, TX10, 17, rfl, by decide, by decide, rfl, inT10, t_292⟩
set_option maxRecDepth 100000 in
theorem cv_X10_138 : Cv RX10 138 miX6_willOf 4 6 := ⟨t_564, t_565, t_566, t_92, t_567, ⟨by decide +kernel, by decide +kernel, by decide +kernel⟩, by decide, by decide, _, _, rfl⟩
set_option maxRecDepth 100000 in
theorem cv_X10_163 : Cv RX10 163 miX10_has 1 10 := ⟨t_761, t_466, t_467, t_99, t_468, ⟨by decide +kernel, by decide +kernel, by decide +kernel⟩, by decide, by decide, _, _, rfl⟩
set_option maxRecDepth 100000 in
theorem fp_X10_96 : Fp RX10 96 3 3 0 .int := ⟨RX3, TX3, 4, tyX3, rfl, by decide, by decide, rfl, inT3, t_138, tyX3_ok, nmX3, rfl, by decide +kernel⟩
set_option maxRecDepth 100000 in
theorem cv_X10_172 : Cv RX10 172 miX10_leaks 2 10 := ⟨t_768, t_470, t_471, t_99, t_472, ⟨by decide +kernel, by decide +kernel, by decide +kernel⟩, by decide, by decide, _, _, rfl⟩
set_option maxRecDepth 100000 in
theorem cv_X10_145 : Cv RX10 145 miX10_will 2 10 := ⟨t_560, t_561, t_562, t_99, t_563, ⟨by decide +kernel, by decide +kernel, by decide +kernel⟩, by decide, by decide, _, _, rfl⟩
set_option maxRecDepth 100000 in
theorem cv_X10_169 : Cv RX10 169 miX10_bung 2 10 := ⟨t_763, t_765, t_12, t_99, t_766, ⟨by decide +kernel, by decide +kernel, by decide +kernel⟩, by decide, by decide, _, _, rfl⟩
set_option maxRecDepth 100000 in
theorem cv_X10_142 : Cv RX10 142 miX10_pays 2 10 := ⟨t_559, t_552, t_553, t_99, t_554, ⟨by decide +kernel, by decide +kernel, by decide +kernel⟩, by decide, by decide, _, _, rfl⟩
set_option maxRecDepth 100000 in
theorem cv_X10_166 : Cv RX10 166 miX3_putStaked 2 3 := ⟨t_762, t_458, t_459, t_90, t_460, ⟨by decide +kernel, by decide +kernel, by decide +kernel⟩, by decide, by decide, _, _, rfl⟩
set_option maxRecDepth 100000 in
theorem fl_X5_69 : Fl RX5 69 5 7 0 := ⟨RX5, TX5, 11, rfl, by decide, by decide, rfl, inT5, t_367⟩
set_option maxRecDepth 100000 in
theorem fp_X5_95 : Fp RX5 95 5 6 0 .int := ⟨RX5, TX5, 11, tyX5, rfl, by decide, by decide, rfl, inT5, t_365, tyX5_ok, nmX5, rfl, by decide +kernel⟩
set_option maxRecDepth 100000 in
theorem fp_X5_69 : Fp RX5 69 5 7 0 .int := ⟨RX5, TX5, 11, tyX5, rfl, by decide, by decide, rfl, inT5, t_367, tyX5_ok, nmX5, rfl, by decide +kernel⟩
set_option maxRecDepth 100000 in
theorem fl_X5_55 : Fl RX5 55 5 3 0 := ⟨RX5, TX5, 11, rfl, by decide, by decide, rfl, inT5, t_361⟩
set_option maxRecDepth 100000 in
theorem fl_X5_95 : Fl RX5 95 5 6 0 := ⟨RX5, TX5, 11, rfl, by decide, by decide, rfl, inT5, t_365⟩
set_option maxRecDepth 100000 in
theorem fl_X5_75 : Fl RX5 75 5 9 0 := ⟨RX5, TX5, 11, rfl, by decide, by decide, rfl, inT5, t_371⟩
set_option maxRecDepth 100000 in
theorem fp_X5_75 : Fp RX5 75 5 9 0 .int := ⟨RX5, TX5, 11, tyX5, rfl, by decide, by decide, rfl, inT5, t_371, tyX5_ok, nmX5, rfl, by decide +kernel⟩
set_option maxRecDepth 100000 in
theorem fl_X5_66 : Fl RX5 66 5 4 0 := ⟨RX5, TX5, 11, rfl, by decide, by decide, rfl, inT5, t_362⟩
set_option maxRecDepth 100000 in
theorem fl_X5_72 : Fl RX5 72 5 8 0 := ⟨RX5, TX5, 11, rfl, by decide, by decide, rfl, inT5, t_369⟩
set_option maxRecDepth 100000 in
theorem fp_X5_72 : Fp RX5 72 5 8 0 .int := ⟨RX5, TX5, 11, tyX5, rfl, by decide, by decide, rfl, inT5, t_369, tyX5_ok, nmX5, rfl, by decide +kernel⟩
set_option maxRecDepth 100000 in
theorem fl_X5_22 : Fl RX5 22 5 5 2 := ⟨RX5, TX5, 11, rfl, by decide, by decide, rfl, inT5, t_363⟩
set_option maxRecDepth 100000 in
theorem fl_X5_18 : Fl RX5 18 5 2 2 := ⟨RX5, TX5, 11, rfl, by decide, by decide, rfl, inT5, t_360⟩
set_option maxRecDepth 100000 in
theorem fl_X5_88 : Fl RX5 88 10 12 0 := ⟨RX10, TX10, 17, rfl, by decide, by decide, rfl, inT10, t_304⟩
set_option maxRecDepth 100000 in
theorem cv_X5_91 : Cv RX5 91 miX10_pass 2 10 := ⟨t_853, t_758, t_759, t_99, t_760, ⟨by decide +kernel, by decide +kernel, by decide +kernel⟩, by decide, by decide, _, _, rfl⟩
set_option maxRecDepth 100000 in
theorem cv_X5_78 : Cv RX5 78 miX5_tryAll 3 5 := ⟨t_845, t_847, t_16, t_100, t_848, ⟨by decide +kernel, by decide +kernel, by decide +kernel⟩, by decide, by decide, _, _, rfl⟩
set_option maxRecDepth 100000 in
theorem fl_X5_82 : Fl RX5 82 3 2 0 := ⟨RX3, TX3, 4, rfl, by decide, by decide, rfl, inT3, t_133⟩
set_option maxRecDepth 100000 in
theorem cv_X5_85 : Cv RX5 85 miX5_weigh 3 5 := ⟨t_849, t_851, t_17, t_100, t_852, ⟨by decide +kernel, by decide +kernel, by decide +kernel⟩, by decide, by decide, _, _, rfl⟩
set_option maxRecDepth 100000 in
theorem cv_X5_62 : Cv RX5 62 miX5_begin 1 5 := ⟨t_834, t_836, t_15, t_100, t_837, ⟨by decide +kernel, by decide +kernel, by decide +kernel⟩, by decide, by decide, _, _, rfl⟩
set_option maxRecDepth 100000 in
theorem fp_X5_66 : Fp RX5 66 5 4 0 .int := ⟨RX5, TX5, 11, tyX5, rfl, by decide, by decide, rfl, inT5, t_362, tyX5_ok, nmX5, rfl, by decide +kernel⟩
set_option maxRecDepth 100000 in
theorem fp_X5_98 : Fp RX5 98 5 10 0 .int := ⟨RX5, TX5, 11, tyX5, rfl, by decide, by decide, rfl, inT5, t_373, tyX5_ok, nmX5, rfl, by decide +kernel⟩
set_option maxRecDepth 100000 in
theorem cv_X5_101 : Cv RX5 101 miX5_valueFrom 1 5 := ⟨t_887, t_889, t_19, t_100, t_890, ⟨by decide +kernel, by decide +kernel, by decide +kernel⟩, by decide, by decide, _, _, rfl⟩
set_option maxRecDepth 100000 in
theorem fp_X6_33 : Fp RX6 33 6 0 0 .int := ⟨RX6, TX6, 11, tyX6, rfl, by decide, by decide, rfl, inT6, t_186, tyX6_ok, nmX6, rfl, by decide +kernel⟩
set_option maxRecDepth 100000 in
theorem fl_X6_37 : Fl RX6 37 6 5 0 := ⟨RX6, TX6, 11, rfl, by decide, by decide, rfl, inT6, t_192⟩
set_option maxRecDepth 100000 in
theorem fp_X6_37 : Fp RX6 37 6 5 0 .int := ⟨RX6, TX6, 11, tyX6, rfl, by decide, by decide, rfl, inT6, t_192, tyX6_ok, nmX6, rfl, by decide +kernel⟩
set_option maxRecDepth 100000 in
theorem kb_8 : (Int8.ofInt (8)).toInt32 = 8 := by decide
set_option maxRecDepth 100000 in
theorem cc_X6_40 : Cc RX6 40 := ⟨t_741, t_743, t_742, t_107⟩
set_option maxRecDepth 100000 in
theorem kb_48 : (Int8.ofInt (48)).toInt32 = 48 := by decide
set_option maxRecDepth 100000 in
theorem kb_57 : (Int8.ofInt (57)).toInt32 = 57 := by decide
set_option maxRecDepth 100000 in
theorem kb_97 : (Int8.ofInt (97)).toInt32 = 97 := by decide
set_option maxRecDepth 100000 in
theorem kb_122 : (Int8.ofInt (122)).toInt32 = 122 := by decide
set_option maxRecDepth 100000 in
theorem cs_X6_111 : Cs RX6 111 miX6_isLetter 1 := ⟨t_645, t_646, t_92, t_647, ⟨by decide +kernel, by decide +kernel, by decide +kernel⟩, by decide⟩
set_option maxRecDepth 100000 in
theorem cs_X6_114 : Cs RX6 114 miX6_isDigit 1 := ⟨t_648, t_649, t_92, t_650, ⟨by decide +kernel, by decide +kernel, by decide +kernel⟩, by decide⟩
set_option maxRecDepth 100000 in
theorem cs_J0_1059 : Cs RJ0 1059 miJ3_checkIndex_8e157 3 := ⟨t_684, t_685, t_105, t_686, ⟨by decide +kernel, by decide +kernel, by decide +kernel⟩, by decide⟩
set_option maxRecDepth 100000 in
theorem cs_J1_9 : Cs RJ1 9 miJ0_checkIndex_df160 2 := ⟨t_679, t_680, t_103, t_681, ⟨by decide +kernel, by decide +kernel, by decide +kernel⟩, by decide⟩
set_option maxRecDepth 100000 in
theorem ks_255 : (Int16.ofInt (255)).toInt32 = 255 := by decide
set_option maxRecDepth 100000 in
theorem cw_J0_492 : Cw RJ0 492 miJ0_isLatin1_aae02 0 := ⟨rfl, t_672, t_673, t_674, t_103, t_675, ⟨by decide +kernel, by decide +kernel, by decide +kernel⟩, by decide⟩
set_option maxRecDepth 100000 in
theorem cs_J0_495 : Cs RJ0 495 miJ1_charAt_3b067 2 := ⟨t_676, t_677, t_104, t_678, ⟨by decide +kernel, by decide +kernel, by decide +kernel⟩, by decide⟩
set_option maxRecDepth 100000 in
theorem cw_J0_335 : Cw RJ0 335 miJ0_coder_7d493 0 := ⟨rfl, t_662, t_663, t_664, t_103, t_665, ⟨by decide +kernel, by decide +kernel, by decide +kernel⟩, by decide⟩
set_option maxRecDepth 100000 in
theorem cw_X6_127 : Cw RX6 127 miJ0_charAt_5068e 1 := ⟨rfl, t_668, t_669, t_670, t_103, t_671, ⟨by decide +kernel, by decide +kernel, by decide +kernel⟩, by decide⟩
set_option maxRecDepth 100000 in
theorem cw_X6_122 : Cw RX6 122 miJ0_length_8abf5 0 := ⟨rfl, t_658, t_659, t_660, t_103, t_661, ⟨by decide +kernel, by decide +kernel, by decide +kernel⟩, by decide⟩
set_option maxRecDepth 100000 in
theorem kb_32 : (Int8.ofInt (32)).toInt32 = 32 := by decide
set_option maxRecDepth 100000 in
theorem cs_X6_131 : Cs RX6 131 miX6_isWordAt 4 := ⟨t_706, t_707, t_92, t_708, ⟨by decide +kernel, by decide +kernel, by decide +kernel⟩, by decide⟩
set_option maxRecDepth 100000 in
theorem kb_100 : (Int8.ofInt (100)).toInt32 = 100 := by decide
set_option maxRecDepth 100000 in
theorem cs_X6_117 : Cs RX6 117 miX6_wordOf 3 := ⟨t_654, t_655, t_92, t_656, ⟨by decide +kernel, by decide +kernel, by decide +kernel⟩, by decide⟩
set_option maxRecDepth 100000 in
theorem ks_200 : (Int16.ofInt (200)).toInt32 = 200 := by decide
set_option maxRecDepth 100000 in
theorem fl_X6_30 : Fl RX6 30 6 8 2 := ⟨RX6, TX6, 11, rfl, by decide, by decide, rfl, inT6, t_195⟩
set_option maxRecDepth 100000 in
theorem fl_X6_27 : Fl RX6 27 6 7 2 := ⟨RX6, TX6, 11, rfl, by decide, by decide, rfl, inT6, t_194⟩
set_option maxRecDepth 100000 in
theorem cs_X6_104 : Cs RX6 104 miX6_endOf 3 := ⟨t_642, t_643, t_92, t_644, ⟨by decide +kernel, by decide +kernel, by decide +kernel⟩, by decide⟩
set_option maxRecDepth 100000 in
theorem cs_X6_108 : Cs RX6 108 miX6_tokenOf 3 := ⟨t_651, t_652, t_92, t_653, ⟨by decide +kernel, by decide +kernel, by decide +kernel⟩, by decide⟩
set_option maxRecDepth 100000 in
theorem fl_X6_74 : Fl RX6 74 6 9 0 := ⟨RX6, TX6, 11, rfl, by decide, by decide, rfl, inT6, t_196⟩
set_option maxRecDepth 100000 in
theorem fl_X6_77 : Fl RX6 77 6 10 0 := ⟨RX6, TX6, 11, rfl, by decide, by decide, rfl, inT6, t_197⟩
set_option maxRecDepth 100000 in
theorem fp_X6_77 : Fp RX6 77 6 10 0 .int := ⟨RX6, TX6, 11, tyX6, rfl, by decide, by decide, rfl, inT6, t_197, tyX6_ok, nmX6, rfl, by decide +kernel⟩
set_option maxRecDepth 100000 in
theorem fp_X6_74 : Fp RX6 74 6 9 0 .int := ⟨RX6, TX6, 11, tyX6, rfl, by decide, by decide, rfl, inT6, t_196, tyX6_ok, nmX6, rfl, by decide +kernel⟩
set_option maxRecDepth 100000 in
theorem cv_X6_87 : Cv RX6 87 miX6_expect 2 6 := ⟨t_729, t_731, t_9, t_92, t_732, ⟨by decide +kernel, by decide +kernel, by decide +kernel⟩, by decide, by decide, _, _, rfl⟩
set_option maxRecDepth 100000 in
theorem ks_10099 : (Int16.ofInt (10099)).toInt32 = 10099 := by decide
set_option maxRecDepth 100000 in
theorem kb_18 : (Int8.ofInt (18)).toInt32 = 18 := by decide
set_option maxRecDepth 100000 in
theorem cv_X6_94 : Cv RX6 94 miX6_emit 1 6 := ⟨t_733, t_735, t_10, t_92, t_736, ⟨by decide +kernel, by decide +kernel, by decide +kernel⟩, by decide, by decide, _, _, rfl⟩
set_option maxRecDepth 100000 in
theorem cv_X6_83 : Cv RX6 83 miX6_readCondition 1 6 := ⟨t_713, t_715, t_5, t_92, t_716, ⟨by decide +kernel, by decide +kernel, by decide +kernel⟩, by decide, by decide, _, _, rfl⟩
set_option maxRecDepth 100000 in
theorem kb_19 : (Int8.ofInt (19)).toInt32 = 19 := by decide
set_option maxRecDepth 100000 in
theorem cv_X6_100 : Cv RX6 100 miX6_readValue 0 6 := ⟨t_725, t_727, t_8, t_92, t_728, ⟨by decide +kernel, by decide +kernel, by decide +kernel⟩, by decide, by decide, _, _, rfl⟩
set_option maxRecDepth 100000 in
theorem kb_21 : (Int8.ofInt (21)).toInt32 = 21 := by decide
set_option maxRecDepth 100000 in
theorem kb_23 : (Int8.ofInt (23)).toInt32 = 23 := by decide
set_option maxRecDepth 100000 in
theorem cv_X6_97 : Cv RX6 97 miX6_readOne 1 6 := ⟨t_721, t_723, t_7, t_92, t_724, ⟨by decide +kernel, by decide +kernel, by decide +kernel⟩, by decide, by decide, _, _, rfl⟩
set_option maxRecDepth 100000 in
theorem cv_X6_91 : Cv RX6 91 miX6_readAll 1 6 := ⟨t_717, t_719, t_6, t_92, t_720, ⟨by decide +kernel, by decide +kernel, by decide +kernel⟩, by decide, by decide, _, _, rfl⟩
set_option maxRecDepth 100000 in
theorem ki_5 : Int32.ofInt (5) = 5 := by decide
set_option maxRecDepth 100000 in
theorem cv_X6_70 : Cv RX6 70 miX6_part 2 6 := ⟨t_638, t_640, t_3, t_92, t_641, ⟨by decide +kernel, by decide +kernel, by decide +kernel⟩, by decide, by decide, _, _, rfl⟩
set_option maxRecDepth 100000 in
theorem cv_X6_80 : Cv RX6 80 miX6_readRule 0 6 := ⟨t_709, t_711, t_4, t_92, t_712, ⟨by decide +kernel, by decide +kernel, by decide +kernel⟩, by decide, by decide, _, _, rfl⟩
set_option maxRecDepth 100000 in
theorem fp_X7_19 : Fp RX7 19 7 4 0 .boolean := ⟨RX7, TX7, 5, tyX7, rfl, by decide, by decide, rfl, inT7, t_166, tyX7_ok, nmX7, rfl, by decide +kernel⟩
set_option maxRecDepth 100000 in
theorem cc_X10_90 : Cc RX10 90 := ⟨t_1152, t_743, t_742, t_107⟩
set_option maxRecDepth 100000 in
theorem cs_X10_64 : Cs RX10 64 miX10_copy 2 := ⟨t_1149, t_1150, t_99, t_1151, ⟨by decide +kernel, by decide +kernel, by decide +kernel⟩, by decide⟩
set_option maxRecDepth 100000 in
theorem fl_X10_30 : Fl RX10 30 10 6 2 := ⟨RX10, TX10, 17, rfl, by decide, by decide, rfl, inT10, t_289⟩
set_option maxRecDepth 100000 in
theorem cv_X10_68 : Cv RX10 68 miX3_take 1 3 := ⟨t_1153, t_774, t_775, t_90, t_776, ⟨by decide +kernel, by decide +kernel, by decide +kernel⟩, by decide, by decide, _, _, rfl⟩
set_option maxRecDepth 100000 in
theorem cv_X10_72 : Cv RX10 72 miX6_take 1 6 := ⟨t_1154, t_738, t_739, t_92, t_740, ⟨by decide +kernel, by decide +kernel, by decide +kernel⟩, by decide, by decide, _, _, rfl⟩
set_option maxRecDepth 100000 in
theorem fl_X10_41 : Fl RX10 41 10 8 2 := ⟨RX10, TX10, 17, rfl, by decide, by decide, rfl, inT10, t_294⟩
set_option maxRecDepth 100000 in
theorem fl_X10_44 : Fl RX10 44 10 9 2 := ⟨RX10, TX10, 17, rfl, by decide, by decide, rfl, inT10, t_296⟩
set_option maxRecDepth 100000 in
theorem fl_X10_47 : Fl RX10 47 10 10 2 := ⟨RX10, TX10, 17, rfl, by decide, by decide, rfl, inT10, t_298⟩
set_option maxRecDepth 100000 in
theorem fl_X10_50 : Fl RX10 50 10 11 2 := ⟨RX10, TX10, 17, rfl, by decide, by decide, rfl, inT10, t_300⟩
set_option maxRecDepth 100000 in
theorem fp_X10_75 : Fp RX10 75 10 12 0 .int := ⟨RX10, TX10, 17, tyX10, rfl, by decide, by decide, rfl, inT10, t_303, tyX10_ok, nmX10, rfl, by decide +kernel⟩
set_option maxRecDepth 100000 in
theorem fl_X10_53 : Fl RX10 53 10 13 0 := ⟨RX10, TX10, 17, rfl, by decide, by decide, rfl, inT10, t_305⟩
set_option maxRecDepth 100000 in
theorem fp_X10_53 : Fp RX10 53 10 13 0 .int := ⟨RX10, TX10, 17, tyX10, rfl, by decide, by decide, rfl, inT10, t_305, tyX10_ok, nmX10, rfl, by decide +kernel⟩
set_option maxRecDepth 100000 in
theorem fl_X10_78 : Fl RX10 78 10 14 0 := ⟨RX10, TX10, 17, rfl, by decide, by decide, rfl, inT10, t_308⟩
set_option maxRecDepth 100000 in
theorem fp_X10_78 : Fp RX10 78 10 14 0 .int := ⟨RX10, TX10, 17, tyX10, rfl, by decide, by decide, rfl, inT10, t_308, tyX10_ok, nmX10, rfl, by decide +kernel⟩
set_option maxRecDepth 100000 in
theorem fl_X10_81 : Fl RX10 81 10 15 0 := ⟨RX10, TX10, 17, rfl, by decide, by decide, rfl, inT10, t_310⟩
set_option maxRecDepth 100000 in
theorem fp_X10_81 : Fp RX10 81 10 15 0 .int := ⟨RX10, TX10, 17, tyX10, rfl, by decide, by decide, rfl, inT10, t_310, tyX10_ok, nmX10, rfl, by decide +kernel⟩
set_option maxRecDepth 100000 in
theorem fl_X10_57 : Fl RX10 57 10 16 0 := ⟨RX10, TX10, 17, rfl, by decide, by decide, rfl, inT10, t_312⟩
set_option maxRecDepth 100000 in
theorem fp_X10_57 : Fp RX10 57 10 16 0 .int := ⟨RX10, TX10, 17, tyX10, rfl, by decide, by decide, rfl, inT10, t_312, tyX10_ok, nmX10, rfl, by decide +kernel⟩
set_option maxRecDepth 100000 in
theorem cv_X10_148 : Cv RX10 148 miX10_may 2 10 := ⟨t_752, t_556, t_557, t_99, t_558, ⟨by decide +kernel, by decide +kernel, by decide +kernel⟩, by decide, by decide, _, _, rfl⟩
set_option maxRecDepth 100000 in
theorem cv_X10_152 : Cv RX10 152 miX10_isOver 1 10 := ⟨t_781, t_618, t_619, t_99, t_620, ⟨by decide +kernel, by decide +kernel, by decide +kernel⟩, by decide, by decide, _, _, rfl⟩
set_option maxRecDepth 100000 in
theorem cv_X10_156 : Cv RX10 156 miX10_restAct 1 10 := ⟨t_782, t_749, t_750, t_99, t_751, ⟨by decide +kernel, by decide +kernel, by decide +kernel⟩, by decide, by decide, _, _, rfl⟩
set_option maxRecDepth 100000 in
theorem cv_X10_160 : Cv RX10 160 miX10_pass 2 10 := ⟨t_783, t_758, t_759, t_99, t_760, ⟨by decide +kernel, by decide +kernel, by decide +kernel⟩, by decide, by decide, _, _, rfl⟩
set_option maxRecDepth 100000 in
theorem cv_X10_175 : Cv RX10 175 miX10_floatsOf 2 10 := ⟨t_825, t_521, t_522, t_99, t_523, ⟨by decide +kernel, by decide +kernel, by decide +kernel⟩, by decide, by decide, _, _, rfl⟩
set_option maxRecDepth 100000 in
theorem cs_X10_178 : Cs RX10 178 miX10_loneKind 1 := ⟨t_911, t_912, t_99, t_913, ⟨by decide +kernel, by decide +kernel, by decide +kernel⟩, by decide⟩
set_option maxRecDepth 100000 in
theorem cs_X10_181 : Cs RX10 181 miX10_loneChalk 1 := ⟨t_914, t_915, t_99, t_916, ⟨by decide +kernel, by decide +kernel, by decide +kernel⟩, by decide⟩
set_option maxRecDepth 100000 in
theorem cs_X10_184 : Cs RX10 184 miX10_loneFill 1 := ⟨t_917, t_918, t_99, t_919, ⟨by decide +kernel, by decide +kernel, by decide +kernel⟩, by decide⟩
set_option maxRecDepth 100000 in
theorem cv_X10_187 : Cv RX10 187 miX10_lastReported 0 10 := ⟨t_920, t_922, t_20, t_99, t_923, ⟨by decide +kernel, by decide +kernel, by decide +kernel⟩, by decide, by decide, _, _, rfl⟩
set_option maxRecDepth 100000 in
theorem cv_X10_191 : Cv RX10 191 miX10_deniedBehind 3 10 := ⟨t_924, t_926, t_21, t_99, t_927, ⟨by decide +kernel, by decide +kernel, by decide +kernel⟩, by decide, by decide, _, _, rfl⟩
set_option maxRecDepth 100000 in
theorem cs_X11_97 : Cs RX11 97 miX11_within 3 := ⟨t_454, t_455, t_89, t_456, ⟨by decide +kernel, by decide +kernel, by decide +kernel⟩, by decide⟩
set_option maxRecDepth 100000 in
theorem fl_X11_81 : Fl RX11 81 11 0 2 := ⟨RX11, TX11, 17, rfl, by decide, by decide, rfl, inT11, t_398⟩
set_option maxRecDepth 100000 in
theorem fl_X11_101 : Fl RX11 101 10 12 0 := ⟨RX10, TX10, 17, rfl, by decide, by decide, rfl, inT10, t_302⟩
set_option maxRecDepth 100000 in
theorem fp_X11_101 : Fp RX11 101 10 12 0 .int := ⟨RX10, TX10, 17, tyX10, rfl, by decide, by decide, rfl, inT10, t_302, tyX10_ok, nmX10, rfl, by decide +kernel⟩
set_option maxRecDepth 100000 in
theorem fl_X11_105 : Fl RX11 105 10 1 2 := ⟨RX10, TX10, 17, rfl, by decide, by decide, rfl, inT10, t_280⟩
set_option maxRecDepth 100000 in
theorem fl_X11_108 : Fl RX11 108 10 2 2 := ⟨RX10, TX10, 17, rfl, by decide, by decide, rfl, inT10, t_282⟩
set_option maxRecDepth 100000 in
theorem fl_X11_111 : Fl RX11 111 10 6 2 := ⟨RX10, TX10, 17, rfl, by decide, by decide, rfl, inT10, t_291⟩
set_option maxRecDepth 100000 in
theorem fl_X11_114 : Fl RX11 114 3 0 2 := ⟨RX3, TX3, 4, rfl, by decide, by decide, rfl, inT3, t_124⟩
set_option maxRecDepth 100000 in
theorem fl_X11_117 : Fl RX11 117 3 1 2 := ⟨RX3, TX3, 4, rfl, by decide, by decide, rfl, inT3, t_128⟩
set_option maxRecDepth 100000 in
theorem cv_X11_120 : Cv RX11 120 miX3_putStaked 2 3 := ⟨t_457, t_458, t_459, t_90, t_460, ⟨by decide +kernel, by decide +kernel, by decide +kernel⟩, by decide, by decide, _, _, rfl⟩
set_option maxRecDepth 100000 in
theorem cv_X11_124 : Cv RX11 124 miX10_has 1 10 := ⟨t_465, t_466, t_467, t_99, t_468, ⟨by decide +kernel, by decide +kernel, by decide +kernel⟩, by decide, by decide, _, _, rfl⟩
set_option maxRecDepth 100000 in
theorem fl_X11_128 : Fl RX11 128 3 2 0 := ⟨RX3, TX3, 4, rfl, by decide, by decide, rfl, inT3, t_132⟩
set_option maxRecDepth 100000 in
theorem cv_X11_131 : Cv RX11 131 miX10_leaks 2 10 := ⟨t_469, t_470, t_471, t_99, t_472, ⟨by decide +kernel, by decide +kernel, by decide +kernel⟩, by decide, by decide, _, _, rfl⟩
set_option maxRecDepth 100000 in
theorem cv_X11_135 : Cv RX11 135 miX10_floatsOf 2 10 := ⟨t_520, t_521, t_522, t_99, t_523, ⟨by decide +kernel, by decide +kernel, by decide +kernel⟩, by decide, by decide, _, _, rfl⟩
set_option maxRecDepth 100000 in
theorem cv_X11_138 : Cv RX11 138 miX10_pays 2 10 := ⟨t_551, t_552, t_553, t_99, t_554, ⟨by decide +kernel, by decide +kernel, by decide +kernel⟩, by decide, by decide, _, _, rfl⟩
set_option maxRecDepth 100000 in
theorem cv_X11_141 : Cv RX11 141 miX10_may 2 10 := ⟨t_555, t_556, t_557, t_99, t_558, ⟨by decide +kernel, by decide +kernel, by decide +kernel⟩, by decide, by decide, _, _, rfl⟩
set_option maxRecDepth 100000 in
theorem cv_X11_145 : Cv RX11 145 miX10_will 2 10 := ⟨t_581, t_561, t_562, t_99, t_563, ⟨by decide +kernel, by decide +kernel, by decide +kernel⟩, by decide, by decide, _, _, rfl⟩
set_option maxRecDepth 100000 in
theorem cs_X11_148 : Cs RX11 148 miX11_put 3 := ⟨t_586, t_587, t_89, t_588, ⟨by decide +kernel, by decide +kernel, by decide +kernel⟩, by decide⟩
set_option maxRecDepth 100000 in
theorem kb_15 : (Int8.ofInt (15)).toInt32 = 15 := by decide
set_option maxRecDepth 100000 in
theorem fl_X11_152 : Fl RX11 152 10 3 2 := ⟨RX10, TX10, 17, rfl, by decide, by decide, rfl, inT10, t_284⟩
set_option maxRecDepth 100000 in
theorem fl_X11_158 : Fl RX11 158 10 5 2 := ⟨RX10, TX10, 17, rfl, by decide, by decide, rfl, inT10, t_288⟩
set_option maxRecDepth 100000 in
theorem fl_X11_155 : Fl RX11 155 10 4 2 := ⟨RX10, TX10, 17, rfl, by decide, by decide, rfl, inT10, t_286⟩
set_option maxRecDepth 100000 in
theorem fl_X11_161 : Fl RX11 161 3 3 0 := ⟨RX3, TX3, 4, rfl, by decide, by decide, rfl, inT3, t_139⟩
set_option maxRecDepth 100000 in
theorem fl_X11_164 : Fl RX11 164 10 13 0 := ⟨RX10, TX10, 17, rfl, by decide, by decide, rfl, inT10, t_307⟩
set_option maxRecDepth 100000 in
theorem fp_X11_164 : Fp RX11 164 10 13 0 .int := ⟨RX10, TX10, 17, tyX10, rfl, by decide, by decide, rfl, inT10, t_307, tyX10_ok, nmX10, rfl, by decide +kernel⟩
set_option maxRecDepth 100000 in
theorem kb_m4 : (Int8.ofInt (-4)).toInt32 = -4 := by decide
set_option maxRecDepth 100000 in
theorem fp_X11_161 : Fp RX11 161 3 3 0 .int := ⟨RX3, TX3, 4, tyX3, rfl, by decide, by decide, rfl, inT3, t_139, tyX3_ok, nmX3, rfl, by decide +kernel⟩
set_option maxRecDepth 100000 in
theorem fp_X11_128 : Fp RX11 128 3 2 0 .int := ⟨RX3, TX3, 4, tyX3, rfl, by decide, by decide, rfl, inT3, t_132, tyX3_ok, nmX3, rfl, by decide +kernel⟩
set_option maxRecDepth 100000 in
theorem fp_X11_167 : Fp RX11 167 10 14 0 .int := ⟨RX10, TX10, 17, tyX10, rfl, by decide, by decide, rfl, inT10, t_309, tyX10_ok, nmX10, rfl, by decide +kernel⟩
set_option maxRecDepth 100000 in
theorem fl_X11_167 : Fl RX11 167 10 14 0 := ⟨RX10, TX10, 17, rfl, by decide, by decide, rfl, inT10, t_309⟩
set_option maxRecDepth 100000 in
theorem cv_X11_170 : Cv RX11 170 miX10_isOver 1 10 := ⟨t_617, t_618, t_619, t_99, t_620, ⟨by decide +kernel, by decide +kernel, by decide +kernel⟩, by decide, by decide, _, _, rfl⟩
set_option maxRecDepth 100000 in
theorem cv_X11_174 : Cv RX11 174 miX10_waterAt 1 10 := ⟨t_621, t_478, t_479, t_99, t_480, ⟨by decide +kernel, by decide +kernel, by decide +kernel⟩, by decide, by decide, _, _, rfl⟩
set_option maxRecDepth 100000 in
theorem cv_X11_178 : Cv RX11 178 miX10_allFill 1 10 := ⟨t_622, t_623, t_624, t_99, t_625, ⟨by decide +kernel, by decide +kernel, by decide +kernel⟩, by decide, by decide, _, _, rfl⟩
set_option maxRecDepth 100000 in
theorem fl_X11_182 : Fl RX11 182 11 7 0 := ⟨RX11, TX11, 17, rfl, by decide, by decide, rfl, inT11, t_405⟩
set_option maxRecDepth 100000 in
theorem fl_X11_23 : Fl RX11 23 11 6 2 := ⟨RX11, TX11, 17, rfl, by decide, by decide, rfl, inT11, t_404⟩
set_option maxRecDepth 100000 in
theorem fp_X11_182 : Fp RX11 182 11 7 0 .int := ⟨RX11, TX11, 17, tyX11, rfl, by decide, by decide, rfl, inT11, t_405, tyX11_ok, nmX11, rfl, by decide +kernel⟩
set_option maxRecDepth 100000 in
theorem fl_X11_30 : Fl RX11 30 11 8 2 := ⟨RX11, TX11, 17, rfl, by decide, by decide, rfl, inT11, t_406⟩
set_option maxRecDepth 100000 in
theorem cv_X11_185 : Cv RX11 185 miX6_read 2 6 := ⟨t_634, t_635, t_636, t_92, t_637, ⟨by decide +kernel, by decide +kernel, by decide +kernel⟩, by decide, by decide, _, _, rfl⟩
set_option maxRecDepth 100000 in
theorem fl_X11_189 : Fl RX11 189 10 7 2 := ⟨RX10, TX10, 17, rfl, by decide, by decide, rfl, inT10, t_293⟩
set_option maxRecDepth 100000 in
theorem cv_X11_192 : Cv RX11 192 miX6_take 1 6 := ⟨t_737, t_738, t_739, t_92, t_740, ⟨by decide +kernel, by decide +kernel, by decide +kernel⟩, by decide, by decide, _, _, rfl⟩
set_option maxRecDepth 100000 in
theorem fl_X11_196 : Fl RX11 196 6 0 0 := ⟨RX6, TX6, 11, rfl, by decide, by decide, rfl, inT6, t_187⟩
set_option maxRecDepth 100000 in
theorem kb_m100 : (Int8.ofInt (-100)).toInt32 = -100 := by decide
set_option maxRecDepth 100000 in
theorem cv_X11_212 : Cv RX11 212 miX10_pass 2 10 := ⟨t_757, t_758, t_759, t_99, t_760, ⟨by decide +kernel, by decide +kernel, by decide +kernel⟩, by decide, by decide, _, _, rfl⟩
set_option maxRecDepth 100000 in
theorem cv_X11_197 : Cv RX11 197 miX10_restAct 1 10 := ⟨t_748, t_749, t_750, t_99, t_751, ⟨by decide +kernel, by decide +kernel, by decide +kernel⟩, by decide, by decide, _, _, rfl⟩
set_option maxRecDepth 100000 in
theorem cv_X11_200 : Cv RX11 200 miX11_goBy 1 11 := ⟨t_753, t_755, t_11, t_89, t_756, ⟨by decide +kernel, by decide +kernel, by decide +kernel⟩, by decide, by decide, _, _, rfl⟩
set_option maxRecDepth 100000 in
theorem fl_X11_10 : Fl RX11 10 11 3 2 := ⟨RX11, TX11, 17, rfl, by decide, by decide, rfl, inT11, t_401⟩
set_option maxRecDepth 100000 in
theorem cv_X11_203 : Cv RX11 203 miX3_take 1 3 := ⟨t_773, t_774, t_775, t_90, t_776, ⟨by decide +kernel, by decide +kernel, by decide +kernel⟩, by decide, by decide, _, _, rfl⟩
set_option maxRecDepth 100000 in
theorem cv_X11_206 : Cv RX11 206 miX10_rest 2 10 := ⟨t_777, t_778, t_779, t_99, t_780, ⟨by decide +kernel, by decide +kernel, by decide +kernel⟩, by decide, by decide, _, _, rfl⟩
set_option maxRecDepth 100000 in
theorem cv_X11_209 : Cv RX11 209 miX3_isStaked 1 3 := ⟨t_788, t_516, t_517, t_90, t_518, ⟨by decide +kernel, by decide +kernel, by decide +kernel⟩, by decide, by decide, _, _, rfl⟩
set_option maxRecDepth 100000 in
theorem ii_m1 : ∀ x : Int32, x + Int32.ofInt (-1) = x + (-1) := fun x => congrArg (x + ·) (by decide)
set_option maxRecDepth 100000 in
theorem cv_X11_374 : Cv RX11 374 miX10_isCloseToAny 2 10 := ⟨t_821, t_822, t_823, t_99, t_824, ⟨by decide +kernel, by decide +kernel, by decide +kernel⟩, by decide, by decide, _, _, rfl⟩
set_option maxRecDepth 100000 in
theorem cv_X11_219 : Cv RX11 219 miX11_raftOf 1 11 := ⟨t_817, t_819, t_14, t_89, t_820, ⟨by decide +kernel, by decide +kernel, by decide +kernel⟩, by decide, by decide, _, _, rfl⟩
set_option maxRecDepth 100000 in
theorem cv_X11_215 : Cv RX11 215 miX11_countRafts 0 11 := ⟨t_813, t_815, t_13, t_89, t_816, ⟨by decide +kernel, by decide +kernel, by decide +kernel⟩, by decide, by decide, _, _, rfl⟩
set_option maxRecDepth 100000 in
theorem fl_X11_93 : Fl RX11 93 11 4 2 := ⟨RX11, TX11, 17, rfl, by decide, by decide, rfl, inT11, t_402⟩
set_option maxRecDepth 100000 in
theorem cv_X11_222 : Cv RX11 222 miX5_lookAhead 2 5 := ⟨t_830, t_831, t_832, t_100, t_833, ⟨by decide +kernel, by decide +kernel, by decide +kernel⟩, by decide, by decide, _, _, rfl⟩
set_option maxRecDepth 100000 in
theorem fl_X11_226 : Fl RX11 226 5 6 0 := ⟨RX5, TX5, 11, rfl, by decide, by decide, rfl, inT5, t_366⟩
set_option maxRecDepth 100000 in
theorem cv_X11_229 : Cv RX11 229 miX5_lengthOf 1 5 := ⟨t_858, t_839, t_840, t_100, t_841, ⟨by decide +kernel, by decide +kernel, by decide +kernel⟩, by decide, by decide, _, _, rfl⟩
set_option maxRecDepth 100000 in
theorem fl_X11_232 : Fl RX11 232 5 5 2 := ⟨RX5, TX5, 11, rfl, by decide, by decide, rfl, inT5, t_364⟩
set_option maxRecDepth 100000 in
theorem fl_X11_235 : Fl RX11 235 5 7 0 := ⟨RX5, TX5, 11, rfl, by decide, by decide, rfl, inT5, t_368⟩
set_option maxRecDepth 100000 in
theorem cv_X11_238 : Cv RX11 238 miX11_isSetOfBarrels 1 11 := ⟨t_867, t_869, t_18, t_89, t_870, ⟨by decide +kernel, by decide +kernel, by decide +kernel⟩, by decide, by decide, _, _, rfl⟩
set_option maxRecDepth 100000 in
theorem fl_X11_241 : Fl RX11 241 5 8 0 := ⟨RX5, TX5, 11, rfl, by decide, by decide, rfl, inT5, t_370⟩
set_option maxRecDepth 100000 in
theorem ks_256 : (Int16.ofInt (256)).toInt32 = 256 := by decide
set_option maxRecDepth 100000 in
theorem ii_2 : ∀ x : Int32, x + Int32.ofInt (2) = x + 2 := fun x => congrArg (x + ·) (by decide)
set_option maxRecDepth 100000 in
theorem ii_4 : ∀ x : Int32, x + Int32.ofInt (4) = x + 4 := fun x => congrArg (x + ·) (by decide)
set_option maxRecDepth 100000 in
theorem ii_8 : ∀ x : Int32, x + Int32.ofInt (8) = x + 8 := fun x => congrArg (x + ·) (by decide)
set_option maxRecDepth 100000 in
theorem ii_16 : ∀ x : Int32, x + Int32.ofInt (16) = x + 16 := fun x => congrArg (x + ·) (by decide)
set_option maxRecDepth 100000 in
theorem fl_X11_244 : Fl RX11 244 5 9 0 := ⟨RX5, TX5, 11, rfl, by decide, by decide, rfl, inT5, t_372⟩
set_option maxRecDepth 100000 in
theorem cs_X11_247 : Cs RX11 247 miJ6_numberOfTrailingZeros_0f7a4 1 := ⟨t_875, t_876, t_108, t_877, ⟨by decide +kernel, by decide +kernel, by decide +kernel⟩, by decide⟩
set_option maxRecDepth 100000 in
theorem cv_X11_252 : Cv RX11 252 miX5_gameOf 1 5 := ⟨t_883, t_884, t_885, t_100, t_886, ⟨by decide +kernel, by decide +kernel, by decide +kernel⟩, by decide, by decide, _, _, rfl⟩
set_option maxRecDepth 100000 in
theorem fl_X11_255 : Fl RX11 255 5 10 0 := ⟨RX5, TX5, 11, rfl, by decide, by decide, rfl, inT5, t_374⟩
set_option maxRecDepth 100000 in
theorem fl_X11_258 : Fl RX11 258 10 15 0 := ⟨RX10, TX10, 17, rfl, by decide, by decide, rfl, inT10, t_311⟩
set_option maxRecDepth 100000 in
theorem fp_X11_258 : Fp RX11 258 10 15 0 .int := ⟨RX10, TX10, 17, tyX10, rfl, by decide, by decide, rfl, inT10, t_311, tyX10_ok, nmX10, rfl, by decide +kernel⟩
set_option maxRecDepth 100000 in
theorem fl_X11_261 : Fl RX11 261 10 8 2 := ⟨RX10, TX10, 17, rfl, by decide, by decide, rfl, inT10, t_295⟩
set_option maxRecDepth 100000 in
theorem fl_X11_264 : Fl RX11 264 10 9 2 := ⟨RX10, TX10, 17, rfl, by decide, by decide, rfl, inT10, t_297⟩
set_option maxRecDepth 100000 in
theorem fl_X11_267 : Fl RX11 267 10 10 2 := ⟨RX10, TX10, 17, rfl, by decide, by decide, rfl, inT10, t_299⟩
set_option maxRecDepth 100000 in
theorem fl_X11_270 : Fl RX11 270 10 11 2 := ⟨RX10, TX10, 17, rfl, by decide, by decide, rfl, inT10, t_301⟩
set_option maxRecDepth 100000 in
theorem ks_500 : (Int16.ofInt (500)).toInt32 = 500 := by decide
set_option maxRecDepth 100000 in
theorem cv_X11_273 : Cv RX11 273 miX10_denied 1 10 := ⟨t_907, t_908, t_909, t_99, t_910, ⟨by decide +kernel, by decide +kernel, by decide +kernel⟩, by decide, by decide, _, _, rfl⟩
set_option maxRecDepth 100000 in
theorem cs_X11_282 : Cs RX11 282 miX10_loneFill 1 := ⟨t_930, t_918, t_99, t_919, ⟨by decide +kernel, by decide +kernel, by decide +kernel⟩, by decide⟩
set_option maxRecDepth 100000 in
theorem cs_X11_279 : Cs RX11 279 miX10_loneChalk 1 := ⟨t_929, t_915, t_99, t_916, ⟨by decide +kernel, by decide +kernel, by decide +kernel⟩, by decide⟩
set_option maxRecDepth 100000 in
theorem cs_X11_276 : Cs RX11 276 miX10_loneKind 1 := ⟨t_928, t_912, t_99, t_913, ⟨by decide +kernel, by decide +kernel, by decide +kernel⟩, by decide⟩
set_option maxRecDepth 100000 in
theorem kb_63 : (Int8.ofInt (63)).toInt32 = 63 := by decide
set_option maxRecDepth 100000 in
theorem cs_X11_285 : Cs RX11 285 miJ6_bitCount_0f7a4 1 := ⟨t_935, t_936, t_108, t_937, ⟨by decide +kernel, by decide +kernel, by decide +kernel⟩, by decide⟩
set_option maxRecDepth 100000 in
theorem fl_X11_288 : Fl RX11 288 10 16 0 := ⟨RX10, TX10, 17, rfl, by decide, by decide, rfl, inT10, t_313⟩
set_option maxRecDepth 100000 in
theorem fp_X11_288 : Fp RX11 288 10 16 0 .int := ⟨RX10, TX10, 17, tyX10, rfl, by decide, by decide, rfl, inT10, t_313, tyX10_ok, nmX10, rfl, by decide +kernel⟩
set_option maxRecDepth 100000 in
theorem ks_12345 : (Int16.ofInt (12345)).toInt32 = 12345 := by decide
set_option maxRecDepth 100000 in
theorem cs_X11_291 : Cs RX11 291 miX11_nextLot 1 := ⟨t_949, t_950, t_89, t_951, ⟨by decide +kernel, by decide +kernel, by decide +kernel⟩, by decide⟩
set_option maxRecDepth 100000 in
theorem cv_X11_294 : Cv RX11 294 miX11_actByLot 1 11 := ⟨t_953, t_955, t_22, t_89, t_956, ⟨by decide +kernel, by decide +kernel, by decide +kernel⟩, by decide, by decide, _, _, rfl⟩
set_option maxRecDepth 100000 in
theorem ks_999 : (Int16.ofInt (999)).toInt32 = 999 := by decide
set_option maxRecDepth 100000 in
theorem fp_X11_297 : Fp RX11 297 11 10 0 .int := ⟨RX11, TX11, 17, tyX11, rfl, by decide, by decide, rfl, inT11, t_408, tyX11_ok, nmX11, rfl, by decide +kernel⟩
set_option maxRecDepth 100000 in
theorem fl_X11_297 : Fl RX11 297 11 10 0 := ⟨RX11, TX11, 17, rfl, by decide, by decide, rfl, inT11, t_408⟩
set_option maxRecDepth 100000 in
theorem fl_X11_34 : Fl RX11 34 11 9 2 := ⟨RX11, TX11, 17, rfl, by decide, by decide, rfl, inT11, t_407⟩
set_option maxRecDepth 100000 in
theorem cv_X11_300 : Cv RX11 300 miX11_isRowField 2 11 := ⟨t_969, t_971, t_23, t_89, t_972, ⟨by decide +kernel, by decide +kernel, by decide +kernel⟩, by decide, by decide, _, _, rfl⟩
set_option maxRecDepth 100000 in
theorem kb_m9 : (Int8.ofInt (-9)).toInt32 = -9 := by decide
set_option maxRecDepth 100000 in
theorem cv_X11_304 : Cv RX11 304 miX11_isAct 1 11 := ⟨t_981, t_983, t_24, t_89, t_984, ⟨by decide +kernel, by decide +kernel, by decide +kernel⟩, by decide, by decide, _, _, rfl⟩
set_option maxRecDepth 100000 in
theorem cs_X11_307 : Cs RX11 307 miX11_isSheet 1 := ⟨t_989, t_990, t_89, t_991, ⟨by decide +kernel, by decide +kernel, by decide +kernel⟩, by decide⟩
set_option maxRecDepth 100000 in
theorem fl_X11_38 : Fl RX11 38 11 11 2 := ⟨RX11, TX11, 17, rfl, by decide, by decide, rfl, inT11, t_409⟩
set_option maxRecDepth 100000 in
theorem fl_X11_41 : Fl RX11 41 11 12 2 := ⟨RX11, TX11, 17, rfl, by decide, by decide, rfl, inT11, t_410⟩
set_option maxRecDepth 100000 in
theorem fl_X11_46 : Fl RX11 46 11 13 2 := ⟨RX11, TX11, 17, rfl, by decide, by decide, rfl, inT11, t_411⟩
set_option maxRecDepth 100000 in
theorem kb_m14 : (Int8.ofInt (-14)).toInt32 = -14 := by decide
set_option maxRecDepth 100000 in
theorem cs_X11_310 : Cs RX11 310 miX11_narrowed 2 := ⟨t_996, t_997, t_89, t_998, ⟨by decide +kernel, by decide +kernel, by decide +kernel⟩, by decide⟩
set_option maxRecDepth 100000 in
theorem kb_m12 : (Int8.ofInt (-12)).toInt32 = -12 := by decide
set_option maxRecDepth 100000 in
theorem kb_m11 : (Int8.ofInt (-11)).toInt32 = -11 := by decide
set_option maxRecDepth 100000 in
theorem kb_m13 : (Int8.ofInt (-13)).toInt32 = -13 := by decide
set_option maxRecDepth 100000 in
theorem cv_X11_313 : Cv RX11 313 miX11_refusalAs 2 11 := ⟨t_1003, t_1005, t_25, t_89, t_1006, ⟨by decide +kernel, by decide +kernel, by decide +kernel⟩, by decide, by decide, _, _, rfl⟩
set_option maxRecDepth 100000 in
theorem fl_X11_49 : Fl RX11 49 11 14 2 := ⟨RX11, TX11, 17, rfl, by decide, by decide, rfl, inT11, t_412⟩
set_option maxRecDepth 100000 in
theorem fl_X11_52 : Fl RX11 52 11 15 2 := ⟨RX11, TX11, 17, rfl, by decide, by decide, rfl, inT11, t_413⟩
set_option maxRecDepth 100000 in
theorem fl_X11_55 : Fl RX11 55 11 16 2 := ⟨RX11, TX11, 17, rfl, by decide, by decide, rfl, inT11, t_414⟩
set_option maxRecDepth 100000 in
theorem cv_X11_319 : Cv RX11 319 miX11_place 4 11 := ⟨t_1022, t_1024, t_26, t_89, t_1025, ⟨by decide +kernel, by decide +kernel, by decide +kernel⟩, by decide, by decide, _, _, rfl⟩
set_option maxRecDepth 100000 in
theorem cs_X11_316 : Cs RX11 316 miX11_isShelf 1 := ⟨t_1019, t_1020, t_89, t_1021, ⟨by decide +kernel, by decide +kernel, by decide +kernel⟩, by decide⟩
set_option maxRecDepth 100000 in
theorem cv_X11_323 : Cv RX11 323 miX11_placeRow 2 11 := ⟨t_1026, t_1028, t_27, t_89, t_1029, ⟨by decide +kernel, by decide +kernel, by decide +kernel⟩, by decide, by decide, _, _, rfl⟩
set_option maxRecDepth 100000 in
theorem cv_X11_326 : Cv RX11 326 miX11_holdsNothing 1 11 := ⟨t_1034, t_1036, t_28, t_89, t_1037, ⟨by decide +kernel, by decide +kernel, by decide +kernel⟩, by decide, by decide, _, _, rfl⟩
set_option maxRecDepth 100000 in
theorem cs_X11_329 : Cs RX11 329 miX0_isUnder 2 := ⟨t_1038, t_569, t_93, t_570, ⟨by decide +kernel, by decide +kernel, by decide +kernel⟩, by decide⟩
set_option maxRecDepth 100000 in
theorem fl_X11_19 : Fl RX11 19 11 5 2 := ⟨RX11, TX11, 17, rfl, by decide, by decide, rfl, inT11, t_403⟩
set_option maxRecDepth 100000 in
theorem cv_X11_332 : Cv RX11 332 miX7_clear 0 7 := ⟨t_1043, t_1044, t_1045, t_91, t_1046, ⟨by decide +kernel, by decide +kernel, by decide +kernel⟩, by decide, by decide, _, _, rfl⟩
set_option maxRecDepth 100000 in
theorem fp_X11_335 : Fp RX11 335 7 2 0 .int := ⟨RX7, TX7, 5, tyX7, rfl, by decide, by decide, rfl, inT7, t_162, tyX7_ok, nmX7, rfl, by decide +kernel⟩
set_option maxRecDepth 100000 in
theorem fp_X11_338 : Fp RX11 338 7 3 0 .int := ⟨RX7, TX7, 5, tyX7, rfl, by decide, by decide, rfl, inT7, t_165, tyX7_ok, nmX7, rfl, by decide +kernel⟩
set_option maxRecDepth 100000 in
theorem fl_X11_341 : Fl RX11 341 10 0 2 := ⟨RX10, TX10, 17, rfl, by decide, by decide, rfl, inT10, t_278⟩
set_option maxRecDepth 100000 in
theorem fl_X11_358 : Fl RX11 358 7 4 0 := ⟨RX7, TX7, 5, rfl, by decide, by decide, rfl, inT7, t_168⟩
set_option maxRecDepth 100000 in
theorem kb_m15 : (Int8.ofInt (-15)).toInt32 = -15 := by decide
set_option maxRecDepth 100000 in
theorem cu_X11_345_0 : Cu RX11 345 yX0_rolls miX0_rolls miX0_rolls 2 0 := ⟨_, _, _, rfl, by decide, t_1047, t_1050, t_1048, t_1049, t_1048, t_93, t_1069, t_1069, ⟨by decide +kernel, by decide +kernel, by decide +kernel⟩, by decide, rfl⟩
set_option maxRecDepth 100000 in
theorem cu_X11_345_9 : Cu RX11 345 yX0_rolls miX0_rolls miX9_rolls 2 9 := ⟨_, _, _, rfl, by decide, t_1047, t_1050, t_1048, t_1064, t_1065, t_94, t_1069, t_1066, ⟨by decide +kernel, by decide +kernel, by decide +kernel⟩, by decide, rfl⟩
set_option maxRecDepth 100000 in
theorem cu_X11_345_8 : Cu RX11 345 yX0_rolls miX0_rolls miX0_rolls 2 8 := ⟨_, _, _, rfl, by decide, t_1047, t_1050, t_1048, t_1063, t_1048, t_93, t_1069, t_1069, ⟨by decide +kernel, by decide +kernel, by decide +kernel⟩, by decide, rfl⟩
set_option maxRecDepth 100000 in
theorem cu_X11_345_1 : Cu RX11 345 yX0_rolls miX0_rolls miX1_rolls 2 1 := ⟨_, _, _, rfl, by decide, t_1047, t_1050, t_1048, t_1051, t_1052, t_96, t_1069, t_1053, ⟨by decide +kernel, by decide +kernel, by decide +kernel⟩, by decide, rfl⟩
set_option maxRecDepth 100000 in
theorem cu_X11_345_4 : Cu RX11 345 yX0_rolls miX0_rolls miX0_rolls 2 4 := ⟨_, _, _, rfl, by decide, t_1047, t_1050, t_1048, t_1062, t_1048, t_93, t_1069, t_1069, ⟨by decide +kernel, by decide +kernel, by decide +kernel⟩, by decide, rfl⟩
set_option maxRecDepth 100000 in
theorem cu_X11_345_2 : Cu RX11 345 yX0_rolls miX0_rolls miX0_rolls 2 2 := ⟨_, _, _, rfl, by decide, t_1047, t_1050, t_1048, t_1061, t_1048, t_93, t_1069, t_1069, ⟨by decide +kernel, by decide +kernel, by decide +kernel⟩, by decide, rfl⟩
set_option maxRecDepth 100000 in
theorem cu_X11_349_0 : Cu RX11 349 yX0_seeps miX0_seeps miX0_seeps 2 0 := ⟨_, _, _, rfl, by decide, t_1071, t_1074, t_1072, t_1073, t_1072, t_93, t_1090, t_1090, ⟨by decide +kernel, by decide +kernel, by decide +kernel⟩, by decide, rfl⟩
set_option maxRecDepth 100000 in
theorem cu_X11_349_9 : Cu RX11 349 yX0_seeps miX0_seeps miX0_seeps 2 9 := ⟨_, _, _, rfl, by decide, t_1071, t_1074, t_1072, t_1089, t_1072, t_93, t_1090, t_1090, ⟨by decide +kernel, by decide +kernel, by decide +kernel⟩, by decide, rfl⟩
set_option maxRecDepth 100000 in
theorem cu_X11_349_8 : Cu RX11 349 yX0_seeps miX0_seeps miX8_seeps 2 8 := ⟨_, _, _, rfl, by decide, t_1071, t_1074, t_1072, t_1088, t_1076, t_95, t_1090, t_1077, ⟨by decide +kernel, by decide +kernel, by decide +kernel⟩, by decide, rfl⟩
set_option maxRecDepth 100000 in
theorem cu_X11_349_1 : Cu RX11 349 yX0_seeps miX0_seeps miX8_seeps 2 1 := ⟨_, _, _, rfl, by decide, t_1071, t_1074, t_1072, t_1075, t_1076, t_95, t_1090, t_1077, ⟨by decide +kernel, by decide +kernel, by decide +kernel⟩, by decide, rfl⟩
set_option maxRecDepth 100000 in
theorem cu_X11_349_4 : Cu RX11 349 yX0_seeps miX0_seeps miX0_seeps 2 4 := ⟨_, _, _, rfl, by decide, t_1071, t_1074, t_1072, t_1087, t_1072, t_93, t_1090, t_1090, ⟨by decide +kernel, by decide +kernel, by decide +kernel⟩, by decide, rfl⟩
set_option maxRecDepth 100000 in
theorem cu_X11_349_2 : Cu RX11 349 yX0_seeps miX0_seeps miX2_seeps 2 2 := ⟨_, _, _, rfl, by decide, t_1071, t_1074, t_1072, t_1080, t_1081, t_98, t_1090, t_1082, ⟨by decide +kernel, by decide +kernel, by decide +kernel⟩, by decide, rfl⟩
set_option maxRecDepth 100000 in
theorem cu_X11_352_0 : Cu RX11 352 yX0_hoops miX0_hoops miX0_hoops 2 0 := ⟨_, _, _, rfl, by decide, t_1092, t_1095, t_1093, t_1094, t_1093, t_93, t_1111, t_1111, ⟨by decide +kernel, by decide +kernel, by decide +kernel⟩, by decide, rfl⟩
set_option maxRecDepth 100000 in
theorem cu_X11_352_9 : Cu RX11 352 yX0_hoops miX0_hoops miX0_hoops 2 9 := ⟨_, _, _, rfl, by decide, t_1092, t_1095, t_1093, t_1110, t_1093, t_93, t_1111, t_1111, ⟨by decide +kernel, by decide +kernel, by decide +kernel⟩, by decide, rfl⟩
set_option maxRecDepth 100000 in
theorem cu_X11_352_8 : Cu RX11 352 yX0_hoops miX0_hoops miX0_hoops 2 8 := ⟨_, _, _, rfl, by decide, t_1092, t_1095, t_1093, t_1109, t_1093, t_93, t_1111, t_1111, ⟨by decide +kernel, by decide +kernel, by decide +kernel⟩, by decide, rfl⟩
set_option maxRecDepth 100000 in
theorem cu_X11_352_1 : Cu RX11 352 yX0_hoops miX0_hoops miX0_hoops 2 1 := ⟨_, _, _, rfl, by decide, t_1092, t_1095, t_1093, t_1096, t_1093, t_93, t_1111, t_1111, ⟨by decide +kernel, by decide +kernel, by decide +kernel⟩, by decide, rfl⟩
set_option maxRecDepth 100000 in
theorem cu_X11_352_4 : Cu RX11 352 yX0_hoops miX0_hoops miX4_hoops 2 4 := ⟨_, _, _, rfl, by decide, t_1092, t_1095, t_1093, t_1108, t_1101, t_97, t_1111, t_1102, ⟨by decide +kernel, by decide +kernel, by decide +kernel⟩, by decide, rfl⟩
set_option maxRecDepth 100000 in
theorem cu_X11_352_2 : Cu RX11 352 yX0_hoops miX0_hoops miX2_hoops 2 2 := ⟨_, _, _, rfl, by decide, t_1092, t_1095, t_1093, t_1097, t_1098, t_98, t_1111, t_1099, ⟨by decide +kernel, by decide +kernel, by decide +kernel⟩, by decide, rfl⟩
set_option maxRecDepth 100000 in
theorem cu_X11_355_0 : Cu RX11 355 yX0_floods miX0_floods miX0_floods 2 0 := ⟨_, _, _, rfl, by decide, t_1112, t_1115, t_1113, t_1114, t_1113, t_93, t_1130, t_1130, ⟨by decide +kernel, by decide +kernel, by decide +kernel⟩, by decide, rfl⟩
set_option maxRecDepth 100000 in
theorem cu_X11_355_9 : Cu RX11 355 yX0_floods miX0_floods miX0_floods 2 9 := ⟨_, _, _, rfl, by decide, t_1112, t_1115, t_1113, t_1129, t_1113, t_93, t_1130, t_1130, ⟨by decide +kernel, by decide +kernel, by decide +kernel⟩, by decide, rfl⟩
set_option maxRecDepth 100000 in
theorem cu_X11_355_8 : Cu RX11 355 yX0_floods miX0_floods miX0_floods 2 8 := ⟨_, _, _, rfl, by decide, t_1112, t_1115, t_1113, t_1128, t_1113, t_93, t_1130, t_1130, ⟨by decide +kernel, by decide +kernel, by decide +kernel⟩, by decide, rfl⟩
set_option maxRecDepth 100000 in
theorem cu_X11_355_1 : Cu RX11 355 yX0_floods miX0_floods miX1_floods 2 1 := ⟨_, _, _, rfl, by decide, t_1112, t_1115, t_1113, t_1116, t_1117, t_96, t_1130, t_1118, ⟨by decide +kernel, by decide +kernel, by decide +kernel⟩, by decide, rfl⟩
set_option maxRecDepth 100000 in
theorem cu_X11_355_4 : Cu RX11 355 yX0_floods miX0_floods miX0_floods 2 4 := ⟨_, _, _, rfl, by decide, t_1112, t_1115, t_1113, t_1127, t_1113, t_93, t_1130, t_1130, ⟨by decide +kernel, by decide +kernel, by decide +kernel⟩, by decide, rfl⟩
set_option maxRecDepth 100000 in
theorem cu_X11_355_2 : Cu RX11 355 yX0_floods miX0_floods miX0_floods 2 2 := ⟨_, _, _, rfl, by decide, t_1112, t_1115, t_1113, t_1126, t_1113, t_93, t_1130, t_1130, ⟨by decide +kernel, by decide +kernel, by decide +kernel⟩, by decide, rfl⟩
set_option maxRecDepth 100000 in
theorem fl_X11_362 : Fl RX11 362 7 1 0 := ⟨RX7, TX7, 5, rfl, by decide, by decide, rfl, inT7, t_159⟩
set_option maxRecDepth 100000 in
theorem fl_X11_365 : Fl RX11 365 7 0 2 := ⟨RX7, TX7, 5, rfl, by decide, by decide, rfl, inT7, t_157⟩
set_option maxRecDepth 100000 in
theorem fl_X11_85 : Fl RX11 85 11 1 2 := ⟨RX11, TX11, 17, rfl, by decide, by decide, rfl, inT11, t_399⟩
set_option maxRecDepth 100000 in
theorem cv_X11_368 : Cv RX11 368 miX10_take 1 10 := ⟨t_1145, t_1146, t_1147, t_99, t_1148, ⟨by decide +kernel, by decide +kernel, by decide +kernel⟩, by decide, by decide, _, _, rfl⟩
set_option maxRecDepth 100000 in
theorem fp_X11_370 : Fp RX11 370 11 2 0 .boolean := ⟨RX11, TX11, 17, tyX11, rfl, by decide, by decide, rfl, inT11, t_400, tyX11_ok, nmX11, rfl, by decide +kernel⟩
set_option maxRecDepth 100000 in
theorem fl_X11_370 : Fl RX11 370 11 2 0 := ⟨RX11, TX11, 17, rfl, by decide, by decide, rfl, inT11, t_400⟩
set_option maxRecDepth 100000 in
theorem kl_0 : Int64.ofNat ((0 : Fin 2) : Nat) = 0 := by decide
set_option maxRecDepth 100000 in
theorem fl_X12_7 : Fl RX12 7 12 0 2 := ⟨RX12, TX12, 39, rfl, by decide, by decide, rfl, inT12, t_1165⟩
set_option maxRecDepth 100000 in
theorem cs_X12_61 : Cs RX12 61 miX12_in 3 := ⟨t_1288, t_1289, t_101, t_1290, ⟨by decide +kernel, by decide +kernel, by decide +kernel⟩, by decide⟩
set_option maxRecDepth 100000 in
theorem kb_35 : (Int8.ofInt (35)).toInt32 = 35 := by decide
set_option maxRecDepth 100000 in
theorem kb_65 : (Int8.ofInt (65)).toInt32 = 65 := by decide
set_option maxRecDepth 100000 in
theorem fl_X12_65 : Fl RX12 65 12 4 0 := ⟨RX12, TX12, 39, rfl, by decide, by decide, rfl, inT12, t_1169⟩
set_option maxRecDepth 100000 in
theorem fp_X12_65 : Fp RX12 65 12 4 0 .int := ⟨RX12, TX12, 39, tyX12, rfl, by decide, by decide, rfl, inT12, t_1169, tyX12_ok, nmX12, rfl, by decide +kernel⟩
set_option maxRecDepth 100000 in
theorem fl_X12_16 : Fl RX12 16 12 3 2 := ⟨RX12, TX12, 39, rfl, by decide, by decide, rfl, inT12, t_1168⟩
set_option maxRecDepth 100000 in
theorem cv_X12_69 : Cv RX12 69 miX12_back 0 12 := ⟨t_1540, t_1542, t_67, t_101, t_1543, ⟨by decide +kernel, by decide +kernel, by decide +kernel⟩, by decide, by decide, _, _, rfl⟩
set_option maxRecDepth 100000 in
theorem cv_X12_72 : Cv RX12 72 miX12_waterOf 1 12 := ⟨t_1317, t_1319, t_34, t_101, t_1320, ⟨by decide +kernel, by decide +kernel, by decide +kernel⟩, by decide, by decide, _, _, rfl⟩
set_option maxRecDepth 100000 in
theorem cs_X12_76 : Cs RX12 76 miX12_held 3 := ⟨t_1332, t_1333, t_101, t_1334, ⟨by decide +kernel, by decide +kernel, by decide +kernel⟩, by decide⟩
set_option maxRecDepth 100000 in
theorem cv_X12_80 : Cv RX12 80 miX12_of 2 12 := ⟨t_1309, t_1311, t_32, t_101, t_1312, ⟨by decide +kernel, by decide +kernel, by decide +kernel⟩, by decide, by decide, _, _, rfl⟩
set_option maxRecDepth 100000 in
theorem cv_X12_84 : Cv RX12 84 miX12_rise 0 12 := ⟨t_1313, t_1315, t_33, t_101, t_1316, ⟨by decide +kernel, by decide +kernel, by decide +kernel⟩, by decide, by decide, _, _, rfl⟩
set_option maxRecDepth 100000 in
theorem cv_X12_88 : Cv RX12 88 miX12_salt 0 12 := ⟨t_1321, t_1323, t_35, t_101, t_1324, ⟨by decide +kernel, by decide +kernel, by decide +kernel⟩, by decide, by decide, _, _, rfl⟩
set_option maxRecDepth 100000 in
theorem cs_X12_91 : Cs RX12 91 miX12_leaksBy 4 := ⟨t_1325, t_1326, t_101, t_1327, ⟨by decide +kernel, by decide +kernel, by decide +kernel⟩, by decide⟩
set_option maxRecDepth 100000 in
theorem kb_29 : (Int8.ofInt (29)).toInt32 = 29 := by decide
set_option maxRecDepth 100000 in
theorem cv_X12_95 : Cv RX12 95 miX12_stakedBelow 1 12 := ⟨t_1328, t_1330, t_36, t_101, t_1331, ⟨by decide +kernel, by decide +kernel, by decide +kernel⟩, by decide, by decide, _, _, rfl⟩
set_option maxRecDepth 100000 in
theorem ks_361 : (Int16.ofInt (361)).toInt32 = 361 := by decide
set_option maxRecDepth 100000 in
theorem cs_X12_98 : Cs RX12 98 miX12_floatsBy 4 := ⟨t_1339, t_1340, t_101, t_1341, ⟨by decide +kernel, by decide +kernel, by decide +kernel⟩, by decide⟩
set_option maxRecDepth 100000 in
theorem cv_X12_101 : Cv RX12 101 miX12_floats 1 12 := ⟨t_1335, t_1337, t_37, t_101, t_1338, ⟨by decide +kernel, by decide +kernel, by decide +kernel⟩, by decide, by decide, _, _, rfl⟩
set_option maxRecDepth 100000 in
theorem fl_X12_19 : Fl RX12 19 12 5 2 := ⟨RX12, TX12, 39, rfl, by decide, by decide, rfl, inT12, t_1170⟩
set_option maxRecDepth 100000 in
theorem kb_121 : (Int8.ofInt (121)).toInt32 = 121 := by decide
set_option maxRecDepth 100000 in
theorem ks_20000 : (Int16.ofInt (20000)).toInt32 = 20000 := by decide
set_option maxRecDepth 100000 in
theorem ks_20033 : (Int16.ofInt (20033)).toInt32 = 20033 := by decide
set_option maxRecDepth 100000 in
theorem cs_X12_107 : Cs RX12 107 miX12_done 3 := ⟨t_1365, t_1366, t_101, t_1367, ⟨by decide +kernel, by decide +kernel, by decide +kernel⟩, by decide⟩
set_option maxRecDepth 100000 in
theorem cv_X12_104 : Cv RX12 104 miX12_factOf 2 12 := ⟨t_1361, t_1363, t_42, t_101, t_1364, ⟨by decide +kernel, by decide +kernel, by decide +kernel⟩, by decide, by decide, _, _, rfl⟩
set_option maxRecDepth 100000 in
theorem kb_89 : (Int8.ofInt (89)).toInt32 = 89 := by decide
set_option maxRecDepth 100000 in
theorem cv_X12_113 : Cv RX12 113 miX12_holds 3 12 := ⟨t_1357, t_1359, t_41, t_101, t_1360, ⟨by decide +kernel, by decide +kernel, by decide +kernel⟩, by decide, by decide, _, _, rfl⟩
set_option maxRecDepth 100000 in
theorem cs_X12_110 : Cs RX12 110 miX12_above 1 := ⟨t_1354, t_1355, t_101, t_1356, ⟨by decide +kernel, by decide +kernel, by decide +kernel⟩, by decide⟩
set_option maxRecDepth 100000 in
theorem cv_X12_117 : Cv RX12 117 miX12_will 1 12 := ⟨t_1350, t_1352, t_40, t_101, t_1353, ⟨by decide +kernel, by decide +kernel, by decide +kernel⟩, by decide, by decide, _, _, rfl⟩
set_option maxRecDepth 100000 in
theorem cv_X12_120 : Cv RX12 120 miX12_pays 1 12 := ⟨t_1342, t_1344, t_38, t_101, t_1345, ⟨by decide +kernel, by decide +kernel, by decide +kernel⟩, by decide, by decide, _, _, rfl⟩
set_option maxRecDepth 100000 in
theorem cv_X12_123 : Cv RX12 123 miX12_sets 3 12 := ⟨t_1293, t_1295, t_29, t_101, t_1296, ⟨by decide +kernel, by decide +kernel, by decide +kernel⟩, by decide, by decide, _, _, rfl⟩
set_option maxRecDepth 100000 in
theorem fl_X12_22 : Fl RX12 22 12 6 2 := ⟨RX12, TX12, 39, rfl, by decide, by decide, rfl, inT12, t_1171⟩
set_option maxRecDepth 100000 in
theorem cv_X12_130 : Cv RX12 130 miX12_leaks 1 12 := ⟨t_1305, t_1307, t_31, t_101, t_1308, ⟨by decide +kernel, by decide +kernel, by decide +kernel⟩, by decide, by decide, _, _, rfl⟩
set_option maxRecDepth 100000 in
theorem cv_X12_127 : Cv RX12 127 miX12_does 1 12 := ⟨t_1520, t_1522, t_63, t_101, t_1523, ⟨by decide +kernel, by decide +kernel, by decide +kernel⟩, by decide, by decide, _, _, rfl⟩
set_option maxRecDepth 100000 in
theorem cv_X12_133 : Cv RX12 133 miX12_isStakeable 1 12 := ⟨t_1346, t_1348, t_39, t_101, t_1349, ⟨by decide +kernel, by decide +kernel, by decide +kernel⟩, by decide, by decide, _, _, rfl⟩
set_option maxRecDepth 100000 in
theorem cv_X12_137 : Cv RX12 137 miX12_isOver 0 12 := ⟨t_1406, t_1408, t_44, t_101, t_1409, ⟨by decide +kernel, by decide +kernel, by decide +kernel⟩, by decide, by decide, _, _, rfl⟩
set_option maxRecDepth 100000 in
theorem cv_X12_141 : Cv RX12 141 miX12_actOfRest 0 12 := ⟨t_1512, t_1514, t_61, t_101, t_1515, ⟨by decide +kernel, by decide +kernel, by decide +kernel⟩, by decide, by decide, _, _, rfl⟩
set_option maxRecDepth 100000 in
theorem cv_X12_144 : Cv RX12 144 miX12_tideGoes 1 12 := ⟨t_1516, t_1518, t_62, t_101, t_1519, ⟨by decide +kernel, by decide +kernel, by decide +kernel⟩, by decide, by decide, _, _, rfl⟩
set_option maxRecDepth 100000 in
theorem kl_1 : Int64.ofNat ((1 : Fin 2) : Nat) = 1 := by decide
set_option maxRecDepth 100000 in
theorem cv_X12_153 : Cv RX12 153 miX12_isBarrel 1 12 := ⟨t_1301, t_1303, t_30, t_101, t_1304, ⟨by decide +kernel, by decide +kernel, by decide +kernel⟩, by decide, by decide, _, _, rfl⟩
set_option maxRecDepth 100000 in
theorem cv_X12_156 : Cv RX12 156 miX12_becomes 2 12 := ⟨t_1372, t_1374, t_43, t_101, t_1375, ⟨by decide +kernel, by decide +kernel, by decide +kernel⟩, by decide, by decide, _, _, rfl⟩
set_option maxRecDepth 100000 in
theorem cv_X12_163 : Cv RX12 163 miX12_staked 0 12 := ⟨t_1410, t_1412, t_45, t_101, t_1413, ⟨by decide +kernel, by decide +kernel, by decide +kernel⟩, by decide, by decide, _, _, rfl⟩
set_option maxRecDepth 100000 in
theorem cv_X12_166 : Cv RX12 166 miX12_fillAll 0 12 := ⟨t_1414, t_1416, t_46, t_101, t_1417, ⟨by decide +kernel, by decide +kernel, by decide +kernel⟩, by decide, by decide, _, _, rfl⟩
set_option maxRecDepth 100000 in
theorem fl_X12_171 : Fl RX12 171 12 8 0 := ⟨RX12, TX12, 39, rfl, by decide, by decide, rfl, inT12, t_1173⟩
set_option maxRecDepth 100000 in
theorem fl_X12_25 : Fl RX12 25 12 7 2 := ⟨RX12, TX12, 39, rfl, by decide, by decide, rfl, inT12, t_1172⟩
set_option maxRecDepth 100000 in
theorem fp_X12_171 : Fp RX12 171 12 8 0 .int := ⟨RX12, TX12, 39, tyX12, rfl, by decide, by decide, rfl, inT12, t_1173, tyX12_ok, nmX12, rfl, by decide +kernel⟩
set_option maxRecDepth 100000 in
theorem fl_X12_176 : Fl RX12 176 12 9 0 := ⟨RX12, TX12, 39, rfl, by decide, by decide, rfl, inT12, t_1174⟩
set_option maxRecDepth 100000 in
theorem fp_X12_179 : Fp RX12 179 12 10 0 .int := ⟨RX12, TX12, 39, tyX12, rfl, by decide, by decide, rfl, inT12, t_1175, tyX12_ok, nmX12, rfl, by decide +kernel⟩
set_option maxRecDepth 100000 in
theorem fp_X12_182 : Fp RX12 182 12 12 1 .long := ⟨RX12, TX12, 39, tyX12, rfl, by decide, by decide, rfl, inT12, t_1177, tyX12_ok, nmX12, rfl, by decide +kernel⟩
set_option maxRecDepth 100000 in
theorem cv_X12_189 : Cv RX12 189 miX12_isRow 2 12 := ⟨t_1432, t_1434, t_48, t_101, t_1435, ⟨by decide +kernel, by decide +kernel, by decide +kernel⟩, by decide, by decide, _, _, rfl⟩
set_option maxRecDepth 100000 in
theorem fp_X12_186 : Fp RX12 186 12 11 0 .int := ⟨RX12, TX12, 39, tyX12, rfl, by decide, by decide, rfl, inT12, t_1176, tyX12_ok, nmX12, rfl, by decide +kernel⟩
set_option maxRecDepth 100000 in
theorem fp_X12_176 : Fp RX12 176 12 9 0 .int := ⟨RX12, TX12, 39, tyX12, rfl, by decide, by decide, rfl, inT12, t_1174, tyX12_ok, nmX12, rfl, by decide +kernel⟩
set_option maxRecDepth 100000 in
theorem fl_X12_179 : Fl RX12 179 12 10 0 := ⟨RX12, TX12, 39, rfl, by decide, by decide, rfl, inT12, t_1175⟩
set_option maxRecDepth 100000 in
theorem fl_X12_182 : Fl RX12 182 12 12 1 := ⟨RX12, TX12, 39, rfl, by decide, by decide, rfl, inT12, t_1177⟩
set_option maxRecDepth 100000 in
theorem fl_X12_186 : Fl RX12 186 12 11 0 := ⟨RX12, TX12, 39, rfl, by decide, by decide, rfl, inT12, t_1176⟩
set_option maxRecDepth 100000 in
theorem fl_X12_205 : Fl RX12 205 12 13 0 := ⟨RX12, TX12, 39, rfl, by decide, by decide, rfl, inT12, t_1178⟩
set_option maxRecDepth 100000 in
theorem fl_X12_28 : Fl RX12 28 12 15 2 := ⟨RX12, TX12, 39, rfl, by decide, by decide, rfl, inT12, t_1180⟩
set_option maxRecDepth 100000 in
theorem fl_X12_209 : Fl RX12 209 12 16 0 := ⟨RX12, TX12, 39, rfl, by decide, by decide, rfl, inT12, t_1181⟩
set_option maxRecDepth 100000 in
theorem fp_X12_209 : Fp RX12 209 12 16 0 .int := ⟨RX12, TX12, 39, tyX12, rfl, by decide, by decide, rfl, inT12, t_1181, tyX12_ok, nmX12, rfl, by decide +kernel⟩
set_option maxRecDepth 100000 in
theorem cv_X12_214 : Cv RX12 214 miX12_isWord 1 12 := ⟨t_1451, t_1453, t_51, t_101, t_1454, ⟨by decide +kernel, by decide +kernel, by decide +kernel⟩, by decide, by decide, _, _, rfl⟩
set_option maxRecDepth 100000 in
theorem fp_X12_205 : Fp RX12 205 12 13 0 .boolean := ⟨RX12, TX12, 39, tyX12, rfl, by decide, by decide, rfl, inT12, t_1178, tyX12_ok, nmX12, rfl, by decide +kernel⟩
set_option maxRecDepth 100000 in
theorem cv_X12_244 : Cv RX12 244 miX12_next 0 12 := ⟨t_1428, t_1430, t_47, t_101, t_1431, ⟨by decide +kernel, by decide +kernel, by decide +kernel⟩, by decide, by decide, _, _, rfl⟩
set_option maxRecDepth 100000 in
theorem cv_X12_247 : Cv RX12 247 miX12_factHere 0 12 := ⟨t_1486, t_1488, t_58, t_101, t_1489, ⟨by decide +kernel, by decide +kernel, by decide +kernel⟩, by decide, by decide, _, _, rfl⟩
set_option maxRecDepth 100000 in
theorem cv_X12_250 : Cv RX12 250 miX12_lays 1 12 := ⟨t_1495, t_1497, t_59, t_101, t_1498, ⟨by decide +kernel, by decide +kernel, by decide +kernel⟩, by decide, by decide, _, _, rfl⟩
set_option maxRecDepth 100000 in
theorem cv_X12_254 : Cv RX12 254 miX12_goesBy 1 12 := ⟨t_1460, t_1462, t_52, t_101, t_1463, ⟨by decide +kernel, by decide +kernel, by decide +kernel⟩, by decide, by decide, _, _, rfl⟩
set_option maxRecDepth 100000 in
theorem cv_X12_260 : Cv RX12 260 miX12_isByte 1 12 := ⟨t_1478, t_1480, t_56, t_101, t_1481, ⟨by decide +kernel, by decide +kernel, by decide +kernel⟩, by decide, by decide, _, _, rfl⟩
set_option maxRecDepth 100000 in
theorem cv_X12_270 : Cv RX12 270 miX12_valueHere 0 12 := ⟨t_1482, t_1484, t_57, t_101, t_1485, ⟨by decide +kernel, by decide +kernel, by decide +kernel⟩, by decide, by decide, _, _, rfl⟩
set_option maxRecDepth 100000 in
theorem kb_62 : (Int8.ofInt (62)).toInt32 = 62 := by decide
set_option maxRecDepth 100000 in
theorem fl_X12_264 : Fl RX12 264 12 14 0 := ⟨RX12, TX12, 39, rfl, by decide, by decide, rfl, inT12, t_1179⟩
set_option maxRecDepth 100000 in
theorem fp_X12_264 : Fp RX12 264 12 14 0 .int := ⟨RX12, TX12, 39, tyX12, rfl, by decide, by decide, rfl, inT12, t_1179, tyX12_ok, nmX12, rfl, by decide +kernel⟩
set_option maxRecDepth 100000 in
theorem cv_X12_267 : Cv RX12 267 miX12_either 0 12 := ⟨t_1465, t_1467, t_53, t_101, t_1468, ⟨by decide +kernel, by decide +kernel, by decide +kernel⟩, by decide, by decide, _, _, rfl⟩
set_option maxRecDepth 100000 in
theorem kb_41 : (Int8.ofInt (41)).toInt32 = 41 := by decide
set_option maxRecDepth 100000 in
theorem cv_X12_273 : Cv RX12 273 miX12_one 0 12 := ⟨t_1473, t_1475, t_55, t_101, t_1476, ⟨by decide +kernel, by decide +kernel, by decide +kernel⟩, by decide, by decide, _, _, rfl⟩
set_option maxRecDepth 100000 in
theorem ks_20038 : (Int16.ofInt (20038)).toInt32 = 20038 := by decide
set_option maxRecDepth 100000 in
theorem cv_X12_278 : Cv RX12 278 miX12_both 0 12 := ⟨t_1469, t_1471, t_54, t_101, t_1472, ⟨by decide +kernel, by decide +kernel, by decide +kernel⟩, by decide, by decide, _, _, rfl⟩
set_option maxRecDepth 100000 in
theorem ks_20124 : (Int16.ofInt (20124)).toInt32 = 20124 := by decide
set_option maxRecDepth 100000 in
theorem cv_X12_283 : Cv RX12 283 miX12_kindHere 0 12 := ⟨t_1446, t_1448, t_50, t_101, t_1449, ⟨by decide +kernel, by decide +kernel, by decide +kernel⟩, by decide, by decide, _, _, rfl⟩
set_option maxRecDepth 100000 in
theorem cv_X12_291 : Cv RX12 291 miX12_doHere 0 12 := ⟨t_1501, t_1503, t_60, t_101, t_1504, ⟨by decide +kernel, by decide +kernel, by decide +kernel⟩, by decide, by decide, _, _, rfl⟩
set_option maxRecDepth 100000 in
theorem fl_X12_31 : Fl RX12 31 12 17 2 := ⟨RX12, TX12, 39, rfl, by decide, by decide, rfl, inT12, t_1182⟩
set_option maxRecDepth 100000 in
theorem fl_X12_286 : Fl RX12 286 12 18 0 := ⟨RX12, TX12, 39, rfl, by decide, by decide, rfl, inT12, t_1183⟩
set_option maxRecDepth 100000 in
theorem fp_X12_286 : Fp RX12 286 12 18 0 .int := ⟨RX12, TX12, 39, tyX12, rfl, by decide, by decide, rfl, inT12, t_1183, tyX12_ok, nmX12, rfl, by decide +kernel⟩
set_option maxRecDepth 100000 in
theorem kb_59 : (Int8.ofInt (59)).toInt32 = 59 := by decide
set_option maxRecDepth 100000 in
theorem cv_X12_294 : Cv RX12 294 miX12_ruleHere 0 12 := ⟨t_1442, t_1444, t_49, t_101, t_1445, ⟨by decide +kernel, by decide +kernel, by decide +kernel⟩, by decide, by decide, _, _, rfl⟩
set_option maxRecDepth 100000 in
theorem cv_X12_297 : Cv RX12 297 miX12_puts 0 12 := ⟨t_1528, t_1530, t_64, t_101, t_1531, ⟨by decide +kernel, by decide +kernel, by decide +kernel⟩, by decide, by decide, _, _, rfl⟩
set_option maxRecDepth 100000 in
theorem cv_X12_300 : Cv RX12 300 miX12_restGoes 1 12 := ⟨t_1532, t_1534, t_65, t_101, t_1535, ⟨by decide +kernel, by decide +kernel, by decide +kernel⟩, by decide, by decide, _, _, rfl⟩
set_option maxRecDepth 100000 in
theorem cv_X12_303 : Cv RX12 303 miX12_takes 0 12 := ⟨t_1536, t_1538, t_66, t_101, t_1539, ⟨by decide +kernel, by decide +kernel, by decide +kernel⟩, by decide, by decide, _, _, rfl⟩
set_option maxRecDepth 100000 in
theorem cv_X12_306 : Cv RX12 306 miX12_bestOf 3 12 := ⟨t_1552, t_1554, t_68, t_101, t_1555, ⟨by decide +kernel, by decide +kernel, by decide +kernel⟩, by decide, by decide, _, _, rfl⟩
set_option maxRecDepth 100000 in
theorem cv_X12_309 : Cv RX12 309 miX12_isClose 2 12 := ⟨t_1580, t_1582, t_70, t_101, t_1583, ⟨by decide +kernel, by decide +kernel, by decide +kernel⟩, by decide, by decide, _, _, rfl⟩
set_option maxRecDepth 100000 in
theorem cv_X12_313 : Cv RX12 313 miX12_raftOf 1 12 := ⟨t_1576, t_1578, t_69, t_101, t_1579, ⟨by decide +kernel, by decide +kernel, by decide +kernel⟩, by decide, by decide, _, _, rfl⟩
set_option maxRecDepth 100000 in
theorem cv_X12_318 : Cv RX12 318 miX12_longOf 1 12 := ⟨t_1596, t_1598, t_72, t_101, t_1599, ⟨by decide +kernel, by decide +kernel, by decide +kernel⟩, by decide, by decide, _, _, rfl⟩
set_option maxRecDepth 100000 in
theorem fl_X12_34 : Fl RX12 34 12 19 2 := ⟨RX12, TX12, 39, rfl, by decide, by decide, rfl, inT12, t_1184⟩
set_option maxRecDepth 100000 in
theorem cv_X12_321 : Cv RX12 321 miX12_plansOf 1 12 := ⟨t_1600, t_1602, t_73, t_101, t_1603, ⟨by decide +kernel, by decide +kernel, by decide +kernel⟩, by decide, by decide, _, _, rfl⟩
set_option maxRecDepth 100000 in
theorem fp_X12_324 : Fp RX12 324 12 20 0 .int := ⟨RX12, TX12, 39, tyX12, rfl, by decide, by decide, rfl, inT12, t_1185, tyX12_ok, nmX12, rfl, by decide +kernel⟩
set_option maxRecDepth 100000 in
theorem cv_X12_327 : Cv RX12 327 miX12_actsOf 2 12 := ⟨t_1604, t_1606, t_74, t_101, t_1607, ⟨by decide +kernel, by decide +kernel, by decide +kernel⟩, by decide, by decide, _, _, rfl⟩
set_option maxRecDepth 100000 in
theorem fl_X12_324 : Fl RX12 324 12 20 0 := ⟨RX12, TX12, 39, rfl, by decide, by decide, rfl, inT12, t_1185⟩
set_option maxRecDepth 100000 in
theorem fl_X12_331 : Fl RX12 331 12 21 0 := ⟨RX12, TX12, 39, rfl, by decide, by decide, rfl, inT12, t_1186⟩
set_option maxRecDepth 100000 in
theorem fp_X12_331 : Fp RX12 331 12 21 0 .int := ⟨RX12, TX12, 39, tyX12, rfl, by decide, by decide, rfl, inT12, t_1186, tyX12_ok, nmX12, rfl, by decide +kernel⟩
set_option maxRecDepth 100000 in
theorem fl_X12_334 : Fl RX12 334 12 22 0 := ⟨RX12, TX12, 39, rfl, by decide, by decide, rfl, inT12, t_1187⟩
set_option maxRecDepth 100000 in
theorem fp_X12_334 : Fp RX12 334 12 22 0 .int := ⟨RX12, TX12, 39, tyX12, rfl, by decide, by decide, rfl, inT12, t_1187, tyX12_ok, nmX12, rfl, by decide +kernel⟩
set_option maxRecDepth 100000 in
theorem cs_X12_337 : Cs RX12 337 miX12_isPlan 1 := ⟨t_1588, t_1589, t_101, t_1590, ⟨by decide +kernel, by decide +kernel, by decide +kernel⟩, by decide⟩
set_option maxRecDepth 100000 in
theorem cv_X12_340 : Cv RX12 340 miX12_findBest 1 12 := ⟨t_1592, t_1594, t_71, t_101, t_1595, ⟨by decide +kernel, by decide +kernel, by decide +kernel⟩, by decide, by decide, _, _, rfl⟩
set_option maxRecDepth 100000 in
theorem fp_X12_345 : Fp RX12 345 12 23 0 .int := ⟨RX12, TX12, 39, tyX12, rfl, by decide, by decide, rfl, inT12, t_1188, tyX12_ok, nmX12, rfl, by decide +kernel⟩
set_option maxRecDepth 100000 in
theorem fp_X12_348 : Fp RX12 348 12 24 0 .int := ⟨RX12, TX12, 39, tyX12, rfl, by decide, by decide, rfl, inT12, t_1189, tyX12_ok, nmX12, rfl, by decide +kernel⟩
set_option maxRecDepth 100000 in
theorem fl_X12_348 : Fl RX12 348 12 24 0 := ⟨RX12, TX12, 39, rfl, by decide, by decide, rfl, inT12, t_1189⟩
set_option maxRecDepth 100000 in
theorem fl_X12_345 : Fl RX12 345 12 23 0 := ⟨RX12, TX12, 39, rfl, by decide, by decide, rfl, inT12, t_1188⟩
set_option maxRecDepth 100000 in
theorem cv_X12_351 : Cv RX12 351 miX12_areBarrels 1 12 := ⟨t_1621, t_1623, t_75, t_101, t_1624, ⟨by decide +kernel, by decide +kernel, by decide +kernel⟩, by decide, by decide, _, _, rfl⟩
set_option maxRecDepth 100000 in
theorem cv_X12_354 : Cv RX12 354 miX12_findCharts 2 12 := ⟨t_1625, t_1627, t_76, t_101, t_1628, ⟨by decide +kernel, by decide +kernel, by decide +kernel⟩, by decide, by decide, _, _, rfl⟩
set_option maxRecDepth 100000 in
theorem cv_X12_358 : Cv RX12 358 miX12_valueOf 2 12 := ⟨t_1637, t_1639, t_77, t_101, t_1640, ⟨by decide +kernel, by decide +kernel, by decide +kernel⟩, by decide, by decide, _, _, rfl⟩
set_option maxRecDepth 100000 in
theorem fp_X12_362 : Fp RX12 362 12 25 0 .int := ⟨RX12, TX12, 39, tyX12, rfl, by decide, by decide, rfl, inT12, t_1190, tyX12_ok, nmX12, rfl, by decide +kernel⟩
set_option maxRecDepth 100000 in
theorem fp_X12_365 : Fp RX12 365 12 26 0 .int := ⟨RX12, TX12, 39, tyX12, rfl, by decide, by decide, rfl, inT12, t_1191, tyX12_ok, nmX12, rfl, by decide +kernel⟩
set_option maxRecDepth 100000 in
theorem ks_499 : (Int16.ofInt (499)).toInt32 = 499 := by decide
set_option maxRecDepth 100000 in
theorem cv_X12_368 : Cv RX12 368 miX12_fitting 3 12 := ⟨t_1662, t_1664, t_79, t_101, t_1665, ⟨by decide +kernel, by decide +kernel, by decide +kernel⟩, by decide, by decide, _, _, rfl⟩
set_option maxRecDepth 100000 in
theorem fl_X12_362 : Fl RX12 362 12 25 0 := ⟨RX12, TX12, 39, rfl, by decide, by decide, rfl, inT12, t_1190⟩
set_option maxRecDepth 100000 in
theorem fl_X12_365 : Fl RX12 365 12 26 0 := ⟨RX12, TX12, 39, rfl, by decide, by decide, rfl, inT12, t_1191⟩
set_option maxRecDepth 100000 in
theorem cv_X12_371 : Cv RX12 371 miX12_findLone 1 12 := ⟨t_1658, t_1660, t_78, t_101, t_1661, ⟨by decide +kernel, by decide +kernel, by decide +kernel⟩, by decide, by decide, _, _, rfl⟩
set_option maxRecDepth 100000 in
theorem cv_X12_375 : Cv RX12 375 miX12_lotGoes 0 12 := ⟨t_1678, t_1680, t_80, t_101, t_1681, ⟨by decide +kernel, by decide +kernel, by decide +kernel⟩, by decide, by decide, _, _, rfl⟩
set_option maxRecDepth 100000 in
theorem fp_X12_382 : Fp RX12 382 12 28 0 .int := ⟨RX12, TX12, 39, tyX12, rfl, by decide, by decide, rfl, inT12, t_1193, tyX12_ok, nmX12, rfl, by decide +kernel⟩
set_option maxRecDepth 100000 in
theorem fl_X12_382 : Fl RX12 382 12 28 0 := ⟨RX12, TX12, 39, rfl, by decide, by decide, rfl, inT12, t_1193⟩
set_option maxRecDepth 100000 in
theorem fl_X12_37 : Fl RX12 37 12 27 2 := ⟨RX12, TX12, 39, rfl, by decide, by decide, rfl, inT12, t_1192⟩
set_option maxRecDepth 100000 in
theorem cs_X12_387 : Cs RX12 387 miX12_isSheet 1 := ⟨t_1710, t_1711, t_101, t_1712, ⟨by decide +kernel, by decide +kernel, by decide +kernel⟩, by decide⟩
set_option maxRecDepth 100000 in
theorem fl_X12_40 : Fl RX12 40 12 29 2 := ⟨RX12, TX12, 39, rfl, by decide, by decide, rfl, inT12, t_1194⟩
set_option maxRecDepth 100000 in
theorem fl_X12_43 : Fl RX12 43 12 30 2 := ⟨RX12, TX12, 39, rfl, by decide, by decide, rfl, inT12, t_1195⟩
set_option maxRecDepth 100000 in
theorem fl_X12_46 : Fl RX12 46 12 31 2 := ⟨RX12, TX12, 39, rfl, by decide, by decide, rfl, inT12, t_1196⟩
set_option maxRecDepth 100000 in
theorem cv_X12_392 : Cv RX12 392 miX12_whyNoBytes 2 12 := ⟨t_1725, t_1727, t_81, t_101, t_1728, ⟨by decide +kernel, by decide +kernel, by decide +kernel⟩, by decide, by decide, _, _, rfl⟩
set_option maxRecDepth 100000 in
theorem fl_X12_49 : Fl RX12 49 12 32 2 := ⟨RX12, TX12, 39, rfl, by decide, by decide, rfl, inT12, t_1197⟩
set_option maxRecDepth 100000 in
theorem fl_X12_52 : Fl RX12 52 12 33 2 := ⟨RX12, TX12, 39, rfl, by decide, by decide, rfl, inT12, t_1198⟩
set_option maxRecDepth 100000 in
theorem fl_X12_55 : Fl RX12 55 12 34 2 := ⟨RX12, TX12, 39, rfl, by decide, by decide, rfl, inT12, t_1199⟩
set_option maxRecDepth 100000 in
theorem cv_X12_397 : Cv RX12 397 miX12_holdsNothing 1 12 := ⟨t_1743, t_1745, t_82, t_101, t_1746, ⟨by decide +kernel, by decide +kernel, by decide +kernel⟩, by decide, by decide, _, _, rfl⟩
set_option maxRecDepth 100000 in
theorem fl_X12_400 : Fl RX12 400 12 36 0 := ⟨RX12, TX12, 39, rfl, by decide, by decide, rfl, inT12, t_1201⟩
set_option maxRecDepth 100000 in
theorem fl_X12_403 : Fl RX12 403 12 38 0 := ⟨RX12, TX12, 39, rfl, by decide, by decide, rfl, inT12, t_1203⟩
set_option maxRecDepth 100000 in
theorem fl_X12_58 : Fl RX12 58 12 35 2 := ⟨RX12, TX12, 39, rfl, by decide, by decide, rfl, inT12, t_1200⟩
set_option maxRecDepth 100000 in
theorem fp_X12_400 : Fp RX12 400 12 36 0 .int := ⟨RX12, TX12, 39, tyX12, rfl, by decide, by decide, rfl, inT12, t_1201, tyX12_ok, nmX12, rfl, by decide +kernel⟩
set_option maxRecDepth 100000 in
theorem cv_X12_412 : Cv RX12 412 miX12_rollsBy 2 12 := ⟨t_1751, t_1753, t_83, t_101, t_1754, ⟨by decide +kernel, by decide +kernel, by decide +kernel⟩, by decide, by decide, _, _, rfl⟩
set_option maxRecDepth 100000 in
theorem cv_X12_406 : Cv RX12 406 miX12_ran 1 12 := ⟨t_1755, t_1757, t_84, t_101, t_1758, ⟨by decide +kernel, by decide +kernel, by decide +kernel⟩, by decide, by decide, _, _, rfl⟩
set_option maxRecDepth 100000 in
theorem fl_X12_409 : Fl RX12 409 12 37 0 := ⟨RX12, TX12, 39, rfl, by decide, by decide, rfl, inT12, t_1202⟩
set_option maxRecDepth 100000 in
theorem cv_X12_415 : Cv RX12 415 miX12_seepsBy 2 12 := ⟨t_1759, t_1761, t_85, t_101, t_1762, ⟨by decide +kernel, by decide +kernel, by decide +kernel⟩, by decide, by decide, _, _, rfl⟩
set_option maxRecDepth 100000 in
theorem fp_X12_403 : Fp RX12 403 12 38 0 .boolean := ⟨RX12, TX12, 39, tyX12, rfl, by decide, by decide, rfl, inT12, t_1203, tyX12_ok, nmX12, rfl, by decide +kernel⟩
set_option maxRecDepth 100000 in
theorem cv_X12_418 : Cv RX12 418 miX12_hoopsBy 2 12 := ⟨t_1763, t_1765, t_86, t_101, t_1766, ⟨by decide +kernel, by decide +kernel, by decide +kernel⟩, by decide, by decide, _, _, rfl⟩
set_option maxRecDepth 100000 in
theorem cv_X12_421 : Cv RX12 421 miX12_floodsBy 2 12 := ⟨t_1767, t_1769, t_87, t_101, t_1770, ⟨by decide +kernel, by decide +kernel, by decide +kernel⟩, by decide, by decide, _, _, rfl⟩
set_option maxRecDepth 100000 in
theorem fp_X12_409 : Fp RX12 409 12 37 0 .int := ⟨RX12, TX12, 39, tyX12, rfl, by decide, by decide, rfl, inT12, t_1202, tyX12_ok, nmX12, rfl, by decide +kernel⟩
set_option maxRecDepth 100000 in
theorem cs_X12_424 : Cs RX12 424 miX12_ones 1 := ⟨t_1779, t_1780, t_101, t_1781, ⟨by decide +kernel, by decide +kernel, by decide +kernel⟩, by decide⟩
set_option maxRecDepth 100000 in
theorem fp_X12_427 : Fp RX12 427 12 2 0 .boolean := ⟨RX12, TX12, 39, tyX12, rfl, by decide, by decide, rfl, inT12, t_1167, tyX12_ok, nmX12, rfl, by decide +kernel⟩
set_option maxRecDepth 100000 in
theorem fl_X12_13 : Fl RX12 13 12 1 2 := ⟨RX12, TX12, 39, rfl, by decide, by decide, rfl, inT12, t_1166⟩
set_option maxRecDepth 100000 in
theorem fl_X12_427 : Fl RX12 427 12 2 0 := ⟨RX12, TX12, 39, rfl, by decide, by decide, rfl, inT12, t_1167⟩
