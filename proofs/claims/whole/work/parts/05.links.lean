abbrev kX10_init : mM := (yX10_init, cX10_init, 1, none)
abbrev kX7_init : mM := (yX7_init, cX7_init, 1, none)
abbrev kX0_init : mM := (yX0_init, cX0_init, 1, none)
abbrev kX8_init : mM := (yX8_init, cX8_init, 4, none)
abbrev kX6_init : mM := (yX6_init, cX6_init, 1, none)
abbrev kX1_init : mM := (yX1_init, cX1_init, 1, none)
abbrev kX5_init : mM := (yX5_init, cX5_init, 1, none)
abbrev kX4_init : mM := (yX4_init, cX4_init, 1, none)
abbrev kX3_init : mM := (yX3_init, cX3_init, 1, none)
abbrev kX9_init : mM := (yX9_init, cX9_init, 5, none)
abbrev kX2_init : mM := (yX2_init, cX2_init, 1, none)
abbrev kX10_type : mM := (yX10_type, cX10_type, 4, (some FieldType.int))
abbrev kX10_within : mM := (yX10_within, cX10_within, 2, (some FieldType.boolean))
abbrev kX10_textOf : mM := (yX10_textOf, cX10_textOf, 2, (some (FieldType.object "DodgemDebate$Text")))
abbrev kX7_append : mM := (yX7_append, cX7_append, 2, none)
abbrev kX10_wipe : mM := (yX10_wipe, cX10_wipe, 4, (some FieldType.int))
abbrev kX10_undo : mM := (yX10_undo, cX10_undo, 3, (some FieldType.int))
abbrev kX10_fault : mM := (yX10_fault, cX10_fault, 2, (some FieldType.int))
abbrev kX10_settle : mM := (yX10_settle, cX10_settle, 1, none)
abbrev kX8_learn : mM := (yX8_learn, cX8_learn, 6, none)
abbrev kX8_takes : mM := (yX8_takes, cX8_takes, 4, (some FieldType.boolean))
abbrev kX0_meaning : mM := (yX0_meaning, cX0_meaning, 4, (some FieldType.int))
abbrev kJ0_indexOf_0f7a4 : mM := (yJ0_indexOf_0f7a4, cJ0_indexOf_0f7a4, 2, (some FieldType.int))
abbrev kJ0_indexOf_7cf53 : mM := (yJ0_indexOf_7cf53, cJ0_indexOf_7cf53, 3, (some FieldType.int))
abbrev kJ0_isLatin1_aae02 : mM := (yJ0_isLatin1_aae02, cJ0_isLatin1_aae02, 1, (some FieldType.boolean))
abbrev kJ0_length_8abf5 : mM := (yJ0_length_8abf5, cJ0_length_8abf5, 1, (some FieldType.int))
abbrev kJ0_coder_7d493 : mM := (yJ0_coder_7d493, cJ0_coder_7d493, 1, (some FieldType.byte))
abbrev kJ1_indexOf_4cfef : mM := (yJ1_indexOf_4cfef, cJ1_indexOf_4cfef, 4, (some FieldType.int))
abbrev kJ1_canEncode_9a6ad : mM := (yJ1_canEncode_9a6ad, cJ1_canEncode_9a6ad, 1, (some FieldType.boolean))
abbrev kJ9_max_7cf53 : mM := (yJ9_max_7cf53, cJ9_max_7cf53, 2, (some FieldType.int))
abbrev kJ9_min_7cf53 : mM := (yJ9_min_7cf53, cJ9_min_7cf53, 2, (some FieldType.int))
abbrev kJ1_indexOfChar_4cfef : mM := (yJ1_indexOfChar_4cfef, cJ1_indexOfChar_4cfef, 6, (some FieldType.int))
abbrev kJ0_checkBoundsBeginEnd_23922 : mM := (yJ0_checkBoundsBeginEnd_23922, cJ0_checkBoundsBeginEnd_23922, 3, none)
abbrev kX0_isTaken : mM := (yX0_isTaken, cX0_isTaken, 6, (some FieldType.boolean))
abbrev kX6_meaning : mM := (yX6_meaning, cX6_meaning, 4, (some FieldType.int))
abbrev kX3_play : mM := (yX3_play, cX3_play, 7, none)
abbrev kX3_begin : mM := (yX3_begin, cX3_begin, 4, none)
abbrev kJ7_fill_53178 : mM := (yJ7_fill_53178, cJ7_fill_53178, 4, none)
abbrev kX3_doEvents : mM := (yX3_doEvents, cX3_doEvents, 5, none)
abbrev kX3_doSteers : mM := (yX3_doSteers, cX3_doSteers, 8, none)
abbrev kX3_go : mM := (yX3_go, cX3_go, 12, none)
abbrev kX10_onFloor : mM := (yX10_onFloor, cX10_onFloor, 2, (some FieldType.boolean))
abbrev kX3_countStrike : mM := (yX3_countStrike, cX3_countStrike, 6, none)
abbrev kX3_shift : mM := (yX3_shift, cX3_shift, 4, none)
abbrev kX3_keep : mM := (yX3_keep, cX3_keep, 3, none)
abbrev kX10_car : mM := (yX10_car, cX10_car, 3, (some FieldType.int))
abbrev kX10_steer : mM := (yX10_steer, cX10_steer, 3, (some FieldType.int))
abbrev kX6_partOf : mM := (yX6_partOf, cX6_partOf, 3, (some FieldType.int))
abbrev kX10_event : mM := (yX10_event, cX10_event, 4, (some FieldType.int))
abbrev kX1_fits : mM := (yX1_fits, cX1_fits, 3, (some FieldType.boolean))
abbrev kX1_append : mM := (yX1_append, cX1_append, 4, none)
abbrev kX10_back : mM := (yX10_back, cX10_back, 1, (some FieldType.int))
abbrev kX10_read : mM := (yX10_read, cX10_read, 5, (some FieldType.int))
abbrev kX4_isLost : mM := (yX4_isLost, cX4_isLost, 2, (some FieldType.boolean))
abbrev kX4_found : mM := (yX4_found, cX4_found, 2, (some FieldType.int))
abbrev kX10_at : mM := (yX10_at, cX10_at, 4, (some FieldType.int))
abbrev kX3_behind : mM := (yX3_behind, cX3_behind, 4, (some FieldType.int))
abbrev kX10_who : mM := (yX10_who, cX10_who, 4, (some FieldType.int))
abbrev kX3_inCell : mM := (yX3_inCell, cX3_inCell, 5, (some FieldType.int))
abbrev kX10_house : mM := (yX10_house, cX10_house, 3, (some FieldType.int))
abbrev kX3_division : mM := (yX3_division, cX3_division, 3, (some FieldType.int))
abbrev kX3_ayes : mM := (yX3_ayes, cX3_ayes, 4, (some FieldType.int))
abbrev kX10_strikes : mM := (yX10_strikes, cX10_strikes, 1, (some FieldType.int))
abbrev kX10_first : mM := (yX10_first, cX10_first, 2, (some FieldType.int))
abbrev kX10_best : mM := (yX10_best, cX10_best, 1, (some FieldType.int))
abbrev kX3_leader : mM := (yX3_leader, cX3_leader, 3, (some FieldType.int))
abbrev kX10_meek : mM := (yX10_meek, cX10_meek, 1, (some FieldType.int))
abbrev kX3_untouched : mM := (yX3_untouched, cX3_untouched, 1, (some FieldType.int))
abbrev kX10_jam : mM := (yX10_jam, cX10_jam, 3, (some FieldType.int))
abbrev kX3_worstJam : mM := (yX3_worstJam, cX3_worstJam, 3, (some FieldType.int))
abbrev kX10_carried : mM := (yX10_carried, cX10_carried, 1, (some FieldType.int))
abbrev kX3_divisionsCarried : mM := (yX3_divisionsCarried, cX3_divisionsCarried, 3, (some FieldType.int))
abbrev kX10_stand : mM := (yX10_stand, cX10_stand, 3, (some FieldType.int))
abbrev kX9_bestStand : mM := (yX9_bestStand, cX9_bestStand, 5, (some FieldType.int))
abbrev kX0_becomeLike : mM := (yX0_becomeLike, cX0_becomeLike, 3, none)
abbrev kX10_standPart : mM := (yX10_standPart, cX10_standPart, 3, (some FieldType.int))
abbrev kX10_better : mM := (yX10_better, cX10_better, 4, (some FieldType.int))
abbrev kX9_bestTurn : mM := (yX9_bestTurn, cX9_bestTurn, 6, (some FieldType.int))
abbrev kX6_lend : mM := (yX6_lend, cX6_lend, 4, none)
abbrev kX6_giveBack : mM := (yX6_giveBack, cX6_giveBack, 1, none)
abbrev kX10_turnPart : mM := (yX10_turnPart, cX10_turnPart, 2, (some FieldType.int))
abbrev kX10_ring : mM := (yX10_ring, cX10_ring, 3, (some FieldType.int))
abbrev kX10_bestBell : mM := (yX10_bestBell, cX10_bestBell, 3, (some FieldType.int))
abbrev kX10_ayesAhead : mM := (yX10_ayesAhead, cX10_ayesAhead, 2, (some FieldType.int))
abbrev kX0_ayesAsTold : mM := (yX0_ayesAsTold, cX0_ayesAsTold, 3, (some FieldType.int))
abbrev kX10_spare : mM := (yX10_spare, cX10_spare, 2, (some FieldType.int))
abbrev kX9_fewestSpared : mM := (yX9_fewestSpared, cX9_fewestSpared, 3, (some FieldType.int))
abbrev kX9_touchesAll : mM := (yX9_touchesAll, cX9_touchesAll, 2, (some FieldType.boolean))
abbrev kX10_sparePart : mM := (yX10_sparePart, cX10_sparePart, 3, (some FieldType.int))
abbrev kJ6_bitCount_0f7a4 : mM := (yJ6_bitCount_0f7a4, cJ6_bitCount_0f7a4, 1, (some FieldType.int))
abbrev kX10_seen : mM := (yX10_seen, cX10_seen, 5, (some FieldType.int))
abbrev kX5_append : mM := (yX5_append, cX5_append, 5, none)
abbrev kX10_forget : mM := (yX10_forget, cX10_forget, 2, (some FieldType.int))
abbrev kX10_never : mM := (yX10_never, cX10_never, 1, (some FieldType.int))
abbrev kX9_eventsThatNeverWere : mM := (yX9_eventsThatNeverWere, cX9_eventsThatNeverWere, 3, (some FieldType.int))
abbrev kX5_comeOutIn : mM := (yX5_comeOutIn, cX5_comeOutIn, 3, (some FieldType.boolean))
abbrev kX10_was : mM := (yX10_was, cX10_was, 3, (some FieldType.int))
abbrev kX9_sortsOf : mM := (yX9_sortsOf, cX9_sortsOf, 4, (some FieldType.int))
abbrev kX9_agrees : mM := (yX9_agrees, cX9_agrees, 4, (some FieldType.boolean))
abbrev kX9_weightsOf : mM := (yX9_weightsOf, cX9_weightsOf, 4, (some FieldType.int))
abbrev kX10_ask : mM := (yX10_ask, cX10_ask, 2, (some FieldType.int))
abbrev kX9_momentToLook : mM := (yX9_momentToLook, cX9_momentToLook, 6, (some FieldType.int))
abbrev kX9_cellOf : mM := (yX9_cellOf, cX9_cellOf, 3, (some FieldType.int))
abbrev kX9_mostAlike : mM := (yX9_mostAlike, cX9_mostAlike, 6, (some FieldType.int))
abbrev kX10_chance : mM := (yX10_chance, cX10_chance, 4, (some FieldType.long))
abbrev kX9_weighStruck : mM := (yX9_weighStruck, cX9_weighStruck, 6, (some FieldType.long))
abbrev kX9_findStruck : mM := (yX9_findStruck, cX9_findStruck, 4, none)
abbrev kX3_wasStruck : mM := (yX3_wasStruck, cX3_wasStruck, 2, (some FieldType.boolean))
abbrev kX9_weightOf : mM := (yX9_weightOf, cX9_weightOf, 6, (some FieldType.long))
abbrev kX10_fractionPart : mM := (yX10_fractionPart, cX10_fractionPart, 9, (some FieldType.long))
abbrev kX10_ages : mM := (yX10_ages, cX10_ages, 4, (some FieldType.int))
abbrev kX9_playAges : mM := (yX9_playAges, cX9_playAges, 7, none)
abbrev kX9_nextSeed : mM := (yX9_nextSeed, cX9_nextSeed, 1, (some FieldType.int))
abbrev kX9_lot : mM := (yX9_lot, cX9_lot, 2, (some FieldType.int))
abbrev kX3_allPoints : mM := (yX3_allPoints, cX3_allPoints, 3, (some FieldType.int))
abbrev kX10_sheet : mM := (yX10_sheet, cX10_sheet, 4, (some FieldType.int))
abbrev kX4_begin : mM := (yX4_begin, cX4_begin, 4, none)
abbrev kX10_lose : mM := (yX10_lose, cX10_lose, 3, (some FieldType.int))
abbrev kX10_put : mM := (yX10_put, cX10_put, 6, (some FieldType.int))
abbrev kX4_barTo : mM := (yX4_barTo, cX4_barTo, 4, (some FieldType.int))
abbrev kX4_lowestBits : mM := (yX4_lowestBits, cX4_lowestBits, 2, (some FieldType.int))
abbrev kX10_get : mM := (yX10_get, cX10_get, 5, (some FieldType.int))
abbrev kX10_copy : mM := (yX10_copy, cX10_copy, 6, (some FieldType.int))
abbrev kX4_hasSpan : mM := (yX4_hasSpan, cX4_hasSpan, 4, (some FieldType.boolean))
abbrev kX10_write : mM := (yX10_write, cX10_write, 5, (some FieldType.int))
abbrev kX10_count : mM := (yX10_count, cX10_count, 2, (some FieldType.int))
abbrev kX10_tally : mM := (yX10_tally, cX10_tally, 2, (some FieldType.int))
abbrev kX10_digest : mM := (yX10_digest, cX10_digest, 2, (some FieldType.long))
abbrev kX10_addTold : mM := (yX10_addTold, cX10_addTold, 3, none)
abbrev kX2_add : mM := (yX2_add, cX2_add, 3, none)
abbrev kX10_addCar : mM := (yX10_addCar, cX10_addCar, 7, none)
abbrev kX10_addHouse : mM := (yX10_addHouse, cX10_addHouse, 3, none)
abbrev kX10_addWhole : mM := (yX10_addWhole, cX10_addWhole, 4, none)
abbrev kX11_init : mM := (yX11_init, cX11_init, 1, none)
abbrev kX11_type : mM := (yX11_type, cX11_type, 3, (some FieldType.int))
abbrev kX11_isText : mM := (yX11_isText, cX11_isText, 1, (some FieldType.boolean))
abbrev kX11_in : mM := (yX11_in, cX11_in, 3, (some FieldType.boolean))
abbrev kX11_wipe : mM := (yX11_wipe, cX11_wipe, 3, (some FieldType.int))
abbrev kX11_undo : mM := (yX11_undo, cX11_undo, 2, (some FieldType.int))
abbrev kX11_fault : mM := (yX11_fault, cX11_fault, 2, (some FieldType.int))
abbrev kX11_faultOf : mM := (yX11_faultOf, cX11_faultOf, 4, (some FieldType.int))
abbrev kX11_readsParts : mM := (yX11_readsParts, cX11_readsParts, 6, (some FieldType.int))
abbrev kX11_readsCar : mM := (yX11_readsCar, cX11_readsCar, 8, (some FieldType.int))
abbrev kX11_byteAt : mM := (yX11_byteAt, cX11_byteAt, 3, (some FieldType.int))
abbrev kX11_sortOf : mM := (yX11_sortOf, cX11_sortOf, 1, (some FieldType.int))
abbrev kX11_wayOf : mM := (yX11_wayOf, cX11_wayOf, 1, (some FieldType.int))
abbrev kX11_isSix : mM := (yX11_isSix, cX11_isSix, 1, (some FieldType.boolean))
abbrev kX11_isTold : mM := (yX11_isTold, cX11_isTold, 6, (some FieldType.boolean))
abbrev kX11_readsSteer : mM := (yX11_readsSteer, cX11_readsSteer, 6, (some FieldType.int))
abbrev kX11_car : mM := (yX11_car, cX11_car, 3, (some FieldType.int))
abbrev kX11_isCar : mM := (yX11_isCar, cX11_isCar, 2, (some FieldType.boolean))
abbrev kX11_reads : mM := (yX11_reads, cX11_reads, 2, none)
abbrev kX11_carOf : mM := (yX11_carOf, cX11_carOf, 3, (some FieldType.int))
abbrev kX11_steer : mM := (yX11_steer, cX11_steer, 3, (some FieldType.int))
abbrev kX11_isThree : mM := (yX11_isThree, cX11_isThree, 1, (some FieldType.boolean))
abbrev kX11_steerTold : mM := (yX11_steerTold, cX11_steerTold, 3, (some FieldType.int))
abbrev kX11_event : mM := (yX11_event, cX11_event, 4, (some FieldType.int))
abbrev kX11_isTwo : mM := (yX11_isTwo, cX11_isTwo, 1, (some FieldType.boolean))
abbrev kX11_isMoment : mM := (yX11_isMoment, cX11_isMoment, 1, (some FieldType.boolean))
abbrev kX11_isEight : mM := (yX11_isEight, cX11_isEight, 1, (some FieldType.boolean))
abbrev kX11_back : mM := (yX11_back, cX11_back, 1, (some FieldType.int))
abbrev kX11_read : mM := (yX11_read, cX11_read, 4, (some FieldType.int))
abbrev kX11_isSheet : mM := (yX11_isSheet, cX11_isSheet, 1, (some FieldType.boolean))
abbrev kX11_meets : mM := (yX11_meets, cX11_meets, 2, (some FieldType.int))
abbrev kX11_at : mM := (yX11_at, cX11_at, 4, (some FieldType.int))
abbrev kX11_atOf : mM := (yX11_atOf, cX11_atOf, 5, (some FieldType.int))
abbrev kX11_runsTold : mM := (yX11_runsTold, cX11_runsTold, 1, none)
abbrev kX11_asTold : mM := (yX11_asTold, cX11_asTold, 2, none)
abbrev kX11_runs : mM := (yX11_runs, cX11_runs, 2, none)
abbrev kX11_goesBy : mM := (yX11_goesBy, cX11_goesBy, 4, none)
abbrev kX11_isIn : mM := (yX11_isIn, cX11_isIn, 2, (some FieldType.boolean))
abbrev kX11_steersAll : mM := (yX11_steersAll, cX11_steersAll, 4, none)
abbrev kX11_drives : mM := (yX11_drives, cX11_drives, 7, none)
abbrev kX11_stepX : mM := (yX11_stepX, cX11_stepX, 1, (some FieldType.int))
abbrev kX11_stepY : mM := (yX11_stepY, cX11_stepY, 1, (some FieldType.int))
abbrev kX11_whoIn : mM := (yX11_whoIn, cX11_whoIn, 5, (some FieldType.int))
abbrev kX11_comes : mM := (yX11_comes, cX11_comes, 4, none)
abbrev kX11_runsInto : mM := (yX11_runsInto, cX11_runsInto, 10, none)
abbrev kX11_who : mM := (yX11_who, cX11_who, 4, (some FieldType.int))
abbrev kX11_whoOf : mM := (yX11_whoOf, cX11_whoOf, 6, (some FieldType.int))
abbrev kX11_house : mM := (yX11_house, cX11_house, 3, (some FieldType.int))
abbrev kX11_houseOf : mM := (yX11_houseOf, cX11_houseOf, 4, (some FieldType.int))
abbrev kX11_ayesAt : mM := (yX11_ayesAt, cX11_ayesAt, 4, (some FieldType.int))
abbrev kX11_strikes : mM := (yX11_strikes, cX11_strikes, 1, (some FieldType.int))
abbrev kX11_strikesOf : mM := (yX11_strikesOf, cX11_strikesOf, 1, (some FieldType.int))
abbrev kX11_first : mM := (yX11_first, cX11_first, 2, (some FieldType.int))
abbrev kX11_firstOf : mM := (yX11_firstOf, cX11_firstOf, 2, (some FieldType.int))
abbrev kX11_best : mM := (yX11_best, cX11_best, 1, (some FieldType.int))
abbrev kX11_bestOf : mM := (yX11_bestOf, cX11_bestOf, 3, (some FieldType.int))
abbrev kX11_meek : mM := (yX11_meek, cX11_meek, 1, (some FieldType.int))
abbrev kX11_meekOf : mM := (yX11_meekOf, cX11_meekOf, 1, (some FieldType.int))
abbrev kX11_meekNow : mM := (yX11_meekNow, cX11_meekNow, 3, (some FieldType.int))
abbrev kX11_jam : mM := (yX11_jam, cX11_jam, 2, (some FieldType.int))
abbrev kX11_jamOf : mM := (yX11_jamOf, cX11_jamOf, 4, (some FieldType.int))
abbrev kX11_carried : mM := (yX11_carried, cX11_carried, 1, (some FieldType.int))
abbrev kX11_carriedOf : mM := (yX11_carriedOf, cX11_carriedOf, 3, (some FieldType.int))
abbrev kX11_stand : mM := (yX11_stand, cX11_stand, 3, (some FieldType.int))
abbrev kX11_standOf : mM := (yX11_standOf, cX11_standOf, 8, (some FieldType.int))
abbrev kX11_isOther : mM := (yX11_isOther, cX11_isOther, 6, (some FieldType.boolean))
abbrev kX11_better : mM := (yX11_better, cX11_better, 4, (some FieldType.int))
abbrev kX11_betterOf : mM := (yX11_betterOf, cX11_betterOf, 7, (some FieldType.int))
abbrev kX11_ring : mM := (yX11_ring, cX11_ring, 2, (some FieldType.int))
abbrev kX11_ringOf : mM := (yX11_ringOf, cX11_ringOf, 6, (some FieldType.int))
abbrev kX11_spare : mM := (yX11_spare, cX11_spare, 2, (some FieldType.int))
abbrev kX11_spareBy : mM := (yX11_spareBy, cX11_spareBy, 3, (some FieldType.int))
abbrev kX11_isSpared : mM := (yX11_isSpared, cX11_isSpared, 2, (some FieldType.boolean))
abbrev kX11_ofRow : mM := (yX11_ofRow, cX11_ofRow, 3, (some FieldType.int))
abbrev kX11_seen : mM := (yX11_seen, cX11_seen, 5, (some FieldType.int))
abbrev kX11_forget : mM := (yX11_forget, cX11_forget, 2, (some FieldType.int))
abbrev kX11_never : mM := (yX11_never, cX11_never, 1, (some FieldType.int))
abbrev kX11_neverNow : mM := (yX11_neverNow, cX11_neverNow, 3, (some FieldType.int))
abbrev kX11_isSeen : mM := (yX11_isSeen, cX11_isSeen, 4, (some FieldType.boolean))
abbrev kX11_was : mM := (yX11_was, cX11_was, 3, (some FieldType.int))
abbrev kX11_sortsBy : mM := (yX11_sortsBy, cX11_sortsBy, 5, (some FieldType.int))
abbrev kX11_heavyBy : mM := (yX11_heavyBy, cX11_heavyBy, 6, (some FieldType.int))
abbrev kX11_ask : mM := (yX11_ask, cX11_ask, 2, (some FieldType.int))
abbrev kX11_askOf : mM := (yX11_askOf, cX11_askOf, 10, (some FieldType.int))
abbrev kX11_chance : mM := (yX11_chance, cX11_chance, 4, (some FieldType.long))
abbrev kX11_chanceOf : mM := (yX11_chanceOf, cX11_chanceOf, 10, (some FieldType.long))
abbrev kX11_lowest : mM := (yX11_lowest, cX11_lowest, 11, (some FieldType.long))
abbrev kX11_no : mM := (yX11_no, cX11_no, 1, (some FieldType.long))
abbrev kX11_ages : mM := (yX11_ages, cX11_ages, 4, (some FieldType.int))
abbrev kX11_agesOf : mM := (yX11_agesOf, cX11_agesOf, 6, (some FieldType.int))
abbrev kX11_pointsAll : mM := (yX11_pointsAll, cX11_pointsAll, 3, (some FieldType.int))
abbrev kX11_sheet : mM := (yX11_sheet, cX11_sheet, 5, (some FieldType.int))
abbrev kX11_lose : mM := (yX11_lose, cX11_lose, 2, (some FieldType.int))
abbrev kX11_put : mM := (yX11_put, cX11_put, 6, (some FieldType.int))
abbrev kX11_lacks : mM := (yX11_lacks, cX11_lacks, 4, (some FieldType.int))
abbrev kX11_keep : mM := (yX11_keep, cX11_keep, 4, none)
abbrev kX11_get : mM := (yX11_get, cX11_get, 5, (some FieldType.int))
abbrev kX11_copy : mM := (yX11_copy, cX11_copy, 7, (some FieldType.int))
abbrev kX11_write : mM := (yX11_write, cX11_write, 4, (some FieldType.int))
abbrev kX11_count : mM := (yX11_count, cX11_count, 2, (some FieldType.int))
abbrev kX11_sumOf : mM := (yX11_sumOf, cX11_sumOf, 2, (some FieldType.int))
abbrev kX11_digest : mM := (yX11_digest, cX11_digest, 5, (some FieldType.long))
abbrev kX11_carDigest : mM := (yX11_carDigest, cX11_carDigest, 7, (some FieldType.long))
abbrev kX11_momentDigest : mM := (yX11_momentDigest, cX11_momentDigest, 8, (some FieldType.long))
set_option maxRecDepth 20000 in
theorem iw_0 : ∀ w ∈ u_ws RX0 TX0 5, w ∈ mtbl := by decide +kernel
set_option maxRecDepth 20000 in
theorem iw_1 : ∀ w ∈ u_ws RX1 TX1 4, w ∈ mtbl := by decide +kernel
set_option maxRecDepth 20000 in
theorem iw_2 : ∀ w ∈ u_ws RX2 TX2 1, w ∈ mtbl := by decide +kernel
set_option maxRecDepth 20000 in
theorem iw_3 : ∀ w ∈ u_ws RX3 TX3 10, w ∈ mtbl := by decide +kernel
set_option maxRecDepth 20000 in
theorem iw_4 : ∀ w ∈ u_ws RX4 TX4 4, w ∈ mtbl := by decide +kernel
set_option maxRecDepth 20000 in
theorem iw_5 : ∀ w ∈ u_ws RX5 TX5 5, w ∈ mtbl := by decide +kernel
set_option maxRecDepth 20000 in
theorem iw_6 : ∀ w ∈ u_ws RX6 TX6 5, w ∈ mtbl := by decide +kernel
set_option maxRecDepth 20000 in
theorem iw_7 : ∀ w ∈ u_ws RX7 TX7 2, w ∈ mtbl := by decide +kernel
set_option maxRecDepth 20000 in
theorem iw_8 : ∀ w ∈ u_ws RX9 TX9 10, w ∈ mtbl := by decide +kernel
set_option maxRecDepth 20000 in
theorem iw_9 : ∀ w ∈ u_ws RX10 TX10 11, w ∈ mtbl := by decide +kernel
set_option maxRecDepth 20000 in
theorem iw_10 : ∀ w ∈ u_ws RX11 TX11 53, w ∈ mtbl := by decide +kernel
set_option maxRecDepth 20000 in
theorem fl_X7_9_7 : mFL "DodgemDebate$Text" 9 7 0 := ⟨(RX7, TX7, 2), "DodgemDebate$Text", rfl, by decide, iw_7, (mtb 36 (by decide +kernel) rfl), Or.inl rfl⟩
set_option maxRecDepth 20000 in
theorem fl_X8_30_7 : mFL "DodgemDebate$Told" 30 7 0 := ⟨(RX7, TX7, 2), "DodgemDebate$Text", rfl, by decide, iw_7, (mtb 37 (by decide +kernel) rfl), Or.inl rfl⟩
set_option maxRecDepth 20000 in
theorem fl_X7_15_7 : mFL "DodgemDebate$Text" 15 7 1 := ⟨(RX7, TX7, 2), "DodgemDebate$Text", rfl, by decide, iw_7, (mtb 38 (by decide +kernel) rfl), Or.inl rfl⟩
theorem fw_X7_15_7 : mFW "DodgemDebate$Text" 15 7 1 := ⟨fl_X7_15_7, (RX7, TX7, 2), rfl, rfl, tyX7_ok, nmX7⟩
set_option maxRecDepth 20000 in
theorem fl_X10_89_7 : mFL "DodgemDebate" 89 7 1 := ⟨(RX7, TX7, 2), "DodgemDebate$Text", rfl, by decide, iw_7, (mtb 39 (by decide +kernel) rfl), Or.inl rfl⟩
theorem fw_X10_89_7 : mFW "DodgemDebate" 89 7 1 := ⟨fl_X10_89_7, (RX7, TX7, 2), rfl, rfl, tyX7_ok, nmX7⟩
set_option maxRecDepth 20000 in
theorem fl_X8_25_7 : mFL "DodgemDebate$Told" 25 7 1 := ⟨(RX7, TX7, 2), "DodgemDebate$Text", rfl, by decide, iw_7, (mtb 40 (by decide +kernel) rfl), Or.inl rfl⟩
theorem fw_X8_25_7 : mFW "DodgemDebate$Told" 25 7 1 := ⟨fl_X8_25_7, (RX7, TX7, 2), rfl, rfl, tyX7_ok, nmX7⟩
set_option maxRecDepth 20000 in
theorem fl_X8_15_0 : mFL "DodgemDebate$Told" 15 0 0 := ⟨(RX0, TX0, 5), "DodgemDebate$Told", rfl, by decide, iw_0, (mtb 58 (by decide +kernel) rfl), Or.inl rfl⟩
set_option maxRecDepth 20000 in
theorem fl_X8_15_6 : mFL "DodgemDebate$Told" 15 6 0 := ⟨(RX6, TX6, 5), "DodgemDebate$Told", rfl, by decide, iw_6, (mtb 58 (by decide +kernel) rfl), Or.inl rfl⟩
set_option maxRecDepth 20000 in
theorem fl_X0_23_0 : mFL "DodgemDebate$Cars" 23 0 0 := ⟨(RX0, TX0, 5), "DodgemDebate$Cars", rfl, by decide, iw_0, (mtb 59 (by decide +kernel) rfl), Or.inr (mtb 60 (by decide +kernel) rfl)⟩
set_option maxRecDepth 20000 in
theorem fl_X9_67_0 : mFL "DodgemDebate$Trials" 67 0 0 := ⟨(RX0, TX0, 5), "DodgemDebate$Cars", rfl, by decide, iw_0, (mtb 61 (by decide +kernel) rfl), Or.inr (mtb 60 (by decide +kernel) rfl)⟩
set_option maxRecDepth 20000 in
theorem fl_X6_27_6 : mFL "DodgemDebate$Steers" 27 6 0 := ⟨(RX6, TX6, 5), "DodgemDebate$Steers", rfl, by decide, iw_6, (mtb 62 (by decide +kernel) rfl), Or.inr (mtb 63 (by decide +kernel) rfl)⟩
set_option maxRecDepth 20000 in
theorem fl_X3_74_0 : mFL "DodgemDebate$Run" 74 0 0 := ⟨(RX0, TX0, 5), "DodgemDebate$Cars", rfl, by decide, iw_0, (mtb 64 (by decide +kernel) rfl), Or.inr (mtb 60 (by decide +kernel) rfl)⟩
set_option maxRecDepth 20000 in
theorem fl_X3_92_6 : mFL "DodgemDebate$Run" 92 6 0 := ⟨(RX6, TX6, 5), "DodgemDebate$Steers", rfl, by decide, iw_6, (mtb 65 (by decide +kernel) rfl), Or.inr (mtb 63 (by decide +kernel) rfl)⟩
set_option maxRecDepth 20000 in
theorem fl_X10_107_0 : mFL "DodgemDebate" 107 0 0 := ⟨(RX0, TX0, 5), "DodgemDebate$Cars", rfl, by decide, iw_0, (mtb 66 (by decide +kernel) rfl), Or.inr (mtb 60 (by decide +kernel) rfl)⟩
set_option maxRecDepth 20000 in
theorem fl_X8_19_0 : mFL "DodgemDebate$Told" 19 0 1 := ⟨(RX0, TX0, 5), "DodgemDebate$Told", rfl, by decide, iw_0, (mtb 67 (by decide +kernel) rfl), Or.inl rfl⟩
set_option maxRecDepth 20000 in
theorem fl_X8_19_6 : mFL "DodgemDebate$Told" 19 6 1 := ⟨(RX6, TX6, 5), "DodgemDebate$Told", rfl, by decide, iw_6, (mtb 67 (by decide +kernel) rfl), Or.inl rfl⟩
set_option maxRecDepth 20000 in
theorem fl_X8_22_0 : mFL "DodgemDebate$Told" 22 0 2 := ⟨(RX0, TX0, 5), "DodgemDebate$Told", rfl, by decide, iw_0, (mtb 68 (by decide +kernel) rfl), Or.inl rfl⟩
set_option maxRecDepth 20000 in
theorem fl_X8_22_6 : mFL "DodgemDebate$Told" 22 6 2 := ⟨(RX6, TX6, 5), "DodgemDebate$Told", rfl, by decide, iw_6, (mtb 68 (by decide +kernel) rfl), Or.inl rfl⟩
set_option maxRecDepth 20000 in
theorem fl_X9_59_0 : mFL "DodgemDebate$Trials" 59 0 3 := ⟨(RX0, TX0, 5), "DodgemDebate$Cars", rfl, by decide, iw_0, (mtb 69 (by decide +kernel) rfl), Or.inr (mtb 70 (by decide +kernel) rfl)⟩
theorem fw_X9_59_0 : mFW "DodgemDebate$Trials" 59 0 3 := ⟨fl_X9_59_0, (RX0, TX0, 5), rfl, rfl, tyX0_ok, nmX0⟩
set_option maxRecDepth 20000 in
theorem fl_X3_59_0 : mFL "DodgemDebate$Run" 59 0 3 := ⟨(RX0, TX0, 5), "DodgemDebate$Cars", rfl, by decide, iw_0, (mtb 71 (by decide +kernel) rfl), Or.inr (mtb 70 (by decide +kernel) rfl)⟩
theorem fw_X3_59_0 : mFW "DodgemDebate$Run" 59 0 3 := ⟨fl_X3_59_0, (RX0, TX0, 5), rfl, rfl, tyX0_ok, nmX0⟩
set_option maxRecDepth 20000 in
theorem fl_X6_23_6 : mFL "DodgemDebate$Steers" 23 6 3 := ⟨(RX6, TX6, 5), "DodgemDebate$Steers", rfl, by decide, iw_6, (mtb 72 (by decide +kernel) rfl), Or.inr (mtb 73 (by decide +kernel) rfl)⟩
theorem fw_X6_23_6 : mFW "DodgemDebate$Steers" 23 6 3 := ⟨fl_X6_23_6, (RX6, TX6, 5), rfl, rfl, tyX6_ok, nmX6⟩
set_option maxRecDepth 20000 in
theorem fl_X8_38_0 : mFL "DodgemDebate$Told" 38 0 3 := ⟨(RX0, TX0, 5), "DodgemDebate$Told", rfl, by decide, iw_0, (mtb 74 (by decide +kernel) rfl), Or.inl rfl⟩
theorem fw_X8_38_0 : mFW "DodgemDebate$Told" 38 0 3 := ⟨fl_X8_38_0, (RX0, TX0, 5), rfl, rfl, tyX0_ok, nmX0⟩
set_option maxRecDepth 20000 in
theorem fl_X8_38_6 : mFL "DodgemDebate$Told" 38 6 3 := ⟨(RX6, TX6, 5), "DodgemDebate$Told", rfl, by decide, iw_6, (mtb 74 (by decide +kernel) rfl), Or.inl rfl⟩
theorem fw_X8_38_6 : mFW "DodgemDebate$Told" 38 6 3 := ⟨fl_X8_38_6, (RX6, TX6, 5), rfl, rfl, tyX6_ok, nmX6⟩
set_option maxRecDepth 20000 in
theorem fl_X0_34_0 : mFL "DodgemDebate$Cars" 34 0 3 := ⟨(RX0, TX0, 5), "DodgemDebate$Cars", rfl, by decide, iw_0, (mtb 75 (by decide +kernel) rfl), Or.inr (mtb 70 (by decide +kernel) rfl)⟩
theorem fw_X0_34_0 : mFW "DodgemDebate$Cars" 34 0 3 := ⟨fl_X0_34_0, (RX0, TX0, 5), rfl, rfl, tyX0_ok, nmX0⟩
set_option maxRecDepth 20000 in
theorem fl_X3_89_6 : mFL "DodgemDebate$Run" 89 6 3 := ⟨(RX6, TX6, 5), "DodgemDebate$Steers", rfl, by decide, iw_6, (mtb 76 (by decide +kernel) rfl), Or.inr (mtb 73 (by decide +kernel) rfl)⟩
theorem fw_X3_89_6 : mFW "DodgemDebate$Run" 89 6 3 := ⟨fl_X3_89_6, (RX6, TX6, 5), rfl, rfl, tyX6_ok, nmX6⟩
set_option maxRecDepth 20000 in
theorem fl_X10_104_0 : mFL "DodgemDebate" 104 0 3 := ⟨(RX0, TX0, 5), "DodgemDebate$Cars", rfl, by decide, iw_0, (mtb 77 (by decide +kernel) rfl), Or.inr (mtb 70 (by decide +kernel) rfl)⟩
theorem fw_X10_104_0 : mFW "DodgemDebate" 104 0 3 := ⟨fl_X10_104_0, (RX0, TX0, 5), rfl, rfl, tyX0_ok, nmX0⟩
set_option maxRecDepth 20000 in
theorem fl_X10_281_6 : mFL "DodgemDebate" 281 6 3 := ⟨(RX6, TX6, 5), "DodgemDebate$Steers", rfl, by decide, iw_6, (mtb 78 (by decide +kernel) rfl), Or.inr (mtb 73 (by decide +kernel) rfl)⟩
theorem fw_X10_281_6 : mFW "DodgemDebate" 281 6 3 := ⟨fl_X10_281_6, (RX6, TX6, 5), rfl, rfl, tyX6_ok, nmX6⟩
set_option maxRecDepth 20000 in
theorem fl_X8_9_0 : mFL "DodgemDebate$Told" 9 0 4 := ⟨(RX0, TX0, 5), "DodgemDebate$Told", rfl, by decide, iw_0, (mtb 79 (by decide +kernel) rfl), Or.inl rfl⟩
theorem fw_X8_9_0 : mFW "DodgemDebate$Told" 9 0 4 := ⟨fl_X8_9_0, (RX0, TX0, 5), rfl, rfl, tyX0_ok, nmX0⟩
set_option maxRecDepth 20000 in
theorem fl_X8_9_6 : mFL "DodgemDebate$Told" 9 6 4 := ⟨(RX6, TX6, 5), "DodgemDebate$Told", rfl, by decide, iw_6, (mtb 79 (by decide +kernel) rfl), Or.inl rfl⟩
theorem fw_X8_9_6 : mFW "DodgemDebate$Told" 9 6 4 := ⟨fl_X8_9_6, (RX6, TX6, 5), rfl, rfl, tyX6_ok, nmX6⟩
set_option maxRecDepth 20000 in
theorem fl_X10_100_0 : mFL "DodgemDebate" 100 0 4 := ⟨(RX0, TX0, 5), "DodgemDebate$Cars", rfl, by decide, iw_0, (mtb 80 (by decide +kernel) rfl), Or.inr (mtb 81 (by decide +kernel) rfl)⟩
theorem fw_X10_100_0 : mFW "DodgemDebate" 100 0 4 := ⟨fl_X10_100_0, (RX0, TX0, 5), rfl, rfl, tyX0_ok, nmX0⟩
set_option maxRecDepth 20000 in
theorem fl_X10_103_6 : mFL "DodgemDebate" 103 6 4 := ⟨(RX6, TX6, 5), "DodgemDebate$Steers", rfl, by decide, iw_6, (mtb 82 (by decide +kernel) rfl), Or.inr (mtb 83 (by decide +kernel) rfl)⟩
theorem fw_X10_103_6 : mFW "DodgemDebate" 103 6 4 := ⟨fl_X10_103_6, (RX6, TX6, 5), rfl, rfl, tyX6_ok, nmX6⟩
set_option maxRecDepth 20000 in
theorem fl_X1_9_1 : mFL "DodgemDebate$Events" 9 1 0 := ⟨(RX1, TX1, 4), "DodgemDebate$Events", rfl, by decide, iw_1, (mtb 114 (by decide +kernel) rfl), Or.inl rfl⟩
set_option maxRecDepth 20000 in
theorem fl_X3_83_1 : mFL "DodgemDebate$Run" 83 1 0 := ⟨(RX1, TX1, 4), "DodgemDebate$Events", rfl, by decide, iw_1, (mtb 115 (by decide +kernel) rfl), Or.inl rfl⟩
set_option maxRecDepth 20000 in
theorem fl_X1_15_1 : mFL "DodgemDebate$Events" 15 1 1 := ⟨(RX1, TX1, 4), "DodgemDebate$Events", rfl, by decide, iw_1, (mtb 116 (by decide +kernel) rfl), Or.inl rfl⟩
set_option maxRecDepth 20000 in
theorem fl_X3_80_1 : mFL "DodgemDebate$Run" 80 1 1 := ⟨(RX1, TX1, 4), "DodgemDebate$Events", rfl, by decide, iw_1, (mtb 117 (by decide +kernel) rfl), Or.inl rfl⟩
set_option maxRecDepth 20000 in
theorem fl_X1_18_1 : mFL "DodgemDebate$Events" 18 1 2 := ⟨(RX1, TX1, 4), "DodgemDebate$Events", rfl, by decide, iw_1, (mtb 118 (by decide +kernel) rfl), Or.inl rfl⟩
set_option maxRecDepth 20000 in
theorem fl_X3_86_1 : mFL "DodgemDebate$Run" 86 1 2 := ⟨(RX1, TX1, 4), "DodgemDebate$Events", rfl, by decide, iw_1, (mtb 119 (by decide +kernel) rfl), Or.inl rfl⟩
set_option maxRecDepth 20000 in
theorem fl_X1_25_1 : mFL "DodgemDebate$Events" 25 1 3 := ⟨(RX1, TX1, 4), "DodgemDebate$Events", rfl, by decide, iw_1, (mtb 120 (by decide +kernel) rfl), Or.inl rfl⟩
theorem fw_X1_25_1 : mFW "DodgemDebate$Events" 25 1 3 := ⟨fl_X1_25_1, (RX1, TX1, 4), rfl, rfl, tyX1_ok, nmX1⟩
set_option maxRecDepth 20000 in
theorem fl_X3_77_1 : mFL "DodgemDebate$Run" 77 1 3 := ⟨(RX1, TX1, 4), "DodgemDebate$Events", rfl, by decide, iw_1, (mtb 121 (by decide +kernel) rfl), Or.inl rfl⟩
theorem fw_X3_77_1 : mFW "DodgemDebate$Run" 77 1 3 := ⟨fl_X3_77_1, (RX1, TX1, 4), rfl, rfl, tyX1_ok, nmX1⟩
set_option maxRecDepth 20000 in
theorem fl_X9_90_1 : mFL "DodgemDebate$Trials" 90 1 3 := ⟨(RX1, TX1, 4), "DodgemDebate$Events", rfl, by decide, iw_1, (mtb 122 (by decide +kernel) rfl), Or.inl rfl⟩
theorem fw_X9_90_1 : mFW "DodgemDebate$Trials" 90 1 3 := ⟨fl_X9_90_1, (RX1, TX1, 4), rfl, rfl, tyX1_ok, nmX1⟩
set_option maxRecDepth 20000 in
theorem fl_X10_119_1 : mFL "DodgemDebate" 119 1 3 := ⟨(RX1, TX1, 4), "DodgemDebate$Events", rfl, by decide, iw_1, (mtb 123 (by decide +kernel) rfl), Or.inl rfl⟩
theorem fw_X10_119_1 : mFW "DodgemDebate" 119 1 3 := ⟨fl_X10_119_1, (RX1, TX1, 4), rfl, rfl, tyX1_ok, nmX1⟩
set_option maxRecDepth 20000 in
theorem fl_X5_9_5 : mFL "DodgemDebate$Sightings" 9 5 0 := ⟨(RX5, TX5, 5), "DodgemDebate$Sightings", rfl, by decide, iw_5, (mtb 139 (by decide +kernel) rfl), Or.inl rfl⟩
set_option maxRecDepth 20000 in
theorem fl_X5_15_5 : mFL "DodgemDebate$Sightings" 15 5 1 := ⟨(RX5, TX5, 5), "DodgemDebate$Sightings", rfl, by decide, iw_5, (mtb 140 (by decide +kernel) rfl), Or.inl rfl⟩
set_option maxRecDepth 20000 in
theorem fl_X5_18_5 : mFL "DodgemDebate$Sightings" 18 5 2 := ⟨(RX5, TX5, 5), "DodgemDebate$Sightings", rfl, by decide, iw_5, (mtb 141 (by decide +kernel) rfl), Or.inl rfl⟩
set_option maxRecDepth 20000 in
theorem fl_X5_21_5 : mFL "DodgemDebate$Sightings" 21 5 3 := ⟨(RX5, TX5, 5), "DodgemDebate$Sightings", rfl, by decide, iw_5, (mtb 142 (by decide +kernel) rfl), Or.inl rfl⟩
set_option maxRecDepth 20000 in
theorem fl_X5_24_5 : mFL "DodgemDebate$Sightings" 24 5 4 := ⟨(RX5, TX5, 5), "DodgemDebate$Sightings", rfl, by decide, iw_5, (mtb 143 (by decide +kernel) rfl), Or.inl rfl⟩
theorem fw_X5_24_5 : mFW "DodgemDebate$Sightings" 24 5 4 := ⟨fl_X5_24_5, (RX5, TX5, 5), rfl, rfl, tyX5_ok, nmX5⟩
set_option maxRecDepth 20000 in
theorem fl_X10_199_5 : mFL "DodgemDebate" 199 5 4 := ⟨(RX5, TX5, 5), "DodgemDebate$Sightings", rfl, by decide, iw_5, (mtb 144 (by decide +kernel) rfl), Or.inl rfl⟩
theorem fw_X10_199_5 : mFW "DodgemDebate" 199 5 4 := ⟨fl_X10_199_5, (RX5, TX5, 5), rfl, rfl, tyX5_ok, nmX5⟩
set_option maxRecDepth 20000 in
theorem fl_X4_13_4 : mFL "DodgemDebate$Sheets" 13 4 0 := ⟨(RX4, TX4, 4), "DodgemDebate$Sheets", rfl, by decide, iw_4, (mtb 163 (by decide +kernel) rfl), Or.inl rfl⟩
set_option maxRecDepth 20000 in
theorem fl_X10_131_4 : mFL "DodgemDebate" 131 4 0 := ⟨(RX4, TX4, 4), "DodgemDebate$Sheets", rfl, by decide, iw_4, (mtb 164 (by decide +kernel) rfl), Or.inl rfl⟩
set_option maxRecDepth 20000 in
theorem fl_X4_16_4 : mFL "DodgemDebate$Sheets" 16 4 1 := ⟨(RX4, TX4, 4), "DodgemDebate$Sheets", rfl, by decide, iw_4, (mtb 165 (by decide +kernel) rfl), Or.inl rfl⟩
set_option maxRecDepth 20000 in
theorem fl_X10_243_4 : mFL "DodgemDebate" 243 4 1 := ⟨(RX4, TX4, 4), "DodgemDebate$Sheets", rfl, by decide, iw_4, (mtb 166 (by decide +kernel) rfl), Or.inl rfl⟩
set_option maxRecDepth 20000 in
theorem fl_X4_20_4 : mFL "DodgemDebate$Sheets" 20 4 2 := ⟨(RX4, TX4, 4), "DodgemDebate$Sheets", rfl, by decide, iw_4, (mtb 167 (by decide +kernel) rfl), Or.inl rfl⟩
set_option maxRecDepth 20000 in
theorem fl_X10_134_4 : mFL "DodgemDebate" 134 4 2 := ⟨(RX4, TX4, 4), "DodgemDebate$Sheets", rfl, by decide, iw_4, (mtb 168 (by decide +kernel) rfl), Or.inl rfl⟩
set_option maxRecDepth 20000 in
theorem fl_X4_23_4 : mFL "DodgemDebate$Sheets" 23 4 3 := ⟨(RX4, TX4, 4), "DodgemDebate$Sheets", rfl, by decide, iw_4, (mtb 169 (by decide +kernel) rfl), Or.inl rfl⟩
theorem fw_X4_23_4 : mFW "DodgemDebate$Sheets" 23 4 3 := ⟨fl_X4_23_4, (RX4, TX4, 4), rfl, rfl, tyX4_ok, nmX4⟩
set_option maxRecDepth 20000 in
theorem fl_X10_282_4 : mFL "DodgemDebate" 282 4 3 := ⟨(RX4, TX4, 4), "DodgemDebate$Sheets", rfl, by decide, iw_4, (mtb 170 (by decide +kernel) rfl), Or.inl rfl⟩
theorem fw_X10_282_4 : mFW "DodgemDebate" 282 4 3 := ⟨fl_X10_282_4, (RX4, TX4, 4), rfl, rfl, tyX4_ok, nmX4⟩
set_option maxRecDepth 20000 in
theorem fl_X3_13_3 : mFL "DodgemDebate$Run" 13 3 0 := ⟨(RX3, TX3, 10), "DodgemDebate$Run", rfl, by decide, iw_3, (mtb 187 (by decide +kernel) rfl), Or.inl rfl⟩
set_option maxRecDepth 20000 in
theorem fl_X9_74_3 : mFL "DodgemDebate$Trials" 74 3 0 := ⟨(RX3, TX3, 10), "DodgemDebate$Run", rfl, by decide, iw_3, (mtb 188 (by decide +kernel) rfl), Or.inl rfl⟩
set_option maxRecDepth 20000 in
theorem fl_X3_16_3 : mFL "DodgemDebate$Run" 16 3 1 := ⟨(RX3, TX3, 10), "DodgemDebate$Run", rfl, by decide, iw_3, (mtb 189 (by decide +kernel) rfl), Or.inl rfl⟩
set_option maxRecDepth 20000 in
theorem fl_X3_19_3 : mFL "DodgemDebate$Run" 19 3 2 := ⟨(RX3, TX3, 10), "DodgemDebate$Run", rfl, by decide, iw_3, (mtb 190 (by decide +kernel) rfl), Or.inl rfl⟩
set_option maxRecDepth 20000 in
theorem fl_X3_23_3 : mFL "DodgemDebate$Run" 23 3 3 := ⟨(RX3, TX3, 10), "DodgemDebate$Run", rfl, by decide, iw_3, (mtb 191 (by decide +kernel) rfl), Or.inl rfl⟩
set_option maxRecDepth 20000 in
theorem fl_X3_26_3 : mFL "DodgemDebate$Run" 26 3 4 := ⟨(RX3, TX3, 10), "DodgemDebate$Run", rfl, by decide, iw_3, (mtb 192 (by decide +kernel) rfl), Or.inl rfl⟩
set_option maxRecDepth 20000 in
theorem fl_X10_169_3 : mFL "DodgemDebate" 169 3 4 := ⟨(RX3, TX3, 10), "DodgemDebate$Run", rfl, by decide, iw_3, (mtb 193 (by decide +kernel) rfl), Or.inl rfl⟩
set_option maxRecDepth 20000 in
theorem fl_X3_48_3 : mFL "DodgemDebate$Run" 48 3 5 := ⟨(RX3, TX3, 10), "DodgemDebate$Run", rfl, by decide, iw_3, (mtb 194 (by decide +kernel) rfl), Or.inl rfl⟩
theorem fw_X3_48_3 : mFW "DodgemDebate$Run" 48 3 5 := ⟨fl_X3_48_3, (RX3, TX3, 10), rfl, rfl, tyX3_ok, nmX3⟩
set_option maxRecDepth 20000 in
theorem fl_X5_28_3 : mFL "DodgemDebate$Sightings" 28 3 5 := ⟨(RX3, TX3, 10), "DodgemDebate$Run", rfl, by decide, iw_3, (mtb 195 (by decide +kernel) rfl), Or.inl rfl⟩
theorem fw_X5_28_3 : mFW "DodgemDebate$Sightings" 28 3 5 := ⟨fl_X5_28_3, (RX3, TX3, 10), rfl, rfl, tyX3_ok, nmX3⟩
set_option maxRecDepth 20000 in
theorem fl_X9_133_3 : mFL "DodgemDebate$Trials" 133 3 5 := ⟨(RX3, TX3, 10), "DodgemDebate$Run", rfl, by decide, iw_3, (mtb 196 (by decide +kernel) rfl), Or.inl rfl⟩
theorem fw_X9_133_3 : mFW "DodgemDebate$Trials" 133 3 5 := ⟨fl_X9_133_3, (RX3, TX3, 10), rfl, rfl, tyX3_ok, nmX3⟩
set_option maxRecDepth 20000 in
theorem fl_X3_62_3 : mFL "DodgemDebate$Run" 62 3 6 := ⟨(RX3, TX3, 10), "DodgemDebate$Run", rfl, by decide, iw_3, (mtb 197 (by decide +kernel) rfl), Or.inl rfl⟩
theorem fw_X3_62_3 : mFW "DodgemDebate$Run" 62 3 6 := ⟨fl_X3_62_3, (RX3, TX3, 10), rfl, rfl, tyX3_ok, nmX3⟩
set_option maxRecDepth 20000 in
theorem fl_X10_150_3 : mFL "DodgemDebate" 150 3 6 := ⟨(RX3, TX3, 10), "DodgemDebate$Run", rfl, by decide, iw_3, (mtb 198 (by decide +kernel) rfl), Or.inl rfl⟩
theorem fw_X10_150_3 : mFW "DodgemDebate" 150 3 6 := ⟨fl_X10_150_3, (RX3, TX3, 10), rfl, rfl, tyX3_ok, nmX3⟩
set_option maxRecDepth 20000 in
theorem fl_X3_29_3 : mFL "DodgemDebate$Run" 29 3 7 := ⟨(RX3, TX3, 10), "DodgemDebate$Run", rfl, by decide, iw_3, (mtb 199 (by decide +kernel) rfl), Or.inl rfl⟩
theorem fw_X3_29_3 : mFW "DodgemDebate$Run" 29 3 7 := ⟨fl_X3_29_3, (RX3, TX3, 10), rfl, rfl, tyX3_ok, nmX3⟩
set_option maxRecDepth 20000 in
theorem fl_X10_153_3 : mFL "DodgemDebate" 153 3 7 := ⟨(RX3, TX3, 10), "DodgemDebate$Run", rfl, by decide, iw_3, (mtb 200 (by decide +kernel) rfl), Or.inl rfl⟩
theorem fw_X10_153_3 : mFW "DodgemDebate" 153 3 7 := ⟨fl_X10_153_3, (RX3, TX3, 10), rfl, rfl, tyX3_ok, nmX3⟩
set_option maxRecDepth 20000 in
theorem fl_X3_33_3 : mFL "DodgemDebate$Run" 33 3 8 := ⟨(RX3, TX3, 10), "DodgemDebate$Run", rfl, by decide, iw_3, (mtb 201 (by decide +kernel) rfl), Or.inl rfl⟩
theorem fw_X3_33_3 : mFW "DodgemDebate$Run" 33 3 8 := ⟨fl_X3_33_3, (RX3, TX3, 10), rfl, rfl, tyX3_ok, nmX3⟩
set_option maxRecDepth 20000 in
theorem fl_X10_156_3 : mFL "DodgemDebate" 156 3 8 := ⟨(RX3, TX3, 10), "DodgemDebate$Run", rfl, by decide, iw_3, (mtb 202 (by decide +kernel) rfl), Or.inl rfl⟩
theorem fw_X10_156_3 : mFW "DodgemDebate" 156 3 8 := ⟨fl_X10_156_3, (RX3, TX3, 10), rfl, rfl, tyX3_ok, nmX3⟩
set_option maxRecDepth 20000 in
theorem fl_X3_65_3 : mFL "DodgemDebate$Run" 65 3 9 := ⟨(RX3, TX3, 10), "DodgemDebate$Run", rfl, by decide, iw_3, (mtb 203 (by decide +kernel) rfl), Or.inl rfl⟩
theorem fw_X3_65_3 : mFW "DodgemDebate$Run" 65 3 9 := ⟨fl_X3_65_3, (RX3, TX3, 10), rfl, rfl, tyX3_ok, nmX3⟩
set_option maxRecDepth 20000 in
theorem fl_X9_41_8 : mFL "DodgemDebate$Trials" 41 8 0 := ⟨(RX9, TX9, 10), "DodgemDebate$Trials", rfl, by decide, iw_8, (mtb 238 (by decide +kernel) rfl), Or.inl rfl⟩
set_option maxRecDepth 20000 in
theorem fl_X9_44_8 : mFL "DodgemDebate$Trials" 44 8 1 := ⟨(RX9, TX9, 10), "DodgemDebate$Trials", rfl, by decide, iw_8, (mtb 239 (by decide +kernel) rfl), Or.inl rfl⟩
set_option maxRecDepth 20000 in
theorem fl_X9_48_8 : mFL "DodgemDebate$Trials" 48 8 2 := ⟨(RX9, TX9, 10), "DodgemDebate$Trials", rfl, by decide, iw_8, (mtb 240 (by decide +kernel) rfl), Or.inl rfl⟩
set_option maxRecDepth 20000 in
theorem fl_X9_51_8 : mFL "DodgemDebate$Trials" 51 8 3 := ⟨(RX9, TX9, 10), "DodgemDebate$Trials", rfl, by decide, iw_8, (mtb 241 (by decide +kernel) rfl), Or.inl rfl⟩
set_option maxRecDepth 20000 in
theorem fl_X9_12_8 : mFL "DodgemDebate$Trials" 12 8 4 := ⟨(RX9, TX9, 10), "DodgemDebate$Trials", rfl, by decide, iw_8, (mtb 242 (by decide +kernel) rfl), Or.inl rfl⟩
set_option maxRecDepth 20000 in
theorem fl_X9_21_8 : mFL "DodgemDebate$Trials" 21 8 5 := ⟨(RX9, TX9, 10), "DodgemDebate$Trials", rfl, by decide, iw_8, (mtb 243 (by decide +kernel) rfl), Or.inl rfl⟩
set_option maxRecDepth 20000 in
theorem fl_X9_28_8 : mFL "DodgemDebate$Trials" 28 8 6 := ⟨(RX9, TX9, 10), "DodgemDebate$Trials", rfl, by decide, iw_8, (mtb 244 (by decide +kernel) rfl), Or.inl rfl⟩
set_option maxRecDepth 20000 in
theorem fl_X10_229_8 : mFL "DodgemDebate" 229 8 6 := ⟨(RX9, TX9, 10), "DodgemDebate$Trials", rfl, by decide, iw_8, (mtb 245 (by decide +kernel) rfl), Or.inl rfl⟩
set_option maxRecDepth 20000 in
theorem fl_X9_34_8 : mFL "DodgemDebate$Trials" 34 8 7 := ⟨(RX9, TX9, 10), "DodgemDebate$Trials", rfl, by decide, iw_8, (mtb 246 (by decide +kernel) rfl), Or.inl rfl⟩
set_option maxRecDepth 20000 in
theorem fl_X9_37_8 : mFL "DodgemDebate$Trials" 37 8 8 := ⟨(RX9, TX9, 10), "DodgemDebate$Trials", rfl, by decide, iw_8, (mtb 247 (by decide +kernel) rfl), Or.inl rfl⟩
set_option maxRecDepth 20000 in
theorem fl_X9_129_8 : mFL "DodgemDebate$Trials" 129 8 9 := ⟨(RX9, TX9, 10), "DodgemDebate$Trials", rfl, by decide, iw_8, (mtb 248 (by decide +kernel) rfl), Or.inl rfl⟩
theorem fw_X9_129_8 : mFW "DodgemDebate$Trials" 129 8 9 := ⟨fl_X9_129_8, (RX9, TX9, 10), rfl, rfl, tyX9_ok, nmX9⟩
set_option maxRecDepth 20000 in
theorem fl_X10_301_8 : mFL "DodgemDebate" 301 8 9 := ⟨(RX9, TX9, 10), "DodgemDebate$Trials", rfl, by decide, iw_8, (mtb 249 (by decide +kernel) rfl), Or.inl rfl⟩
theorem fw_X10_301_8 : mFW "DodgemDebate" 301 8 9 := ⟨fl_X10_301_8, (RX9, TX9, 10), rfl, rfl, tyX9_ok, nmX9⟩
set_option maxRecDepth 20000 in
theorem fl_X2_9_2 : mFL "DodgemDebate$Hash" 9 2 0 := ⟨(RX2, TX2, 1), "DodgemDebate$Hash", rfl, by decide, iw_2, (mtb 277 (by decide +kernel) rfl), Or.inl rfl⟩
theorem fw_X2_9_2 : mFW "DodgemDebate$Hash" 9 2 0 := ⟨fl_X2_9_2, (RX2, TX2, 1), rfl, rfl, tyX2_ok, nmX2⟩
set_option maxRecDepth 20000 in
theorem fl_X10_265_2 : mFL "DodgemDebate" 265 2 0 := ⟨(RX2, TX2, 1), "DodgemDebate$Hash", rfl, by decide, iw_2, (mtb 278 (by decide +kernel) rfl), Or.inl rfl⟩
theorem fw_X10_265_2 : mFW "DodgemDebate" 265 2 0 := ⟨fl_X10_265_2, (RX2, TX2, 1), rfl, rfl, tyX2_ok, nmX2⟩
set_option maxRecDepth 20000 in
theorem fl_X10_12_9 : mFL "DodgemDebate" 12 9 0 := ⟨(RX10, TX10, 11), "DodgemDebate", rfl, by decide, iw_9, (mtb 282 (by decide +kernel) rfl), Or.inl rfl⟩
set_option maxRecDepth 20000 in
theorem fl_X10_16_9 : mFL "DodgemDebate" 16 9 1 := ⟨(RX10, TX10, 11), "DodgemDebate", rfl, by decide, iw_9, (mtb 283 (by decide +kernel) rfl), Or.inl rfl⟩
set_option maxRecDepth 20000 in
theorem fl_X10_22_9 : mFL "DodgemDebate" 22 9 2 := ⟨(RX10, TX10, 11), "DodgemDebate", rfl, by decide, iw_9, (mtb 284 (by decide +kernel) rfl), Or.inl rfl⟩
set_option maxRecDepth 20000 in
theorem fl_X10_29_9 : mFL "DodgemDebate" 29 9 3 := ⟨(RX10, TX10, 11), "DodgemDebate", rfl, by decide, iw_9, (mtb 285 (by decide +kernel) rfl), Or.inl rfl⟩
set_option maxRecDepth 20000 in
theorem fl_X10_36_9 : mFL "DodgemDebate" 36 9 4 := ⟨(RX10, TX10, 11), "DodgemDebate", rfl, by decide, iw_9, (mtb 286 (by decide +kernel) rfl), Or.inl rfl⟩
set_option maxRecDepth 20000 in
theorem fl_X10_43_9 : mFL "DodgemDebate" 43 9 5 := ⟨(RX10, TX10, 11), "DodgemDebate", rfl, by decide, iw_9, (mtb 287 (by decide +kernel) rfl), Or.inl rfl⟩
set_option maxRecDepth 20000 in
theorem fl_X10_50_9 : mFL "DodgemDebate" 50 9 6 := ⟨(RX10, TX10, 11), "DodgemDebate", rfl, by decide, iw_9, (mtb 288 (by decide +kernel) rfl), Or.inl rfl⟩
set_option maxRecDepth 20000 in
theorem fl_X10_57_9 : mFL "DodgemDebate" 57 9 7 := ⟨(RX10, TX10, 11), "DodgemDebate", rfl, by decide, iw_9, (mtb 289 (by decide +kernel) rfl), Or.inl rfl⟩
set_option maxRecDepth 20000 in
theorem fl_X10_66_9 : mFL "DodgemDebate" 66 9 8 := ⟨(RX10, TX10, 11), "DodgemDebate", rfl, by decide, iw_9, (mtb 290 (by decide +kernel) rfl), Or.inl rfl⟩
set_option maxRecDepth 20000 in
theorem fl_X10_73_9 : mFL "DodgemDebate" 73 9 9 := ⟨(RX10, TX10, 11), "DodgemDebate", rfl, by decide, iw_9, (mtb 291 (by decide +kernel) rfl), Or.inl rfl⟩
set_option maxRecDepth 20000 in
theorem fl_X10_77_9 : mFL "DodgemDebate" 77 9 10 := ⟨(RX10, TX10, 11), "DodgemDebate", rfl, by decide, iw_9, (mtb 292 (by decide +kernel) rfl), Or.inl rfl⟩
theorem fw_X10_77_9 : mFW "DodgemDebate" 77 9 10 := ⟨fl_X10_77_9, (RX10, TX10, 11), rfl, rfl, tyX10_ok, nmX10⟩
set_option maxRecDepth 20000 in
theorem fl_X11_7_10 : mFL "DodgemDebateModel" 7 10 0 := ⟨(RX11, TX11, 53), "DodgemDebateModel", rfl, by decide, iw_10, (mtb 890 (by decide +kernel) rfl), Or.inl rfl⟩
set_option maxRecDepth 20000 in
theorem fl_X11_13_10 : mFL "DodgemDebateModel" 13 10 1 := ⟨(RX11, TX11, 53), "DodgemDebateModel", rfl, by decide, iw_10, (mtb 891 (by decide +kernel) rfl), Or.inl rfl⟩
set_option maxRecDepth 20000 in
theorem fl_X11_161_10 : mFL "DodgemDebateModel" 161 10 2 := ⟨(RX11, TX11, 53), "DodgemDebateModel", rfl, by decide, iw_10, (mtb 892 (by decide +kernel) rfl), Or.inl rfl⟩
theorem fw_X11_161_10 : mFW "DodgemDebateModel" 161 10 2 := ⟨fl_X11_161_10, (RX11, TX11, 53), rfl, rfl, tyX11_ok, nmX11⟩
set_option maxRecDepth 20000 in
theorem fl_X11_16_10 : mFL "DodgemDebateModel" 16 10 3 := ⟨(RX11, TX11, 53), "DodgemDebateModel", rfl, by decide, iw_10, (mtb 893 (by decide +kernel) rfl), Or.inl rfl⟩
set_option maxRecDepth 20000 in
theorem fl_X11_19_10 : mFL "DodgemDebateModel" 19 10 4 := ⟨(RX11, TX11, 53), "DodgemDebateModel", rfl, by decide, iw_10, (mtb 894 (by decide +kernel) rfl), Or.inl rfl⟩
set_option maxRecDepth 20000 in
theorem fl_X11_22_10 : mFL "DodgemDebateModel" 22 10 5 := ⟨(RX11, TX11, 53), "DodgemDebateModel", rfl, by decide, iw_10, (mtb 895 (by decide +kernel) rfl), Or.inl rfl⟩
set_option maxRecDepth 20000 in
theorem fl_X11_25_10 : mFL "DodgemDebateModel" 25 10 6 := ⟨(RX11, TX11, 53), "DodgemDebateModel", rfl, by decide, iw_10, (mtb 896 (by decide +kernel) rfl), Or.inl rfl⟩
set_option maxRecDepth 20000 in
theorem fl_X11_28_10 : mFL "DodgemDebateModel" 28 10 7 := ⟨(RX11, TX11, 53), "DodgemDebateModel", rfl, by decide, iw_10, (mtb 897 (by decide +kernel) rfl), Or.inl rfl⟩
set_option maxRecDepth 20000 in
theorem fl_X11_165_10 : mFL "DodgemDebateModel" 165 10 8 := ⟨(RX11, TX11, 53), "DodgemDebateModel", rfl, by decide, iw_10, (mtb 898 (by decide +kernel) rfl), Or.inl rfl⟩
theorem fw_X11_165_10 : mFW "DodgemDebateModel" 165 10 8 := ⟨fl_X11_165_10, (RX11, TX11, 53), rfl, rfl, tyX11_ok, nmX11⟩
set_option maxRecDepth 20000 in
theorem fl_X11_31_10 : mFL "DodgemDebateModel" 31 10 9 := ⟨(RX11, TX11, 53), "DodgemDebateModel", rfl, by decide, iw_10, (mtb 899 (by decide +kernel) rfl), Or.inl rfl⟩
set_option maxRecDepth 20000 in
theorem fl_X11_34_10 : mFL "DodgemDebateModel" 34 10 10 := ⟨(RX11, TX11, 53), "DodgemDebateModel", rfl, by decide, iw_10, (mtb 900 (by decide +kernel) rfl), Or.inl rfl⟩
set_option maxRecDepth 20000 in
theorem fl_X11_37_10 : mFL "DodgemDebateModel" 37 10 11 := ⟨(RX11, TX11, 53), "DodgemDebateModel", rfl, by decide, iw_10, (mtb 901 (by decide +kernel) rfl), Or.inl rfl⟩
set_option maxRecDepth 20000 in
theorem fl_X11_204_10 : mFL "DodgemDebateModel" 204 10 12 := ⟨(RX11, TX11, 53), "DodgemDebateModel", rfl, by decide, iw_10, (mtb 902 (by decide +kernel) rfl), Or.inl rfl⟩
theorem fw_X11_204_10 : mFW "DodgemDebateModel" 204 10 12 := ⟨fl_X11_204_10, (RX11, TX11, 53), rfl, rfl, tyX11_ok, nmX11⟩
set_option maxRecDepth 20000 in
theorem fl_X11_40_10 : mFL "DodgemDebateModel" 40 10 13 := ⟨(RX11, TX11, 53), "DodgemDebateModel", rfl, by decide, iw_10, (mtb 903 (by decide +kernel) rfl), Or.inl rfl⟩
set_option maxRecDepth 20000 in
theorem fl_X11_43_10 : mFL "DodgemDebateModel" 43 10 14 := ⟨(RX11, TX11, 53), "DodgemDebateModel", rfl, by decide, iw_10, (mtb 904 (by decide +kernel) rfl), Or.inl rfl⟩
set_option maxRecDepth 20000 in
theorem fl_X11_46_10 : mFL "DodgemDebateModel" 46 10 15 := ⟨(RX11, TX11, 53), "DodgemDebateModel", rfl, by decide, iw_10, (mtb 905 (by decide +kernel) rfl), Or.inl rfl⟩
set_option maxRecDepth 20000 in
theorem fl_X11_217_10 : mFL "DodgemDebateModel" 217 10 16 := ⟨(RX11, TX11, 53), "DodgemDebateModel", rfl, by decide, iw_10, (mtb 906 (by decide +kernel) rfl), Or.inl rfl⟩
theorem fw_X11_217_10 : mFW "DodgemDebateModel" 217 10 16 := ⟨fl_X11_217_10, (RX11, TX11, 53), rfl, rfl, tyX11_ok, nmX11⟩
set_option maxRecDepth 20000 in
theorem fl_X11_220_10 : mFL "DodgemDebateModel" 220 10 17 := ⟨(RX11, TX11, 53), "DodgemDebateModel", rfl, by decide, iw_10, (mtb 907 (by decide +kernel) rfl), Or.inl rfl⟩
theorem fw_X11_220_10 : mFW "DodgemDebateModel" 220 10 17 := ⟨fl_X11_220_10, (RX11, TX11, 53), rfl, rfl, tyX11_ok, nmX11⟩
set_option maxRecDepth 20000 in
theorem fl_X11_49_10 : mFL "DodgemDebateModel" 49 10 18 := ⟨(RX11, TX11, 53), "DodgemDebateModel", rfl, by decide, iw_10, (mtb 908 (by decide +kernel) rfl), Or.inl rfl⟩
set_option maxRecDepth 20000 in
theorem fl_X11_52_10 : mFL "DodgemDebateModel" 52 10 19 := ⟨(RX11, TX11, 53), "DodgemDebateModel", rfl, by decide, iw_10, (mtb 909 (by decide +kernel) rfl), Or.inl rfl⟩
set_option maxRecDepth 20000 in
theorem fl_X11_55_10 : mFL "DodgemDebateModel" 55 10 20 := ⟨(RX11, TX11, 53), "DodgemDebateModel", rfl, by decide, iw_10, (mtb 910 (by decide +kernel) rfl), Or.inl rfl⟩
set_option maxRecDepth 20000 in
theorem fl_X11_223_10 : mFL "DodgemDebateModel" 223 10 21 := ⟨(RX11, TX11, 53), "DodgemDebateModel", rfl, by decide, iw_10, (mtb 911 (by decide +kernel) rfl), Or.inl rfl⟩
theorem fw_X11_223_10 : mFW "DodgemDebateModel" 223 10 21 := ⟨fl_X11_223_10, (RX11, TX11, 53), rfl, rfl, tyX11_ok, nmX11⟩
set_option maxRecDepth 20000 in
theorem fl_X11_58_10 : mFL "DodgemDebateModel" 58 10 22 := ⟨(RX11, TX11, 53), "DodgemDebateModel", rfl, by decide, iw_10, (mtb 912 (by decide +kernel) rfl), Or.inl rfl⟩
set_option maxRecDepth 20000 in
theorem fl_X11_61_10 : mFL "DodgemDebateModel" 61 10 23 := ⟨(RX11, TX11, 53), "DodgemDebateModel", rfl, by decide, iw_10, (mtb 913 (by decide +kernel) rfl), Or.inl rfl⟩
set_option maxRecDepth 20000 in
theorem fl_X11_64_10 : mFL "DodgemDebateModel" 64 10 24 := ⟨(RX11, TX11, 53), "DodgemDebateModel", rfl, by decide, iw_10, (mtb 914 (by decide +kernel) rfl), Or.inl rfl⟩
set_option maxRecDepth 20000 in
theorem fl_X11_67_10 : mFL "DodgemDebateModel" 67 10 25 := ⟨(RX11, TX11, 53), "DodgemDebateModel", rfl, by decide, iw_10, (mtb 915 (by decide +kernel) rfl), Or.inl rfl⟩
set_option maxRecDepth 20000 in
theorem fl_X11_70_10 : mFL "DodgemDebateModel" 70 10 26 := ⟨(RX11, TX11, 53), "DodgemDebateModel", rfl, by decide, iw_10, (mtb 916 (by decide +kernel) rfl), Or.inl rfl⟩
set_option maxRecDepth 20000 in
theorem fl_X11_73_10 : mFL "DodgemDebateModel" 73 10 27 := ⟨(RX11, TX11, 53), "DodgemDebateModel", rfl, by decide, iw_10, (mtb 917 (by decide +kernel) rfl), Or.inl rfl⟩
set_option maxRecDepth 20000 in
theorem fl_X11_256_10 : mFL "DodgemDebateModel" 256 10 28 := ⟨(RX11, TX11, 53), "DodgemDebateModel", rfl, by decide, iw_10, (mtb 918 (by decide +kernel) rfl), Or.inl rfl⟩
theorem fw_X11_256_10 : mFW "DodgemDebateModel" 256 10 28 := ⟨fl_X11_256_10, (RX11, TX11, 53), rfl, rfl, tyX11_ok, nmX11⟩
set_option maxRecDepth 20000 in
theorem fl_X11_226_10 : mFL "DodgemDebateModel" 226 10 29 := ⟨(RX11, TX11, 53), "DodgemDebateModel", rfl, by decide, iw_10, (mtb 919 (by decide +kernel) rfl), Or.inl rfl⟩
theorem fw_X11_226_10 : mFW "DodgemDebateModel" 226 10 29 := ⟨fl_X11_226_10, (RX11, TX11, 53), rfl, rfl, tyX11_ok, nmX11⟩
set_option maxRecDepth 20000 in
theorem fl_X11_229_10 : mFL "DodgemDebateModel" 229 10 30 := ⟨(RX11, TX11, 53), "DodgemDebateModel", rfl, by decide, iw_10, (mtb 920 (by decide +kernel) rfl), Or.inl rfl⟩
theorem fw_X11_229_10 : mFW "DodgemDebateModel" 229 10 30 := ⟨fl_X11_229_10, (RX11, TX11, 53), rfl, rfl, tyX11_ok, nmX11⟩
set_option maxRecDepth 20000 in
theorem fl_X11_232_10 : mFL "DodgemDebateModel" 232 10 31 := ⟨(RX11, TX11, 53), "DodgemDebateModel", rfl, by decide, iw_10, (mtb 921 (by decide +kernel) rfl), Or.inl rfl⟩
theorem fw_X11_232_10 : mFW "DodgemDebateModel" 232 10 31 := ⟨fl_X11_232_10, (RX11, TX11, 53), rfl, rfl, tyX11_ok, nmX11⟩
set_option maxRecDepth 20000 in
theorem fl_X11_76_10 : mFL "DodgemDebateModel" 76 10 32 := ⟨(RX11, TX11, 53), "DodgemDebateModel", rfl, by decide, iw_10, (mtb 922 (by decide +kernel) rfl), Or.inl rfl⟩
set_option maxRecDepth 20000 in
theorem fl_X11_79_10 : mFL "DodgemDebateModel" 79 10 33 := ⟨(RX11, TX11, 53), "DodgemDebateModel", rfl, by decide, iw_10, (mtb 923 (by decide +kernel) rfl), Or.inl rfl⟩
set_option maxRecDepth 20000 in
theorem fl_X11_82_10 : mFL "DodgemDebateModel" 82 10 34 := ⟨(RX11, TX11, 53), "DodgemDebateModel", rfl, by decide, iw_10, (mtb 924 (by decide +kernel) rfl), Or.inl rfl⟩
set_option maxRecDepth 20000 in
theorem fl_X11_85_10 : mFL "DodgemDebateModel" 85 10 35 := ⟨(RX11, TX11, 53), "DodgemDebateModel", rfl, by decide, iw_10, (mtb 925 (by decide +kernel) rfl), Or.inl rfl⟩
set_option maxRecDepth 20000 in
theorem fl_X11_88_10 : mFL "DodgemDebateModel" 88 10 36 := ⟨(RX11, TX11, 53), "DodgemDebateModel", rfl, by decide, iw_10, (mtb 926 (by decide +kernel) rfl), Or.inl rfl⟩
set_option maxRecDepth 20000 in
theorem fl_X11_91_10 : mFL "DodgemDebateModel" 91 10 37 := ⟨(RX11, TX11, 53), "DodgemDebateModel", rfl, by decide, iw_10, (mtb 927 (by decide +kernel) rfl), Or.inl rfl⟩
set_option maxRecDepth 20000 in
theorem fl_X11_94_10 : mFL "DodgemDebateModel" 94 10 38 := ⟨(RX11, TX11, 53), "DodgemDebateModel", rfl, by decide, iw_10, (mtb 928 (by decide +kernel) rfl), Or.inl rfl⟩
set_option maxRecDepth 20000 in
theorem fl_X11_97_10 : mFL "DodgemDebateModel" 97 10 39 := ⟨(RX11, TX11, 53), "DodgemDebateModel", rfl, by decide, iw_10, (mtb 929 (by decide +kernel) rfl), Or.inl rfl⟩
set_option maxRecDepth 20000 in
theorem fl_X11_100_10 : mFL "DodgemDebateModel" 100 10 40 := ⟨(RX11, TX11, 53), "DodgemDebateModel", rfl, by decide, iw_10, (mtb 930 (by decide +kernel) rfl), Or.inl rfl⟩
set_option maxRecDepth 20000 in
theorem fl_X11_334_10 : mFL "DodgemDebateModel" 334 10 41 := ⟨(RX11, TX11, 53), "DodgemDebateModel", rfl, by decide, iw_10, (mtb 931 (by decide +kernel) rfl), Or.inl rfl⟩
theorem fw_X11_334_10 : mFW "DodgemDebateModel" 334 10 41 := ⟨fl_X11_334_10, (RX11, TX11, 53), rfl, rfl, tyX11_ok, nmX11⟩
set_option maxRecDepth 20000 in
theorem fl_X11_103_10 : mFL "DodgemDebateModel" 103 10 42 := ⟨(RX11, TX11, 53), "DodgemDebateModel", rfl, by decide, iw_10, (mtb 932 (by decide +kernel) rfl), Or.inl rfl⟩
set_option maxRecDepth 20000 in
theorem fl_X11_106_10 : mFL "DodgemDebateModel" 106 10 43 := ⟨(RX11, TX11, 53), "DodgemDebateModel", rfl, by decide, iw_10, (mtb 933 (by decide +kernel) rfl), Or.inl rfl⟩
set_option maxRecDepth 20000 in
theorem fl_X11_109_10 : mFL "DodgemDebateModel" 109 10 44 := ⟨(RX11, TX11, 53), "DodgemDebateModel", rfl, by decide, iw_10, (mtb 934 (by decide +kernel) rfl), Or.inl rfl⟩
set_option maxRecDepth 20000 in
theorem fl_X11_112_10 : mFL "DodgemDebateModel" 112 10 45 := ⟨(RX11, TX11, 53), "DodgemDebateModel", rfl, by decide, iw_10, (mtb 935 (by decide +kernel) rfl), Or.inl rfl⟩
set_option maxRecDepth 20000 in
theorem fl_X11_115_10 : mFL "DodgemDebateModel" 115 10 46 := ⟨(RX11, TX11, 53), "DodgemDebateModel", rfl, by decide, iw_10, (mtb 936 (by decide +kernel) rfl), Or.inl rfl⟩
set_option maxRecDepth 20000 in
theorem fl_X11_118_10 : mFL "DodgemDebateModel" 118 10 47 := ⟨(RX11, TX11, 53), "DodgemDebateModel", rfl, by decide, iw_10, (mtb 937 (by decide +kernel) rfl), Or.inl rfl⟩
set_option maxRecDepth 20000 in
theorem fl_X11_122_10 : mFL "DodgemDebateModel" 122 10 48 := ⟨(RX11, TX11, 53), "DodgemDebateModel", rfl, by decide, iw_10, (mtb 938 (by decide +kernel) rfl), Or.inl rfl⟩
set_option maxRecDepth 20000 in
theorem fl_X11_125_10 : mFL "DodgemDebateModel" 125 10 49 := ⟨(RX11, TX11, 53), "DodgemDebateModel", rfl, by decide, iw_10, (mtb 939 (by decide +kernel) rfl), Or.inl rfl⟩
set_option maxRecDepth 20000 in
theorem fl_X11_128_10 : mFL "DodgemDebateModel" 128 10 50 := ⟨(RX11, TX11, 53), "DodgemDebateModel", rfl, by decide, iw_10, (mtb 940 (by decide +kernel) rfl), Or.inl rfl⟩
set_option maxRecDepth 20000 in
theorem fl_X11_131_10 : mFL "DodgemDebateModel" 131 10 51 := ⟨(RX11, TX11, 53), "DodgemDebateModel", rfl, by decide, iw_10, (mtb 941 (by decide +kernel) rfl), Or.inl rfl⟩
set_option maxRecDepth 20000 in
theorem fl_X11_372_10 : mFL "DodgemDebateModel" 372 10 52 := ⟨(RX11, TX11, 53), "DodgemDebateModel", rfl, by decide, iw_10, (mtb 942 (by decide +kernel) rfl), Or.inl rfl⟩
theorem fw_X11_372_10 : mFW "DodgemDebateModel" 372 10 52 := ⟨fl_X11_372_10, (RX11, TX11, 53), rfl, rfl, tyX11_ok, nmX11⟩
set_option maxRecDepth 20000 in
theorem cm_X10_init : Cond.code kX10_init.1 kX10_init.2.1 kX10_init.2.2.1 kX10_init.2.2.2 ∈ mtbl := mtb 26 (by rfl) rfl
set_option maxRecDepth 20000 in
theorem cm_X7_init : Cond.code kX7_init.1 kX7_init.2.1 kX7_init.2.2.1 kX7_init.2.2.2 ∈ mtbl := mtb 34 (by rfl) rfl
set_option maxRecDepth 20000 in
theorem cm_X0_init : Cond.code kX0_init.1 kX0_init.2.1 kX0_init.2.2.1 kX0_init.2.2.2 ∈ mtbl := mtb 51 (by rfl) rfl
set_option maxRecDepth 20000 in
theorem cm_X8_init : Cond.code kX8_init.1 kX8_init.2.1 kX8_init.2.2.1 kX8_init.2.2.2 ∈ mtbl := mtb 56 (by rfl) rfl
set_option maxRecDepth 20000 in
theorem cm_X6_init : Cond.code kX6_init.1 kX6_init.2.1 kX6_init.2.2.1 kX6_init.2.2.2 ∈ mtbl := mtb 99 (by rfl) rfl
set_option maxRecDepth 20000 in
theorem cm_X1_init : Cond.code kX1_init.1 kX1_init.2.1 kX1_init.2.2.1 kX1_init.2.2.2 ∈ mtbl := mtb 112 (by rfl) rfl
set_option maxRecDepth 20000 in
theorem cm_X5_init : Cond.code kX5_init.1 kX5_init.2.1 kX5_init.2.2.1 kX5_init.2.2.2 ∈ mtbl := mtb 137 (by rfl) rfl
set_option maxRecDepth 20000 in
theorem cm_X4_init : Cond.code kX4_init.1 kX4_init.2.1 kX4_init.2.2.1 kX4_init.2.2.2 ∈ mtbl := mtb 160 (by rfl) rfl
set_option maxRecDepth 20000 in
theorem cm_X3_init : Cond.code kX3_init.1 kX3_init.2.1 kX3_init.2.2.1 kX3_init.2.2.2 ∈ mtbl := mtb 184 (by rfl) rfl
set_option maxRecDepth 20000 in
theorem cm_X9_init : Cond.code kX9_init.1 kX9_init.2.1 kX9_init.2.2.1 kX9_init.2.2.2 ∈ mtbl := mtb 229 (by rfl) rfl
set_option maxRecDepth 20000 in
theorem cm_X2_init : Cond.code kX2_init.1 kX2_init.2.1 kX2_init.2.2.1 kX2_init.2.2.2 ∈ mtbl := mtb 275 (by rfl) rfl
set_option maxRecDepth 20000 in
theorem cm_X10_type : Cond.code kX10_type.1 kX10_type.2.1 kX10_type.2.2.1 kX10_type.2.2.2 ∈ mtbl := mtb 319 (by rfl) rfl
set_option maxRecDepth 20000 in
theorem cm_X10_within : Cond.code kX10_within.1 kX10_within.2.1 kX10_within.2.2.1 kX10_within.2.2.2 ∈ mtbl := mtb 322 (by rfl) rfl
set_option maxRecDepth 20000 in
theorem cm_X10_textOf : Cond.code kX10_textOf.1 kX10_textOf.2.1 kX10_textOf.2.2.1 kX10_textOf.2.2.2 ∈ mtbl := mtb 326 (by rfl) rfl
set_option maxRecDepth 20000 in
theorem cm_X7_append : Cond.code kX7_append.1 kX7_append.2.1 kX7_append.2.2.1 kX7_append.2.2.2 ∈ mtbl := mtb 330 (by rfl) rfl
set_option maxRecDepth 20000 in
theorem cm_X10_wipe : Cond.code kX10_wipe.1 kX10_wipe.2.1 kX10_wipe.2.2.1 kX10_wipe.2.2.2 ∈ mtbl := mtb 334 (by rfl) rfl
set_option maxRecDepth 20000 in
theorem cm_X10_undo : Cond.code kX10_undo.1 kX10_undo.2.1 kX10_undo.2.2.1 kX10_undo.2.2.2 ∈ mtbl := mtb 338 (by rfl) rfl
set_option maxRecDepth 20000 in
theorem cm_X10_fault : Cond.code kX10_fault.1 kX10_fault.2.1 kX10_fault.2.2.1 kX10_fault.2.2.2 ∈ mtbl := mtb 342 (by rfl) rfl
set_option maxRecDepth 20000 in
theorem cm_X10_settle : Cond.code kX10_settle.1 kX10_settle.2.1 kX10_settle.2.2.1 kX10_settle.2.2.2 ∈ mtbl := mtb 346 (by rfl) rfl
set_option maxRecDepth 20000 in
theorem cm_X8_learn : Cond.code kX8_learn.1 kX8_learn.2.1 kX8_learn.2.2.1 kX8_learn.2.2.2 ∈ mtbl := mtb 352 (by rfl) rfl
set_option maxRecDepth 20000 in
theorem cm_X8_takes : Cond.code kX8_takes.1 kX8_takes.2.1 kX8_takes.2.2.1 kX8_takes.2.2.2 ∈ mtbl := mtb 356 (by rfl) rfl
set_option maxRecDepth 20000 in
theorem cm_X0_meaning : Cond.code kX0_meaning.1 kX0_meaning.2.1 kX0_meaning.2.2.1 kX0_meaning.2.2.2 ∈ mtbl := mtb 362 (by rfl) rfl
set_option maxRecDepth 20000 in
theorem cm_J0_indexOf_0f7a4 : Cond.code kJ0_indexOf_0f7a4.1 kJ0_indexOf_0f7a4.2.1 kJ0_indexOf_0f7a4.2.2.1 kJ0_indexOf_0f7a4.2.2.2 ∈ mtbl := mtb 367 (by rfl) rfl
set_option maxRecDepth 20000 in
theorem cm_J0_indexOf_7cf53 : Cond.code kJ0_indexOf_7cf53.1 kJ0_indexOf_7cf53.2.1 kJ0_indexOf_7cf53.2.2.1 kJ0_indexOf_7cf53.2.2.2 ∈ mtbl := mtb 371 (by rfl) rfl
set_option maxRecDepth 20000 in
theorem cm_J0_isLatin1_aae02 : Cond.code kJ0_isLatin1_aae02.1 kJ0_isLatin1_aae02.2.1 kJ0_isLatin1_aae02.2.2.1 kJ0_isLatin1_aae02.2.2.2 ∈ mtbl := mtb 375 (by rfl) rfl
set_option maxRecDepth 20000 in
theorem cm_J0_length_8abf5 : Cond.code kJ0_length_8abf5.1 kJ0_length_8abf5.2.1 kJ0_length_8abf5.2.2.1 kJ0_length_8abf5.2.2.2 ∈ mtbl := mtb 381 (by rfl) rfl
set_option maxRecDepth 20000 in
theorem cm_J0_coder_7d493 : Cond.code kJ0_coder_7d493.1 kJ0_coder_7d493.2.1 kJ0_coder_7d493.2.2.1 kJ0_coder_7d493.2.2.2 ∈ mtbl := mtb 385 (by rfl) rfl
set_option maxRecDepth 20000 in
theorem cm_J1_indexOf_4cfef : Cond.code kJ1_indexOf_4cfef.1 kJ1_indexOf_4cfef.2.1 kJ1_indexOf_4cfef.2.2.1 kJ1_indexOf_4cfef.2.2.2 ∈ mtbl := mtb 388 (by rfl) rfl
set_option maxRecDepth 20000 in
theorem cm_J1_canEncode_9a6ad : Cond.code kJ1_canEncode_9a6ad.1 kJ1_canEncode_9a6ad.2.1 kJ1_canEncode_9a6ad.2.2.1 kJ1_canEncode_9a6ad.2.2.2 ∈ mtbl := mtb 391 (by rfl) rfl
set_option maxRecDepth 20000 in
theorem cm_J9_max_7cf53 : Cond.code kJ9_max_7cf53.1 kJ9_max_7cf53.2.1 kJ9_max_7cf53.2.2.1 kJ9_max_7cf53.2.2.2 ∈ mtbl := mtb 394 (by rfl) rfl
set_option maxRecDepth 20000 in
theorem cm_J9_min_7cf53 : Cond.code kJ9_min_7cf53.1 kJ9_min_7cf53.2.1 kJ9_min_7cf53.2.2.1 kJ9_min_7cf53.2.2.2 ∈ mtbl := mtb 397 (by rfl) rfl
set_option maxRecDepth 20000 in
theorem cm_J1_indexOfChar_4cfef : Cond.code kJ1_indexOfChar_4cfef.1 kJ1_indexOfChar_4cfef.2.1 kJ1_indexOfChar_4cfef.2.2.1 kJ1_indexOfChar_4cfef.2.2.2 ∈ mtbl := mtb 400 (by rfl) rfl
set_option maxRecDepth 20000 in
theorem cm_J0_checkBoundsBeginEnd_23922 : Cond.code kJ0_checkBoundsBeginEnd_23922.1 kJ0_checkBoundsBeginEnd_23922.2.1 kJ0_checkBoundsBeginEnd_23922.2.2.1 kJ0_checkBoundsBeginEnd_23922.2.2.2 ∈ mtbl := mtb 418 (by rfl) rfl
set_option maxRecDepth 20000 in
theorem cm_X0_isTaken : Cond.code kX0_isTaken.1 kX0_isTaken.2.1 kX0_isTaken.2.2.1 kX0_isTaken.2.2.2 ∈ mtbl := mtb 454 (by rfl) rfl
set_option maxRecDepth 20000 in
theorem cm_X6_meaning : Cond.code kX6_meaning.1 kX6_meaning.2.1 kX6_meaning.2.2.1 kX6_meaning.2.2.2 ∈ mtbl := mtb 459 (by rfl) rfl
set_option maxRecDepth 20000 in
theorem cm_X3_play : Cond.code kX3_play.1 kX3_play.2.1 kX3_play.2.2.1 kX3_play.2.2.2 ∈ mtbl := mtb 469 (by rfl) rfl
set_option maxRecDepth 20000 in
theorem cm_X3_begin : Cond.code kX3_begin.1 kX3_begin.2.1 kX3_begin.2.2.1 kX3_begin.2.2.2 ∈ mtbl := mtb 473 (by rfl) rfl
set_option maxRecDepth 20000 in
theorem cm_J7_fill_53178 : Cond.code kJ7_fill_53178.1 kJ7_fill_53178.2.1 kJ7_fill_53178.2.2.1 kJ7_fill_53178.2.2.2 ∈ mtbl := mtb 476 (by rfl) rfl
set_option maxRecDepth 20000 in
theorem cm_X3_doEvents : Cond.code kX3_doEvents.1 kX3_doEvents.2.1 kX3_doEvents.2.2.1 kX3_doEvents.2.2.2 ∈ mtbl := mtb 480 (by rfl) rfl
set_option maxRecDepth 20000 in
theorem cm_X3_doSteers : Cond.code kX3_doSteers.1 kX3_doSteers.2.1 kX3_doSteers.2.2.1 kX3_doSteers.2.2.2 ∈ mtbl := mtb 484 (by rfl) rfl
set_option maxRecDepth 20000 in
theorem cm_X3_go : Cond.code kX3_go.1 kX3_go.2.1 kX3_go.2.2.1 kX3_go.2.2.2 ∈ mtbl := mtb 488 (by rfl) rfl
set_option maxRecDepth 20000 in
theorem cm_X10_onFloor : Cond.code kX10_onFloor.1 kX10_onFloor.2.1 kX10_onFloor.2.2.1 kX10_onFloor.2.2.2 ∈ mtbl := mtb 495 (by rfl) rfl
set_option maxRecDepth 20000 in
theorem cm_X3_countStrike : Cond.code kX3_countStrike.1 kX3_countStrike.2.1 kX3_countStrike.2.2.1 kX3_countStrike.2.2.2 ∈ mtbl := mtb 499 (by rfl) rfl
set_option maxRecDepth 20000 in
theorem cm_X3_shift : Cond.code kX3_shift.1 kX3_shift.2.1 kX3_shift.2.2.1 kX3_shift.2.2.2 ∈ mtbl := mtb 503 (by rfl) rfl
set_option maxRecDepth 20000 in
theorem cm_X3_keep : Cond.code kX3_keep.1 kX3_keep.2.1 kX3_keep.2.2.1 kX3_keep.2.2.2 ∈ mtbl := mtb 507 (by rfl) rfl
set_option maxRecDepth 20000 in
theorem cm_X10_car : Cond.code kX10_car.1 kX10_car.2.1 kX10_car.2.2.1 kX10_car.2.2.2 ∈ mtbl := mtb 515 (by rfl) rfl
set_option maxRecDepth 20000 in
theorem cm_X10_steer : Cond.code kX10_steer.1 kX10_steer.2.1 kX10_steer.2.2.1 kX10_steer.2.2.2 ∈ mtbl := mtb 519 (by rfl) rfl
set_option maxRecDepth 20000 in
theorem cm_X6_partOf : Cond.code kX6_partOf.1 kX6_partOf.2.1 kX6_partOf.2.2.1 kX6_partOf.2.2.2 ∈ mtbl := mtb 523 (by rfl) rfl
set_option maxRecDepth 20000 in
theorem cm_X10_event : Cond.code kX10_event.1 kX10_event.2.1 kX10_event.2.2.1 kX10_event.2.2.2 ∈ mtbl := mtb 527 (by rfl) rfl
set_option maxRecDepth 20000 in
theorem cm_X1_fits : Cond.code kX1_fits.1 kX1_fits.2.1 kX1_fits.2.2.1 kX1_fits.2.2.2 ∈ mtbl := mtb 530 (by rfl) rfl
set_option maxRecDepth 20000 in
theorem cm_X1_append : Cond.code kX1_append.1 kX1_append.2.1 kX1_append.2.2.1 kX1_append.2.2.2 ∈ mtbl := mtb 535 (by rfl) rfl
set_option maxRecDepth 20000 in
theorem cm_X10_back : Cond.code kX10_back.1 kX10_back.2.1 kX10_back.2.2.1 kX10_back.2.2.2 ∈ mtbl := mtb 539 (by rfl) rfl
set_option maxRecDepth 20000 in
theorem cm_X10_read : Cond.code kX10_read.1 kX10_read.2.1 kX10_read.2.2.1 kX10_read.2.2.2 ∈ mtbl := mtb 543 (by rfl) rfl
set_option maxRecDepth 20000 in
theorem cm_X4_isLost : Cond.code kX4_isLost.1 kX4_isLost.2.1 kX4_isLost.2.2.1 kX4_isLost.2.2.2 ∈ mtbl := mtb 547 (by rfl) rfl
set_option maxRecDepth 20000 in
theorem cm_X4_found : Cond.code kX4_found.1 kX4_found.2.1 kX4_found.2.2.1 kX4_found.2.2.2 ∈ mtbl := mtb 551 (by rfl) rfl
set_option maxRecDepth 20000 in
theorem cm_X10_at : Cond.code kX10_at.1 kX10_at.2.1 kX10_at.2.2.1 kX10_at.2.2.2 ∈ mtbl := mtb 555 (by rfl) rfl
set_option maxRecDepth 20000 in
theorem cm_X3_behind : Cond.code kX3_behind.1 kX3_behind.2.1 kX3_behind.2.2.1 kX3_behind.2.2.2 ∈ mtbl := mtb 559 (by rfl) rfl
set_option maxRecDepth 20000 in
theorem cm_X10_who : Cond.code kX10_who.1 kX10_who.2.1 kX10_who.2.2.1 kX10_who.2.2.2 ∈ mtbl := mtb 563 (by rfl) rfl
set_option maxRecDepth 20000 in
theorem cm_X3_inCell : Cond.code kX3_inCell.1 kX3_inCell.2.1 kX3_inCell.2.2.1 kX3_inCell.2.2.2 ∈ mtbl := mtb 568 (by rfl) rfl
set_option maxRecDepth 20000 in
theorem cm_X10_house : Cond.code kX10_house.1 kX10_house.2.1 kX10_house.2.2.1 kX10_house.2.2.2 ∈ mtbl := mtb 573 (by rfl) rfl
set_option maxRecDepth 20000 in
theorem cm_X3_division : Cond.code kX3_division.1 kX3_division.2.1 kX3_division.2.2.1 kX3_division.2.2.2 ∈ mtbl := mtb 577 (by rfl) rfl
set_option maxRecDepth 20000 in
theorem cm_X3_ayes : Cond.code kX3_ayes.1 kX3_ayes.2.1 kX3_ayes.2.2.1 kX3_ayes.2.2.2 ∈ mtbl := mtb 581 (by rfl) rfl
set_option maxRecDepth 20000 in
theorem cm_X10_strikes : Cond.code kX10_strikes.1 kX10_strikes.2.1 kX10_strikes.2.2.1 kX10_strikes.2.2.2 ∈ mtbl := mtb 585 (by rfl) rfl
set_option maxRecDepth 20000 in
theorem cm_X10_first : Cond.code kX10_first.1 kX10_first.2.1 kX10_first.2.2.1 kX10_first.2.2.2 ∈ mtbl := mtb 589 (by rfl) rfl
set_option maxRecDepth 20000 in
theorem cm_X10_best : Cond.code kX10_best.1 kX10_best.2.1 kX10_best.2.2.1 kX10_best.2.2.2 ∈ mtbl := mtb 593 (by rfl) rfl
set_option maxRecDepth 20000 in
theorem cm_X3_leader : Cond.code kX3_leader.1 kX3_leader.2.1 kX3_leader.2.2.1 kX3_leader.2.2.2 ∈ mtbl := mtb 597 (by rfl) rfl
set_option maxRecDepth 20000 in
theorem cm_X10_meek : Cond.code kX10_meek.1 kX10_meek.2.1 kX10_meek.2.2.1 kX10_meek.2.2.2 ∈ mtbl := mtb 601 (by rfl) rfl
set_option maxRecDepth 20000 in
theorem cm_X3_untouched : Cond.code kX3_untouched.1 kX3_untouched.2.1 kX3_untouched.2.2.1 kX3_untouched.2.2.2 ∈ mtbl := mtb 605 (by rfl) rfl
set_option maxRecDepth 20000 in
theorem cm_X10_jam : Cond.code kX10_jam.1 kX10_jam.2.1 kX10_jam.2.2.1 kX10_jam.2.2.2 ∈ mtbl := mtb 609 (by rfl) rfl
set_option maxRecDepth 20000 in
theorem cm_X3_worstJam : Cond.code kX3_worstJam.1 kX3_worstJam.2.1 kX3_worstJam.2.2.1 kX3_worstJam.2.2.2 ∈ mtbl := mtb 613 (by rfl) rfl
set_option maxRecDepth 20000 in
theorem cm_X10_carried : Cond.code kX10_carried.1 kX10_carried.2.1 kX10_carried.2.2.1 kX10_carried.2.2.2 ∈ mtbl := mtb 617 (by rfl) rfl
set_option maxRecDepth 20000 in
theorem cm_X3_divisionsCarried : Cond.code kX3_divisionsCarried.1 kX3_divisionsCarried.2.1 kX3_divisionsCarried.2.2.1 kX3_divisionsCarried.2.2.2 ∈ mtbl := mtb 621 (by rfl) rfl
set_option maxRecDepth 20000 in
theorem cm_X10_stand : Cond.code kX10_stand.1 kX10_stand.2.1 kX10_stand.2.2.1 kX10_stand.2.2.2 ∈ mtbl := mtb 625 (by rfl) rfl
set_option maxRecDepth 20000 in
theorem cm_X9_bestStand : Cond.code kX9_bestStand.1 kX9_bestStand.2.1 kX9_bestStand.2.2.1 kX9_bestStand.2.2.2 ∈ mtbl := mtb 629 (by rfl) rfl
set_option maxRecDepth 20000 in
theorem cm_X0_becomeLike : Cond.code kX0_becomeLike.1 kX0_becomeLike.2.1 kX0_becomeLike.2.2.1 kX0_becomeLike.2.2.2 ∈ mtbl := mtb 633 (by rfl) rfl
set_option maxRecDepth 20000 in
theorem cm_X10_standPart : Cond.code kX10_standPart.1 kX10_standPart.2.1 kX10_standPart.2.2.1 kX10_standPart.2.2.2 ∈ mtbl := mtb 639 (by rfl) rfl
set_option maxRecDepth 20000 in
theorem cm_X10_better : Cond.code kX10_better.1 kX10_better.2.1 kX10_better.2.2.1 kX10_better.2.2.2 ∈ mtbl := mtb 643 (by rfl) rfl
set_option maxRecDepth 20000 in
theorem cm_X9_bestTurn : Cond.code kX9_bestTurn.1 kX9_bestTurn.2.1 kX9_bestTurn.2.2.1 kX9_bestTurn.2.2.2 ∈ mtbl := mtb 647 (by rfl) rfl
set_option maxRecDepth 20000 in
theorem cm_X6_lend : Cond.code kX6_lend.1 kX6_lend.2.1 kX6_lend.2.2.1 kX6_lend.2.2.2 ∈ mtbl := mtb 651 (by rfl) rfl
set_option maxRecDepth 20000 in
theorem cm_X6_giveBack : Cond.code kX6_giveBack.1 kX6_giveBack.2.1 kX6_giveBack.2.2.1 kX6_giveBack.2.2.2 ∈ mtbl := mtb 655 (by rfl) rfl
set_option maxRecDepth 20000 in
theorem cm_X10_turnPart : Cond.code kX10_turnPart.1 kX10_turnPart.2.1 kX10_turnPart.2.2.1 kX10_turnPart.2.2.2 ∈ mtbl := mtb 658 (by rfl) rfl
set_option maxRecDepth 20000 in
theorem cm_X10_ring : Cond.code kX10_ring.1 kX10_ring.2.1 kX10_ring.2.2.1 kX10_ring.2.2.2 ∈ mtbl := mtb 662 (by rfl) rfl
set_option maxRecDepth 20000 in
theorem cm_X10_bestBell : Cond.code kX10_bestBell.1 kX10_bestBell.2.1 kX10_bestBell.2.2.1 kX10_bestBell.2.2.2 ∈ mtbl := mtb 666 (by rfl) rfl
set_option maxRecDepth 20000 in
theorem cm_X10_ayesAhead : Cond.code kX10_ayesAhead.1 kX10_ayesAhead.2.1 kX10_ayesAhead.2.2.1 kX10_ayesAhead.2.2.2 ∈ mtbl := mtb 670 (by rfl) rfl
set_option maxRecDepth 20000 in
theorem cm_X0_ayesAsTold : Cond.code kX0_ayesAsTold.1 kX0_ayesAsTold.2.1 kX0_ayesAsTold.2.2.1 kX0_ayesAsTold.2.2.2 ∈ mtbl := mtb 674 (by rfl) rfl
set_option maxRecDepth 20000 in
theorem cm_X10_spare : Cond.code kX10_spare.1 kX10_spare.2.1 kX10_spare.2.2.1 kX10_spare.2.2.2 ∈ mtbl := mtb 679 (by rfl) rfl
set_option maxRecDepth 20000 in
theorem cm_X9_fewestSpared : Cond.code kX9_fewestSpared.1 kX9_fewestSpared.2.1 kX9_fewestSpared.2.2.1 kX9_fewestSpared.2.2.2 ∈ mtbl := mtb 683 (by rfl) rfl
set_option maxRecDepth 20000 in
theorem cm_X9_touchesAll : Cond.code kX9_touchesAll.1 kX9_touchesAll.2.1 kX9_touchesAll.2.2.1 kX9_touchesAll.2.2.2 ∈ mtbl := mtb 687 (by rfl) rfl
set_option maxRecDepth 20000 in
theorem cm_X10_sparePart : Cond.code kX10_sparePart.1 kX10_sparePart.2.1 kX10_sparePart.2.2.1 kX10_sparePart.2.2.2 ∈ mtbl := mtb 691 (by rfl) rfl
set_option maxRecDepth 20000 in
theorem cm_J6_bitCount_0f7a4 : Cond.code kJ6_bitCount_0f7a4.1 kJ6_bitCount_0f7a4.2.1 kJ6_bitCount_0f7a4.2.2.1 kJ6_bitCount_0f7a4.2.2.2 ∈ mtbl := mtb 694 (by rfl) rfl
set_option maxRecDepth 20000 in
theorem cm_X10_seen : Cond.code kX10_seen.1 kX10_seen.2.1 kX10_seen.2.2.1 kX10_seen.2.2.2 ∈ mtbl := mtb 701 (by rfl) rfl
set_option maxRecDepth 20000 in
theorem cm_X5_append : Cond.code kX5_append.1 kX5_append.2.1 kX5_append.2.2.1 kX5_append.2.2.2 ∈ mtbl := mtb 705 (by rfl) rfl
set_option maxRecDepth 20000 in
theorem cm_X10_forget : Cond.code kX10_forget.1 kX10_forget.2.1 kX10_forget.2.2.1 kX10_forget.2.2.2 ∈ mtbl := mtb 709 (by rfl) rfl
set_option maxRecDepth 20000 in
theorem cm_X10_never : Cond.code kX10_never.1 kX10_never.2.1 kX10_never.2.2.1 kX10_never.2.2.2 ∈ mtbl := mtb 713 (by rfl) rfl
set_option maxRecDepth 20000 in
theorem cm_X9_eventsThatNeverWere : Cond.code kX9_eventsThatNeverWere.1 kX9_eventsThatNeverWere.2.1 kX9_eventsThatNeverWere.2.2.1 kX9_eventsThatNeverWere.2.2.2 ∈ mtbl := mtb 717 (by rfl) rfl
set_option maxRecDepth 20000 in
theorem cm_X5_comeOutIn : Cond.code kX5_comeOutIn.1 kX5_comeOutIn.2.1 kX5_comeOutIn.2.2.1 kX5_comeOutIn.2.2.2 ∈ mtbl := mtb 721 (by rfl) rfl
set_option maxRecDepth 20000 in
theorem cm_X10_was : Cond.code kX10_was.1 kX10_was.2.1 kX10_was.2.2.1 kX10_was.2.2.2 ∈ mtbl := mtb 726 (by rfl) rfl
set_option maxRecDepth 20000 in
theorem cm_X9_sortsOf : Cond.code kX9_sortsOf.1 kX9_sortsOf.2.1 kX9_sortsOf.2.2.1 kX9_sortsOf.2.2.2 ∈ mtbl := mtb 730 (by rfl) rfl
set_option maxRecDepth 20000 in
theorem cm_X9_agrees : Cond.code kX9_agrees.1 kX9_agrees.2.1 kX9_agrees.2.2.1 kX9_agrees.2.2.2 ∈ mtbl := mtb 734 (by rfl) rfl
set_option maxRecDepth 20000 in
theorem cm_X9_weightsOf : Cond.code kX9_weightsOf.1 kX9_weightsOf.2.1 kX9_weightsOf.2.2.1 kX9_weightsOf.2.2.2 ∈ mtbl := mtb 738 (by rfl) rfl
set_option maxRecDepth 20000 in
theorem cm_X10_ask : Cond.code kX10_ask.1 kX10_ask.2.1 kX10_ask.2.2.1 kX10_ask.2.2.2 ∈ mtbl := mtb 742 (by rfl) rfl
set_option maxRecDepth 20000 in
theorem cm_X9_momentToLook : Cond.code kX9_momentToLook.1 kX9_momentToLook.2.1 kX9_momentToLook.2.2.1 kX9_momentToLook.2.2.2 ∈ mtbl := mtb 746 (by rfl) rfl
set_option maxRecDepth 20000 in
theorem cm_X9_cellOf : Cond.code kX9_cellOf.1 kX9_cellOf.2.1 kX9_cellOf.2.2.1 kX9_cellOf.2.2.2 ∈ mtbl := mtb 750 (by rfl) rfl
set_option maxRecDepth 20000 in
theorem cm_X9_mostAlike : Cond.code kX9_mostAlike.1 kX9_mostAlike.2.1 kX9_mostAlike.2.2.1 kX9_mostAlike.2.2.2 ∈ mtbl := mtb 755 (by rfl) rfl
set_option maxRecDepth 20000 in
theorem cm_X10_chance : Cond.code kX10_chance.1 kX10_chance.2.1 kX10_chance.2.2.1 kX10_chance.2.2.2 ∈ mtbl := mtb 760 (by rfl) rfl
set_option maxRecDepth 20000 in
theorem cm_X9_weighStruck : Cond.code kX9_weighStruck.1 kX9_weighStruck.2.1 kX9_weighStruck.2.2.1 kX9_weighStruck.2.2.2 ∈ mtbl := mtb 765 (by rfl) rfl
set_option maxRecDepth 20000 in
theorem cm_X9_findStruck : Cond.code kX9_findStruck.1 kX9_findStruck.2.1 kX9_findStruck.2.2.1 kX9_findStruck.2.2.2 ∈ mtbl := mtb 769 (by rfl) rfl
set_option maxRecDepth 20000 in
theorem cm_X3_wasStruck : Cond.code kX3_wasStruck.1 kX3_wasStruck.2.1 kX3_wasStruck.2.2.1 kX3_wasStruck.2.2.2 ∈ mtbl := mtb 773 (by rfl) rfl
set_option maxRecDepth 20000 in
theorem cm_X9_weightOf : Cond.code kX9_weightOf.1 kX9_weightOf.2.1 kX9_weightOf.2.2.1 kX9_weightOf.2.2.2 ∈ mtbl := mtb 777 (by rfl) rfl
set_option maxRecDepth 20000 in
theorem cm_X10_fractionPart : Cond.code kX10_fractionPart.1 kX10_fractionPart.2.1 kX10_fractionPart.2.2.1 kX10_fractionPart.2.2.2 ∈ mtbl := mtb 781 (by rfl) rfl
set_option maxRecDepth 20000 in
theorem cm_X10_ages : Cond.code kX10_ages.1 kX10_ages.2.1 kX10_ages.2.2.1 kX10_ages.2.2.2 ∈ mtbl := mtb 786 (by rfl) rfl
set_option maxRecDepth 20000 in
theorem cm_X9_playAges : Cond.code kX9_playAges.1 kX9_playAges.2.1 kX9_playAges.2.2.1 kX9_playAges.2.2.2 ∈ mtbl := mtb 790 (by rfl) rfl
set_option maxRecDepth 20000 in
theorem cm_X9_nextSeed : Cond.code kX9_nextSeed.1 kX9_nextSeed.2.1 kX9_nextSeed.2.2.1 kX9_nextSeed.2.2.2 ∈ mtbl := mtb 793 (by rfl) rfl
set_option maxRecDepth 20000 in
theorem cm_X9_lot : Cond.code kX9_lot.1 kX9_lot.2.1 kX9_lot.2.2.1 kX9_lot.2.2.2 ∈ mtbl := mtb 797 (by rfl) rfl
set_option maxRecDepth 20000 in
theorem cm_X3_allPoints : Cond.code kX3_allPoints.1 kX3_allPoints.2.1 kX3_allPoints.2.2.1 kX3_allPoints.2.2.2 ∈ mtbl := mtb 802 (by rfl) rfl
set_option maxRecDepth 20000 in
theorem cm_X10_sheet : Cond.code kX10_sheet.1 kX10_sheet.2.1 kX10_sheet.2.2.1 kX10_sheet.2.2.2 ∈ mtbl := mtb 806 (by rfl) rfl
set_option maxRecDepth 20000 in
theorem cm_X4_begin : Cond.code kX4_begin.1 kX4_begin.2.1 kX4_begin.2.2.1 kX4_begin.2.2.2 ∈ mtbl := mtb 810 (by rfl) rfl
set_option maxRecDepth 20000 in
theorem cm_X10_lose : Cond.code kX10_lose.1 kX10_lose.2.1 kX10_lose.2.2.1 kX10_lose.2.2.2 ∈ mtbl := mtb 815 (by rfl) rfl
set_option maxRecDepth 20000 in
theorem cm_X10_put : Cond.code kX10_put.1 kX10_put.2.1 kX10_put.2.2.1 kX10_put.2.2.2 ∈ mtbl := mtb 819 (by rfl) rfl
set_option maxRecDepth 20000 in
theorem cm_X4_barTo : Cond.code kX4_barTo.1 kX4_barTo.2.1 kX4_barTo.2.2.1 kX4_barTo.2.2.2 ∈ mtbl := mtb 823 (by rfl) rfl
set_option maxRecDepth 20000 in
theorem cm_X4_lowestBits : Cond.code kX4_lowestBits.1 kX4_lowestBits.2.1 kX4_lowestBits.2.2.1 kX4_lowestBits.2.2.2 ∈ mtbl := mtb 828 (by rfl) rfl
set_option maxRecDepth 20000 in
theorem cm_X10_get : Cond.code kX10_get.1 kX10_get.2.1 kX10_get.2.2.1 kX10_get.2.2.2 ∈ mtbl := mtb 832 (by rfl) rfl
set_option maxRecDepth 20000 in
theorem cm_X10_copy : Cond.code kX10_copy.1 kX10_copy.2.1 kX10_copy.2.2.1 kX10_copy.2.2.2 ∈ mtbl := mtb 837 (by rfl) rfl
set_option maxRecDepth 20000 in
theorem cm_X4_hasSpan : Cond.code kX4_hasSpan.1 kX4_hasSpan.2.1 kX4_hasSpan.2.2.1 kX4_hasSpan.2.2.2 ∈ mtbl := mtb 841 (by rfl) rfl
set_option maxRecDepth 20000 in
theorem cm_X10_write : Cond.code kX10_write.1 kX10_write.2.1 kX10_write.2.2.1 kX10_write.2.2.2 ∈ mtbl := mtb 846 (by rfl) rfl
set_option maxRecDepth 20000 in
theorem cm_X10_count : Cond.code kX10_count.1 kX10_count.2.1 kX10_count.2.2.1 kX10_count.2.2.2 ∈ mtbl := mtb 851 (by rfl) rfl
set_option maxRecDepth 20000 in
theorem cm_X10_tally : Cond.code kX10_tally.1 kX10_tally.2.1 kX10_tally.2.2.1 kX10_tally.2.2.2 ∈ mtbl := mtb 855 (by rfl) rfl
set_option maxRecDepth 20000 in
theorem cm_X10_digest : Cond.code kX10_digest.1 kX10_digest.2.1 kX10_digest.2.2.1 kX10_digest.2.2.2 ∈ mtbl := mtb 859 (by rfl) rfl
set_option maxRecDepth 20000 in
theorem cm_X10_addTold : Cond.code kX10_addTold.1 kX10_addTold.2.1 kX10_addTold.2.2.1 kX10_addTold.2.2.2 ∈ mtbl := mtb 864 (by rfl) rfl
set_option maxRecDepth 20000 in
theorem cm_X2_add : Cond.code kX2_add.1 kX2_add.2.1 kX2_add.2.2.1 kX2_add.2.2.2 ∈ mtbl := mtb 868 (by rfl) rfl
set_option maxRecDepth 20000 in
theorem cm_X10_addCar : Cond.code kX10_addCar.1 kX10_addCar.2.1 kX10_addCar.2.2.1 kX10_addCar.2.2.2 ∈ mtbl := mtb 873 (by rfl) rfl
set_option maxRecDepth 20000 in
theorem cm_X10_addHouse : Cond.code kX10_addHouse.1 kX10_addHouse.2.1 kX10_addHouse.2.2.1 kX10_addHouse.2.2.2 ∈ mtbl := mtb 879 (by rfl) rfl
set_option maxRecDepth 20000 in
theorem cm_X10_addWhole : Cond.code kX10_addWhole.1 kX10_addWhole.2.1 kX10_addWhole.2.2.1 kX10_addWhole.2.2.2 ∈ mtbl := mtb 883 (by rfl) rfl
set_option maxRecDepth 20000 in
theorem cm_X11_init : Cond.code kX11_init.1 kX11_init.2.1 kX11_init.2.2.1 kX11_init.2.2.2 ∈ mtbl := mtb 888 (by rfl) rfl
set_option maxRecDepth 20000 in
theorem cm_X11_type : Cond.code kX11_type.1 kX11_type.2.1 kX11_type.2.2.1 kX11_type.2.2.2 ∈ mtbl := mtb 1054 (by rfl) rfl
set_option maxRecDepth 20000 in
theorem cm_X11_isText : Cond.code kX11_isText.1 kX11_isText.2.1 kX11_isText.2.2.1 kX11_isText.2.2.2 ∈ mtbl := mtb 1057 (by rfl) rfl
set_option maxRecDepth 20000 in
theorem cm_X11_in : Cond.code kX11_in.1 kX11_in.2.1 kX11_in.2.2.1 kX11_in.2.2.2 ∈ mtbl := mtb 1060 (by rfl) rfl
set_option maxRecDepth 20000 in
theorem cm_X11_wipe : Cond.code kX11_wipe.1 kX11_wipe.2.1 kX11_wipe.2.2.1 kX11_wipe.2.2.2 ∈ mtbl := mtb 1064 (by rfl) rfl
set_option maxRecDepth 20000 in
theorem cm_X11_undo : Cond.code kX11_undo.1 kX11_undo.2.1 kX11_undo.2.2.1 kX11_undo.2.2.2 ∈ mtbl := mtb 1068 (by rfl) rfl
set_option maxRecDepth 20000 in
theorem cm_X11_fault : Cond.code kX11_fault.1 kX11_fault.2.1 kX11_fault.2.2.1 kX11_fault.2.2.2 ∈ mtbl := mtb 1072 (by rfl) rfl
set_option maxRecDepth 20000 in
theorem cm_X11_faultOf : Cond.code kX11_faultOf.1 kX11_faultOf.2.1 kX11_faultOf.2.2.1 kX11_faultOf.2.2.2 ∈ mtbl := mtb 1076 (by rfl) rfl
set_option maxRecDepth 20000 in
theorem cm_X11_readsParts : Cond.code kX11_readsParts.1 kX11_readsParts.2.1 kX11_readsParts.2.2.1 kX11_readsParts.2.2.2 ∈ mtbl := mtb 1080 (by rfl) rfl
set_option maxRecDepth 20000 in
theorem cm_X11_readsCar : Cond.code kX11_readsCar.1 kX11_readsCar.2.1 kX11_readsCar.2.2.1 kX11_readsCar.2.2.2 ∈ mtbl := mtb 1084 (by rfl) rfl
set_option maxRecDepth 20000 in
theorem cm_X11_byteAt : Cond.code kX11_byteAt.1 kX11_byteAt.2.1 kX11_byteAt.2.2.1 kX11_byteAt.2.2.2 ∈ mtbl := mtb 1088 (by rfl) rfl
set_option maxRecDepth 20000 in
theorem cm_X11_sortOf : Cond.code kX11_sortOf.1 kX11_sortOf.2.1 kX11_sortOf.2.2.1 kX11_sortOf.2.2.2 ∈ mtbl := mtb 1091 (by rfl) rfl
set_option maxRecDepth 20000 in
theorem cm_X11_wayOf : Cond.code kX11_wayOf.1 kX11_wayOf.2.1 kX11_wayOf.2.2.1 kX11_wayOf.2.2.2 ∈ mtbl := mtb 1094 (by rfl) rfl
set_option maxRecDepth 20000 in
theorem cm_X11_isSix : Cond.code kX11_isSix.1 kX11_isSix.2.1 kX11_isSix.2.2.1 kX11_isSix.2.2.2 ∈ mtbl := mtb 1097 (by rfl) rfl
set_option maxRecDepth 20000 in
theorem cm_X11_isTold : Cond.code kX11_isTold.1 kX11_isTold.2.1 kX11_isTold.2.2.1 kX11_isTold.2.2.2 ∈ mtbl := mtb 1101 (by rfl) rfl
set_option maxRecDepth 20000 in
theorem cm_X11_readsSteer : Cond.code kX11_readsSteer.1 kX11_readsSteer.2.1 kX11_readsSteer.2.2.1 kX11_readsSteer.2.2.2 ∈ mtbl := mtb 1105 (by rfl) rfl
set_option maxRecDepth 20000 in
theorem cm_X11_car : Cond.code kX11_car.1 kX11_car.2.1 kX11_car.2.2.1 kX11_car.2.2.2 ∈ mtbl := mtb 1109 (by rfl) rfl
set_option maxRecDepth 20000 in
theorem cm_X11_isCar : Cond.code kX11_isCar.1 kX11_isCar.2.1 kX11_isCar.2.2.1 kX11_isCar.2.2.2 ∈ mtbl := mtb 1113 (by rfl) rfl
set_option maxRecDepth 20000 in
theorem cm_X11_reads : Cond.code kX11_reads.1 kX11_reads.2.1 kX11_reads.2.2.1 kX11_reads.2.2.2 ∈ mtbl := mtb 1117 (by rfl) rfl
set_option maxRecDepth 20000 in
theorem cm_X11_carOf : Cond.code kX11_carOf.1 kX11_carOf.2.1 kX11_carOf.2.2.1 kX11_carOf.2.2.2 ∈ mtbl := mtb 1121 (by rfl) rfl
set_option maxRecDepth 20000 in
theorem cm_X11_steer : Cond.code kX11_steer.1 kX11_steer.2.1 kX11_steer.2.2.1 kX11_steer.2.2.2 ∈ mtbl := mtb 1125 (by rfl) rfl
set_option maxRecDepth 20000 in
theorem cm_X11_isThree : Cond.code kX11_isThree.1 kX11_isThree.2.1 kX11_isThree.2.2.1 kX11_isThree.2.2.2 ∈ mtbl := mtb 1128 (by rfl) rfl
set_option maxRecDepth 20000 in
theorem cm_X11_steerTold : Cond.code kX11_steerTold.1 kX11_steerTold.2.1 kX11_steerTold.2.2.1 kX11_steerTold.2.2.2 ∈ mtbl := mtb 1132 (by rfl) rfl
set_option maxRecDepth 20000 in
theorem cm_X11_event : Cond.code kX11_event.1 kX11_event.2.1 kX11_event.2.2.1 kX11_event.2.2.2 ∈ mtbl := mtb 1136 (by rfl) rfl
set_option maxRecDepth 20000 in
theorem cm_X11_isTwo : Cond.code kX11_isTwo.1 kX11_isTwo.2.1 kX11_isTwo.2.2.1 kX11_isTwo.2.2.2 ∈ mtbl := mtb 1139 (by rfl) rfl
set_option maxRecDepth 20000 in
theorem cm_X11_isMoment : Cond.code kX11_isMoment.1 kX11_isMoment.2.1 kX11_isMoment.2.2.1 kX11_isMoment.2.2.2 ∈ mtbl := mtb 1142 (by rfl) rfl
set_option maxRecDepth 20000 in
theorem cm_X11_isEight : Cond.code kX11_isEight.1 kX11_isEight.2.1 kX11_isEight.2.2.1 kX11_isEight.2.2.2 ∈ mtbl := mtb 1145 (by rfl) rfl
set_option maxRecDepth 20000 in
theorem cm_X11_back : Cond.code kX11_back.1 kX11_back.2.1 kX11_back.2.2.1 kX11_back.2.2.2 ∈ mtbl := mtb 1149 (by rfl) rfl
set_option maxRecDepth 20000 in
theorem cm_X11_read : Cond.code kX11_read.1 kX11_read.2.1 kX11_read.2.2.1 kX11_read.2.2.2 ∈ mtbl := mtb 1153 (by rfl) rfl
set_option maxRecDepth 20000 in
theorem cm_X11_isSheet : Cond.code kX11_isSheet.1 kX11_isSheet.2.1 kX11_isSheet.2.2.1 kX11_isSheet.2.2.2 ∈ mtbl := mtb 1156 (by rfl) rfl
set_option maxRecDepth 20000 in
theorem cm_X11_meets : Cond.code kX11_meets.1 kX11_meets.2.1 kX11_meets.2.2.1 kX11_meets.2.2.2 ∈ mtbl := mtb 1160 (by rfl) rfl
set_option maxRecDepth 20000 in
theorem cm_X11_at : Cond.code kX11_at.1 kX11_at.2.1 kX11_at.2.2.1 kX11_at.2.2.2 ∈ mtbl := mtb 1165 (by rfl) rfl
set_option maxRecDepth 20000 in
theorem cm_X11_atOf : Cond.code kX11_atOf.1 kX11_atOf.2.1 kX11_atOf.2.2.1 kX11_atOf.2.2.2 ∈ mtbl := mtb 1169 (by rfl) rfl
set_option maxRecDepth 20000 in
theorem cm_X11_runsTold : Cond.code kX11_runsTold.1 kX11_runsTold.2.1 kX11_runsTold.2.2.1 kX11_runsTold.2.2.2 ∈ mtbl := mtb 1173 (by rfl) rfl
set_option maxRecDepth 20000 in
theorem cm_X11_asTold : Cond.code kX11_asTold.1 kX11_asTold.2.1 kX11_asTold.2.2.1 kX11_asTold.2.2.2 ∈ mtbl := mtb 1177 (by rfl) rfl
set_option maxRecDepth 20000 in
theorem cm_X11_runs : Cond.code kX11_runs.1 kX11_runs.2.1 kX11_runs.2.2.1 kX11_runs.2.2.2 ∈ mtbl := mtb 1181 (by rfl) rfl
set_option maxRecDepth 20000 in
theorem cm_X11_goesBy : Cond.code kX11_goesBy.1 kX11_goesBy.2.1 kX11_goesBy.2.2.1 kX11_goesBy.2.2.2 ∈ mtbl := mtb 1185 (by rfl) rfl
set_option maxRecDepth 20000 in
theorem cm_X11_isIn : Cond.code kX11_isIn.1 kX11_isIn.2.1 kX11_isIn.2.2.1 kX11_isIn.2.2.2 ∈ mtbl := mtb 1188 (by rfl) rfl
set_option maxRecDepth 20000 in
theorem cm_X11_steersAll : Cond.code kX11_steersAll.1 kX11_steersAll.2.1 kX11_steersAll.2.2.1 kX11_steersAll.2.2.2 ∈ mtbl := mtb 1192 (by rfl) rfl
set_option maxRecDepth 20000 in
theorem cm_X11_drives : Cond.code kX11_drives.1 kX11_drives.2.1 kX11_drives.2.2.1 kX11_drives.2.2.2 ∈ mtbl := mtb 1196 (by rfl) rfl
set_option maxRecDepth 20000 in
theorem cm_X11_stepX : Cond.code kX11_stepX.1 kX11_stepX.2.1 kX11_stepX.2.2.1 kX11_stepX.2.2.2 ∈ mtbl := mtb 1199 (by rfl) rfl
set_option maxRecDepth 20000 in
theorem cm_X11_stepY : Cond.code kX11_stepY.1 kX11_stepY.2.1 kX11_stepY.2.2.1 kX11_stepY.2.2.2 ∈ mtbl := mtb 1202 (by rfl) rfl
set_option maxRecDepth 20000 in
theorem cm_X11_whoIn : Cond.code kX11_whoIn.1 kX11_whoIn.2.1 kX11_whoIn.2.2.1 kX11_whoIn.2.2.2 ∈ mtbl := mtb 1206 (by rfl) rfl
set_option maxRecDepth 20000 in
theorem cm_X11_comes : Cond.code kX11_comes.1 kX11_comes.2.1 kX11_comes.2.2.1 kX11_comes.2.2.2 ∈ mtbl := mtb 1210 (by rfl) rfl
set_option maxRecDepth 20000 in
theorem cm_X11_runsInto : Cond.code kX11_runsInto.1 kX11_runsInto.2.1 kX11_runsInto.2.2.1 kX11_runsInto.2.2.2 ∈ mtbl := mtb 1214 (by rfl) rfl
set_option maxRecDepth 20000 in
theorem cm_X11_who : Cond.code kX11_who.1 kX11_who.2.1 kX11_who.2.2.1 kX11_who.2.2.2 ∈ mtbl := mtb 1218 (by rfl) rfl
set_option maxRecDepth 20000 in
theorem cm_X11_whoOf : Cond.code kX11_whoOf.1 kX11_whoOf.2.1 kX11_whoOf.2.2.1 kX11_whoOf.2.2.2 ∈ mtbl := mtb 1222 (by rfl) rfl
set_option maxRecDepth 20000 in
theorem cm_X11_house : Cond.code kX11_house.1 kX11_house.2.1 kX11_house.2.2.1 kX11_house.2.2.2 ∈ mtbl := mtb 1226 (by rfl) rfl
set_option maxRecDepth 20000 in
theorem cm_X11_houseOf : Cond.code kX11_houseOf.1 kX11_houseOf.2.1 kX11_houseOf.2.2.1 kX11_houseOf.2.2.2 ∈ mtbl := mtb 1230 (by rfl) rfl
set_option maxRecDepth 20000 in
theorem cm_X11_ayesAt : Cond.code kX11_ayesAt.1 kX11_ayesAt.2.1 kX11_ayesAt.2.2.1 kX11_ayesAt.2.2.2 ∈ mtbl := mtb 1234 (by rfl) rfl
set_option maxRecDepth 20000 in
theorem cm_X11_strikes : Cond.code kX11_strikes.1 kX11_strikes.2.1 kX11_strikes.2.2.1 kX11_strikes.2.2.2 ∈ mtbl := mtb 1238 (by rfl) rfl
set_option maxRecDepth 20000 in
theorem cm_X11_strikesOf : Cond.code kX11_strikesOf.1 kX11_strikesOf.2.1 kX11_strikesOf.2.2.1 kX11_strikesOf.2.2.2 ∈ mtbl := mtb 1242 (by rfl) rfl
set_option maxRecDepth 20000 in
theorem cm_X11_first : Cond.code kX11_first.1 kX11_first.2.1 kX11_first.2.2.1 kX11_first.2.2.2 ∈ mtbl := mtb 1246 (by rfl) rfl
set_option maxRecDepth 20000 in
theorem cm_X11_firstOf : Cond.code kX11_firstOf.1 kX11_firstOf.2.1 kX11_firstOf.2.2.1 kX11_firstOf.2.2.2 ∈ mtbl := mtb 1250 (by rfl) rfl
set_option maxRecDepth 20000 in
theorem cm_X11_best : Cond.code kX11_best.1 kX11_best.2.1 kX11_best.2.2.1 kX11_best.2.2.2 ∈ mtbl := mtb 1254 (by rfl) rfl
set_option maxRecDepth 20000 in
theorem cm_X11_bestOf : Cond.code kX11_bestOf.1 kX11_bestOf.2.1 kX11_bestOf.2.2.1 kX11_bestOf.2.2.2 ∈ mtbl := mtb 1258 (by rfl) rfl
set_option maxRecDepth 20000 in
theorem cm_X11_meek : Cond.code kX11_meek.1 kX11_meek.2.1 kX11_meek.2.2.1 kX11_meek.2.2.2 ∈ mtbl := mtb 1262 (by rfl) rfl
set_option maxRecDepth 20000 in
theorem cm_X11_meekOf : Cond.code kX11_meekOf.1 kX11_meekOf.2.1 kX11_meekOf.2.2.1 kX11_meekOf.2.2.2 ∈ mtbl := mtb 1266 (by rfl) rfl
set_option maxRecDepth 20000 in
theorem cm_X11_meekNow : Cond.code kX11_meekNow.1 kX11_meekNow.2.1 kX11_meekNow.2.2.1 kX11_meekNow.2.2.2 ∈ mtbl := mtb 1270 (by rfl) rfl
set_option maxRecDepth 20000 in
theorem cm_X11_jam : Cond.code kX11_jam.1 kX11_jam.2.1 kX11_jam.2.2.1 kX11_jam.2.2.2 ∈ mtbl := mtb 1274 (by rfl) rfl
set_option maxRecDepth 20000 in
theorem cm_X11_jamOf : Cond.code kX11_jamOf.1 kX11_jamOf.2.1 kX11_jamOf.2.2.1 kX11_jamOf.2.2.2 ∈ mtbl := mtb 1278 (by rfl) rfl
set_option maxRecDepth 20000 in
theorem cm_X11_carried : Cond.code kX11_carried.1 kX11_carried.2.1 kX11_carried.2.2.1 kX11_carried.2.2.2 ∈ mtbl := mtb 1282 (by rfl) rfl
set_option maxRecDepth 20000 in
theorem cm_X11_carriedOf : Cond.code kX11_carriedOf.1 kX11_carriedOf.2.1 kX11_carriedOf.2.2.1 kX11_carriedOf.2.2.2 ∈ mtbl := mtb 1286 (by rfl) rfl
set_option maxRecDepth 20000 in
theorem cm_X11_stand : Cond.code kX11_stand.1 kX11_stand.2.1 kX11_stand.2.2.1 kX11_stand.2.2.2 ∈ mtbl := mtb 1290 (by rfl) rfl
set_option maxRecDepth 20000 in
theorem cm_X11_standOf : Cond.code kX11_standOf.1 kX11_standOf.2.1 kX11_standOf.2.2.1 kX11_standOf.2.2.2 ∈ mtbl := mtb 1294 (by rfl) rfl
set_option maxRecDepth 20000 in
theorem cm_X11_isOther : Cond.code kX11_isOther.1 kX11_isOther.2.1 kX11_isOther.2.2.1 kX11_isOther.2.2.2 ∈ mtbl := mtb 1298 (by rfl) rfl
set_option maxRecDepth 20000 in
theorem cm_X11_better : Cond.code kX11_better.1 kX11_better.2.1 kX11_better.2.2.1 kX11_better.2.2.2 ∈ mtbl := mtb 1302 (by rfl) rfl
set_option maxRecDepth 20000 in
theorem cm_X11_betterOf : Cond.code kX11_betterOf.1 kX11_betterOf.2.1 kX11_betterOf.2.2.1 kX11_betterOf.2.2.2 ∈ mtbl := mtb 1306 (by rfl) rfl
set_option maxRecDepth 20000 in
theorem cm_X11_ring : Cond.code kX11_ring.1 kX11_ring.2.1 kX11_ring.2.2.1 kX11_ring.2.2.2 ∈ mtbl := mtb 1310 (by rfl) rfl
set_option maxRecDepth 20000 in
theorem cm_X11_ringOf : Cond.code kX11_ringOf.1 kX11_ringOf.2.1 kX11_ringOf.2.2.1 kX11_ringOf.2.2.2 ∈ mtbl := mtb 1314 (by rfl) rfl
set_option maxRecDepth 20000 in
theorem cm_X11_spare : Cond.code kX11_spare.1 kX11_spare.2.1 kX11_spare.2.2.1 kX11_spare.2.2.2 ∈ mtbl := mtb 1318 (by rfl) rfl
set_option maxRecDepth 20000 in
theorem cm_X11_spareBy : Cond.code kX11_spareBy.1 kX11_spareBy.2.1 kX11_spareBy.2.2.1 kX11_spareBy.2.2.2 ∈ mtbl := mtb 1322 (by rfl) rfl
set_option maxRecDepth 20000 in
theorem cm_X11_isSpared : Cond.code kX11_isSpared.1 kX11_isSpared.2.1 kX11_isSpared.2.2.1 kX11_isSpared.2.2.2 ∈ mtbl := mtb 1326 (by rfl) rfl
set_option maxRecDepth 20000 in
theorem cm_X11_ofRow : Cond.code kX11_ofRow.1 kX11_ofRow.2.1 kX11_ofRow.2.2.1 kX11_ofRow.2.2.2 ∈ mtbl := mtb 1330 (by rfl) rfl
set_option maxRecDepth 20000 in
theorem cm_X11_seen : Cond.code kX11_seen.1 kX11_seen.2.1 kX11_seen.2.2.1 kX11_seen.2.2.2 ∈ mtbl := mtb 1334 (by rfl) rfl
set_option maxRecDepth 20000 in
theorem cm_X11_forget : Cond.code kX11_forget.1 kX11_forget.2.1 kX11_forget.2.2.1 kX11_forget.2.2.2 ∈ mtbl := mtb 1338 (by rfl) rfl
set_option maxRecDepth 20000 in
theorem cm_X11_never : Cond.code kX11_never.1 kX11_never.2.1 kX11_never.2.2.1 kX11_never.2.2.2 ∈ mtbl := mtb 1342 (by rfl) rfl
set_option maxRecDepth 20000 in
theorem cm_X11_neverNow : Cond.code kX11_neverNow.1 kX11_neverNow.2.1 kX11_neverNow.2.2.1 kX11_neverNow.2.2.2 ∈ mtbl := mtb 1346 (by rfl) rfl
set_option maxRecDepth 20000 in
theorem cm_X11_isSeen : Cond.code kX11_isSeen.1 kX11_isSeen.2.1 kX11_isSeen.2.2.1 kX11_isSeen.2.2.2 ∈ mtbl := mtb 1350 (by rfl) rfl
set_option maxRecDepth 20000 in
theorem cm_X11_was : Cond.code kX11_was.1 kX11_was.2.1 kX11_was.2.2.1 kX11_was.2.2.2 ∈ mtbl := mtb 1354 (by rfl) rfl
set_option maxRecDepth 20000 in
theorem cm_X11_sortsBy : Cond.code kX11_sortsBy.1 kX11_sortsBy.2.1 kX11_sortsBy.2.2.1 kX11_sortsBy.2.2.2 ∈ mtbl := mtb 1358 (by rfl) rfl
set_option maxRecDepth 20000 in
theorem cm_X11_heavyBy : Cond.code kX11_heavyBy.1 kX11_heavyBy.2.1 kX11_heavyBy.2.2.1 kX11_heavyBy.2.2.2 ∈ mtbl := mtb 1362 (by rfl) rfl
set_option maxRecDepth 20000 in
theorem cm_X11_ask : Cond.code kX11_ask.1 kX11_ask.2.1 kX11_ask.2.2.1 kX11_ask.2.2.2 ∈ mtbl := mtb 1366 (by rfl) rfl
set_option maxRecDepth 20000 in
theorem cm_X11_askOf : Cond.code kX11_askOf.1 kX11_askOf.2.1 kX11_askOf.2.2.1 kX11_askOf.2.2.2 ∈ mtbl := mtb 1370 (by rfl) rfl
set_option maxRecDepth 20000 in
theorem cm_X11_chance : Cond.code kX11_chance.1 kX11_chance.2.1 kX11_chance.2.2.1 kX11_chance.2.2.2 ∈ mtbl := mtb 1374 (by rfl) rfl
set_option maxRecDepth 20000 in
theorem cm_X11_chanceOf : Cond.code kX11_chanceOf.1 kX11_chanceOf.2.1 kX11_chanceOf.2.2.1 kX11_chanceOf.2.2.2 ∈ mtbl := mtb 1378 (by rfl) rfl
set_option maxRecDepth 20000 in
theorem cm_X11_lowest : Cond.code kX11_lowest.1 kX11_lowest.2.1 kX11_lowest.2.2.1 kX11_lowest.2.2.2 ∈ mtbl := mtb 1381 (by rfl) rfl
set_option maxRecDepth 20000 in
theorem cm_X11_no : Cond.code kX11_no.1 kX11_no.2.1 kX11_no.2.2.1 kX11_no.2.2.2 ∈ mtbl := mtb 1384 (by rfl) rfl
set_option maxRecDepth 20000 in
theorem cm_X11_ages : Cond.code kX11_ages.1 kX11_ages.2.1 kX11_ages.2.2.1 kX11_ages.2.2.2 ∈ mtbl := mtb 1389 (by rfl) rfl
set_option maxRecDepth 20000 in
theorem cm_X11_agesOf : Cond.code kX11_agesOf.1 kX11_agesOf.2.1 kX11_agesOf.2.2.1 kX11_agesOf.2.2.2 ∈ mtbl := mtb 1393 (by rfl) rfl
set_option maxRecDepth 20000 in
theorem cm_X11_pointsAll : Cond.code kX11_pointsAll.1 kX11_pointsAll.2.1 kX11_pointsAll.2.2.1 kX11_pointsAll.2.2.2 ∈ mtbl := mtb 1398 (by rfl) rfl
set_option maxRecDepth 20000 in
theorem cm_X11_sheet : Cond.code kX11_sheet.1 kX11_sheet.2.1 kX11_sheet.2.2.1 kX11_sheet.2.2.2 ∈ mtbl := mtb 1402 (by rfl) rfl
set_option maxRecDepth 20000 in
theorem cm_X11_lose : Cond.code kX11_lose.1 kX11_lose.2.1 kX11_lose.2.2.1 kX11_lose.2.2.2 ∈ mtbl := mtb 1406 (by rfl) rfl
set_option maxRecDepth 20000 in
theorem cm_X11_put : Cond.code kX11_put.1 kX11_put.2.1 kX11_put.2.2.1 kX11_put.2.2.2 ∈ mtbl := mtb 1410 (by rfl) rfl
set_option maxRecDepth 20000 in
theorem cm_X11_lacks : Cond.code kX11_lacks.1 kX11_lacks.2.1 kX11_lacks.2.2.1 kX11_lacks.2.2.2 ∈ mtbl := mtb 1414 (by rfl) rfl
set_option maxRecDepth 20000 in
theorem cm_X11_keep : Cond.code kX11_keep.1 kX11_keep.2.1 kX11_keep.2.2.1 kX11_keep.2.2.2 ∈ mtbl := mtb 1418 (by rfl) rfl
set_option maxRecDepth 20000 in
theorem cm_X11_get : Cond.code kX11_get.1 kX11_get.2.1 kX11_get.2.2.1 kX11_get.2.2.2 ∈ mtbl := mtb 1422 (by rfl) rfl
set_option maxRecDepth 20000 in
theorem cm_X11_copy : Cond.code kX11_copy.1 kX11_copy.2.1 kX11_copy.2.2.1 kX11_copy.2.2.2 ∈ mtbl := mtb 1427 (by rfl) rfl
set_option maxRecDepth 20000 in
theorem cm_X11_write : Cond.code kX11_write.1 kX11_write.2.1 kX11_write.2.2.1 kX11_write.2.2.2 ∈ mtbl := mtb 1431 (by rfl) rfl
set_option maxRecDepth 20000 in
theorem cm_X11_count : Cond.code kX11_count.1 kX11_count.2.1 kX11_count.2.2.1 kX11_count.2.2.2 ∈ mtbl := mtb 1435 (by rfl) rfl
set_option maxRecDepth 20000 in
theorem cm_X11_sumOf : Cond.code kX11_sumOf.1 kX11_sumOf.2.1 kX11_sumOf.2.2.1 kX11_sumOf.2.2.2 ∈ mtbl := mtb 1439 (by rfl) rfl
set_option maxRecDepth 20000 in
theorem cm_X11_digest : Cond.code kX11_digest.1 kX11_digest.2.1 kX11_digest.2.2.1 kX11_digest.2.2.2 ∈ mtbl := mtb 1443 (by rfl) rfl
set_option maxRecDepth 20000 in
theorem cm_X11_carDigest : Cond.code kX11_carDigest.1 kX11_carDigest.2.1 kX11_carDigest.2.2.1 kX11_carDigest.2.2.2 ∈ mtbl := mtb 1450 (by rfl) rfl
set_option maxRecDepth 20000 in
theorem cm_X11_momentDigest : Cond.code kX11_momentDigest.1 kX11_momentDigest.2.1 kX11_momentDigest.2.2.1 kX11_momentDigest.2.2.2 ∈ mtbl := mtb 1454 (by rfl) rfl
set_option maxRecDepth 20000 in
theorem sm_X10_type : Cond.selects yX10_type.cls yX10_type yX10_type ∈ mtbl := mtb 318 (by decide +kernel) rfl
set_option maxRecDepth 20000 in
theorem cv_L_13 : mCV "DodgemDebateLaw" 13 9 2 kX10_type := ⟨⟨(RX10, TX10, 11), rfl, rfl⟩, cm_X10_type, (mtb 316 (by decide +kernel) rfl), (mtb 317 (by decide +kernel) rfl), sm_X10_type, (mtb 1 (by decide +kernel) rfl), ⟨by decide +kernel, by decide +kernel, by decide +kernel⟩, by decide⟩
set_option maxRecDepth 20000 in
theorem cs_X10_81 : mCS "DodgemDebate" 81 2 kX10_within := ⟨cm_X10_within, Or.inl (mtb 320 (by decide +kernel) rfl), (mtb 321 (by decide +kernel) rfl), (mtb 1 (by decide +kernel) rfl), ⟨by decide +kernel, by decide +kernel, by decide +kernel⟩, by decide⟩
set_option maxRecDepth 20000 in
theorem sm_X10_textOf : Cond.selects yX10_textOf.cls yX10_textOf yX10_textOf ∈ mtbl := mtbs (List.mem_of_getElem? (i := 0) (by decide +kernel)) rfl
set_option maxRecDepth 20000 in
theorem cv_X10_85 : mCV "DodgemDebate" 85 9 1 kX10_textOf := ⟨⟨(RX10, TX10, 11), rfl, rfl⟩, cm_X10_textOf, (mtb 323 (by decide +kernel) rfl), (mtb 325 (by decide +kernel) rfl), sm_X10_textOf, (mtb 1 (by decide +kernel) rfl), ⟨by decide +kernel, by decide +kernel, by decide +kernel⟩, by decide⟩
set_option maxRecDepth 20000 in
theorem sm_X7_append : Cond.selects yX7_append.cls yX7_append yX7_append ∈ mtbl := mtb 329 (by decide +kernel) rfl
set_option maxRecDepth 20000 in
theorem cv_X10_93 : mCV "DodgemDebate" 93 7 1 kX7_append := ⟨⟨(RX7, TX7, 2), rfl, rfl⟩, cm_X7_append, (mtb 327 (by decide +kernel) rfl), (mtb 328 (by decide +kernel) rfl), sm_X7_append, (mtb 2 (by decide +kernel) rfl), ⟨by decide +kernel, by decide +kernel, by decide +kernel⟩, by decide⟩
set_option maxRecDepth 20000 in
theorem sm_X10_wipe : Cond.selects yX10_wipe.cls yX10_wipe yX10_wipe ∈ mtbl := mtb 333 (by decide +kernel) rfl
set_option maxRecDepth 20000 in
theorem cv_L_18 : mCV "DodgemDebateLaw" 18 9 1 kX10_wipe := ⟨⟨(RX10, TX10, 11), rfl, rfl⟩, cm_X10_wipe, (mtb 331 (by decide +kernel) rfl), (mtb 332 (by decide +kernel) rfl), sm_X10_wipe, (mtb 1 (by decide +kernel) rfl), ⟨by decide +kernel, by decide +kernel, by decide +kernel⟩, by decide⟩
set_option maxRecDepth 20000 in
theorem sm_X10_undo : Cond.selects yX10_undo.cls yX10_undo yX10_undo ∈ mtbl := mtb 337 (by decide +kernel) rfl
set_option maxRecDepth 20000 in
theorem cv_L_23 : mCV "DodgemDebateLaw" 23 9 1 kX10_undo := ⟨⟨(RX10, TX10, 11), rfl, rfl⟩, cm_X10_undo, (mtb 335 (by decide +kernel) rfl), (mtb 336 (by decide +kernel) rfl), sm_X10_undo, (mtb 1 (by decide +kernel) rfl), ⟨by decide +kernel, by decide +kernel, by decide +kernel⟩, by decide⟩
set_option maxRecDepth 20000 in
theorem sm_X10_fault : Cond.selects yX10_fault.cls yX10_fault yX10_fault ∈ mtbl := mtb 341 (by decide +kernel) rfl
set_option maxRecDepth 20000 in
theorem cv_L_27 : mCV "DodgemDebateLaw" 27 9 1 kX10_fault := ⟨⟨(RX10, TX10, 11), rfl, rfl⟩, cm_X10_fault, (mtb 339 (by decide +kernel) rfl), (mtb 340 (by decide +kernel) rfl), sm_X10_fault, (mtb 1 (by decide +kernel) rfl), ⟨by decide +kernel, by decide +kernel, by decide +kernel⟩, by decide⟩
set_option maxRecDepth 20000 in
theorem sm_X10_settle : Cond.selects yX10_settle.cls yX10_settle yX10_settle ∈ mtbl := mtbs (List.mem_of_getElem? (i := 1) (by decide +kernel)) rfl
set_option maxRecDepth 20000 in
theorem cv_X10_97 : mCV "DodgemDebate" 97 9 0 kX10_settle := ⟨⟨(RX10, TX10, 11), rfl, rfl⟩, cm_X10_settle, (mtb 343 (by decide +kernel) rfl), (mtb 345 (by decide +kernel) rfl), sm_X10_settle, (mtb 1 (by decide +kernel) rfl), ⟨by decide +kernel, by decide +kernel, by decide +kernel⟩, by decide⟩
set_option maxRecDepth 20000 in
theorem sm_J0_indexOf_0f7a4 : Cond.selects yJ0_indexOf_0f7a4.cls yJ0_indexOf_0f7a4 yJ0_indexOf_0f7a4 ∈ mtbl := mtb 366 (by decide +kernel) rfl
set_option maxRecDepth 20000 in
theorem cx_X0_15 : mCX "DodgemDebate$Cars" 15 1 kJ0_indexOf_0f7a4 := ⟨rfl, cm_J0_indexOf_0f7a4, (mtb 364 (by decide +kernel) rfl), (mtb 365 (by decide +kernel) rfl), sm_J0_indexOf_0f7a4, (mtb 13 (by decide +kernel) rfl), ⟨by decide +kernel, by decide +kernel, by decide +kernel⟩, by decide⟩
set_option maxRecDepth 20000 in
theorem sm_J0_indexOf_7cf53 : Cond.selects yJ0_indexOf_7cf53.cls yJ0_indexOf_7cf53 yJ0_indexOf_7cf53 ∈ mtbl := mtb 370 (by decide +kernel) rfl
set_option maxRecDepth 20000 in
theorem cx_J0_633 : mCX "java/lang/String" 633 2 kJ0_indexOf_7cf53 := ⟨rfl, cm_J0_indexOf_7cf53, (mtb 368 (by decide +kernel) rfl), (mtb 369 (by decide +kernel) rfl), sm_J0_indexOf_7cf53, (mtb 13 (by decide +kernel) rfl), ⟨by decide +kernel, by decide +kernel, by decide +kernel⟩, by decide⟩
set_option maxRecDepth 20000 in
theorem sm_J0_isLatin1_aae02 : Cond.selects yJ0_isLatin1_aae02.cls yJ0_isLatin1_aae02 yJ0_isLatin1_aae02 ∈ mtbl := mtb 374 (by decide +kernel) rfl
set_option maxRecDepth 20000 in
theorem cx_J0_492 : mCX "java/lang/String" 492 0 kJ0_isLatin1_aae02 := ⟨rfl, cm_J0_isLatin1_aae02, (mtb 372 (by decide +kernel) rfl), (mtb 373 (by decide +kernel) rfl), sm_J0_isLatin1_aae02, (mtb 13 (by decide +kernel) rfl), ⟨by decide +kernel, by decide +kernel, by decide +kernel⟩, by decide⟩
set_option maxRecDepth 20000 in
theorem sm_J0_length_8abf5 : Cond.selects yJ0_length_8abf5.cls yJ0_length_8abf5 yJ0_length_8abf5 ∈ mtbl := mtb 380 (by decide +kernel) rfl
set_option maxRecDepth 20000 in
theorem cx_J0_505 : mCX "java/lang/String" 505 0 kJ0_length_8abf5 := ⟨rfl, cm_J0_length_8abf5, (mtb 378 (by decide +kernel) rfl), (mtb 379 (by decide +kernel) rfl), sm_J0_length_8abf5, (mtb 13 (by decide +kernel) rfl), ⟨by decide +kernel, by decide +kernel, by decide +kernel⟩, by decide⟩
set_option maxRecDepth 20000 in
theorem sm_J0_coder_7d493 : Cond.selects yJ0_coder_7d493.cls yJ0_coder_7d493 yJ0_coder_7d493 ∈ mtbl := mtb 384 (by decide +kernel) rfl
set_option maxRecDepth 20000 in
theorem cx_J0_335 : mCX "java/lang/String" 335 0 kJ0_coder_7d493 := ⟨rfl, cm_J0_coder_7d493, (mtb 382 (by decide +kernel) rfl), (mtb 383 (by decide +kernel) rfl), sm_J0_coder_7d493, (mtb 13 (by decide +kernel) rfl), ⟨by decide +kernel, by decide +kernel, by decide +kernel⟩, by decide⟩
set_option maxRecDepth 20000 in
theorem cs_J0_637 : mCS "java/lang/String" 637 4 kJ1_indexOf_4cfef := ⟨cm_J1_indexOf_4cfef, Or.inl (mtb 386 (by decide +kernel) rfl), (mtb 387 (by decide +kernel) rfl), (mtb 14 (by decide +kernel) rfl), ⟨by decide +kernel, by decide +kernel, by decide +kernel⟩, by decide⟩
set_option maxRecDepth 20000 in
theorem cs_J1_88 : mCS "java/lang/StringLatin1" 88 1 kJ1_canEncode_9a6ad := ⟨cm_J1_canEncode_9a6ad, Or.inl (mtb 389 (by decide +kernel) rfl), (mtb 390 (by decide +kernel) rfl), (mtb 14 (by decide +kernel) rfl), ⟨by decide +kernel, by decide +kernel, by decide +kernel⟩, by decide⟩
set_option maxRecDepth 20000 in
theorem cs_J1_92 : mCS "java/lang/StringLatin1" 92 2 kJ9_max_7cf53 := ⟨cm_J9_max_7cf53, Or.inl (mtb 392 (by decide +kernel) rfl), (mtb 393 (by decide +kernel) rfl), (mtb 15 (by decide +kernel) rfl), ⟨by decide +kernel, by decide +kernel, by decide +kernel⟩, by decide⟩
set_option maxRecDepth 20000 in
theorem cs_J1_38 : mCS "java/lang/StringLatin1" 38 2 kJ9_min_7cf53 := ⟨cm_J9_min_7cf53, Or.inl (mtb 395 (by decide +kernel) rfl), (mtb 396 (by decide +kernel) rfl), (mtb 15 (by decide +kernel) rfl), ⟨by decide +kernel, by decide +kernel, by decide +kernel⟩, by decide⟩
set_option maxRecDepth 20000 in
theorem cs_J1_95 : mCS "java/lang/StringLatin1" 95 4 kJ1_indexOfChar_4cfef := ⟨cm_J1_indexOfChar_4cfef, Or.inl (mtb 398 (by decide +kernel) rfl), (mtb 399 (by decide +kernel) rfl), (mtb 14 (by decide +kernel) rfl), ⟨by decide +kernel, by decide +kernel, by decide +kernel⟩, by decide⟩
set_option maxRecDepth 20000 in
theorem cs_J2_224 : mCS "java/lang/StringUTF16" 224 2 kJ9_max_7cf53 := ⟨cm_J9_max_7cf53, Or.inl (mtb 404 (by decide +kernel) rfl), (mtb 393 (by decide +kernel) rfl), (mtb 15 (by decide +kernel) rfl), ⟨by decide +kernel, by decide +kernel, by decide +kernel⟩, by decide⟩
set_option maxRecDepth 20000 in
theorem cs_J2_183 : mCS "java/lang/StringUTF16" 183 2 kJ9_min_7cf53 := ⟨cm_J9_min_7cf53, Or.inl (mtb 405 (by decide +kernel) rfl), (mtb 396 (by decide +kernel) rfl), (mtb 15 (by decide +kernel) rfl), ⟨by decide +kernel, by decide +kernel, by decide +kernel⟩, by decide⟩
set_option maxRecDepth 20000 in
theorem cs_J2_241 : mCS "java/lang/StringUTF16" 241 3 kJ0_checkBoundsBeginEnd_23922 := ⟨cm_J0_checkBoundsBeginEnd_23922, Or.inl (mtb 416 (by decide +kernel) rfl), (mtb 417 (by decide +kernel) rfl), (mtb 13 (by decide +kernel) rfl), ⟨by decide +kernel, by decide +kernel, by decide +kernel⟩, by decide⟩
set_option maxRecDepth 20000 in
theorem sm_X0_isTaken : Cond.selects yX0_isTaken.cls yX0_isTaken yX0_isTaken ∈ mtbl := mtb 453 (by decide +kernel) rfl
set_option maxRecDepth 20000 in
theorem cv_X0_26 : mCV "DodgemDebate$Cars" 26 0 4 kX0_isTaken := ⟨⟨(RX0, TX0, 5), rfl, rfl⟩, cm_X0_isTaken, (mtb 451 (by decide +kernel) rfl), (mtb 452 (by decide +kernel) rfl), sm_X0_isTaken, (mtb 4 (by decide +kernel) rfl), ⟨by decide +kernel, by decide +kernel, by decide +kernel⟩, by decide⟩
set_option maxRecDepth 20000 in
theorem cx_X6_15 : mCX "DodgemDebate$Steers" 15 1 kJ0_indexOf_0f7a4 := ⟨rfl, cm_J0_indexOf_0f7a4, (mtb 461 (by decide +kernel) rfl), (mtb 365 (by decide +kernel) rfl), sm_J0_indexOf_0f7a4, (mtb 13 (by decide +kernel) rfl), ⟨by decide +kernel, by decide +kernel, by decide +kernel⟩, by decide⟩
set_option maxRecDepth 20000 in
theorem sm_X3_play : Cond.selects yX3_play.cls yX3_play yX3_play ∈ mtbl := mtb 468 (by decide +kernel) rfl
set_option maxRecDepth 20000 in
theorem cv_X10_297 : mCV "DodgemDebate" 297 3 4 kX3_play := ⟨⟨(RX3, TX3, 10), rfl, rfl⟩, cm_X3_play, (mtb 466 (by decide +kernel) rfl), (mtb 467 (by decide +kernel) rfl), sm_X3_play, (mtb 9 (by decide +kernel) rfl), ⟨by decide +kernel, by decide +kernel, by decide +kernel⟩, by decide⟩
set_option maxRecDepth 20000 in
theorem sm_X3_begin : Cond.selects yX3_begin.cls yX3_begin yX3_begin ∈ mtbl := mtbs (List.mem_of_getElem? (i := 2) (by decide +kernel)) rfl
set_option maxRecDepth 20000 in
theorem cv_X3_36 : mCV "DodgemDebate$Run" 36 3 1 kX3_begin := ⟨⟨(RX3, TX3, 10), rfl, rfl⟩, cm_X3_begin, (mtb 470 (by decide +kernel) rfl), (mtb 472 (by decide +kernel) rfl), sm_X3_begin, (mtb 9 (by decide +kernel) rfl), ⟨by decide +kernel, by decide +kernel, by decide +kernel⟩, by decide⟩
set_option maxRecDepth 20000 in
theorem cs_X3_68 : mCS "DodgemDebate$Run" 68 2 kJ7_fill_53178 := ⟨cm_J7_fill_53178, Or.inl (mtb 474 (by decide +kernel) rfl), (mtb 475 (by decide +kernel) rfl), (mtb 19 (by decide +kernel) rfl), ⟨by decide +kernel, by decide +kernel, by decide +kernel⟩, by decide⟩
set_option maxRecDepth 20000 in
theorem sm_X3_doEvents : Cond.selects yX3_doEvents.cls yX3_doEvents yX3_doEvents ∈ mtbl := mtbs (List.mem_of_getElem? (i := 3) (by decide +kernel)) rfl
set_option maxRecDepth 20000 in
theorem cv_X3_40 : mCV "DodgemDebate$Run" 40 3 3 kX3_doEvents := ⟨⟨(RX3, TX3, 10), rfl, rfl⟩, cm_X3_doEvents, (mtb 477 (by decide +kernel) rfl), (mtb 479 (by decide +kernel) rfl), sm_X3_doEvents, (mtb 9 (by decide +kernel) rfl), ⟨by decide +kernel, by decide +kernel, by decide +kernel⟩, by decide⟩
set_option maxRecDepth 20000 in
theorem sm_X3_doSteers : Cond.selects yX3_doSteers.cls yX3_doSteers yX3_doSteers ∈ mtbl := mtbs (List.mem_of_getElem? (i := 4) (by decide +kernel)) rfl
set_option maxRecDepth 20000 in
theorem cv_X3_44 : mCV "DodgemDebate$Run" 44 3 3 kX3_doSteers := ⟨⟨(RX3, TX3, 10), rfl, rfl⟩, cm_X3_doSteers, (mtb 481 (by decide +kernel) rfl), (mtb 483 (by decide +kernel) rfl), sm_X3_doSteers, (mtb 9 (by decide +kernel) rfl), ⟨by decide +kernel, by decide +kernel, by decide +kernel⟩, by decide⟩
set_option maxRecDepth 20000 in
theorem sm_X3_go : Cond.selects yX3_go.cls yX3_go yX3_go ∈ mtbl := mtbs (List.mem_of_getElem? (i := 5) (by decide +kernel)) rfl
set_option maxRecDepth 20000 in
theorem cv_X3_51 : mCV "DodgemDebate$Run" 51 3 3 kX3_go := ⟨⟨(RX3, TX3, 10), rfl, rfl⟩, cm_X3_go, (mtb 485 (by decide +kernel) rfl), (mtb 487 (by decide +kernel) rfl), sm_X3_go, (mtb 9 (by decide +kernel) rfl), ⟨by decide +kernel, by decide +kernel, by decide +kernel⟩, by decide⟩
set_option maxRecDepth 20000 in
theorem sm_X3_countStrike : Cond.selects yX3_countStrike.cls yX3_countStrike yX3_countStrike ∈ mtbl := mtbs (List.mem_of_getElem? (i := 6) (by decide +kernel)) rfl
set_option maxRecDepth 20000 in
theorem cv_X3_103 : mCV "DodgemDebate$Run" 103 3 4 kX3_countStrike := ⟨⟨(RX3, TX3, 10), rfl, rfl⟩, cm_X3_countStrike, (mtb 496 (by decide +kernel) rfl), (mtb 498 (by decide +kernel) rfl), sm_X3_countStrike, (mtb 9 (by decide +kernel) rfl), ⟨by decide +kernel, by decide +kernel, by decide +kernel⟩, by decide⟩
set_option maxRecDepth 20000 in
theorem sm_X3_shift : Cond.selects yX3_shift.cls yX3_shift yX3_shift ∈ mtbl := mtbs (List.mem_of_getElem? (i := 7) (by decide +kernel)) rfl
set_option maxRecDepth 20000 in
theorem cv_X3_107 : mCV "DodgemDebate$Run" 107 3 3 kX3_shift := ⟨⟨(RX3, TX3, 10), rfl, rfl⟩, cm_X3_shift, (mtb 500 (by decide +kernel) rfl), (mtb 502 (by decide +kernel) rfl), sm_X3_shift, (mtb 9 (by decide +kernel) rfl), ⟨by decide +kernel, by decide +kernel, by decide +kernel⟩, by decide⟩
set_option maxRecDepth 20000 in
theorem sm_X3_keep : Cond.selects yX3_keep.cls yX3_keep yX3_keep ∈ mtbl := mtbs (List.mem_of_getElem? (i := 8) (by decide +kernel)) rfl
set_option maxRecDepth 20000 in
theorem cv_X3_55 : mCV "DodgemDebate$Run" 55 3 1 kX3_keep := ⟨⟨(RX3, TX3, 10), rfl, rfl⟩, cm_X3_keep, (mtb 504 (by decide +kernel) rfl), (mtb 506 (by decide +kernel) rfl), sm_X3_keep, (mtb 9 (by decide +kernel) rfl), ⟨by decide +kernel, by decide +kernel, by decide +kernel⟩, by decide⟩
set_option maxRecDepth 20000 in
theorem sm_X10_car : Cond.selects yX10_car.cls yX10_car yX10_car ∈ mtbl := mtb 514 (by decide +kernel) rfl
set_option maxRecDepth 20000 in
theorem cv_L_31 : mCV "DodgemDebateLaw" 31 9 2 kX10_car := ⟨⟨(RX10, TX10, 11), rfl, rfl⟩, cm_X10_car, (mtb 512 (by decide +kernel) rfl), (mtb 513 (by decide +kernel) rfl), sm_X10_car, (mtb 1 (by decide +kernel) rfl), ⟨by decide +kernel, by decide +kernel, by decide +kernel⟩, by decide⟩
set_option maxRecDepth 20000 in
theorem sm_X10_steer : Cond.selects yX10_steer.cls yX10_steer yX10_steer ∈ mtbl := mtb 518 (by decide +kernel) rfl
set_option maxRecDepth 20000 in
theorem cv_L_35 : mCV "DodgemDebateLaw" 35 9 2 kX10_steer := ⟨⟨(RX10, TX10, 11), rfl, rfl⟩, cm_X10_steer, (mtb 516 (by decide +kernel) rfl), (mtb 517 (by decide +kernel) rfl), sm_X10_steer, (mtb 1 (by decide +kernel) rfl), ⟨by decide +kernel, by decide +kernel, by decide +kernel⟩, by decide⟩
set_option maxRecDepth 20000 in
theorem sm_X6_partOf : Cond.selects yX6_partOf.cls yX6_partOf yX6_partOf ∈ mtbl := mtb 522 (by decide +kernel) rfl
set_option maxRecDepth 20000 in
theorem cv_X10_111 : mCV "DodgemDebate" 111 6 2 kX6_partOf := ⟨⟨(RX6, TX6, 5), rfl, rfl⟩, cm_X6_partOf, (mtb 520 (by decide +kernel) rfl), (mtb 521 (by decide +kernel) rfl), sm_X6_partOf, (mtb 5 (by decide +kernel) rfl), ⟨by decide +kernel, by decide +kernel, by decide +kernel⟩, by decide⟩
set_option maxRecDepth 20000 in
theorem sm_X10_event : Cond.selects yX10_event.cls yX10_event yX10_event ∈ mtbl := mtb 526 (by decide +kernel) rfl
set_option maxRecDepth 20000 in
theorem cv_L_39 : mCV "DodgemDebateLaw" 39 9 3 kX10_event := ⟨⟨(RX10, TX10, 11), rfl, rfl⟩, cm_X10_event, (mtb 524 (by decide +kernel) rfl), (mtb 525 (by decide +kernel) rfl), sm_X10_event, (mtb 1 (by decide +kernel) rfl), ⟨by decide +kernel, by decide +kernel, by decide +kernel⟩, by decide⟩
set_option maxRecDepth 20000 in
theorem cs_X10_115 : mCS "DodgemDebate" 115 3 kX1_fits := ⟨cm_X1_fits, Or.inl (mtb 528 (by decide +kernel) rfl), (mtb 529 (by decide +kernel) rfl), (mtb 6 (by decide +kernel) rfl), ⟨by decide +kernel, by decide +kernel, by decide +kernel⟩, by decide⟩
set_option maxRecDepth 20000 in
theorem sm_X1_append : Cond.selects yX1_append.cls yX1_append yX1_append ∈ mtbl := mtb 534 (by decide +kernel) rfl
set_option maxRecDepth 20000 in
theorem cv_X10_120 : mCV "DodgemDebate" 120 1 3 kX1_append := ⟨⟨(RX1, TX1, 4), rfl, rfl⟩, cm_X1_append, (mtb 532 (by decide +kernel) rfl), (mtb 533 (by decide +kernel) rfl), sm_X1_append, (mtb 6 (by decide +kernel) rfl), ⟨by decide +kernel, by decide +kernel, by decide +kernel⟩, by decide⟩
set_option maxRecDepth 20000 in
theorem sm_X10_back : Cond.selects yX10_back.cls yX10_back yX10_back ∈ mtbl := mtb 538 (by decide +kernel) rfl
set_option maxRecDepth 20000 in
theorem cv_L_44 : mCV "DodgemDebateLaw" 44 9 0 kX10_back := ⟨⟨(RX10, TX10, 11), rfl, rfl⟩, cm_X10_back, (mtb 536 (by decide +kernel) rfl), (mtb 537 (by decide +kernel) rfl), sm_X10_back, (mtb 1 (by decide +kernel) rfl), ⟨by decide +kernel, by decide +kernel, by decide +kernel⟩, by decide⟩
set_option maxRecDepth 20000 in
theorem sm_X10_read : Cond.selects yX10_read.cls yX10_read yX10_read ∈ mtbl := mtb 542 (by decide +kernel) rfl
set_option maxRecDepth 20000 in
theorem cv_L_49 : mCV "DodgemDebateLaw" 49 9 1 kX10_read := ⟨⟨(RX10, TX10, 11), rfl, rfl⟩, cm_X10_read, (mtb 540 (by decide +kernel) rfl), (mtb 541 (by decide +kernel) rfl), sm_X10_read, (mtb 1 (by decide +kernel) rfl), ⟨by decide +kernel, by decide +kernel, by decide +kernel⟩, by decide⟩
set_option maxRecDepth 20000 in
theorem sm_X4_isLost : Cond.selects yX4_isLost.cls yX4_isLost yX4_isLost ∈ mtbl := mtb 546 (by decide +kernel) rfl
set_option maxRecDepth 20000 in
theorem cv_X10_123 : mCV "DodgemDebate" 123 4 1 kX4_isLost := ⟨⟨(RX4, TX4, 4), rfl, rfl⟩, cm_X4_isLost, (mtb 544 (by decide +kernel) rfl), (mtb 545 (by decide +kernel) rfl), sm_X4_isLost, (mtb 8 (by decide +kernel) rfl), ⟨by decide +kernel, by decide +kernel, by decide +kernel⟩, by decide⟩
set_option maxRecDepth 20000 in
theorem sm_X4_found : Cond.selects yX4_found.cls yX4_found yX4_found ∈ mtbl := mtb 550 (by decide +kernel) rfl
set_option maxRecDepth 20000 in
theorem cv_X10_127 : mCV "DodgemDebate" 127 4 1 kX4_found := ⟨⟨(RX4, TX4, 4), rfl, rfl⟩, cm_X4_found, (mtb 548 (by decide +kernel) rfl), (mtb 549 (by decide +kernel) rfl), sm_X4_found, (mtb 8 (by decide +kernel) rfl), ⟨by decide +kernel, by decide +kernel, by decide +kernel⟩, by decide⟩
set_option maxRecDepth 20000 in
theorem sm_X10_at : Cond.selects yX10_at.cls yX10_at yX10_at ∈ mtbl := mtb 554 (by decide +kernel) rfl
set_option maxRecDepth 20000 in
theorem cv_L_53 : mCV "DodgemDebateLaw" 53 9 3 kX10_at := ⟨⟨(RX10, TX10, 11), rfl, rfl⟩, cm_X10_at, (mtb 552 (by decide +kernel) rfl), (mtb 553 (by decide +kernel) rfl), sm_X10_at, (mtb 1 (by decide +kernel) rfl), ⟨by decide +kernel, by decide +kernel, by decide +kernel⟩, by decide⟩
set_option maxRecDepth 20000 in
theorem sm_X3_behind : Cond.selects yX3_behind.cls yX3_behind yX3_behind ∈ mtbl := mtb 558 (by decide +kernel) rfl
set_option maxRecDepth 20000 in
theorem cv_X10_137 : mCV "DodgemDebate" 137 3 3 kX3_behind := ⟨⟨(RX3, TX3, 10), rfl, rfl⟩, cm_X3_behind, (mtb 556 (by decide +kernel) rfl), (mtb 557 (by decide +kernel) rfl), sm_X3_behind, (mtb 9 (by decide +kernel) rfl), ⟨by decide +kernel, by decide +kernel, by decide +kernel⟩, by decide⟩
set_option maxRecDepth 20000 in
theorem sm_X10_who : Cond.selects yX10_who.cls yX10_who yX10_who ∈ mtbl := mtb 562 (by decide +kernel) rfl
set_option maxRecDepth 20000 in
theorem cv_L_57 : mCV "DodgemDebateLaw" 57 9 3 kX10_who := ⟨⟨(RX10, TX10, 11), rfl, rfl⟩, cm_X10_who, (mtb 560 (by decide +kernel) rfl), (mtb 561 (by decide +kernel) rfl), sm_X10_who, (mtb 1 (by decide +kernel) rfl), ⟨by decide +kernel, by decide +kernel, by decide +kernel⟩, by decide⟩
set_option maxRecDepth 20000 in
theorem cs_X10_141 : mCS "DodgemDebate" 141 2 kX10_onFloor := ⟨cm_X10_onFloor, Or.inl (mtb 564 (by decide +kernel) rfl), (mtb 494 (by decide +kernel) rfl), (mtb 1 (by decide +kernel) rfl), ⟨by decide +kernel, by decide +kernel, by decide +kernel⟩, by decide⟩
set_option maxRecDepth 20000 in
theorem sm_X3_inCell : Cond.selects yX3_inCell.cls yX3_inCell yX3_inCell ∈ mtbl := mtb 567 (by decide +kernel) rfl
set_option maxRecDepth 20000 in
theorem cv_X10_144 : mCV "DodgemDebate" 144 3 3 kX3_inCell := ⟨⟨(RX3, TX3, 10), rfl, rfl⟩, cm_X3_inCell, (mtb 565 (by decide +kernel) rfl), (mtb 566 (by decide +kernel) rfl), sm_X3_inCell, (mtb 9 (by decide +kernel) rfl), ⟨by decide +kernel, by decide +kernel, by decide +kernel⟩, by decide⟩
set_option maxRecDepth 20000 in
theorem cv_X3_117 : mCV "DodgemDebate$Run" 117 3 3 kX3_behind := ⟨⟨(RX3, TX3, 10), rfl, rfl⟩, cm_X3_behind, (mtb 569 (by decide +kernel) rfl), (mtb 557 (by decide +kernel) rfl), sm_X3_behind, (mtb 9 (by decide +kernel) rfl), ⟨by decide +kernel, by decide +kernel, by decide +kernel⟩, by decide⟩
set_option maxRecDepth 20000 in
theorem sm_X10_house : Cond.selects yX10_house.cls yX10_house yX10_house ∈ mtbl := mtb 572 (by decide +kernel) rfl
set_option maxRecDepth 20000 in
theorem cv_L_61 : mCV "DodgemDebateLaw" 61 9 2 kX10_house := ⟨⟨(RX10, TX10, 11), rfl, rfl⟩, cm_X10_house, (mtb 570 (by decide +kernel) rfl), (mtb 571 (by decide +kernel) rfl), sm_X10_house, (mtb 1 (by decide +kernel) rfl), ⟨by decide +kernel, by decide +kernel, by decide +kernel⟩, by decide⟩
set_option maxRecDepth 20000 in
theorem sm_X3_division : Cond.selects yX3_division.cls yX3_division yX3_division ∈ mtbl := mtb 576 (by decide +kernel) rfl
set_option maxRecDepth 20000 in
theorem cv_X10_147 : mCV "DodgemDebate" 147 3 2 kX3_division := ⟨⟨(RX3, TX3, 10), rfl, rfl⟩, cm_X3_division, (mtb 574 (by decide +kernel) rfl), (mtb 575 (by decide +kernel) rfl), sm_X3_division, (mtb 9 (by decide +kernel) rfl), ⟨by decide +kernel, by decide +kernel, by decide +kernel⟩, by decide⟩
set_option maxRecDepth 20000 in
theorem sm_X3_ayes : Cond.selects yX3_ayes.cls yX3_ayes yX3_ayes ∈ mtbl := mtb 580 (by decide +kernel) rfl
set_option maxRecDepth 20000 in
theorem cv_X3_121 : mCV "DodgemDebate$Run" 121 3 1 kX3_ayes := ⟨⟨(RX3, TX3, 10), rfl, rfl⟩, cm_X3_ayes, (mtb 578 (by decide +kernel) rfl), (mtb 579 (by decide +kernel) rfl), sm_X3_ayes, (mtb 9 (by decide +kernel) rfl), ⟨by decide +kernel, by decide +kernel, by decide +kernel⟩, by decide⟩
set_option maxRecDepth 20000 in
theorem sm_X10_strikes : Cond.selects yX10_strikes.cls yX10_strikes yX10_strikes ∈ mtbl := mtb 584 (by decide +kernel) rfl
set_option maxRecDepth 20000 in
theorem cv_L_65 : mCV "DodgemDebateLaw" 65 9 0 kX10_strikes := ⟨⟨(RX10, TX10, 11), rfl, rfl⟩, cm_X10_strikes, (mtb 582 (by decide +kernel) rfl), (mtb 583 (by decide +kernel) rfl), sm_X10_strikes, (mtb 1 (by decide +kernel) rfl), ⟨by decide +kernel, by decide +kernel, by decide +kernel⟩, by decide⟩
set_option maxRecDepth 20000 in
theorem sm_X10_first : Cond.selects yX10_first.cls yX10_first yX10_first ∈ mtbl := mtb 588 (by decide +kernel) rfl
set_option maxRecDepth 20000 in
theorem cv_L_69 : mCV "DodgemDebateLaw" 69 9 1 kX10_first := ⟨⟨(RX10, TX10, 11), rfl, rfl⟩, cm_X10_first, (mtb 586 (by decide +kernel) rfl), (mtb 587 (by decide +kernel) rfl), sm_X10_first, (mtb 1 (by decide +kernel) rfl), ⟨by decide +kernel, by decide +kernel, by decide +kernel⟩, by decide⟩
set_option maxRecDepth 20000 in
theorem sm_X10_best : Cond.selects yX10_best.cls yX10_best yX10_best ∈ mtbl := mtb 592 (by decide +kernel) rfl
set_option maxRecDepth 20000 in
theorem cv_L_73 : mCV "DodgemDebateLaw" 73 9 0 kX10_best := ⟨⟨(RX10, TX10, 11), rfl, rfl⟩, cm_X10_best, (mtb 590 (by decide +kernel) rfl), (mtb 591 (by decide +kernel) rfl), sm_X10_best, (mtb 1 (by decide +kernel) rfl), ⟨by decide +kernel, by decide +kernel, by decide +kernel⟩, by decide⟩
set_option maxRecDepth 20000 in
theorem sm_X3_leader : Cond.selects yX3_leader.cls yX3_leader yX3_leader ∈ mtbl := mtb 596 (by decide +kernel) rfl
set_option maxRecDepth 20000 in
theorem cv_X10_159 : mCV "DodgemDebate" 159 3 0 kX3_leader := ⟨⟨(RX3, TX3, 10), rfl, rfl⟩, cm_X3_leader, (mtb 594 (by decide +kernel) rfl), (mtb 595 (by decide +kernel) rfl), sm_X3_leader, (mtb 9 (by decide +kernel) rfl), ⟨by decide +kernel, by decide +kernel, by decide +kernel⟩, by decide⟩
set_option maxRecDepth 20000 in
theorem sm_X10_meek : Cond.selects yX10_meek.cls yX10_meek yX10_meek ∈ mtbl := mtb 600 (by decide +kernel) rfl
set_option maxRecDepth 20000 in
theorem cv_L_77 : mCV "DodgemDebateLaw" 77 9 0 kX10_meek := ⟨⟨(RX10, TX10, 11), rfl, rfl⟩, cm_X10_meek, (mtb 598 (by decide +kernel) rfl), (mtb 599 (by decide +kernel) rfl), sm_X10_meek, (mtb 1 (by decide +kernel) rfl), ⟨by decide +kernel, by decide +kernel, by decide +kernel⟩, by decide⟩
set_option maxRecDepth 20000 in
theorem sm_X3_untouched : Cond.selects yX3_untouched.cls yX3_untouched yX3_untouched ∈ mtbl := mtb 604 (by decide +kernel) rfl
set_option maxRecDepth 20000 in
theorem cv_X10_163 : mCV "DodgemDebate" 163 3 0 kX3_untouched := ⟨⟨(RX3, TX3, 10), rfl, rfl⟩, cm_X3_untouched, (mtb 602 (by decide +kernel) rfl), (mtb 603 (by decide +kernel) rfl), sm_X3_untouched, (mtb 9 (by decide +kernel) rfl), ⟨by decide +kernel, by decide +kernel, by decide +kernel⟩, by decide⟩
set_option maxRecDepth 20000 in
theorem sm_X10_jam : Cond.selects yX10_jam.cls yX10_jam yX10_jam ∈ mtbl := mtb 608 (by decide +kernel) rfl
set_option maxRecDepth 20000 in
theorem cv_L_81 : mCV "DodgemDebateLaw" 81 9 1 kX10_jam := ⟨⟨(RX10, TX10, 11), rfl, rfl⟩, cm_X10_jam, (mtb 606 (by decide +kernel) rfl), (mtb 607 (by decide +kernel) rfl), sm_X10_jam, (mtb 1 (by decide +kernel) rfl), ⟨by decide +kernel, by decide +kernel, by decide +kernel⟩, by decide⟩
set_option maxRecDepth 20000 in
theorem sm_X3_worstJam : Cond.selects yX3_worstJam.cls yX3_worstJam yX3_worstJam ∈ mtbl := mtb 612 (by decide +kernel) rfl
set_option maxRecDepth 20000 in
theorem cv_X10_166 : mCV "DodgemDebate" 166 3 0 kX3_worstJam := ⟨⟨(RX3, TX3, 10), rfl, rfl⟩, cm_X3_worstJam, (mtb 610 (by decide +kernel) rfl), (mtb 611 (by decide +kernel) rfl), sm_X3_worstJam, (mtb 9 (by decide +kernel) rfl), ⟨by decide +kernel, by decide +kernel, by decide +kernel⟩, by decide⟩
set_option maxRecDepth 20000 in
theorem sm_X10_carried : Cond.selects yX10_carried.cls yX10_carried yX10_carried ∈ mtbl := mtb 616 (by decide +kernel) rfl
set_option maxRecDepth 20000 in
theorem cv_L_85 : mCV "DodgemDebateLaw" 85 9 0 kX10_carried := ⟨⟨(RX10, TX10, 11), rfl, rfl⟩, cm_X10_carried, (mtb 614 (by decide +kernel) rfl), (mtb 615 (by decide +kernel) rfl), sm_X10_carried, (mtb 1 (by decide +kernel) rfl), ⟨by decide +kernel, by decide +kernel, by decide +kernel⟩, by decide⟩
set_option maxRecDepth 20000 in
theorem sm_X3_divisionsCarried : Cond.selects yX3_divisionsCarried.cls yX3_divisionsCarried yX3_divisionsCarried ∈ mtbl := mtb 620 (by decide +kernel) rfl
set_option maxRecDepth 20000 in
theorem cv_X10_172 : mCV "DodgemDebate" 172 3 0 kX3_divisionsCarried := ⟨⟨(RX3, TX3, 10), rfl, rfl⟩, cm_X3_divisionsCarried, (mtb 618 (by decide +kernel) rfl), (mtb 619 (by decide +kernel) rfl), sm_X3_divisionsCarried, (mtb 9 (by decide +kernel) rfl), ⟨by decide +kernel, by decide +kernel, by decide +kernel⟩, by decide⟩
set_option maxRecDepth 20000 in
theorem sm_X10_stand : Cond.selects yX10_stand.cls yX10_stand yX10_stand ∈ mtbl := mtb 624 (by decide +kernel) rfl
set_option maxRecDepth 20000 in
theorem cv_L_89 : mCV "DodgemDebateLaw" 89 9 2 kX10_stand := ⟨⟨(RX10, TX10, 11), rfl, rfl⟩, cm_X10_stand, (mtb 622 (by decide +kernel) rfl), (mtb 623 (by decide +kernel) rfl), sm_X10_stand, (mtb 1 (by decide +kernel) rfl), ⟨by decide +kernel, by decide +kernel, by decide +kernel⟩, by decide⟩
set_option maxRecDepth 20000 in
theorem sm_X9_bestStand : Cond.selects yX9_bestStand.cls yX9_bestStand yX9_bestStand ∈ mtbl := mtb 628 (by decide +kernel) rfl
set_option maxRecDepth 20000 in
theorem cv_X10_175 : mCV "DodgemDebate" 175 8 1 kX9_bestStand := ⟨⟨(RX9, TX9, 10), rfl, rfl⟩, cm_X9_bestStand, (mtb 626 (by decide +kernel) rfl), (mtb 627 (by decide +kernel) rfl), sm_X9_bestStand, (mtb 10 (by decide +kernel) rfl), ⟨by decide +kernel, by decide +kernel, by decide +kernel⟩, by decide⟩
set_option maxRecDepth 20000 in
theorem sm_X0_becomeLike : Cond.selects yX0_becomeLike.cls yX0_becomeLike yX0_becomeLike ∈ mtbl := mtb 632 (by decide +kernel) rfl
set_option maxRecDepth 20000 in
theorem cv_X9_55 : mCV "DodgemDebate$Trials" 55 0 1 kX0_becomeLike := ⟨⟨(RX0, TX0, 5), rfl, rfl⟩, cm_X0_becomeLike, (mtb 630 (by decide +kernel) rfl), (mtb 631 (by decide +kernel) rfl), sm_X0_becomeLike, (mtb 4 (by decide +kernel) rfl), ⟨by decide +kernel, by decide +kernel, by decide +kernel⟩, by decide⟩
set_option maxRecDepth 20000 in
theorem cv_X9_63 : mCV "DodgemDebate$Trials" 63 0 4 kX0_isTaken := ⟨⟨(RX0, TX0, 5), rfl, rfl⟩, cm_X0_isTaken, (mtb 635 (by decide +kernel) rfl), (mtb 452 (by decide +kernel) rfl), sm_X0_isTaken, (mtb 4 (by decide +kernel) rfl), ⟨by decide +kernel, by decide +kernel, by decide +kernel⟩, by decide⟩
set_option maxRecDepth 20000 in
theorem cv_X9_70 : mCV "DodgemDebate$Trials" 70 3 4 kX3_play := ⟨⟨(RX3, TX3, 10), rfl, rfl⟩, cm_X3_play, (mtb 636 (by decide +kernel) rfl), (mtb 467 (by decide +kernel) rfl), sm_X3_play, (mtb 9 (by decide +kernel) rfl), ⟨by decide +kernel, by decide +kernel, by decide +kernel⟩, by decide⟩
set_option maxRecDepth 20000 in
theorem cs_X10_178 : mCS "DodgemDebate" 178 2 kX10_standPart := ⟨cm_X10_standPart, Or.inl (mtb 637 (by decide +kernel) rfl), (mtb 638 (by decide +kernel) rfl), (mtb 1 (by decide +kernel) rfl), ⟨by decide +kernel, by decide +kernel, by decide +kernel⟩, by decide⟩
set_option maxRecDepth 20000 in
theorem sm_X10_better : Cond.selects yX10_better.cls yX10_better yX10_better ∈ mtbl := mtb 642 (by decide +kernel) rfl
set_option maxRecDepth 20000 in
theorem cv_L_93 : mCV "DodgemDebateLaw" 93 9 3 kX10_better := ⟨⟨(RX10, TX10, 11), rfl, rfl⟩, cm_X10_better, (mtb 640 (by decide +kernel) rfl), (mtb 641 (by decide +kernel) rfl), sm_X10_better, (mtb 1 (by decide +kernel) rfl), ⟨by decide +kernel, by decide +kernel, by decide +kernel⟩, by decide⟩
set_option maxRecDepth 20000 in
theorem sm_X9_bestTurn : Cond.selects yX9_bestTurn.cls yX9_bestTurn yX9_bestTurn ∈ mtbl := mtb 646 (by decide +kernel) rfl
set_option maxRecDepth 20000 in
theorem cv_X10_181 : mCV "DodgemDebate" 181 8 2 kX9_bestTurn := ⟨⟨(RX9, TX9, 10), rfl, rfl⟩, cm_X9_bestTurn, (mtb 644 (by decide +kernel) rfl), (mtb 645 (by decide +kernel) rfl), sm_X9_bestTurn, (mtb 10 (by decide +kernel) rfl), ⟨by decide +kernel, by decide +kernel, by decide +kernel⟩, by decide⟩
set_option maxRecDepth 20000 in
theorem sm_X6_lend : Cond.selects yX6_lend.cls yX6_lend yX6_lend ∈ mtbl := mtb 650 (by decide +kernel) rfl
set_option maxRecDepth 20000 in
theorem cv_X9_77 : mCV "DodgemDebate$Trials" 77 6 3 kX6_lend := ⟨⟨(RX6, TX6, 5), rfl, rfl⟩, cm_X6_lend, (mtb 648 (by decide +kernel) rfl), (mtb 649 (by decide +kernel) rfl), sm_X6_lend, (mtb 5 (by decide +kernel) rfl), ⟨by decide +kernel, by decide +kernel, by decide +kernel⟩, by decide⟩
set_option maxRecDepth 20000 in
theorem sm_X6_giveBack : Cond.selects yX6_giveBack.cls yX6_giveBack yX6_giveBack ∈ mtbl := mtb 654 (by decide +kernel) rfl
set_option maxRecDepth 20000 in
theorem cv_X9_83 : mCV "DodgemDebate$Trials" 83 6 0 kX6_giveBack := ⟨⟨(RX6, TX6, 5), rfl, rfl⟩, cm_X6_giveBack, (mtb 652 (by decide +kernel) rfl), (mtb 653 (by decide +kernel) rfl), sm_X6_giveBack, (mtb 5 (by decide +kernel) rfl), ⟨by decide +kernel, by decide +kernel, by decide +kernel⟩, by decide⟩
set_option maxRecDepth 20000 in
theorem cs_X10_184 : mCS "DodgemDebate" 184 2 kX10_turnPart := ⟨cm_X10_turnPart, Or.inl (mtb 656 (by decide +kernel) rfl), (mtb 657 (by decide +kernel) rfl), (mtb 1 (by decide +kernel) rfl), ⟨by decide +kernel, by decide +kernel, by decide +kernel⟩, by decide⟩
set_option maxRecDepth 20000 in
theorem sm_X10_ring : Cond.selects yX10_ring.cls yX10_ring yX10_ring ∈ mtbl := mtb 661 (by decide +kernel) rfl
set_option maxRecDepth 20000 in
theorem cv_L_97 : mCV "DodgemDebateLaw" 97 9 1 kX10_ring := ⟨⟨(RX10, TX10, 11), rfl, rfl⟩, cm_X10_ring, (mtb 659 (by decide +kernel) rfl), (mtb 660 (by decide +kernel) rfl), sm_X10_ring, (mtb 1 (by decide +kernel) rfl), ⟨by decide +kernel, by decide +kernel, by decide +kernel⟩, by decide⟩
set_option maxRecDepth 20000 in
theorem sm_X10_bestBell : Cond.selects yX10_bestBell.cls yX10_bestBell yX10_bestBell ∈ mtbl := mtbs (List.mem_of_getElem? (i := 9) (by decide +kernel)) rfl
set_option maxRecDepth 20000 in
theorem cv_X10_187 : mCV "DodgemDebate" 187 9 0 kX10_bestBell := ⟨⟨(RX10, TX10, 11), rfl, rfl⟩, cm_X10_bestBell, (mtb 663 (by decide +kernel) rfl), (mtb 665 (by decide +kernel) rfl), sm_X10_bestBell, (mtb 1 (by decide +kernel) rfl), ⟨by decide +kernel, by decide +kernel, by decide +kernel⟩, by decide⟩
set_option maxRecDepth 20000 in
theorem sm_X10_ayesAhead : Cond.selects yX10_ayesAhead.cls yX10_ayesAhead yX10_ayesAhead ∈ mtbl := mtbs (List.mem_of_getElem? (i := 10) (by decide +kernel)) rfl
set_option maxRecDepth 20000 in
theorem cv_X10_190 : mCV "DodgemDebate" 190 9 1 kX10_ayesAhead := ⟨⟨(RX10, TX10, 11), rfl, rfl⟩, cm_X10_ayesAhead, (mtb 667 (by decide +kernel) rfl), (mtb 669 (by decide +kernel) rfl), sm_X10_ayesAhead, (mtb 1 (by decide +kernel) rfl), ⟨by decide +kernel, by decide +kernel, by decide +kernel⟩, by decide⟩
set_option maxRecDepth 20000 in
theorem sm_X0_ayesAsTold : Cond.selects yX0_ayesAsTold.cls yX0_ayesAsTold yX0_ayesAsTold ∈ mtbl := mtb 673 (by decide +kernel) rfl
set_option maxRecDepth 20000 in
theorem cv_X10_304 : mCV "DodgemDebate" 304 0 0 kX0_ayesAsTold := ⟨⟨(RX0, TX0, 5), rfl, rfl⟩, cm_X0_ayesAsTold, (mtb 671 (by decide +kernel) rfl), (mtb 672 (by decide +kernel) rfl), sm_X0_ayesAsTold, (mtb 4 (by decide +kernel) rfl), ⟨by decide +kernel, by decide +kernel, by decide +kernel⟩, by decide⟩
set_option maxRecDepth 20000 in
theorem cv_X10_307 : mCV "DodgemDebate" 307 3 1 kX3_ayes := ⟨⟨(RX3, TX3, 10), rfl, rfl⟩, cm_X3_ayes, (mtb 675 (by decide +kernel) rfl), (mtb 579 (by decide +kernel) rfl), sm_X3_ayes, (mtb 9 (by decide +kernel) rfl), ⟨by decide +kernel, by decide +kernel, by decide +kernel⟩, by decide⟩
set_option maxRecDepth 20000 in
theorem sm_X10_spare : Cond.selects yX10_spare.cls yX10_spare yX10_spare ∈ mtbl := mtb 678 (by decide +kernel) rfl
set_option maxRecDepth 20000 in
theorem cv_L_101 : mCV "DodgemDebateLaw" 101 9 1 kX10_spare := ⟨⟨(RX10, TX10, 11), rfl, rfl⟩, cm_X10_spare, (mtb 676 (by decide +kernel) rfl), (mtb 677 (by decide +kernel) rfl), sm_X10_spare, (mtb 1 (by decide +kernel) rfl), ⟨by decide +kernel, by decide +kernel, by decide +kernel⟩, by decide⟩
set_option maxRecDepth 20000 in
theorem sm_X9_fewestSpared : Cond.selects yX9_fewestSpared.cls yX9_fewestSpared yX9_fewestSpared ∈ mtbl := mtb 682 (by decide +kernel) rfl
set_option maxRecDepth 20000 in
theorem cv_X10_193 : mCV "DodgemDebate" 193 8 0 kX9_fewestSpared := ⟨⟨(RX9, TX9, 10), rfl, rfl⟩, cm_X9_fewestSpared, (mtb 680 (by decide +kernel) rfl), (mtb 681 (by decide +kernel) rfl), sm_X9_fewestSpared, (mtb 10 (by decide +kernel) rfl), ⟨by decide +kernel, by decide +kernel, by decide +kernel⟩, by decide⟩
set_option maxRecDepth 20000 in
theorem sm_X9_touchesAll : Cond.selects yX9_touchesAll.cls yX9_touchesAll yX9_touchesAll ∈ mtbl := mtbs (List.mem_of_getElem? (i := 11) (by decide +kernel)) rfl
set_option maxRecDepth 20000 in
theorem cv_X9_86 : mCV "DodgemDebate$Trials" 86 8 1 kX9_touchesAll := ⟨⟨(RX9, TX9, 10), rfl, rfl⟩, cm_X9_touchesAll, (mtb 684 (by decide +kernel) rfl), (mtb 686 (by decide +kernel) rfl), sm_X9_touchesAll, (mtb 10 (by decide +kernel) rfl), ⟨by decide +kernel, by decide +kernel, by decide +kernel⟩, by decide⟩
set_option maxRecDepth 20000 in
theorem cv_X9_91 : mCV "DodgemDebate$Trials" 91 3 0 kX3_untouched := ⟨⟨(RX3, TX3, 10), rfl, rfl⟩, cm_X3_untouched, (mtb 688 (by decide +kernel) rfl), (mtb 603 (by decide +kernel) rfl), sm_X3_untouched, (mtb 9 (by decide +kernel) rfl), ⟨by decide +kernel, by decide +kernel, by decide +kernel⟩, by decide⟩
set_option maxRecDepth 20000 in
theorem cs_X10_196 : mCS "DodgemDebate" 196 2 kX10_sparePart := ⟨cm_X10_sparePart, Or.inl (mtb 689 (by decide +kernel) rfl), (mtb 690 (by decide +kernel) rfl), (mtb 1 (by decide +kernel) rfl), ⟨by decide +kernel, by decide +kernel, by decide +kernel⟩, by decide⟩
set_option maxRecDepth 20000 in
theorem cs_X10_310 : mCS "DodgemDebate" 310 1 kJ6_bitCount_0f7a4 := ⟨cm_J6_bitCount_0f7a4, Or.inl (mtb 692 (by decide +kernel) rfl), (mtb 693 (by decide +kernel) rfl), (mtb 21 (by decide +kernel) rfl), ⟨by decide +kernel, by decide +kernel, by decide +kernel⟩, by decide⟩
set_option maxRecDepth 20000 in
theorem sm_X10_seen : Cond.selects yX10_seen.cls yX10_seen yX10_seen ∈ mtbl := mtb 700 (by decide +kernel) rfl
set_option maxRecDepth 20000 in
theorem cv_L_105 : mCV "DodgemDebateLaw" 105 9 4 kX10_seen := ⟨⟨(RX10, TX10, 11), rfl, rfl⟩, cm_X10_seen, (mtb 698 (by decide +kernel) rfl), (mtb 699 (by decide +kernel) rfl), sm_X10_seen, (mtb 1 (by decide +kernel) rfl), ⟨by decide +kernel, by decide +kernel, by decide +kernel⟩, by decide⟩
set_option maxRecDepth 20000 in
theorem sm_X5_append : Cond.selects yX5_append.cls yX5_append yX5_append ∈ mtbl := mtb 704 (by decide +kernel) rfl
set_option maxRecDepth 20000 in
theorem cv_X10_200 : mCV "DodgemDebate" 200 5 4 kX5_append := ⟨⟨(RX5, TX5, 5), rfl, rfl⟩, cm_X5_append, (mtb 702 (by decide +kernel) rfl), (mtb 703 (by decide +kernel) rfl), sm_X5_append, (mtb 7 (by decide +kernel) rfl), ⟨by decide +kernel, by decide +kernel, by decide +kernel⟩, by decide⟩
set_option maxRecDepth 20000 in
theorem sm_X10_forget : Cond.selects yX10_forget.cls yX10_forget yX10_forget ∈ mtbl := mtb 708 (by decide +kernel) rfl
set_option maxRecDepth 20000 in
theorem cv_L_110 : mCV "DodgemDebateLaw" 110 9 0 kX10_forget := ⟨⟨(RX10, TX10, 11), rfl, rfl⟩, cm_X10_forget, (mtb 706 (by decide +kernel) rfl), (mtb 707 (by decide +kernel) rfl), sm_X10_forget, (mtb 1 (by decide +kernel) rfl), ⟨by decide +kernel, by decide +kernel, by decide +kernel⟩, by decide⟩
set_option maxRecDepth 20000 in
theorem sm_X10_never : Cond.selects yX10_never.cls yX10_never yX10_never ∈ mtbl := mtb 712 (by decide +kernel) rfl
set_option maxRecDepth 20000 in
theorem cv_L_114 : mCV "DodgemDebateLaw" 114 9 0 kX10_never := ⟨⟨(RX10, TX10, 11), rfl, rfl⟩, cm_X10_never, (mtb 710 (by decide +kernel) rfl), (mtb 711 (by decide +kernel) rfl), sm_X10_never, (mtb 1 (by decide +kernel) rfl), ⟨by decide +kernel, by decide +kernel, by decide +kernel⟩, by decide⟩
set_option maxRecDepth 20000 in
theorem sm_X9_eventsThatNeverWere : Cond.selects yX9_eventsThatNeverWere.cls yX9_eventsThatNeverWere yX9_eventsThatNeverWere ∈ mtbl := mtb 716 (by decide +kernel) rfl
set_option maxRecDepth 20000 in
theorem cv_X10_203 : mCV "DodgemDebate" 203 8 0 kX9_eventsThatNeverWere := ⟨⟨(RX9, TX9, 10), rfl, rfl⟩, cm_X9_eventsThatNeverWere, (mtb 714 (by decide +kernel) rfl), (mtb 715 (by decide +kernel) rfl), sm_X9_eventsThatNeverWere, (mtb 10 (by decide +kernel) rfl), ⟨by decide +kernel, by decide +kernel, by decide +kernel⟩, by decide⟩
set_option maxRecDepth 20000 in
theorem sm_X5_comeOutIn : Cond.selects yX5_comeOutIn.cls yX5_comeOutIn yX5_comeOutIn ∈ mtbl := mtb 720 (by decide +kernel) rfl
set_option maxRecDepth 20000 in
theorem cv_X9_95 : mCV "DodgemDebate$Trials" 95 5 1 kX5_comeOutIn := ⟨⟨(RX5, TX5, 5), rfl, rfl⟩, cm_X5_comeOutIn, (mtb 718 (by decide +kernel) rfl), (mtb 719 (by decide +kernel) rfl), sm_X5_comeOutIn, (mtb 7 (by decide +kernel) rfl), ⟨by decide +kernel, by decide +kernel, by decide +kernel⟩, by decide⟩
set_option maxRecDepth 20000 in
theorem cv_X5_31 : mCV "DodgemDebate$Sightings" 31 3 3 kX3_behind := ⟨⟨(RX3, TX3, 10), rfl, rfl⟩, cm_X3_behind, (mtb 722 (by decide +kernel) rfl), (mtb 557 (by decide +kernel) rfl), sm_X3_behind, (mtb 9 (by decide +kernel) rfl), ⟨by decide +kernel, by decide +kernel, by decide +kernel⟩, by decide⟩
set_option maxRecDepth 20000 in
theorem sm_X10_was : Cond.selects yX10_was.cls yX10_was yX10_was ∈ mtbl := mtb 725 (by decide +kernel) rfl
set_option maxRecDepth 20000 in
theorem cv_L_118 : mCV "DodgemDebateLaw" 118 9 2 kX10_was := ⟨⟨(RX10, TX10, 11), rfl, rfl⟩, cm_X10_was, (mtb 723 (by decide +kernel) rfl), (mtb 724 (by decide +kernel) rfl), sm_X10_was, (mtb 1 (by decide +kernel) rfl), ⟨by decide +kernel, by decide +kernel, by decide +kernel⟩, by decide⟩
set_option maxRecDepth 20000 in
theorem sm_X9_sortsOf : Cond.selects yX9_sortsOf.cls yX9_sortsOf yX9_sortsOf ∈ mtbl := mtb 729 (by decide +kernel) rfl
set_option maxRecDepth 20000 in
theorem cv_X10_206 : mCV "DodgemDebate" 206 8 1 kX9_sortsOf := ⟨⟨(RX9, TX9, 10), rfl, rfl⟩, cm_X9_sortsOf, (mtb 727 (by decide +kernel) rfl), (mtb 728 (by decide +kernel) rfl), sm_X9_sortsOf, (mtb 10 (by decide +kernel) rfl), ⟨by decide +kernel, by decide +kernel, by decide +kernel⟩, by decide⟩
set_option maxRecDepth 20000 in
theorem sm_X9_agrees : Cond.selects yX9_agrees.cls yX9_agrees yX9_agrees ∈ mtbl := mtbs (List.mem_of_getElem? (i := 12) (by decide +kernel)) rfl
set_option maxRecDepth 20000 in
theorem cv_X9_101 : mCV "DodgemDebate$Trials" 101 8 3 kX9_agrees := ⟨⟨(RX9, TX9, 10), rfl, rfl⟩, cm_X9_agrees, (mtb 731 (by decide +kernel) rfl), (mtb 733 (by decide +kernel) rfl), sm_X9_agrees, (mtb 10 (by decide +kernel) rfl), ⟨by decide +kernel, by decide +kernel, by decide +kernel⟩, by decide⟩
set_option maxRecDepth 20000 in
theorem sm_X9_weightsOf : Cond.selects yX9_weightsOf.cls yX9_weightsOf yX9_weightsOf ∈ mtbl := mtb 737 (by decide +kernel) rfl
set_option maxRecDepth 20000 in
theorem cv_X10_209 : mCV "DodgemDebate" 209 8 1 kX9_weightsOf := ⟨⟨(RX9, TX9, 10), rfl, rfl⟩, cm_X9_weightsOf, (mtb 735 (by decide +kernel) rfl), (mtb 736 (by decide +kernel) rfl), sm_X9_weightsOf, (mtb 10 (by decide +kernel) rfl), ⟨by decide +kernel, by decide +kernel, by decide +kernel⟩, by decide⟩
set_option maxRecDepth 20000 in
theorem sm_X10_ask : Cond.selects yX10_ask.cls yX10_ask yX10_ask ∈ mtbl := mtb 741 (by decide +kernel) rfl
set_option maxRecDepth 20000 in
theorem cv_L_122 : mCV "DodgemDebateLaw" 122 9 1 kX10_ask := ⟨⟨(RX10, TX10, 11), rfl, rfl⟩, cm_X10_ask, (mtb 739 (by decide +kernel) rfl), (mtb 740 (by decide +kernel) rfl), sm_X10_ask, (mtb 1 (by decide +kernel) rfl), ⟨by decide +kernel, by decide +kernel, by decide +kernel⟩, by decide⟩
set_option maxRecDepth 20000 in
theorem sm_X9_momentToLook : Cond.selects yX9_momentToLook.cls yX9_momentToLook yX9_momentToLook ∈ mtbl := mtb 745 (by decide +kernel) rfl
set_option maxRecDepth 20000 in
theorem cv_X10_212 : mCV "DodgemDebate" 212 8 1 kX9_momentToLook := ⟨⟨(RX9, TX9, 10), rfl, rfl⟩, cm_X9_momentToLook, (mtb 743 (by decide +kernel) rfl), (mtb 744 (by decide +kernel) rfl), sm_X9_momentToLook, (mtb 10 (by decide +kernel) rfl), ⟨by decide +kernel, by decide +kernel, by decide +kernel⟩, by decide⟩
set_option maxRecDepth 20000 in
theorem sm_X9_cellOf : Cond.selects yX9_cellOf.cls yX9_cellOf yX9_cellOf ∈ mtbl := mtbs (List.mem_of_getElem? (i := 13) (by decide +kernel)) rfl
set_option maxRecDepth 20000 in
theorem cv_X9_105 : mCV "DodgemDebate$Trials" 105 8 2 kX9_cellOf := ⟨⟨(RX9, TX9, 10), rfl, rfl⟩, cm_X9_cellOf, (mtb 747 (by decide +kernel) rfl), (mtb 749 (by decide +kernel) rfl), sm_X9_cellOf, (mtb 10 (by decide +kernel) rfl), ⟨by decide +kernel, by decide +kernel, by decide +kernel⟩, by decide⟩
set_option maxRecDepth 20000 in
theorem cv_X9_113 : mCV "DodgemDebate$Trials" 113 3 3 kX3_behind := ⟨⟨(RX3, TX3, 10), rfl, rfl⟩, cm_X3_behind, (mtb 751 (by decide +kernel) rfl), (mtb 557 (by decide +kernel) rfl), sm_X3_behind, (mtb 9 (by decide +kernel) rfl), ⟨by decide +kernel, by decide +kernel, by decide +kernel⟩, by decide⟩
set_option maxRecDepth 20000 in
theorem sm_X9_mostAlike : Cond.selects yX9_mostAlike.cls yX9_mostAlike yX9_mostAlike ∈ mtbl := mtbs (List.mem_of_getElem? (i := 14) (by decide +kernel)) rfl
set_option maxRecDepth 20000 in
theorem cv_X9_109 : mCV "DodgemDebate$Trials" 109 8 1 kX9_mostAlike := ⟨⟨(RX9, TX9, 10), rfl, rfl⟩, cm_X9_mostAlike, (mtb 752 (by decide +kernel) rfl), (mtb 754 (by decide +kernel) rfl), sm_X9_mostAlike, (mtb 10 (by decide +kernel) rfl), ⟨by decide +kernel, by decide +kernel, by decide +kernel⟩, by decide⟩
set_option maxRecDepth 20000 in
theorem cs_X9_117 : mCS "DodgemDebate$Trials" 117 2 kJ9_max_7cf53 := ⟨cm_J9_max_7cf53, Or.inl (mtb 756 (by decide +kernel) rfl), (mtb 393 (by decide +kernel) rfl), (mtb 15 (by decide +kernel) rfl), ⟨by decide +kernel, by decide +kernel, by decide +kernel⟩, by decide⟩
set_option maxRecDepth 20000 in
theorem sm_X10_chance : Cond.selects yX10_chance.cls yX10_chance yX10_chance ∈ mtbl := mtb 759 (by decide +kernel) rfl
set_option maxRecDepth 20000 in
theorem cv_L_126 : mCV "DodgemDebateLaw" 126 9 3 kX10_chance := ⟨⟨(RX10, TX10, 11), rfl, rfl⟩, cm_X10_chance, (mtb 757 (by decide +kernel) rfl), (mtb 758 (by decide +kernel) rfl), sm_X10_chance, (mtb 1 (by decide +kernel) rfl), ⟨by decide +kernel, by decide +kernel, by decide +kernel⟩, by decide⟩
set_option maxRecDepth 20000 in
theorem sm_X9_weighStruck : Cond.selects yX9_weighStruck.cls yX9_weighStruck yX9_weighStruck ∈ mtbl := mtb 764 (by decide +kernel) rfl
set_option maxRecDepth 20000 in
theorem cv_X10_217 : mCV "DodgemDebate" 217 8 2 kX9_weighStruck := ⟨⟨(RX9, TX9, 10), rfl, rfl⟩, cm_X9_weighStruck, (mtb 762 (by decide +kernel) rfl), (mtb 763 (by decide +kernel) rfl), sm_X9_weighStruck, (mtb 10 (by decide +kernel) rfl), ⟨by decide +kernel, by decide +kernel, by decide +kernel⟩, by decide⟩
set_option maxRecDepth 20000 in
theorem sm_X9_findStruck : Cond.selects yX9_findStruck.cls yX9_findStruck yX9_findStruck ∈ mtbl := mtbs (List.mem_of_getElem? (i := 15) (by decide +kernel)) rfl
set_option maxRecDepth 20000 in
theorem cv_X9_122 : mCV "DodgemDebate$Trials" 122 8 0 kX9_findStruck := ⟨⟨(RX9, TX9, 10), rfl, rfl⟩, cm_X9_findStruck, (mtb 766 (by decide +kernel) rfl), (mtb 768 (by decide +kernel) rfl), sm_X9_findStruck, (mtb 10 (by decide +kernel) rfl), ⟨by decide +kernel, by decide +kernel, by decide +kernel⟩, by decide⟩
set_option maxRecDepth 20000 in
theorem sm_X3_wasStruck : Cond.selects yX3_wasStruck.cls yX3_wasStruck yX3_wasStruck ∈ mtbl := mtb 772 (by decide +kernel) rfl
set_option maxRecDepth 20000 in
theorem cv_X9_134 : mCV "DodgemDebate$Trials" 134 3 1 kX3_wasStruck := ⟨⟨(RX3, TX3, 10), rfl, rfl⟩, cm_X3_wasStruck, (mtb 770 (by decide +kernel) rfl), (mtb 771 (by decide +kernel) rfl), sm_X3_wasStruck, (mtb 9 (by decide +kernel) rfl), ⟨by decide +kernel, by decide +kernel, by decide +kernel⟩, by decide⟩
set_option maxRecDepth 20000 in
theorem sm_X9_weightOf : Cond.selects yX9_weightOf.cls yX9_weightOf yX9_weightOf ∈ mtbl := mtbs (List.mem_of_getElem? (i := 16) (by decide +kernel)) rfl
set_option maxRecDepth 20000 in
theorem cv_X9_125 : mCV "DodgemDebate$Trials" 125 8 2 kX9_weightOf := ⟨⟨(RX9, TX9, 10), rfl, rfl⟩, cm_X9_weightOf, (mtb 774 (by decide +kernel) rfl), (mtb 776 (by decide +kernel) rfl), sm_X9_weightOf, (mtb 10 (by decide +kernel) rfl), ⟨by decide +kernel, by decide +kernel, by decide +kernel⟩, by decide⟩
set_option maxRecDepth 20000 in
theorem sm_X10_fractionPart : Cond.selects yX10_fractionPart.cls yX10_fractionPart yX10_fractionPart ∈ mtbl := mtbs (List.mem_of_getElem? (i := 17) (by decide +kernel)) rfl
set_option maxRecDepth 20000 in
theorem cv_X10_221 : mCV "DodgemDebate" 221 9 2 kX10_fractionPart := ⟨⟨(RX10, TX10, 11), rfl, rfl⟩, cm_X10_fractionPart, (mtb 778 (by decide +kernel) rfl), (mtb 780 (by decide +kernel) rfl), sm_X10_fractionPart, (mtb 1 (by decide +kernel) rfl), ⟨by decide +kernel, by decide +kernel, by decide +kernel⟩, by decide⟩
set_option maxRecDepth 20000 in
theorem sm_X10_ages : Cond.selects yX10_ages.cls yX10_ages yX10_ages ∈ mtbl := mtb 785 (by decide +kernel) rfl
set_option maxRecDepth 20000 in
theorem cv_L_131 : mCV "DodgemDebateLaw" 131 9 3 kX10_ages := ⟨⟨(RX10, TX10, 11), rfl, rfl⟩, cm_X10_ages, (mtb 783 (by decide +kernel) rfl), (mtb 784 (by decide +kernel) rfl), sm_X10_ages, (mtb 1 (by decide +kernel) rfl), ⟨by decide +kernel, by decide +kernel, by decide +kernel⟩, by decide⟩
set_option maxRecDepth 20000 in
theorem sm_X9_playAges : Cond.selects yX9_playAges.cls yX9_playAges yX9_playAges ∈ mtbl := mtb 789 (by decide +kernel) rfl
set_option maxRecDepth 20000 in
theorem cv_X10_225 : mCV "DodgemDebate" 225 8 2 kX9_playAges := ⟨⟨(RX9, TX9, 10), rfl, rfl⟩, cm_X9_playAges, (mtb 787 (by decide +kernel) rfl), (mtb 788 (by decide +kernel) rfl), sm_X9_playAges, (mtb 10 (by decide +kernel) rfl), ⟨by decide +kernel, by decide +kernel, by decide +kernel⟩, by decide⟩
set_option maxRecDepth 20000 in
theorem cs_X9_137 : mCS "DodgemDebate$Trials" 137 1 kX9_nextSeed := ⟨cm_X9_nextSeed, Or.inl (mtb 791 (by decide +kernel) rfl), (mtb 792 (by decide +kernel) rfl), (mtb 10 (by decide +kernel) rfl), ⟨by decide +kernel, by decide +kernel, by decide +kernel⟩, by decide⟩
set_option maxRecDepth 20000 in
theorem cs_X9_140 : mCS "DodgemDebate$Trials" 140 2 kX9_lot := ⟨cm_X9_lot, Or.inl (mtb 795 (by decide +kernel) rfl), (mtb 796 (by decide +kernel) rfl), (mtb 10 (by decide +kernel) rfl), ⟨by decide +kernel, by decide +kernel, by decide +kernel⟩, by decide⟩
set_option maxRecDepth 20000 in
theorem cv_X9_143 : mCV "DodgemDebate$Trials" 143 1 3 kX1_append := ⟨⟨(RX1, TX1, 4), rfl, rfl⟩, cm_X1_append, (mtb 798 (by decide +kernel) rfl), (mtb 533 (by decide +kernel) rfl), sm_X1_append, (mtb 6 (by decide +kernel) rfl), ⟨by decide +kernel, by decide +kernel, by decide +kernel⟩, by decide⟩
set_option maxRecDepth 20000 in
theorem sm_X3_allPoints : Cond.selects yX3_allPoints.cls yX3_allPoints yX3_allPoints ∈ mtbl := mtb 801 (by decide +kernel) rfl
set_option maxRecDepth 20000 in
theorem cv_X10_230 : mCV "DodgemDebate" 230 3 0 kX3_allPoints := ⟨⟨(RX3, TX3, 10), rfl, rfl⟩, cm_X3_allPoints, (mtb 799 (by decide +kernel) rfl), (mtb 800 (by decide +kernel) rfl), sm_X3_allPoints, (mtb 9 (by decide +kernel) rfl), ⟨by decide +kernel, by decide +kernel, by decide +kernel⟩, by decide⟩
set_option maxRecDepth 20000 in
theorem sm_X10_sheet : Cond.selects yX10_sheet.cls yX10_sheet yX10_sheet ∈ mtbl := mtb 805 (by decide +kernel) rfl
set_option maxRecDepth 20000 in
theorem cv_L_135 : mCV "DodgemDebateLaw" 135 9 3 kX10_sheet := ⟨⟨(RX10, TX10, 11), rfl, rfl⟩, cm_X10_sheet, (mtb 803 (by decide +kernel) rfl), (mtb 804 (by decide +kernel) rfl), sm_X10_sheet, (mtb 1 (by decide +kernel) rfl), ⟨by decide +kernel, by decide +kernel, by decide +kernel⟩, by decide⟩
set_option maxRecDepth 20000 in
theorem sm_X4_begin : Cond.selects yX4_begin.cls yX4_begin yX4_begin ∈ mtbl := mtb 809 (by decide +kernel) rfl
set_option maxRecDepth 20000 in
theorem cv_X10_233 : mCV "DodgemDebate" 233 4 3 kX4_begin := ⟨⟨(RX4, TX4, 4), rfl, rfl⟩, cm_X4_begin, (mtb 807 (by decide +kernel) rfl), (mtb 808 (by decide +kernel) rfl), sm_X4_begin, (mtb 8 (by decide +kernel) rfl), ⟨by decide +kernel, by decide +kernel, by decide +kernel⟩, by decide⟩
set_option maxRecDepth 20000 in
theorem cs_X4_27 : mCS "DodgemDebate$Sheets" 27 2 kJ7_fill_53178 := ⟨cm_J7_fill_53178, Or.inl (mtb 811 (by decide +kernel) rfl), (mtb 475 (by decide +kernel) rfl), (mtb 19 (by decide +kernel) rfl), ⟨by decide +kernel, by decide +kernel, by decide +kernel⟩, by decide⟩
set_option maxRecDepth 20000 in
theorem sm_X10_lose : Cond.selects yX10_lose.cls yX10_lose yX10_lose ∈ mtbl := mtb 814 (by decide +kernel) rfl
set_option maxRecDepth 20000 in
theorem cv_L_139 : mCV "DodgemDebateLaw" 139 9 1 kX10_lose := ⟨⟨(RX10, TX10, 11), rfl, rfl⟩, cm_X10_lose, (mtb 812 (by decide +kernel) rfl), (mtb 813 (by decide +kernel) rfl), sm_X10_lose, (mtb 1 (by decide +kernel) rfl), ⟨by decide +kernel, by decide +kernel, by decide +kernel⟩, by decide⟩
set_option maxRecDepth 20000 in
theorem sm_X10_put : Cond.selects yX10_put.cls yX10_put yX10_put ∈ mtbl := mtb 818 (by decide +kernel) rfl
set_option maxRecDepth 20000 in
theorem cv_L_143 : mCV "DodgemDebateLaw" 143 9 4 kX10_put := ⟨⟨(RX10, TX10, 11), rfl, rfl⟩, cm_X10_put, (mtb 816 (by decide +kernel) rfl), (mtb 817 (by decide +kernel) rfl), sm_X10_put, (mtb 1 (by decide +kernel) rfl), ⟨by decide +kernel, by decide +kernel, by decide +kernel⟩, by decide⟩
set_option maxRecDepth 20000 in
theorem sm_X4_barTo : Cond.selects yX4_barTo.cls yX4_barTo yX4_barTo ∈ mtbl := mtb 822 (by decide +kernel) rfl
set_option maxRecDepth 20000 in
theorem cv_X10_236 : mCV "DodgemDebate" 236 4 3 kX4_barTo := ⟨⟨(RX4, TX4, 4), rfl, rfl⟩, cm_X4_barTo, (mtb 820 (by decide +kernel) rfl), (mtb 821 (by decide +kernel) rfl), sm_X4_barTo, (mtb 8 (by decide +kernel) rfl), ⟨by decide +kernel, by decide +kernel, by decide +kernel⟩, by decide⟩
set_option maxRecDepth 20000 in
theorem cv_X4_33 : mCV "DodgemDebate$Sheets" 33 4 1 kX4_isLost := ⟨⟨(RX4, TX4, 4), rfl, rfl⟩, cm_X4_isLost, (mtb 824 (by decide +kernel) rfl), (mtb 545 (by decide +kernel) rfl), sm_X4_isLost, (mtb 8 (by decide +kernel) rfl), ⟨by decide +kernel, by decide +kernel, by decide +kernel⟩, by decide⟩
set_option maxRecDepth 20000 in
theorem cs_X10_239 : mCS "DodgemDebate" 239 2 kX4_lowestBits := ⟨cm_X4_lowestBits, Or.inl (mtb 826 (by decide +kernel) rfl), (mtb 827 (by decide +kernel) rfl), (mtb 8 (by decide +kernel) rfl), ⟨by decide +kernel, by decide +kernel, by decide +kernel⟩, by decide⟩
set_option maxRecDepth 20000 in
theorem sm_X10_get : Cond.selects yX10_get.cls yX10_get yX10_get ∈ mtbl := mtb 831 (by decide +kernel) rfl
set_option maxRecDepth 20000 in
theorem cv_L_147 : mCV "DodgemDebateLaw" 147 9 3 kX10_get := ⟨⟨(RX10, TX10, 11), rfl, rfl⟩, cm_X10_get, (mtb 829 (by decide +kernel) rfl), (mtb 830 (by decide +kernel) rfl), sm_X10_get, (mtb 1 (by decide +kernel) rfl), ⟨by decide +kernel, by decide +kernel, by decide +kernel⟩, by decide⟩
set_option maxRecDepth 20000 in
theorem sm_X10_copy : Cond.selects yX10_copy.cls yX10_copy yX10_copy ∈ mtbl := mtb 836 (by decide +kernel) rfl
set_option maxRecDepth 20000 in
theorem cv_L_151 : mCV "DodgemDebateLaw" 151 9 5 kX10_copy := ⟨⟨(RX10, TX10, 11), rfl, rfl⟩, cm_X10_copy, (mtb 834 (by decide +kernel) rfl), (mtb 835 (by decide +kernel) rfl), sm_X10_copy, (mtb 1 (by decide +kernel) rfl), ⟨by decide +kernel, by decide +kernel, by decide +kernel⟩, by decide⟩
set_option maxRecDepth 20000 in
theorem sm_X4_hasSpan : Cond.selects yX4_hasSpan.cls yX4_hasSpan yX4_hasSpan ∈ mtbl := mtb 840 (by decide +kernel) rfl
set_option maxRecDepth 20000 in
theorem cv_X10_246 : mCV "DodgemDebate" 246 4 3 kX4_hasSpan := ⟨⟨(RX4, TX4, 4), rfl, rfl⟩, cm_X4_hasSpan, (mtb 838 (by decide +kernel) rfl), (mtb 839 (by decide +kernel) rfl), sm_X4_hasSpan, (mtb 8 (by decide +kernel) rfl), ⟨by decide +kernel, by decide +kernel, by decide +kernel⟩, by decide⟩
set_option maxRecDepth 20000 in
theorem sm_X10_write : Cond.selects yX10_write.cls yX10_write yX10_write ∈ mtbl := mtb 845 (by decide +kernel) rfl
set_option maxRecDepth 20000 in
theorem cv_L_156 : mCV "DodgemDebateLaw" 156 9 2 kX10_write := ⟨⟨(RX10, TX10, 11), rfl, rfl⟩, cm_X10_write, (mtb 843 (by decide +kernel) rfl), (mtb 844 (by decide +kernel) rfl), sm_X10_write, (mtb 1 (by decide +kernel) rfl), ⟨by decide +kernel, by decide +kernel, by decide +kernel⟩, by decide⟩
set_option maxRecDepth 20000 in
theorem cs_X10_255 : mCS "DodgemDebate" 255 2 kJ9_min_7cf53 := ⟨cm_J9_min_7cf53, Or.inl (mtb 847 (by decide +kernel) rfl), (mtb 396 (by decide +kernel) rfl), (mtb 15 (by decide +kernel) rfl), ⟨by decide +kernel, by decide +kernel, by decide +kernel⟩, by decide⟩
set_option maxRecDepth 20000 in
theorem sm_X10_count : Cond.selects yX10_count.cls yX10_count yX10_count ∈ mtbl := mtb 850 (by decide +kernel) rfl
set_option maxRecDepth 20000 in
theorem cv_L_160 : mCV "DodgemDebateLaw" 160 9 1 kX10_count := ⟨⟨(RX10, TX10, 11), rfl, rfl⟩, cm_X10_count, (mtb 848 (by decide +kernel) rfl), (mtb 849 (by decide +kernel) rfl), sm_X10_count, (mtb 1 (by decide +kernel) rfl), ⟨by decide +kernel, by decide +kernel, by decide +kernel⟩, by decide⟩
set_option maxRecDepth 20000 in
theorem sm_X10_tally : Cond.selects yX10_tally.cls yX10_tally yX10_tally ∈ mtbl := mtbs (List.mem_of_getElem? (i := 18) (by decide +kernel)) rfl
set_option maxRecDepth 20000 in
theorem cv_X10_260 : mCV "DodgemDebate" 260 9 1 kX10_tally := ⟨⟨(RX10, TX10, 11), rfl, rfl⟩, cm_X10_tally, (mtb 852 (by decide +kernel) rfl), (mtb 854 (by decide +kernel) rfl), sm_X10_tally, (mtb 1 (by decide +kernel) rfl), ⟨by decide +kernel, by decide +kernel, by decide +kernel⟩, by decide⟩
set_option maxRecDepth 20000 in
theorem sm_X10_digest : Cond.selects yX10_digest.cls yX10_digest yX10_digest ∈ mtbl := mtb 858 (by decide +kernel) rfl
set_option maxRecDepth 20000 in
theorem cv_L_164 : mCV "DodgemDebateLaw" 164 9 0 kX10_digest := ⟨⟨(RX10, TX10, 11), rfl, rfl⟩, cm_X10_digest, (mtb 856 (by decide +kernel) rfl), (mtb 857 (by decide +kernel) rfl), sm_X10_digest, (mtb 1 (by decide +kernel) rfl), ⟨by decide +kernel, by decide +kernel, by decide +kernel⟩, by decide⟩
set_option maxRecDepth 20000 in
theorem sm_X10_addTold : Cond.selects yX10_addTold.cls yX10_addTold yX10_addTold ∈ mtbl := mtbs (List.mem_of_getElem? (i := 19) (by decide +kernel)) rfl
set_option maxRecDepth 20000 in
theorem cv_X10_269 : mCV "DodgemDebate" 269 9 0 kX10_addTold := ⟨⟨(RX10, TX10, 11), rfl, rfl⟩, cm_X10_addTold, (mtb 861 (by decide +kernel) rfl), (mtb 863 (by decide +kernel) rfl), sm_X10_addTold, (mtb 1 (by decide +kernel) rfl), ⟨by decide +kernel, by decide +kernel, by decide +kernel⟩, by decide⟩
set_option maxRecDepth 20000 in
theorem sm_X2_add : Cond.selects yX2_add.cls yX2_add yX2_add ∈ mtbl := mtb 867 (by decide +kernel) rfl
set_option maxRecDepth 20000 in
theorem cv_X10_285 : mCV "DodgemDebate" 285 2 1 kX2_add := ⟨⟨(RX2, TX2, 1), rfl, rfl⟩, cm_X2_add, (mtb 865 (by decide +kernel) rfl), (mtb 866 (by decide +kernel) rfl), sm_X2_add, (mtb 11 (by decide +kernel) rfl), ⟨by decide +kernel, by decide +kernel, by decide +kernel⟩, by decide⟩
set_option maxRecDepth 20000 in
theorem sm_X10_addCar : Cond.selects yX10_addCar.cls yX10_addCar yX10_addCar ∈ mtbl := mtbs (List.mem_of_getElem? (i := 20) (by decide +kernel)) rfl
set_option maxRecDepth 20000 in
theorem cv_X10_272 : mCV "DodgemDebate" 272 9 1 kX10_addCar := ⟨⟨(RX10, TX10, 11), rfl, rfl⟩, cm_X10_addCar, (mtb 870 (by decide +kernel) rfl), (mtb 872 (by decide +kernel) rfl), sm_X10_addCar, (mtb 1 (by decide +kernel) rfl), ⟨by decide +kernel, by decide +kernel, by decide +kernel⟩, by decide⟩
set_option maxRecDepth 20000 in
theorem sm_X10_addHouse : Cond.selects yX10_addHouse.cls yX10_addHouse yX10_addHouse ∈ mtbl := mtbs (List.mem_of_getElem? (i := 21) (by decide +kernel)) rfl
set_option maxRecDepth 20000 in
theorem cv_X10_275 : mCV "DodgemDebate" 275 9 0 kX10_addHouse := ⟨⟨(RX10, TX10, 11), rfl, rfl⟩, cm_X10_addHouse, (mtb 876 (by decide +kernel) rfl), (mtb 878 (by decide +kernel) rfl), sm_X10_addHouse, (mtb 1 (by decide +kernel) rfl), ⟨by decide +kernel, by decide +kernel, by decide +kernel⟩, by decide⟩
set_option maxRecDepth 20000 in
theorem sm_X10_addWhole : Cond.selects yX10_addWhole.cls yX10_addWhole yX10_addWhole ∈ mtbl := mtbs (List.mem_of_getElem? (i := 22) (by decide +kernel)) rfl
set_option maxRecDepth 20000 in
theorem cv_X10_278 : mCV "DodgemDebate" 278 9 0 kX10_addWhole := ⟨⟨(RX10, TX10, 11), rfl, rfl⟩, cm_X10_addWhole, (mtb 880 (by decide +kernel) rfl), (mtb 882 (by decide +kernel) rfl), sm_X10_addWhole, (mtb 1 (by decide +kernel) rfl), ⟨by decide +kernel, by decide +kernel, by decide +kernel⟩, by decide⟩
set_option maxRecDepth 20000 in
theorem sm_X11_type : Cond.selects yX11_type.cls yX11_type yX11_type ∈ mtbl := mtb 1053 (by decide +kernel) rfl
set_option maxRecDepth 20000 in
theorem cv_L_17 : mCV "DodgemDebateLaw" 17 10 2 kX11_type := ⟨⟨(RX11, TX11, 53), rfl, rfl⟩, cm_X11_type, (mtb 1051 (by decide +kernel) rfl), (mtb 1052 (by decide +kernel) rfl), sm_X11_type, (mtb 12 (by decide +kernel) rfl), ⟨by decide +kernel, by decide +kernel, by decide +kernel⟩, by decide⟩
set_option maxRecDepth 20000 in
theorem cs_X11_140 : mCS "DodgemDebateModel" 140 1 kX11_isText := ⟨cm_X11_isText, Or.inl (mtb 1055 (by decide +kernel) rfl), (mtb 1056 (by decide +kernel) rfl), (mtb 12 (by decide +kernel) rfl), ⟨by decide +kernel, by decide +kernel, by decide +kernel⟩, by decide⟩
set_option maxRecDepth 20000 in
theorem cs_X11_136 : mCS "DodgemDebateModel" 136 3 kX11_in := ⟨cm_X11_in, Or.inl (mtb 1058 (by decide +kernel) rfl), (mtb 1059 (by decide +kernel) rfl), (mtb 12 (by decide +kernel) rfl), ⟨by decide +kernel, by decide +kernel, by decide +kernel⟩, by decide⟩
set_option maxRecDepth 20000 in
theorem sm_X11_wipe : Cond.selects yX11_wipe.cls yX11_wipe yX11_wipe ∈ mtbl := mtb 1063 (by decide +kernel) rfl
set_option maxRecDepth 20000 in
theorem cv_L_22 : mCV "DodgemDebateLaw" 22 10 1 kX11_wipe := ⟨⟨(RX11, TX11, 53), rfl, rfl⟩, cm_X11_wipe, (mtb 1061 (by decide +kernel) rfl), (mtb 1062 (by decide +kernel) rfl), sm_X11_wipe, (mtb 12 (by decide +kernel) rfl), ⟨by decide +kernel, by decide +kernel, by decide +kernel⟩, by decide⟩
set_option maxRecDepth 20000 in
theorem sm_X11_undo : Cond.selects yX11_undo.cls yX11_undo yX11_undo ∈ mtbl := mtb 1067 (by decide +kernel) rfl
set_option maxRecDepth 20000 in
theorem cv_L_26 : mCV "DodgemDebateLaw" 26 10 1 kX11_undo := ⟨⟨(RX11, TX11, 53), rfl, rfl⟩, cm_X11_undo, (mtb 1065 (by decide +kernel) rfl), (mtb 1066 (by decide +kernel) rfl), sm_X11_undo, (mtb 12 (by decide +kernel) rfl), ⟨by decide +kernel, by decide +kernel, by decide +kernel⟩, by decide⟩
set_option maxRecDepth 20000 in
theorem sm_X11_fault : Cond.selects yX11_fault.cls yX11_fault yX11_fault ∈ mtbl := mtb 1071 (by decide +kernel) rfl
set_option maxRecDepth 20000 in
theorem cv_L_30 : mCV "DodgemDebateLaw" 30 10 1 kX11_fault := ⟨⟨(RX11, TX11, 53), rfl, rfl⟩, cm_X11_fault, (mtb 1069 (by decide +kernel) rfl), (mtb 1070 (by decide +kernel) rfl), sm_X11_fault, (mtb 12 (by decide +kernel) rfl), ⟨by decide +kernel, by decide +kernel, by decide +kernel⟩, by decide⟩
set_option maxRecDepth 20000 in
theorem sm_X11_faultOf : Cond.selects yX11_faultOf.cls yX11_faultOf yX11_faultOf ∈ mtbl := mtbs (List.mem_of_getElem? (i := 23) (by decide +kernel)) rfl
set_option maxRecDepth 20000 in
theorem cv_X11_177 : mCV "DodgemDebateModel" 177 10 1 kX11_faultOf := ⟨⟨(RX11, TX11, 53), rfl, rfl⟩, cm_X11_faultOf, (mtb 1073 (by decide +kernel) rfl), (mtb 1075 (by decide +kernel) rfl), sm_X11_faultOf, (mtb 12 (by decide +kernel) rfl), ⟨by decide +kernel, by decide +kernel, by decide +kernel⟩, by decide⟩
set_option maxRecDepth 20000 in
theorem sm_X11_readsParts : Cond.selects yX11_readsParts.cls yX11_readsParts yX11_readsParts ∈ mtbl := mtbs (List.mem_of_getElem? (i := 24) (by decide +kernel)) rfl
set_option maxRecDepth 20000 in
theorem cv_X11_174 : mCV "DodgemDebateModel" 174 10 1 kX11_readsParts := ⟨⟨(RX11, TX11, 53), rfl, rfl⟩, cm_X11_readsParts, (mtb 1077 (by decide +kernel) rfl), (mtb 1079 (by decide +kernel) rfl), sm_X11_readsParts, (mtb 12 (by decide +kernel) rfl), ⟨by decide +kernel, by decide +kernel, by decide +kernel⟩, by decide⟩
set_option maxRecDepth 20000 in
theorem sm_X11_readsCar : Cond.selects yX11_readsCar.cls yX11_readsCar yX11_readsCar ∈ mtbl := mtbs (List.mem_of_getElem? (i := 25) (by decide +kernel)) rfl
set_option maxRecDepth 20000 in
theorem cv_X11_168 : mCV "DodgemDebateModel" 168 10 2 kX11_readsCar := ⟨⟨(RX11, TX11, 53), rfl, rfl⟩, cm_X11_readsCar, (mtb 1081 (by decide +kernel) rfl), (mtb 1083 (by decide +kernel) rfl), sm_X11_readsCar, (mtb 12 (by decide +kernel) rfl), ⟨by decide +kernel, by decide +kernel, by decide +kernel⟩, by decide⟩
set_option maxRecDepth 20000 in
theorem sm_X11_byteAt : Cond.selects yX11_byteAt.cls yX11_byteAt yX11_byteAt ∈ mtbl := mtbs (List.mem_of_getElem? (i := 26) (by decide +kernel)) rfl
set_option maxRecDepth 20000 in
theorem cv_X11_144 : mCV "DodgemDebateModel" 144 10 2 kX11_byteAt := ⟨⟨(RX11, TX11, 53), rfl, rfl⟩, cm_X11_byteAt, (mtb 1085 (by decide +kernel) rfl), (mtb 1087 (by decide +kernel) rfl), sm_X11_byteAt, (mtb 12 (by decide +kernel) rfl), ⟨by decide +kernel, by decide +kernel, by decide +kernel⟩, by decide⟩
set_option maxRecDepth 20000 in
theorem cs_X11_148 : mCS "DodgemDebateModel" 148 1 kX11_sortOf := ⟨cm_X11_sortOf, Or.inl (mtb 1089 (by decide +kernel) rfl), (mtb 1090 (by decide +kernel) rfl), (mtb 12 (by decide +kernel) rfl), ⟨by decide +kernel, by decide +kernel, by decide +kernel⟩, by decide⟩
set_option maxRecDepth 20000 in
theorem cs_X11_152 : mCS "DodgemDebateModel" 152 1 kX11_wayOf := ⟨cm_X11_wayOf, Or.inl (mtb 1092 (by decide +kernel) rfl), (mtb 1093 (by decide +kernel) rfl), (mtb 12 (by decide +kernel) rfl), ⟨by decide +kernel, by decide +kernel, by decide +kernel⟩, by decide⟩
set_option maxRecDepth 20000 in
theorem cs_X11_155 : mCS "DodgemDebateModel" 155 1 kX11_isSix := ⟨cm_X11_isSix, Or.inl (mtb 1095 (by decide +kernel) rfl), (mtb 1096 (by decide +kernel) rfl), (mtb 12 (by decide +kernel) rfl), ⟨by decide +kernel, by decide +kernel, by decide +kernel⟩, by decide⟩
set_option maxRecDepth 20000 in
theorem sm_X11_isTold : Cond.selects yX11_isTold.cls yX11_isTold yX11_isTold ∈ mtbl := mtbs (List.mem_of_getElem? (i := 27) (by decide +kernel)) rfl
set_option maxRecDepth 20000 in
theorem cv_X11_158 : mCV "DodgemDebateModel" 158 10 3 kX11_isTold := ⟨⟨(RX11, TX11, 53), rfl, rfl⟩, cm_X11_isTold, (mtb 1098 (by decide +kernel) rfl), (mtb 1100 (by decide +kernel) rfl), sm_X11_isTold, (mtb 12 (by decide +kernel) rfl), ⟨by decide +kernel, by decide +kernel, by decide +kernel⟩, by decide⟩
set_option maxRecDepth 20000 in
theorem sm_X11_readsSteer : Cond.selects yX11_readsSteer.cls yX11_readsSteer yX11_readsSteer ∈ mtbl := mtbs (List.mem_of_getElem? (i := 28) (by decide +kernel)) rfl
set_option maxRecDepth 20000 in
theorem cv_X11_171 : mCV "DodgemDebateModel" 171 10 2 kX11_readsSteer := ⟨⟨(RX11, TX11, 53), rfl, rfl⟩, cm_X11_readsSteer, (mtb 1102 (by decide +kernel) rfl), (mtb 1104 (by decide +kernel) rfl), sm_X11_readsSteer, (mtb 12 (by decide +kernel) rfl), ⟨by decide +kernel, by decide +kernel, by decide +kernel⟩, by decide⟩
set_option maxRecDepth 20000 in
theorem sm_X11_car : Cond.selects yX11_car.cls yX11_car yX11_car ∈ mtbl := mtb 1108 (by decide +kernel) rfl
set_option maxRecDepth 20000 in
theorem cv_L_34 : mCV "DodgemDebateLaw" 34 10 2 kX11_car := ⟨⟨(RX11, TX11, 53), rfl, rfl⟩, cm_X11_car, (mtb 1106 (by decide +kernel) rfl), (mtb 1107 (by decide +kernel) rfl), sm_X11_car, (mtb 12 (by decide +kernel) rfl), ⟨by decide +kernel, by decide +kernel, by decide +kernel⟩, by decide⟩
set_option maxRecDepth 20000 in
theorem sm_X11_isCar : Cond.selects yX11_isCar.cls yX11_isCar yX11_isCar ∈ mtbl := mtbs (List.mem_of_getElem? (i := 29) (by decide +kernel)) rfl
set_option maxRecDepth 20000 in
theorem cv_X11_183 : mCV "DodgemDebateModel" 183 10 1 kX11_isCar := ⟨⟨(RX11, TX11, 53), rfl, rfl⟩, cm_X11_isCar, (mtb 1110 (by decide +kernel) rfl), (mtb 1112 (by decide +kernel) rfl), sm_X11_isCar, (mtb 12 (by decide +kernel) rfl), ⟨by decide +kernel, by decide +kernel, by decide +kernel⟩, by decide⟩
set_option maxRecDepth 20000 in
theorem sm_X11_reads : Cond.selects yX11_reads.cls yX11_reads yX11_reads ∈ mtbl := mtbs (List.mem_of_getElem? (i := 30) (by decide +kernel)) rfl
set_option maxRecDepth 20000 in
theorem cv_X11_180 : mCV "DodgemDebateModel" 180 10 0 kX11_reads := ⟨⟨(RX11, TX11, 53), rfl, rfl⟩, cm_X11_reads, (mtb 1114 (by decide +kernel) rfl), (mtb 1116 (by decide +kernel) rfl), sm_X11_reads, (mtb 12 (by decide +kernel) rfl), ⟨by decide +kernel, by decide +kernel, by decide +kernel⟩, by decide⟩
set_option maxRecDepth 20000 in
theorem sm_X11_carOf : Cond.selects yX11_carOf.cls yX11_carOf yX11_carOf ∈ mtbl := mtbs (List.mem_of_getElem? (i := 31) (by decide +kernel)) rfl
set_option maxRecDepth 20000 in
theorem cv_X11_186 : mCV "DodgemDebateModel" 186 10 2 kX11_carOf := ⟨⟨(RX11, TX11, 53), rfl, rfl⟩, cm_X11_carOf, (mtb 1118 (by decide +kernel) rfl), (mtb 1120 (by decide +kernel) rfl), sm_X11_carOf, (mtb 12 (by decide +kernel) rfl), ⟨by decide +kernel, by decide +kernel, by decide +kernel⟩, by decide⟩
set_option maxRecDepth 20000 in
theorem sm_X11_steer : Cond.selects yX11_steer.cls yX11_steer yX11_steer ∈ mtbl := mtb 1124 (by decide +kernel) rfl
set_option maxRecDepth 20000 in
theorem cv_L_38 : mCV "DodgemDebateLaw" 38 10 2 kX11_steer := ⟨⟨(RX11, TX11, 53), rfl, rfl⟩, cm_X11_steer, (mtb 1122 (by decide +kernel) rfl), (mtb 1123 (by decide +kernel) rfl), sm_X11_steer, (mtb 12 (by decide +kernel) rfl), ⟨by decide +kernel, by decide +kernel, by decide +kernel⟩, by decide⟩
set_option maxRecDepth 20000 in
theorem cs_X11_189 : mCS "DodgemDebateModel" 189 1 kX11_isThree := ⟨cm_X11_isThree, Or.inl (mtb 1126 (by decide +kernel) rfl), (mtb 1127 (by decide +kernel) rfl), (mtb 12 (by decide +kernel) rfl), ⟨by decide +kernel, by decide +kernel, by decide +kernel⟩, by decide⟩
set_option maxRecDepth 20000 in
theorem sm_X11_steerTold : Cond.selects yX11_steerTold.cls yX11_steerTold yX11_steerTold ∈ mtbl := mtbs (List.mem_of_getElem? (i := 32) (by decide +kernel)) rfl
set_option maxRecDepth 20000 in
theorem cv_X11_192 : mCV "DodgemDebateModel" 192 10 2 kX11_steerTold := ⟨⟨(RX11, TX11, 53), rfl, rfl⟩, cm_X11_steerTold, (mtb 1129 (by decide +kernel) rfl), (mtb 1131 (by decide +kernel) rfl), sm_X11_steerTold, (mtb 12 (by decide +kernel) rfl), ⟨by decide +kernel, by decide +kernel, by decide +kernel⟩, by decide⟩
set_option maxRecDepth 20000 in
theorem sm_X11_event : Cond.selects yX11_event.cls yX11_event yX11_event ∈ mtbl := mtb 1135 (by decide +kernel) rfl
set_option maxRecDepth 20000 in
theorem cv_L_43 : mCV "DodgemDebateLaw" 43 10 3 kX11_event := ⟨⟨(RX11, TX11, 53), rfl, rfl⟩, cm_X11_event, (mtb 1133 (by decide +kernel) rfl), (mtb 1134 (by decide +kernel) rfl), sm_X11_event, (mtb 12 (by decide +kernel) rfl), ⟨by decide +kernel, by decide +kernel, by decide +kernel⟩, by decide⟩
set_option maxRecDepth 20000 in
theorem cs_X11_195 : mCS "DodgemDebateModel" 195 1 kX11_isTwo := ⟨cm_X11_isTwo, Or.inl (mtb 1137 (by decide +kernel) rfl), (mtb 1138 (by decide +kernel) rfl), (mtb 12 (by decide +kernel) rfl), ⟨by decide +kernel, by decide +kernel, by decide +kernel⟩, by decide⟩
set_option maxRecDepth 20000 in
theorem cs_X11_198 : mCS "DodgemDebateModel" 198 1 kX11_isMoment := ⟨cm_X11_isMoment, Or.inl (mtb 1140 (by decide +kernel) rfl), (mtb 1141 (by decide +kernel) rfl), (mtb 12 (by decide +kernel) rfl), ⟨by decide +kernel, by decide +kernel, by decide +kernel⟩, by decide⟩
set_option maxRecDepth 20000 in
theorem cs_X11_201 : mCS "DodgemDebateModel" 201 1 kX11_isEight := ⟨cm_X11_isEight, Or.inl (mtb 1143 (by decide +kernel) rfl), (mtb 1144 (by decide +kernel) rfl), (mtb 12 (by decide +kernel) rfl), ⟨by decide +kernel, by decide +kernel, by decide +kernel⟩, by decide⟩
set_option maxRecDepth 20000 in
theorem sm_X11_back : Cond.selects yX11_back.cls yX11_back yX11_back ∈ mtbl := mtb 1148 (by decide +kernel) rfl
set_option maxRecDepth 20000 in
theorem cv_L_48 : mCV "DodgemDebateLaw" 48 10 0 kX11_back := ⟨⟨(RX11, TX11, 53), rfl, rfl⟩, cm_X11_back, (mtb 1146 (by decide +kernel) rfl), (mtb 1147 (by decide +kernel) rfl), sm_X11_back, (mtb 12 (by decide +kernel) rfl), ⟨by decide +kernel, by decide +kernel, by decide +kernel⟩, by decide⟩
set_option maxRecDepth 20000 in
theorem sm_X11_read : Cond.selects yX11_read.cls yX11_read yX11_read ∈ mtbl := mtb 1152 (by decide +kernel) rfl
set_option maxRecDepth 20000 in
theorem cv_L_52 : mCV "DodgemDebateLaw" 52 10 1 kX11_read := ⟨⟨(RX11, TX11, 53), rfl, rfl⟩, cm_X11_read, (mtb 1150 (by decide +kernel) rfl), (mtb 1151 (by decide +kernel) rfl), sm_X11_read, (mtb 12 (by decide +kernel) rfl), ⟨by decide +kernel, by decide +kernel, by decide +kernel⟩, by decide⟩
set_option maxRecDepth 20000 in
theorem cs_X11_207 : mCS "DodgemDebateModel" 207 1 kX11_isSheet := ⟨cm_X11_isSheet, Or.inl (mtb 1154 (by decide +kernel) rfl), (mtb 1155 (by decide +kernel) rfl), (mtb 12 (by decide +kernel) rfl), ⟨by decide +kernel, by decide +kernel, by decide +kernel⟩, by decide⟩
set_option maxRecDepth 20000 in
theorem sm_X11_meets : Cond.selects yX11_meets.cls yX11_meets yX11_meets ∈ mtbl := mtbs (List.mem_of_getElem? (i := 33) (by decide +kernel)) rfl
set_option maxRecDepth 20000 in
theorem cv_X11_210 : mCV "DodgemDebateModel" 210 10 1 kX11_meets := ⟨⟨(RX11, TX11, 53), rfl, rfl⟩, cm_X11_meets, (mtb 1157 (by decide +kernel) rfl), (mtb 1159 (by decide +kernel) rfl), sm_X11_meets, (mtb 12 (by decide +kernel) rfl), ⟨by decide +kernel, by decide +kernel, by decide +kernel⟩, by decide⟩
set_option maxRecDepth 20000 in
theorem cv_X11_213 : mCV "DodgemDebateModel" 213 10 3 kX11_event := ⟨⟨(RX11, TX11, 53), rfl, rfl⟩, cm_X11_event, (mtb 1161 (by decide +kernel) rfl), (mtb 1134 (by decide +kernel) rfl), sm_X11_event, (mtb 12 (by decide +kernel) rfl), ⟨by decide +kernel, by decide +kernel, by decide +kernel⟩, by decide⟩
set_option maxRecDepth 20000 in
theorem sm_X11_at : Cond.selects yX11_at.cls yX11_at yX11_at ∈ mtbl := mtb 1164 (by decide +kernel) rfl
set_option maxRecDepth 20000 in
theorem cv_L_56 : mCV "DodgemDebateLaw" 56 10 3 kX11_at := ⟨⟨(RX11, TX11, 53), rfl, rfl⟩, cm_X11_at, (mtb 1162 (by decide +kernel) rfl), (mtb 1163 (by decide +kernel) rfl), sm_X11_at, (mtb 12 (by decide +kernel) rfl), ⟨by decide +kernel, by decide +kernel, by decide +kernel⟩, by decide⟩
set_option maxRecDepth 20000 in
theorem sm_X11_atOf : Cond.selects yX11_atOf.cls yX11_atOf yX11_atOf ∈ mtbl := mtbs (List.mem_of_getElem? (i := 34) (by decide +kernel)) rfl
set_option maxRecDepth 20000 in
theorem cv_X11_279 : mCV "DodgemDebateModel" 279 10 3 kX11_atOf := ⟨⟨(RX11, TX11, 53), rfl, rfl⟩, cm_X11_atOf, (mtb 1166 (by decide +kernel) rfl), (mtb 1168 (by decide +kernel) rfl), sm_X11_atOf, (mtb 12 (by decide +kernel) rfl), ⟨by decide +kernel, by decide +kernel, by decide +kernel⟩, by decide⟩
set_option maxRecDepth 20000 in
theorem sm_X11_runsTold : Cond.selects yX11_runsTold.cls yX11_runsTold yX11_runsTold ∈ mtbl := mtbs (List.mem_of_getElem? (i := 35) (by decide +kernel)) rfl
set_option maxRecDepth 20000 in
theorem cv_X11_276 : mCV "DodgemDebateModel" 276 10 0 kX11_runsTold := ⟨⟨(RX11, TX11, 53), rfl, rfl⟩, cm_X11_runsTold, (mtb 1170 (by decide +kernel) rfl), (mtb 1172 (by decide +kernel) rfl), sm_X11_runsTold, (mtb 12 (by decide +kernel) rfl), ⟨by decide +kernel, by decide +kernel, by decide +kernel⟩, by decide⟩
set_option maxRecDepth 20000 in
theorem sm_X11_asTold : Cond.selects yX11_asTold.cls yX11_asTold yX11_asTold ∈ mtbl := mtbs (List.mem_of_getElem? (i := 36) (by decide +kernel)) rfl
set_option maxRecDepth 20000 in
theorem cv_X11_270 : mCV "DodgemDebateModel" 270 10 0 kX11_asTold := ⟨⟨(RX11, TX11, 53), rfl, rfl⟩, cm_X11_asTold, (mtb 1174 (by decide +kernel) rfl), (mtb 1176 (by decide +kernel) rfl), sm_X11_asTold, (mtb 12 (by decide +kernel) rfl), ⟨by decide +kernel, by decide +kernel, by decide +kernel⟩, by decide⟩
set_option maxRecDepth 20000 in
theorem sm_X11_runs : Cond.selects yX11_runs.cls yX11_runs yX11_runs ∈ mtbl := mtbs (List.mem_of_getElem? (i := 37) (by decide +kernel)) rfl
set_option maxRecDepth 20000 in
theorem cv_X11_273 : mCV "DodgemDebateModel" 273 10 0 kX11_runs := ⟨⟨(RX11, TX11, 53), rfl, rfl⟩, cm_X11_runs, (mtb 1178 (by decide +kernel) rfl), (mtb 1180 (by decide +kernel) rfl), sm_X11_runs, (mtb 12 (by decide +kernel) rfl), ⟨by decide +kernel, by decide +kernel, by decide +kernel⟩, by decide⟩
set_option maxRecDepth 20000 in
theorem sm_X11_goesBy : Cond.selects yX11_goesBy.cls yX11_goesBy yX11_goesBy ∈ mtbl := mtbs (List.mem_of_getElem? (i := 38) (by decide +kernel)) rfl
set_option maxRecDepth 20000 in
theorem cv_X11_267 : mCV "DodgemDebateModel" 267 10 1 kX11_goesBy := ⟨⟨(RX11, TX11, 53), rfl, rfl⟩, cm_X11_goesBy, (mtb 1182 (by decide +kernel) rfl), (mtb 1184 (by decide +kernel) rfl), sm_X11_goesBy, (mtb 12 (by decide +kernel) rfl), ⟨by decide +kernel, by decide +kernel, by decide +kernel⟩, by decide⟩
set_option maxRecDepth 20000 in
theorem cs_X11_252 : mCS "DodgemDebateModel" 252 2 kX11_isIn := ⟨cm_X11_isIn, Or.inl (mtb 1186 (by decide +kernel) rfl), (mtb 1187 (by decide +kernel) rfl), (mtb 12 (by decide +kernel) rfl), ⟨by decide +kernel, by decide +kernel, by decide +kernel⟩, by decide⟩
set_option maxRecDepth 20000 in
theorem sm_X11_steersAll : Cond.selects yX11_steersAll.cls yX11_steersAll yX11_steersAll ∈ mtbl := mtbs (List.mem_of_getElem? (i := 39) (by decide +kernel)) rfl
set_option maxRecDepth 20000 in
theorem cv_X11_259 : mCV "DodgemDebateModel" 259 10 1 kX11_steersAll := ⟨⟨(RX11, TX11, 53), rfl, rfl⟩, cm_X11_steersAll, (mtb 1189 (by decide +kernel) rfl), (mtb 1191 (by decide +kernel) rfl), sm_X11_steersAll, (mtb 12 (by decide +kernel) rfl), ⟨by decide +kernel, by decide +kernel, by decide +kernel⟩, by decide⟩
set_option maxRecDepth 20000 in
theorem sm_X11_drives : Cond.selects yX11_drives.cls yX11_drives yX11_drives ∈ mtbl := mtbs (List.mem_of_getElem? (i := 40) (by decide +kernel)) rfl
set_option maxRecDepth 20000 in
theorem cv_X11_263 : mCV "DodgemDebateModel" 263 10 2 kX11_drives := ⟨⟨(RX11, TX11, 53), rfl, rfl⟩, cm_X11_drives, (mtb 1193 (by decide +kernel) rfl), (mtb 1195 (by decide +kernel) rfl), sm_X11_drives, (mtb 12 (by decide +kernel) rfl), ⟨by decide +kernel, by decide +kernel, by decide +kernel⟩, by decide⟩
set_option maxRecDepth 20000 in
theorem cs_X11_235 : mCS "DodgemDebateModel" 235 1 kX11_stepX := ⟨cm_X11_stepX, Or.inl (mtb 1197 (by decide +kernel) rfl), (mtb 1198 (by decide +kernel) rfl), (mtb 12 (by decide +kernel) rfl), ⟨by decide +kernel, by decide +kernel, by decide +kernel⟩, by decide⟩
set_option maxRecDepth 20000 in
theorem cs_X11_238 : mCS "DodgemDebateModel" 238 1 kX11_stepY := ⟨cm_X11_stepY, Or.inl (mtb 1200 (by decide +kernel) rfl), (mtb 1201 (by decide +kernel) rfl), (mtb 12 (by decide +kernel) rfl), ⟨by decide +kernel, by decide +kernel, by decide +kernel⟩, by decide⟩
set_option maxRecDepth 20000 in
theorem sm_X11_whoIn : Cond.selects yX11_whoIn.cls yX11_whoIn yX11_whoIn ∈ mtbl := mtbs (List.mem_of_getElem? (i := 41) (by decide +kernel)) rfl
set_option maxRecDepth 20000 in
theorem cv_X11_241 : mCV "DodgemDebateModel" 241 10 2 kX11_whoIn := ⟨⟨(RX11, TX11, 53), rfl, rfl⟩, cm_X11_whoIn, (mtb 1203 (by decide +kernel) rfl), (mtb 1205 (by decide +kernel) rfl), sm_X11_whoIn, (mtb 12 (by decide +kernel) rfl), ⟨by decide +kernel, by decide +kernel, by decide +kernel⟩, by decide⟩
set_option maxRecDepth 20000 in
theorem sm_X11_comes : Cond.selects yX11_comes.cls yX11_comes yX11_comes ∈ mtbl := mtbs (List.mem_of_getElem? (i := 42) (by decide +kernel)) rfl
set_option maxRecDepth 20000 in
theorem cv_X11_244 : mCV "DodgemDebateModel" 244 10 3 kX11_comes := ⟨⟨(RX11, TX11, 53), rfl, rfl⟩, cm_X11_comes, (mtb 1207 (by decide +kernel) rfl), (mtb 1209 (by decide +kernel) rfl), sm_X11_comes, (mtb 12 (by decide +kernel) rfl), ⟨by decide +kernel, by decide +kernel, by decide +kernel⟩, by decide⟩
set_option maxRecDepth 20000 in
theorem sm_X11_runsInto : Cond.selects yX11_runsInto.cls yX11_runsInto yX11_runsInto ∈ mtbl := mtbs (List.mem_of_getElem? (i := 43) (by decide +kernel)) rfl
set_option maxRecDepth 20000 in
theorem cv_X11_248 : mCV "DodgemDebateModel" 248 10 4 kX11_runsInto := ⟨⟨(RX11, TX11, 53), rfl, rfl⟩, cm_X11_runsInto, (mtb 1211 (by decide +kernel) rfl), (mtb 1213 (by decide +kernel) rfl), sm_X11_runsInto, (mtb 12 (by decide +kernel) rfl), ⟨by decide +kernel, by decide +kernel, by decide +kernel⟩, by decide⟩
set_option maxRecDepth 20000 in
theorem sm_X11_who : Cond.selects yX11_who.cls yX11_who yX11_who ∈ mtbl := mtb 1217 (by decide +kernel) rfl
set_option maxRecDepth 20000 in
theorem cv_L_60 : mCV "DodgemDebateLaw" 60 10 3 kX11_who := ⟨⟨(RX11, TX11, 53), rfl, rfl⟩, cm_X11_who, (mtb 1215 (by decide +kernel) rfl), (mtb 1216 (by decide +kernel) rfl), sm_X11_who, (mtb 12 (by decide +kernel) rfl), ⟨by decide +kernel, by decide +kernel, by decide +kernel⟩, by decide⟩
set_option maxRecDepth 20000 in
theorem sm_X11_whoOf : Cond.selects yX11_whoOf.cls yX11_whoOf yX11_whoOf ∈ mtbl := mtbs (List.mem_of_getElem? (i := 44) (by decide +kernel)) rfl
set_option maxRecDepth 20000 in
theorem cv_X11_282 : mCV "DodgemDebateModel" 282 10 3 kX11_whoOf := ⟨⟨(RX11, TX11, 53), rfl, rfl⟩, cm_X11_whoOf, (mtb 1219 (by decide +kernel) rfl), (mtb 1221 (by decide +kernel) rfl), sm_X11_whoOf, (mtb 12 (by decide +kernel) rfl), ⟨by decide +kernel, by decide +kernel, by decide +kernel⟩, by decide⟩
set_option maxRecDepth 20000 in
theorem sm_X11_house : Cond.selects yX11_house.cls yX11_house yX11_house ∈ mtbl := mtb 1225 (by decide +kernel) rfl
set_option maxRecDepth 20000 in
theorem cv_L_64 : mCV "DodgemDebateLaw" 64 10 2 kX11_house := ⟨⟨(RX11, TX11, 53), rfl, rfl⟩, cm_X11_house, (mtb 1223 (by decide +kernel) rfl), (mtb 1224 (by decide +kernel) rfl), sm_X11_house, (mtb 12 (by decide +kernel) rfl), ⟨by decide +kernel, by decide +kernel, by decide +kernel⟩, by decide⟩
set_option maxRecDepth 20000 in
theorem sm_X11_houseOf : Cond.selects yX11_houseOf.cls yX11_houseOf yX11_houseOf ∈ mtbl := mtbs (List.mem_of_getElem? (i := 45) (by decide +kernel)) rfl
set_option maxRecDepth 20000 in
theorem cv_X11_288 : mCV "DodgemDebateModel" 288 10 2 kX11_houseOf := ⟨⟨(RX11, TX11, 53), rfl, rfl⟩, cm_X11_houseOf, (mtb 1227 (by decide +kernel) rfl), (mtb 1229 (by decide +kernel) rfl), sm_X11_houseOf, (mtb 12 (by decide +kernel) rfl), ⟨by decide +kernel, by decide +kernel, by decide +kernel⟩, by decide⟩
set_option maxRecDepth 20000 in
theorem sm_X11_ayesAt : Cond.selects yX11_ayesAt.cls yX11_ayesAt yX11_ayesAt ∈ mtbl := mtbs (List.mem_of_getElem? (i := 46) (by decide +kernel)) rfl
set_option maxRecDepth 20000 in
theorem cv_X11_285 : mCV "DodgemDebateModel" 285 10 1 kX11_ayesAt := ⟨⟨(RX11, TX11, 53), rfl, rfl⟩, cm_X11_ayesAt, (mtb 1231 (by decide +kernel) rfl), (mtb 1233 (by decide +kernel) rfl), sm_X11_ayesAt, (mtb 12 (by decide +kernel) rfl), ⟨by decide +kernel, by decide +kernel, by decide +kernel⟩, by decide⟩
set_option maxRecDepth 20000 in
theorem sm_X11_strikes : Cond.selects yX11_strikes.cls yX11_strikes yX11_strikes ∈ mtbl := mtb 1237 (by decide +kernel) rfl
set_option maxRecDepth 20000 in
theorem cv_L_68 : mCV "DodgemDebateLaw" 68 10 0 kX11_strikes := ⟨⟨(RX11, TX11, 53), rfl, rfl⟩, cm_X11_strikes, (mtb 1235 (by decide +kernel) rfl), (mtb 1236 (by decide +kernel) rfl), sm_X11_strikes, (mtb 12 (by decide +kernel) rfl), ⟨by decide +kernel, by decide +kernel, by decide +kernel⟩, by decide⟩
set_option maxRecDepth 20000 in
theorem sm_X11_strikesOf : Cond.selects yX11_strikesOf.cls yX11_strikesOf yX11_strikesOf ∈ mtbl := mtbs (List.mem_of_getElem? (i := 47) (by decide +kernel)) rfl
set_option maxRecDepth 20000 in
theorem cv_X11_291 : mCV "DodgemDebateModel" 291 10 0 kX11_strikesOf := ⟨⟨(RX11, TX11, 53), rfl, rfl⟩, cm_X11_strikesOf, (mtb 1239 (by decide +kernel) rfl), (mtb 1241 (by decide +kernel) rfl), sm_X11_strikesOf, (mtb 12 (by decide +kernel) rfl), ⟨by decide +kernel, by decide +kernel, by decide +kernel⟩, by decide⟩
set_option maxRecDepth 20000 in
theorem sm_X11_first : Cond.selects yX11_first.cls yX11_first yX11_first ∈ mtbl := mtb 1245 (by decide +kernel) rfl
set_option maxRecDepth 20000 in
theorem cv_L_72 : mCV "DodgemDebateLaw" 72 10 1 kX11_first := ⟨⟨(RX11, TX11, 53), rfl, rfl⟩, cm_X11_first, (mtb 1243 (by decide +kernel) rfl), (mtb 1244 (by decide +kernel) rfl), sm_X11_first, (mtb 12 (by decide +kernel) rfl), ⟨by decide +kernel, by decide +kernel, by decide +kernel⟩, by decide⟩
set_option maxRecDepth 20000 in
theorem sm_X11_firstOf : Cond.selects yX11_firstOf.cls yX11_firstOf yX11_firstOf ∈ mtbl := mtbs (List.mem_of_getElem? (i := 48) (by decide +kernel)) rfl
set_option maxRecDepth 20000 in
theorem cv_X11_295 : mCV "DodgemDebateModel" 295 10 1 kX11_firstOf := ⟨⟨(RX11, TX11, 53), rfl, rfl⟩, cm_X11_firstOf, (mtb 1247 (by decide +kernel) rfl), (mtb 1249 (by decide +kernel) rfl), sm_X11_firstOf, (mtb 12 (by decide +kernel) rfl), ⟨by decide +kernel, by decide +kernel, by decide +kernel⟩, by decide⟩
set_option maxRecDepth 20000 in
theorem sm_X11_best : Cond.selects yX11_best.cls yX11_best yX11_best ∈ mtbl := mtb 1253 (by decide +kernel) rfl
set_option maxRecDepth 20000 in
theorem cv_L_76 : mCV "DodgemDebateLaw" 76 10 0 kX11_best := ⟨⟨(RX11, TX11, 53), rfl, rfl⟩, cm_X11_best, (mtb 1251 (by decide +kernel) rfl), (mtb 1252 (by decide +kernel) rfl), sm_X11_best, (mtb 12 (by decide +kernel) rfl), ⟨by decide +kernel, by decide +kernel, by decide +kernel⟩, by decide⟩
set_option maxRecDepth 20000 in
theorem sm_X11_bestOf : Cond.selects yX11_bestOf.cls yX11_bestOf yX11_bestOf ∈ mtbl := mtbs (List.mem_of_getElem? (i := 49) (by decide +kernel)) rfl
set_option maxRecDepth 20000 in
theorem cv_X11_298 : mCV "DodgemDebateModel" 298 10 0 kX11_bestOf := ⟨⟨(RX11, TX11, 53), rfl, rfl⟩, cm_X11_bestOf, (mtb 1255 (by decide +kernel) rfl), (mtb 1257 (by decide +kernel) rfl), sm_X11_bestOf, (mtb 12 (by decide +kernel) rfl), ⟨by decide +kernel, by decide +kernel, by decide +kernel⟩, by decide⟩
set_option maxRecDepth 20000 in
theorem sm_X11_meek : Cond.selects yX11_meek.cls yX11_meek yX11_meek ∈ mtbl := mtb 1261 (by decide +kernel) rfl
set_option maxRecDepth 20000 in
theorem cv_L_80 : mCV "DodgemDebateLaw" 80 10 0 kX11_meek := ⟨⟨(RX11, TX11, 53), rfl, rfl⟩, cm_X11_meek, (mtb 1259 (by decide +kernel) rfl), (mtb 1260 (by decide +kernel) rfl), sm_X11_meek, (mtb 12 (by decide +kernel) rfl), ⟨by decide +kernel, by decide +kernel, by decide +kernel⟩, by decide⟩
set_option maxRecDepth 20000 in
theorem sm_X11_meekOf : Cond.selects yX11_meekOf.cls yX11_meekOf yX11_meekOf ∈ mtbl := mtbs (List.mem_of_getElem? (i := 50) (by decide +kernel)) rfl
set_option maxRecDepth 20000 in
theorem cv_X11_304 : mCV "DodgemDebateModel" 304 10 0 kX11_meekOf := ⟨⟨(RX11, TX11, 53), rfl, rfl⟩, cm_X11_meekOf, (mtb 1263 (by decide +kernel) rfl), (mtb 1265 (by decide +kernel) rfl), sm_X11_meekOf, (mtb 12 (by decide +kernel) rfl), ⟨by decide +kernel, by decide +kernel, by decide +kernel⟩, by decide⟩
set_option maxRecDepth 20000 in
theorem sm_X11_meekNow : Cond.selects yX11_meekNow.cls yX11_meekNow yX11_meekNow ∈ mtbl := mtbs (List.mem_of_getElem? (i := 51) (by decide +kernel)) rfl
set_option maxRecDepth 20000 in
theorem cv_X11_301 : mCV "DodgemDebateModel" 301 10 0 kX11_meekNow := ⟨⟨(RX11, TX11, 53), rfl, rfl⟩, cm_X11_meekNow, (mtb 1267 (by decide +kernel) rfl), (mtb 1269 (by decide +kernel) rfl), sm_X11_meekNow, (mtb 12 (by decide +kernel) rfl), ⟨by decide +kernel, by decide +kernel, by decide +kernel⟩, by decide⟩
set_option maxRecDepth 20000 in
theorem sm_X11_jam : Cond.selects yX11_jam.cls yX11_jam yX11_jam ∈ mtbl := mtb 1273 (by decide +kernel) rfl
set_option maxRecDepth 20000 in
theorem cv_L_84 : mCV "DodgemDebateLaw" 84 10 1 kX11_jam := ⟨⟨(RX11, TX11, 53), rfl, rfl⟩, cm_X11_jam, (mtb 1271 (by decide +kernel) rfl), (mtb 1272 (by decide +kernel) rfl), sm_X11_jam, (mtb 12 (by decide +kernel) rfl), ⟨by decide +kernel, by decide +kernel, by decide +kernel⟩, by decide⟩
set_option maxRecDepth 20000 in
theorem sm_X11_jamOf : Cond.selects yX11_jamOf.cls yX11_jamOf yX11_jamOf ∈ mtbl := mtbs (List.mem_of_getElem? (i := 52) (by decide +kernel)) rfl
set_option maxRecDepth 20000 in
theorem cv_X11_307 : mCV "DodgemDebateModel" 307 10 1 kX11_jamOf := ⟨⟨(RX11, TX11, 53), rfl, rfl⟩, cm_X11_jamOf, (mtb 1275 (by decide +kernel) rfl), (mtb 1277 (by decide +kernel) rfl), sm_X11_jamOf, (mtb 12 (by decide +kernel) rfl), ⟨by decide +kernel, by decide +kernel, by decide +kernel⟩, by decide⟩
set_option maxRecDepth 20000 in
theorem sm_X11_carried : Cond.selects yX11_carried.cls yX11_carried yX11_carried ∈ mtbl := mtb 1281 (by decide +kernel) rfl
set_option maxRecDepth 20000 in
theorem cv_L_88 : mCV "DodgemDebateLaw" 88 10 0 kX11_carried := ⟨⟨(RX11, TX11, 53), rfl, rfl⟩, cm_X11_carried, (mtb 1279 (by decide +kernel) rfl), (mtb 1280 (by decide +kernel) rfl), sm_X11_carried, (mtb 12 (by decide +kernel) rfl), ⟨by decide +kernel, by decide +kernel, by decide +kernel⟩, by decide⟩
set_option maxRecDepth 20000 in
theorem sm_X11_carriedOf : Cond.selects yX11_carriedOf.cls yX11_carriedOf yX11_carriedOf ∈ mtbl := mtbs (List.mem_of_getElem? (i := 53) (by decide +kernel)) rfl
set_option maxRecDepth 20000 in
theorem cv_X11_310 : mCV "DodgemDebateModel" 310 10 0 kX11_carriedOf := ⟨⟨(RX11, TX11, 53), rfl, rfl⟩, cm_X11_carriedOf, (mtb 1283 (by decide +kernel) rfl), (mtb 1285 (by decide +kernel) rfl), sm_X11_carriedOf, (mtb 12 (by decide +kernel) rfl), ⟨by decide +kernel, by decide +kernel, by decide +kernel⟩, by decide⟩
set_option maxRecDepth 20000 in
theorem sm_X11_stand : Cond.selects yX11_stand.cls yX11_stand yX11_stand ∈ mtbl := mtb 1289 (by decide +kernel) rfl
set_option maxRecDepth 20000 in
theorem cv_L_92 : mCV "DodgemDebateLaw" 92 10 2 kX11_stand := ⟨⟨(RX11, TX11, 53), rfl, rfl⟩, cm_X11_stand, (mtb 1287 (by decide +kernel) rfl), (mtb 1288 (by decide +kernel) rfl), sm_X11_stand, (mtb 12 (by decide +kernel) rfl), ⟨by decide +kernel, by decide +kernel, by decide +kernel⟩, by decide⟩
set_option maxRecDepth 20000 in
theorem sm_X11_standOf : Cond.selects yX11_standOf.cls yX11_standOf yX11_standOf ∈ mtbl := mtbs (List.mem_of_getElem? (i := 54) (by decide +kernel)) rfl
set_option maxRecDepth 20000 in
theorem cv_X11_316 : mCV "DodgemDebateModel" 316 10 2 kX11_standOf := ⟨⟨(RX11, TX11, 53), rfl, rfl⟩, cm_X11_standOf, (mtb 1291 (by decide +kernel) rfl), (mtb 1293 (by decide +kernel) rfl), sm_X11_standOf, (mtb 12 (by decide +kernel) rfl), ⟨by decide +kernel, by decide +kernel, by decide +kernel⟩, by decide⟩
set_option maxRecDepth 20000 in
theorem sm_X11_isOther : Cond.selects yX11_isOther.cls yX11_isOther yX11_isOther ∈ mtbl := mtbs (List.mem_of_getElem? (i := 55) (by decide +kernel)) rfl
set_option maxRecDepth 20000 in
theorem cv_X11_313 : mCV "DodgemDebateModel" 313 10 3 kX11_isOther := ⟨⟨(RX11, TX11, 53), rfl, rfl⟩, cm_X11_isOther, (mtb 1295 (by decide +kernel) rfl), (mtb 1297 (by decide +kernel) rfl), sm_X11_isOther, (mtb 12 (by decide +kernel) rfl), ⟨by decide +kernel, by decide +kernel, by decide +kernel⟩, by decide⟩
set_option maxRecDepth 20000 in
theorem sm_X11_better : Cond.selects yX11_better.cls yX11_better yX11_better ∈ mtbl := mtb 1301 (by decide +kernel) rfl
set_option maxRecDepth 20000 in
theorem cv_L_96 : mCV "DodgemDebateLaw" 96 10 3 kX11_better := ⟨⟨(RX11, TX11, 53), rfl, rfl⟩, cm_X11_better, (mtb 1299 (by decide +kernel) rfl), (mtb 1300 (by decide +kernel) rfl), sm_X11_better, (mtb 12 (by decide +kernel) rfl), ⟨by decide +kernel, by decide +kernel, by decide +kernel⟩, by decide⟩
set_option maxRecDepth 20000 in
theorem sm_X11_betterOf : Cond.selects yX11_betterOf.cls yX11_betterOf yX11_betterOf ∈ mtbl := mtbs (List.mem_of_getElem? (i := 56) (by decide +kernel)) rfl
set_option maxRecDepth 20000 in
theorem cv_X11_319 : mCV "DodgemDebateModel" 319 10 3 kX11_betterOf := ⟨⟨(RX11, TX11, 53), rfl, rfl⟩, cm_X11_betterOf, (mtb 1303 (by decide +kernel) rfl), (mtb 1305 (by decide +kernel) rfl), sm_X11_betterOf, (mtb 12 (by decide +kernel) rfl), ⟨by decide +kernel, by decide +kernel, by decide +kernel⟩, by decide⟩
set_option maxRecDepth 20000 in
theorem sm_X11_ring : Cond.selects yX11_ring.cls yX11_ring yX11_ring ∈ mtbl := mtb 1309 (by decide +kernel) rfl
set_option maxRecDepth 20000 in
theorem cv_L_100 : mCV "DodgemDebateLaw" 100 10 1 kX11_ring := ⟨⟨(RX11, TX11, 53), rfl, rfl⟩, cm_X11_ring, (mtb 1307 (by decide +kernel) rfl), (mtb 1308 (by decide +kernel) rfl), sm_X11_ring, (mtb 12 (by decide +kernel) rfl), ⟨by decide +kernel, by decide +kernel, by decide +kernel⟩, by decide⟩
set_option maxRecDepth 20000 in
theorem sm_X11_ringOf : Cond.selects yX11_ringOf.cls yX11_ringOf yX11_ringOf ∈ mtbl := mtbs (List.mem_of_getElem? (i := 57) (by decide +kernel)) rfl
set_option maxRecDepth 20000 in
theorem cv_X11_322 : mCV "DodgemDebateModel" 322 10 1 kX11_ringOf := ⟨⟨(RX11, TX11, 53), rfl, rfl⟩, cm_X11_ringOf, (mtb 1311 (by decide +kernel) rfl), (mtb 1313 (by decide +kernel) rfl), sm_X11_ringOf, (mtb 12 (by decide +kernel) rfl), ⟨by decide +kernel, by decide +kernel, by decide +kernel⟩, by decide⟩
set_option maxRecDepth 20000 in
theorem sm_X11_spare : Cond.selects yX11_spare.cls yX11_spare yX11_spare ∈ mtbl := mtb 1317 (by decide +kernel) rfl
set_option maxRecDepth 20000 in
theorem cv_L_104 : mCV "DodgemDebateLaw" 104 10 1 kX11_spare := ⟨⟨(RX11, TX11, 53), rfl, rfl⟩, cm_X11_spare, (mtb 1315 (by decide +kernel) rfl), (mtb 1316 (by decide +kernel) rfl), sm_X11_spare, (mtb 12 (by decide +kernel) rfl), ⟨by decide +kernel, by decide +kernel, by decide +kernel⟩, by decide⟩
set_option maxRecDepth 20000 in
theorem sm_X11_spareBy : Cond.selects yX11_spareBy.cls yX11_spareBy yX11_spareBy ∈ mtbl := mtbs (List.mem_of_getElem? (i := 58) (by decide +kernel)) rfl
set_option maxRecDepth 20000 in
theorem cv_X11_328 : mCV "DodgemDebateModel" 328 10 0 kX11_spareBy := ⟨⟨(RX11, TX11, 53), rfl, rfl⟩, cm_X11_spareBy, (mtb 1319 (by decide +kernel) rfl), (mtb 1321 (by decide +kernel) rfl), sm_X11_spareBy, (mtb 12 (by decide +kernel) rfl), ⟨by decide +kernel, by decide +kernel, by decide +kernel⟩, by decide⟩
set_option maxRecDepth 20000 in
theorem sm_X11_isSpared : Cond.selects yX11_isSpared.cls yX11_isSpared yX11_isSpared ∈ mtbl := mtbs (List.mem_of_getElem? (i := 59) (by decide +kernel)) rfl
set_option maxRecDepth 20000 in
theorem cv_X11_325 : mCV "DodgemDebateModel" 325 10 1 kX11_isSpared := ⟨⟨(RX11, TX11, 53), rfl, rfl⟩, cm_X11_isSpared, (mtb 1323 (by decide +kernel) rfl), (mtb 1325 (by decide +kernel) rfl), sm_X11_isSpared, (mtb 12 (by decide +kernel) rfl), ⟨by decide +kernel, by decide +kernel, by decide +kernel⟩, by decide⟩
set_option maxRecDepth 20000 in
theorem sm_X11_ofRow : Cond.selects yX11_ofRow.cls yX11_ofRow yX11_ofRow ∈ mtbl := mtbs (List.mem_of_getElem? (i := 60) (by decide +kernel)) rfl
set_option maxRecDepth 20000 in
theorem cv_X11_331 : mCV "DodgemDebateModel" 331 10 2 kX11_ofRow := ⟨⟨(RX11, TX11, 53), rfl, rfl⟩, cm_X11_ofRow, (mtb 1327 (by decide +kernel) rfl), (mtb 1329 (by decide +kernel) rfl), sm_X11_ofRow, (mtb 12 (by decide +kernel) rfl), ⟨by decide +kernel, by decide +kernel, by decide +kernel⟩, by decide⟩
set_option maxRecDepth 20000 in
theorem sm_X11_seen : Cond.selects yX11_seen.cls yX11_seen yX11_seen ∈ mtbl := mtb 1333 (by decide +kernel) rfl
set_option maxRecDepth 20000 in
theorem cv_L_109 : mCV "DodgemDebateLaw" 109 10 4 kX11_seen := ⟨⟨(RX11, TX11, 53), rfl, rfl⟩, cm_X11_seen, (mtb 1331 (by decide +kernel) rfl), (mtb 1332 (by decide +kernel) rfl), sm_X11_seen, (mtb 12 (by decide +kernel) rfl), ⟨by decide +kernel, by decide +kernel, by decide +kernel⟩, by decide⟩
set_option maxRecDepth 20000 in
theorem sm_X11_forget : Cond.selects yX11_forget.cls yX11_forget yX11_forget ∈ mtbl := mtb 1337 (by decide +kernel) rfl
set_option maxRecDepth 20000 in
theorem cv_L_113 : mCV "DodgemDebateLaw" 113 10 0 kX11_forget := ⟨⟨(RX11, TX11, 53), rfl, rfl⟩, cm_X11_forget, (mtb 1335 (by decide +kernel) rfl), (mtb 1336 (by decide +kernel) rfl), sm_X11_forget, (mtb 12 (by decide +kernel) rfl), ⟨by decide +kernel, by decide +kernel, by decide +kernel⟩, by decide⟩
set_option maxRecDepth 20000 in
theorem sm_X11_never : Cond.selects yX11_never.cls yX11_never yX11_never ∈ mtbl := mtb 1341 (by decide +kernel) rfl
set_option maxRecDepth 20000 in
theorem cv_L_117 : mCV "DodgemDebateLaw" 117 10 0 kX11_never := ⟨⟨(RX11, TX11, 53), rfl, rfl⟩, cm_X11_never, (mtb 1339 (by decide +kernel) rfl), (mtb 1340 (by decide +kernel) rfl), sm_X11_never, (mtb 12 (by decide +kernel) rfl), ⟨by decide +kernel, by decide +kernel, by decide +kernel⟩, by decide⟩
set_option maxRecDepth 20000 in
theorem sm_X11_neverNow : Cond.selects yX11_neverNow.cls yX11_neverNow yX11_neverNow ∈ mtbl := mtbs (List.mem_of_getElem? (i := 61) (by decide +kernel)) rfl
set_option maxRecDepth 20000 in
theorem cv_X11_341 : mCV "DodgemDebateModel" 341 10 0 kX11_neverNow := ⟨⟨(RX11, TX11, 53), rfl, rfl⟩, cm_X11_neverNow, (mtb 1343 (by decide +kernel) rfl), (mtb 1345 (by decide +kernel) rfl), sm_X11_neverNow, (mtb 12 (by decide +kernel) rfl), ⟨by decide +kernel, by decide +kernel, by decide +kernel⟩, by decide⟩
set_option maxRecDepth 20000 in
theorem sm_X11_isSeen : Cond.selects yX11_isSeen.cls yX11_isSeen yX11_isSeen ∈ mtbl := mtbs (List.mem_of_getElem? (i := 62) (by decide +kernel)) rfl
set_option maxRecDepth 20000 in
theorem cv_X11_337 : mCV "DodgemDebateModel" 337 10 0 kX11_isSeen := ⟨⟨(RX11, TX11, 53), rfl, rfl⟩, cm_X11_isSeen, (mtb 1347 (by decide +kernel) rfl), (mtb 1349 (by decide +kernel) rfl), sm_X11_isSeen, (mtb 12 (by decide +kernel) rfl), ⟨by decide +kernel, by decide +kernel, by decide +kernel⟩, by decide⟩
set_option maxRecDepth 20000 in
theorem sm_X11_was : Cond.selects yX11_was.cls yX11_was yX11_was ∈ mtbl := mtb 1353 (by decide +kernel) rfl
set_option maxRecDepth 20000 in
theorem cv_L_121 : mCV "DodgemDebateLaw" 121 10 2 kX11_was := ⟨⟨(RX11, TX11, 53), rfl, rfl⟩, cm_X11_was, (mtb 1351 (by decide +kernel) rfl), (mtb 1352 (by decide +kernel) rfl), sm_X11_was, (mtb 12 (by decide +kernel) rfl), ⟨by decide +kernel, by decide +kernel, by decide +kernel⟩, by decide⟩
set_option maxRecDepth 20000 in
theorem sm_X11_sortsBy : Cond.selects yX11_sortsBy.cls yX11_sortsBy yX11_sortsBy ∈ mtbl := mtbs (List.mem_of_getElem? (i := 63) (by decide +kernel)) rfl
set_option maxRecDepth 20000 in
theorem cv_X11_344 : mCV "DodgemDebateModel" 344 10 1 kX11_sortsBy := ⟨⟨(RX11, TX11, 53), rfl, rfl⟩, cm_X11_sortsBy, (mtb 1355 (by decide +kernel) rfl), (mtb 1357 (by decide +kernel) rfl), sm_X11_sortsBy, (mtb 12 (by decide +kernel) rfl), ⟨by decide +kernel, by decide +kernel, by decide +kernel⟩, by decide⟩
set_option maxRecDepth 20000 in
theorem sm_X11_heavyBy : Cond.selects yX11_heavyBy.cls yX11_heavyBy yX11_heavyBy ∈ mtbl := mtbs (List.mem_of_getElem? (i := 64) (by decide +kernel)) rfl
set_option maxRecDepth 20000 in
theorem cv_X11_347 : mCV "DodgemDebateModel" 347 10 1 kX11_heavyBy := ⟨⟨(RX11, TX11, 53), rfl, rfl⟩, cm_X11_heavyBy, (mtb 1359 (by decide +kernel) rfl), (mtb 1361 (by decide +kernel) rfl), sm_X11_heavyBy, (mtb 12 (by decide +kernel) rfl), ⟨by decide +kernel, by decide +kernel, by decide +kernel⟩, by decide⟩
set_option maxRecDepth 20000 in
theorem sm_X11_ask : Cond.selects yX11_ask.cls yX11_ask yX11_ask ∈ mtbl := mtb 1365 (by decide +kernel) rfl
set_option maxRecDepth 20000 in
theorem cv_L_125 : mCV "DodgemDebateLaw" 125 10 1 kX11_ask := ⟨⟨(RX11, TX11, 53), rfl, rfl⟩, cm_X11_ask, (mtb 1363 (by decide +kernel) rfl), (mtb 1364 (by decide +kernel) rfl), sm_X11_ask, (mtb 12 (by decide +kernel) rfl), ⟨by decide +kernel, by decide +kernel, by decide +kernel⟩, by decide⟩
set_option maxRecDepth 20000 in
theorem sm_X11_askOf : Cond.selects yX11_askOf.cls yX11_askOf yX11_askOf ∈ mtbl := mtbs (List.mem_of_getElem? (i := 65) (by decide +kernel)) rfl
set_option maxRecDepth 20000 in
theorem cv_X11_350 : mCV "DodgemDebateModel" 350 10 1 kX11_askOf := ⟨⟨(RX11, TX11, 53), rfl, rfl⟩, cm_X11_askOf, (mtb 1367 (by decide +kernel) rfl), (mtb 1369 (by decide +kernel) rfl), sm_X11_askOf, (mtb 12 (by decide +kernel) rfl), ⟨by decide +kernel, by decide +kernel, by decide +kernel⟩, by decide⟩
set_option maxRecDepth 20000 in
theorem sm_X11_chance : Cond.selects yX11_chance.cls yX11_chance yX11_chance ∈ mtbl := mtb 1373 (by decide +kernel) rfl
set_option maxRecDepth 20000 in
theorem cv_L_130 : mCV "DodgemDebateLaw" 130 10 3 kX11_chance := ⟨⟨(RX11, TX11, 53), rfl, rfl⟩, cm_X11_chance, (mtb 1371 (by decide +kernel) rfl), (mtb 1372 (by decide +kernel) rfl), sm_X11_chance, (mtb 12 (by decide +kernel) rfl), ⟨by decide +kernel, by decide +kernel, by decide +kernel⟩, by decide⟩
set_option maxRecDepth 20000 in
theorem sm_X11_chanceOf : Cond.selects yX11_chanceOf.cls yX11_chanceOf yX11_chanceOf ∈ mtbl := mtbs (List.mem_of_getElem? (i := 66) (by decide +kernel)) rfl
set_option maxRecDepth 20000 in
theorem cv_X11_357 : mCV "DodgemDebateModel" 357 10 3 kX11_chanceOf := ⟨⟨(RX11, TX11, 53), rfl, rfl⟩, cm_X11_chanceOf, (mtb 1375 (by decide +kernel) rfl), (mtb 1377 (by decide +kernel) rfl), sm_X11_chanceOf, (mtb 12 (by decide +kernel) rfl), ⟨by decide +kernel, by decide +kernel, by decide +kernel⟩, by decide⟩
set_option maxRecDepth 20000 in
theorem cs_X11_353 : mCS "DodgemDebateModel" 353 3 kX11_lowest := ⟨cm_X11_lowest, Or.inl (mtb 1379 (by decide +kernel) rfl), (mtb 1380 (by decide +kernel) rfl), (mtb 12 (by decide +kernel) rfl), ⟨by decide +kernel, by decide +kernel, by decide +kernel⟩, by decide⟩
set_option maxRecDepth 20000 in
theorem cs_X11_361 : mCS "DodgemDebateModel" 361 1 kX11_no := ⟨cm_X11_no, Or.inl (mtb 1382 (by decide +kernel) rfl), (mtb 1383 (by decide +kernel) rfl), (mtb 12 (by decide +kernel) rfl), ⟨by decide +kernel, by decide +kernel, by decide +kernel⟩, by decide⟩
set_option maxRecDepth 20000 in
theorem sm_X11_ages : Cond.selects yX11_ages.cls yX11_ages yX11_ages ∈ mtbl := mtb 1388 (by decide +kernel) rfl
set_option maxRecDepth 20000 in
theorem cv_L_134 : mCV "DodgemDebateLaw" 134 10 3 kX11_ages := ⟨⟨(RX11, TX11, 53), rfl, rfl⟩, cm_X11_ages, (mtb 1386 (by decide +kernel) rfl), (mtb 1387 (by decide +kernel) rfl), sm_X11_ages, (mtb 12 (by decide +kernel) rfl), ⟨by decide +kernel, by decide +kernel, by decide +kernel⟩, by decide⟩
set_option maxRecDepth 20000 in
theorem sm_X11_agesOf : Cond.selects yX11_agesOf.cls yX11_agesOf yX11_agesOf ∈ mtbl := mtbs (List.mem_of_getElem? (i := 67) (by decide +kernel)) rfl
set_option maxRecDepth 20000 in
theorem cv_X11_369 : mCV "DodgemDebateModel" 369 10 3 kX11_agesOf := ⟨⟨(RX11, TX11, 53), rfl, rfl⟩, cm_X11_agesOf, (mtb 1390 (by decide +kernel) rfl), (mtb 1392 (by decide +kernel) rfl), sm_X11_agesOf, (mtb 12 (by decide +kernel) rfl), ⟨by decide +kernel, by decide +kernel, by decide +kernel⟩, by decide⟩
set_option maxRecDepth 20000 in
theorem sm_X11_pointsAll : Cond.selects yX11_pointsAll.cls yX11_pointsAll yX11_pointsAll ∈ mtbl := mtbs (List.mem_of_getElem? (i := 68) (by decide +kernel)) rfl
set_option maxRecDepth 20000 in
theorem cv_X11_366 : mCV "DodgemDebateModel" 366 10 0 kX11_pointsAll := ⟨⟨(RX11, TX11, 53), rfl, rfl⟩, cm_X11_pointsAll, (mtb 1395 (by decide +kernel) rfl), (mtb 1397 (by decide +kernel) rfl), sm_X11_pointsAll, (mtb 12 (by decide +kernel) rfl), ⟨by decide +kernel, by decide +kernel, by decide +kernel⟩, by decide⟩
set_option maxRecDepth 20000 in
theorem sm_X11_sheet : Cond.selects yX11_sheet.cls yX11_sheet yX11_sheet ∈ mtbl := mtb 1401 (by decide +kernel) rfl
set_option maxRecDepth 20000 in
theorem cv_L_138 : mCV "DodgemDebateLaw" 138 10 3 kX11_sheet := ⟨⟨(RX11, TX11, 53), rfl, rfl⟩, cm_X11_sheet, (mtb 1399 (by decide +kernel) rfl), (mtb 1400 (by decide +kernel) rfl), sm_X11_sheet, (mtb 12 (by decide +kernel) rfl), ⟨by decide +kernel, by decide +kernel, by decide +kernel⟩, by decide⟩
set_option maxRecDepth 20000 in
theorem sm_X11_lose : Cond.selects yX11_lose.cls yX11_lose yX11_lose ∈ mtbl := mtb 1405 (by decide +kernel) rfl
set_option maxRecDepth 20000 in
theorem cv_L_142 : mCV "DodgemDebateLaw" 142 10 1 kX11_lose := ⟨⟨(RX11, TX11, 53), rfl, rfl⟩, cm_X11_lose, (mtb 1403 (by decide +kernel) rfl), (mtb 1404 (by decide +kernel) rfl), sm_X11_lose, (mtb 12 (by decide +kernel) rfl), ⟨by decide +kernel, by decide +kernel, by decide +kernel⟩, by decide⟩
set_option maxRecDepth 20000 in
theorem sm_X11_put : Cond.selects yX11_put.cls yX11_put yX11_put ∈ mtbl := mtb 1409 (by decide +kernel) rfl
set_option maxRecDepth 20000 in
theorem cv_L_146 : mCV "DodgemDebateLaw" 146 10 4 kX11_put := ⟨⟨(RX11, TX11, 53), rfl, rfl⟩, cm_X11_put, (mtb 1407 (by decide +kernel) rfl), (mtb 1408 (by decide +kernel) rfl), sm_X11_put, (mtb 12 (by decide +kernel) rfl), ⟨by decide +kernel, by decide +kernel, by decide +kernel⟩, by decide⟩
set_option maxRecDepth 20000 in
theorem sm_X11_lacks : Cond.selects yX11_lacks.cls yX11_lacks yX11_lacks ∈ mtbl := mtbs (List.mem_of_getElem? (i := 69) (by decide +kernel)) rfl
set_option maxRecDepth 20000 in
theorem cv_X11_375 : mCV "DodgemDebateModel" 375 10 3 kX11_lacks := ⟨⟨(RX11, TX11, 53), rfl, rfl⟩, cm_X11_lacks, (mtb 1411 (by decide +kernel) rfl), (mtb 1413 (by decide +kernel) rfl), sm_X11_lacks, (mtb 12 (by decide +kernel) rfl), ⟨by decide +kernel, by decide +kernel, by decide +kernel⟩, by decide⟩
set_option maxRecDepth 20000 in
theorem sm_X11_keep : Cond.selects yX11_keep.cls yX11_keep yX11_keep ∈ mtbl := mtbs (List.mem_of_getElem? (i := 70) (by decide +kernel)) rfl
set_option maxRecDepth 20000 in
theorem cv_X11_378 : mCV "DodgemDebateModel" 378 10 3 kX11_keep := ⟨⟨(RX11, TX11, 53), rfl, rfl⟩, cm_X11_keep, (mtb 1415 (by decide +kernel) rfl), (mtb 1417 (by decide +kernel) rfl), sm_X11_keep, (mtb 12 (by decide +kernel) rfl), ⟨by decide +kernel, by decide +kernel, by decide +kernel⟩, by decide⟩
set_option maxRecDepth 20000 in
theorem sm_X11_get : Cond.selects yX11_get.cls yX11_get yX11_get ∈ mtbl := mtb 1421 (by decide +kernel) rfl
set_option maxRecDepth 20000 in
theorem cv_L_150 : mCV "DodgemDebateLaw" 150 10 3 kX11_get := ⟨⟨(RX11, TX11, 53), rfl, rfl⟩, cm_X11_get, (mtb 1419 (by decide +kernel) rfl), (mtb 1420 (by decide +kernel) rfl), sm_X11_get, (mtb 12 (by decide +kernel) rfl), ⟨by decide +kernel, by decide +kernel, by decide +kernel⟩, by decide⟩
set_option maxRecDepth 20000 in
theorem sm_X11_copy : Cond.selects yX11_copy.cls yX11_copy yX11_copy ∈ mtbl := mtb 1426 (by decide +kernel) rfl
set_option maxRecDepth 20000 in
theorem cv_L_155 : mCV "DodgemDebateLaw" 155 10 5 kX11_copy := ⟨⟨(RX11, TX11, 53), rfl, rfl⟩, cm_X11_copy, (mtb 1424 (by decide +kernel) rfl), (mtb 1425 (by decide +kernel) rfl), sm_X11_copy, (mtb 12 (by decide +kernel) rfl), ⟨by decide +kernel, by decide +kernel, by decide +kernel⟩, by decide⟩
set_option maxRecDepth 20000 in
theorem sm_X11_write : Cond.selects yX11_write.cls yX11_write yX11_write ∈ mtbl := mtb 1430 (by decide +kernel) rfl
set_option maxRecDepth 20000 in
theorem cv_L_159 : mCV "DodgemDebateLaw" 159 10 2 kX11_write := ⟨⟨(RX11, TX11, 53), rfl, rfl⟩, cm_X11_write, (mtb 1428 (by decide +kernel) rfl), (mtb 1429 (by decide +kernel) rfl), sm_X11_write, (mtb 12 (by decide +kernel) rfl), ⟨by decide +kernel, by decide +kernel, by decide +kernel⟩, by decide⟩
set_option maxRecDepth 20000 in
theorem sm_X11_count : Cond.selects yX11_count.cls yX11_count yX11_count ∈ mtbl := mtb 1434 (by decide +kernel) rfl
set_option maxRecDepth 20000 in
theorem cv_L_163 : mCV "DodgemDebateLaw" 163 10 1 kX11_count := ⟨⟨(RX11, TX11, 53), rfl, rfl⟩, cm_X11_count, (mtb 1432 (by decide +kernel) rfl), (mtb 1433 (by decide +kernel) rfl), sm_X11_count, (mtb 12 (by decide +kernel) rfl), ⟨by decide +kernel, by decide +kernel, by decide +kernel⟩, by decide⟩
set_option maxRecDepth 20000 in
theorem sm_X11_sumOf : Cond.selects yX11_sumOf.cls yX11_sumOf yX11_sumOf ∈ mtbl := mtbs (List.mem_of_getElem? (i := 71) (by decide +kernel)) rfl
set_option maxRecDepth 20000 in
theorem cv_X11_382 : mCV "DodgemDebateModel" 382 10 1 kX11_sumOf := ⟨⟨(RX11, TX11, 53), rfl, rfl⟩, cm_X11_sumOf, (mtb 1436 (by decide +kernel) rfl), (mtb 1438 (by decide +kernel) rfl), sm_X11_sumOf, (mtb 12 (by decide +kernel) rfl), ⟨by decide +kernel, by decide +kernel, by decide +kernel⟩, by decide⟩
set_option maxRecDepth 20000 in
theorem sm_X11_digest : Cond.selects yX11_digest.cls yX11_digest yX11_digest ∈ mtbl := mtb 1442 (by decide +kernel) rfl
set_option maxRecDepth 20000 in
theorem cv_L_168 : mCV "DodgemDebateLaw" 168 10 0 kX11_digest := ⟨⟨(RX11, TX11, 53), rfl, rfl⟩, cm_X11_digest, (mtb 1440 (by decide +kernel) rfl), (mtb 1441 (by decide +kernel) rfl), sm_X11_digest, (mtb 12 (by decide +kernel) rfl), ⟨by decide +kernel, by decide +kernel, by decide +kernel⟩, by decide⟩
set_option maxRecDepth 20000 in
theorem cv_X11_393 : mCV "DodgemDebateModel" 393 10 1 kX11_count := ⟨⟨(RX11, TX11, 53), rfl, rfl⟩, cm_X11_count, (mtb 1446 (by decide +kernel) rfl), (mtb 1433 (by decide +kernel) rfl), sm_X11_count, (mtb 12 (by decide +kernel) rfl), ⟨by decide +kernel, by decide +kernel, by decide +kernel⟩, by decide⟩
set_option maxRecDepth 20000 in
theorem sm_X11_carDigest : Cond.selects yX11_carDigest.cls yX11_carDigest yX11_carDigest ∈ mtbl := mtbs (List.mem_of_getElem? (i := 72) (by decide +kernel)) rfl
set_option maxRecDepth 20000 in
theorem cv_X11_396 : mCV "DodgemDebateModel" 396 10 2 kX11_carDigest := ⟨⟨(RX11, TX11, 53), rfl, rfl⟩, cm_X11_carDigest, (mtb 1447 (by decide +kernel) rfl), (mtb 1449 (by decide +kernel) rfl), sm_X11_carDigest, (mtb 12 (by decide +kernel) rfl), ⟨by decide +kernel, by decide +kernel, by decide +kernel⟩, by decide⟩
set_option maxRecDepth 20000 in
theorem sm_X11_momentDigest : Cond.selects yX11_momentDigest.cls yX11_momentDigest yX11_momentDigest ∈ mtbl := mtbs (List.mem_of_getElem? (i := 73) (by decide +kernel)) rfl
set_option maxRecDepth 20000 in
theorem cv_X11_387 : mCV "DodgemDebateModel" 387 10 3 kX11_momentDigest := ⟨⟨(RX11, TX11, 53), rfl, rfl⟩, cm_X11_momentDigest, (mtb 1451 (by decide +kernel) rfl), (mtb 1453 (by decide +kernel) rfl), sm_X11_momentDigest, (mtb 12 (by decide +kernel) rfl), ⟨by decide +kernel, by decide +kernel, by decide +kernel⟩, by decide⟩
set_option maxRecDepth 20000 in
theorem cs_X3_99 : mCS "DodgemDebate$Run" 99 2 kX10_onFloor := ⟨cm_X10_onFloor, Or.inr (by decide +kernel), (mtb 494 (by decide +kernel) rfl), (mtb 1 (by decide +kernel) rfl), ⟨by decide +kernel, by decide +kernel, by decide +kernel⟩, by decide⟩
set_option maxRecDepth 20000 in
theorem cs_X1_21 : mCS "DodgemDebate$Events" 21 2 kX10_within := ⟨cm_X10_within, Or.inr (by decide +kernel), (mtb 321 (by decide +kernel) rfl), (mtb 1 (by decide +kernel) rfl), ⟨by decide +kernel, by decide +kernel, by decide +kernel⟩, by decide⟩
set_option maxRecDepth 20000 in
theorem cs_X4_37 : mCS "DodgemDebate$Sheets" 37 2 kX10_within := ⟨cm_X10_within, Or.inr (by decide +kernel), (mtb 321 (by decide +kernel) rfl), (mtb 1 (by decide +kernel) rfl), ⟨by decide +kernel, by decide +kernel, by decide +kernel⟩, by decide⟩
set_option maxRecDepth 20000 in
theorem kc_J2_227 : Cond.constant "java/lang/StringUTF16" 227 (65536) ∈ mtbl := mtb 406 (by decide +kernel) rfl
set_option maxRecDepth 20000 in
theorem kc_J11_110 : Cond.constant "java/lang/Character" 110 (55232) ∈ mtbl := mtb 445 (by decide +kernel) rfl
set_option maxRecDepth 20000 in
theorem kc_J11_76 : Cond.constant "java/lang/Character" 76 (56320) ∈ mtbl := mtb 449 (by decide +kernel) rfl
set_option maxRecDepth 20000 in
theorem kc_J6_265 : Cond.constant "java/lang/Integer" 265 (1431655765) ∈ mtbl := mtb 695 (by decide +kernel) rfl
set_option maxRecDepth 20000 in
theorem kc_J6_266 : Cond.constant "java/lang/Integer" 266 (858993459) ∈ mtbl := mtb 696 (by decide +kernel) rfl
set_option maxRecDepth 20000 in
theorem kc_J6_267 : Cond.constant "java/lang/Integer" 267 (252645135) ∈ mtbl := mtb 697 (by decide +kernel) rfl
set_option maxRecDepth 20000 in
theorem kc_X9_146 : Cond.constant "DodgemDebate$Trials" 146 (1103515245) ∈ mtbl := mtb 794 (by decide +kernel) rfl
set_option maxRecDepth 20000 in
theorem kc_X10_242 : Cond.constant "DodgemDebate" 242 (-2147483648) ∈ mtbl := mtb 833 (by decide +kernel) rfl
set_option maxRecDepth 20000 in
theorem kc_X11_365 : Cond.constant "DodgemDebateModel" 365 (1103515245) ∈ mtbl := mtb 1394 (by decide +kernel) rfl
set_option maxRecDepth 20000 in
theorem kc_X11_381 : Cond.constant "DodgemDebateModel" 381 (-2147483648) ∈ mtbl := mtb 1423 (by decide +kernel) rfl
set_option maxRecDepth 20000 in
theorem kl_X10_215 : Cond.constantLong "DodgemDebate" 215 (-9223372036854775806) ∈ mtbl := mtb 761 (by decide +kernel) rfl
set_option maxRecDepth 20000 in
theorem kl_X10_315 : Cond.constantLong "DodgemDebate" 315 (2) ∈ mtbl := mtb 782 (by decide +kernel) rfl
set_option maxRecDepth 20000 in
theorem kl_X10_263 : Cond.constantLong "DodgemDebate" 263 (17) ∈ mtbl := mtb 860 (by decide +kernel) rfl
set_option maxRecDepth 20000 in
theorem kl_X2_7 : Cond.constantLong "DodgemDebate$Hash" 7 (31) ∈ mtbl := mtb 869 (by decide +kernel) rfl
set_option maxRecDepth 20000 in
theorem kl_X11_134 : Cond.constantLong "DodgemDebateModel" 134 (-9223372036854775808) ∈ mtbl := mtb 1385 (by decide +kernel) rfl
set_option maxRecDepth 20000 in
theorem kl_X11_391 : Cond.constantLong "DodgemDebateModel" 391 (17) ∈ mtbl := mtb 1444 (by decide +kernel) rfl
set_option maxRecDepth 20000 in
theorem kl_X11_385 : Cond.constantLong "DodgemDebateModel" 385 (31) ∈ mtbl := mtb 1445 (by decide +kernel) rfl
set_option maxRecDepth 20000 in
theorem cu_learn_cars : mCU "DodgemDebate" "DodgemDebate$Cars" "DodgemDebate$Told" 292 1 ⟨"DodgemDebate$Cars", "learn", "(LDodgemDebate$Text;)V"⟩ kX8_learn := ⟨cm_X8_learn, (mtb 347 (by decide +kernel) rfl), (mtb 348 (by decide +kernel) rfl), (mtb 350 (by decide +kernel) rfl), (mtb 351 (by decide +kernel) rfl), (mtb 3 (by decide +kernel) rfl), ⟨by decide +kernel, by decide +kernel, by decide +kernel⟩, Or.inl (by decide +kernel), by decide⟩
set_option maxRecDepth 20000 in
theorem cu_learn_steers : mCU "DodgemDebate" "DodgemDebate$Steers" "DodgemDebate$Told" 296 1 ⟨"DodgemDebate$Steers", "learn", "(LDodgemDebate$Text;)V"⟩ kX8_learn := ⟨cm_X8_learn, (mtb 463 (by decide +kernel) rfl), (mtb 464 (by decide +kernel) rfl), (mtb 465 (by decide +kernel) rfl), (mtb 351 (by decide +kernel) rfl), (mtb 3 (by decide +kernel) rfl), ⟨by decide +kernel, by decide +kernel, by decide +kernel⟩, Or.inl (by decide +kernel), by decide⟩
set_option maxRecDepth 20000 in
theorem cu_takes_cars : mCU "DodgemDebate$Told" "DodgemDebate$Cars" "DodgemDebate$Told" 34 3 ⟨"DodgemDebate$Told", "takes", "(IIC)Z"⟩ kX8_takes := ⟨cm_X8_takes, (mtb 353 (by decide +kernel) rfl), (mtb 1455 (by decide +kernel) rfl), (mtbx (by decide +kernel) rfl), (mtb 355 (by decide +kernel) rfl), (mtb 3 (by decide +kernel) rfl), ⟨by decide +kernel, by decide +kernel, by decide +kernel⟩, Or.inr rfl, by decide⟩
set_option maxRecDepth 20000 in
theorem cu_meaning_cars : mCU "DodgemDebate$Told" "DodgemDebate$Cars" "DodgemDebate$Told" 41 3 ⟨"DodgemDebate$Told", "meaning", "(IIC)I"⟩ kX0_meaning := ⟨cm_X0_meaning, (mtb 357 (by decide +kernel) rfl), (mtb 359 (by decide +kernel) rfl), (mtb 360 (by decide +kernel) rfl), (mtb 361 (by decide +kernel) rfl), (mtb 4 (by decide +kernel) rfl), ⟨by decide +kernel, by decide +kernel, by decide +kernel⟩, Or.inl (by decide +kernel), by decide⟩
set_option maxRecDepth 20000 in
theorem cu_takes_steers : mCU "DodgemDebate$Told" "DodgemDebate$Steers" "DodgemDebate$Told" 34 3 ⟨"DodgemDebate$Told", "takes", "(IIC)Z"⟩ kX8_takes := ⟨cm_X8_takes, (mtb 353 (by decide +kernel) rfl), (mtb 1455 (by decide +kernel) rfl), (mtbx (by decide +kernel) rfl), (mtb 355 (by decide +kernel) rfl), (mtb 3 (by decide +kernel) rfl), ⟨by decide +kernel, by decide +kernel, by decide +kernel⟩, Or.inr rfl, by decide⟩
set_option maxRecDepth 20000 in
theorem cu_meaning_steers : mCU "DodgemDebate$Told" "DodgemDebate$Steers" "DodgemDebate$Told" 41 3 ⟨"DodgemDebate$Told", "meaning", "(IIC)I"⟩ kX6_meaning := ⟨cm_X6_meaning, (mtb 357 (by decide +kernel) rfl), (mtb 359 (by decide +kernel) rfl), (mtb 457 (by decide +kernel) rfl), (mtb 458 (by decide +kernel) rfl), (mtb 5 (by decide +kernel) rfl), ⟨by decide +kernel, by decide +kernel, by decide +kernel⟩, Or.inl (by decide +kernel), by decide⟩
set_option maxRecDepth 20000 in
theorem ac_X3_111 : Cond.methodLink "DodgemDebate$Run" 111 arraycopyName ∈ mtbl := mtb 508 (by decide +kernel) rfl
set_option maxRecDepth 20000 in
theorem ac_X0_38 : Cond.methodLink "DodgemDebate$Cars" 38 arraycopyName ∈ mtbl := mtb 634 (by decide +kernel) rfl
set_option maxRecDepth 20000 in
theorem ac_X10_249 : Cond.methodLink "DodgemDebate" 249 arraycopyName ∈ mtbl := mtb 842 (by decide +kernel) rfl
set_option maxRecDepth 20000 in
theorem ac_nat : Cond.native arraycopyName ∈ mtbl := mtb 510 (by decide +kernel) rfl
set_option maxRecDepth 20000 in
theorem ac_sta : Cond.static arraycopyName ∈ mtbl := mtb 509 (by decide +kernel) rfl
set_option maxRecDepth 20000 in
theorem ac_ini : Cond.initialized "java/lang/System" ∈ mtbl := mtb 20 (by decide +kernel) rfl
set_option maxRecDepth 20000 in
theorem fs_coder : Cond.fieldLink "java/lang/String" 15 "java/lang/String" "coder" "B" ∈ mtbl := mtb 1456 (by decide +kernel) rfl
set_option maxRecDepth 20000 in
theorem fs_value : Cond.fieldLink "java/lang/String" 9 "java/lang/String" "value" "[B" ∈ mtbl := mtb 1457 (by decide +kernel) rfl
set_option maxRecDepth 20000 in
theorem fs_COMPACT_STRINGS : Cond.fieldLink "java/lang/String" 38 "java/lang/String" "COMPACT_STRINGS" "Z" ∈ mtbl := mtb 376 (by decide +kernel) rfl
set_option maxRecDepth 20000 in
theorem fs_DIGEST_MOMENTS : Cond.fieldLink "DodgemDebate" 289 "DodgemDebate" "DIGEST_MOMENTS" "[I" ∈ mtbl := mtb 874 (by decide +kernel) rfl
