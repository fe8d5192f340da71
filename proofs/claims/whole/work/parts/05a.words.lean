/-! every field, call and constant that an instruction names -/
theorem ztb_1 {i : Nat} {w : Cond} (h : tables_1_1[i]? = some w) : w ∈ lw_tbl := List.mem_append_right _ (by have h2 := List.mem_of_getElem? h; exact (List.mem_append_left _ h2))
theorem ztb_2 {i : Nat} {w : Cond} (h : tables_1_2[i]? = some w) : w ∈ lw_tbl := List.mem_append_right _ (by have h2 := List.mem_of_getElem? h; exact (List.mem_append_right _ (List.mem_append_left _ h2)))
theorem ztb_3 {i : Nat} {w : Cond} (h : tables_1_3[i]? = some w) : w ∈ lw_tbl := List.mem_append_right _ (by have h2 := List.mem_of_getElem? h; exact (List.mem_append_right _ (List.mem_append_right _ (List.mem_append_left _ h2))))
theorem ztb_4 {i : Nat} {w : Cond} (h : tables_1_4[i]? = some w) : w ∈ lw_tbl := List.mem_append_right _ (by have h2 := List.mem_of_getElem? h; exact (List.mem_append_right _ (List.mem_append_right _ (List.mem_append_right _ (List.mem_append_left _ h2)))))
theorem ztb_5 {i : Nat} {w : Cond} (h : tables_1_5[i]? = some w) : w ∈ lw_tbl := List.mem_append_right _ (by have h2 := List.mem_of_getElem? h; exact (List.mem_append_right _ (List.mem_append_right _ (List.mem_append_right _ (List.mem_append_right _ (List.mem_append_left _ h2))))))
theorem ztb_6 {i : Nat} {w : Cond} (h : tables_1_6[i]? = some w) : w ∈ lw_tbl := List.mem_append_right _ (by have h2 := List.mem_of_getElem? h; exact (List.mem_append_right _ (List.mem_append_right _ (List.mem_append_right _ (List.mem_append_right _ (List.mem_append_right _ (List.mem_append_left _ h2)))))))
theorem ztb_7 {i : Nat} {w : Cond} (h : tables_1_7[i]? = some w) : w ∈ lw_tbl := List.mem_append_right _ (by have h2 := List.mem_of_getElem? h; exact (List.mem_append_right _ (List.mem_append_right _ (List.mem_append_right _ (List.mem_append_right _ (List.mem_append_right _ (List.mem_append_right _ h2)))))))
theorem ztb_0 {i : Nat} {w : Cond} (h : (k2_sels lw_privs)[i]? = some w) : w ∈ lw_tbl := List.mem_append_left _ (List.mem_of_getElem? h)
abbrev mX0_init : zMt := (yX0_init, cX0_init, 2, none)
abbrev mX4_placeOf : zMt := (yX4_placeOf, cX4_placeOf, 3, (some .int))
abbrev mX4_get : zMt := (yX4_get, cX4_get, 4, (some .int))
abbrev mX6_isHere : zMt := (yX6_isHere, cX6_isHere, 2, (some .boolean))
abbrev mX2_farBy : zMt := (yX2_farBy, cX2_farBy, 6, (some .int))
abbrev mX6_throwFar : zMt := (yX6_throwFar, cX6_throwFar, 4, (some .int))
abbrev mX6_reaches : zMt := (yX6_reaches, cX6_reaches, 5, (some .boolean))
abbrev mX0_reachingRings : zMt := (yX0_reachingRings, cX0_reachingRings, 5, (some .int))
abbrev mX6_needsYet : zMt := (yX6_needsYet, cX6_needsYet, 2, (some .int))
abbrev mX2_hitsBy : zMt := (yX2_hitsBy, cX2_hitsBy, 4, (some .int))
abbrev mX6_throwHits : zMt := (yX6_throwHits, cX6_throwHits, 3, (some .int))
abbrev mX6_hitsAt : zMt := (yX6_hitsAt, cX6_hitsAt, 5, (some .int))
abbrev mX7_within : zMt := (yX7_within, cX7_within, 3, (some .boolean))
abbrev mX7_isRings : zMt := (yX7_isRings, cX7_isRings, 1, (some .boolean))
abbrev mX6_stonesOf : zMt := (yX6_stonesOf, cX6_stonesOf, 3, (some .int))
abbrev mX0_offerStone : zMt := (yX0_offerStone, cX0_offerStone, 5, none)
abbrev mX0_priceToTurn : zMt := (yX0_priceToTurn, cX0_priceToTurn, 9, (some .int))
abbrev mX0_hitsUntilHere : zMt := (yX0_hitsUntilHere, cX0_hitsUntilHere, 4, (some .int))
abbrev mX0_keepHits : zMt := (yX0_keepHits, cX0_keepHits, 5, none)
abbrev mX0_hitsKept : zMt := (yX0_hitsKept, cX0_hitsKept, 4, (some .int))
abbrev mX0_close : zMt := (yX0_close, cX0_close, 3, none)
abbrev mX0_startWays : zMt := (yX0_startWays, cX0_startWays, 4, none)
abbrev mX0_turnedByAllAtEach : zMt := (yX0_turnedByAllAtEach, cX0_turnedByAllAtEach, 5, (some .int))
abbrev mX0_turnedNow : zMt := (yX0_turnedNow, cX0_turnedNow, 3, (some .int))
abbrev mX0_nextWay : zMt := (yX0_nextWay, cX0_nextWay, 4, (some .boolean))
abbrev mX0_mostTurned : zMt := (yX0_mostTurned, cX0_mostTurned, 7, (some .int))
abbrev mX0_givenCloud : zMt := (yX0_givenCloud, cX0_givenCloud, 2, (some .int))
abbrev mX0_worth : zMt := (yX0_worth, cX0_worth, 2, (some .int))
abbrev mX0_rests : zMt := (yX0_rests, cX0_rests, 4, (some .boolean))
abbrev mX0_pairsThatRest : zMt := (yX0_pairsThatRest, cX0_pairsThatRest, 12, (some .int))
abbrev mX1_init : zMt := (yX1_init, cX1_init, 2, none)
abbrev mX2_costOfDoor : zMt := (yX2_costOfDoor, cX2_costOfDoor, 1, (some .int))
abbrev mX2_meltBy : zMt := (yX2_meltBy, cX2_meltBy, 6, (some .int))
abbrev mX1_lostRings : zMt := (yX1_lostRings, cX1_lostRings, 8, (some .int))
abbrev mX6_stonesFrom : zMt := (yX6_stonesFrom, cX6_stonesFrom, 5, (some .int))
abbrev mX6_greatest : zMt := (yX6_greatest, cX6_greatest, 3, (some .int))
abbrev mX1_leftBehind : zMt := (yX1_leftBehind, cX1_leftBehind, 6, (some .int))
abbrev mX6_meltIn : zMt := (yX6_meltIn, cX6_meltIn, 3, (some .int))
abbrev mX1_weeksKept : zMt := (yX1_weeksKept, cX1_weeksKept, 5, (some .int))
abbrev mX1_leastStraw : zMt := (yX1_leastStraw, cX1_leastStraw, 5, (some .int))
abbrev mX6_doorCost : zMt := (yX6_doorCost, cX6_doorCost, 2, (some .int))
abbrev mX1_lostByDoor : zMt := (yX1_lostByDoor, cX1_lostByDoor, 3, (some .int))
abbrev mX1_cheapestDoor : zMt := (yX1_cheapestDoor, cX1_cheapestDoor, 4, (some .int))
abbrev mX1_lostBySeed : zMt := (yX1_lostBySeed, cX1_lostBySeed, 8, (some .int))
abbrev mX1_leftBySeed : zMt := (yX1_leftBySeed, cX1_leftBySeed, 5, (some .int))
abbrev mX3_init : zMt := (yX3_init, cX3_init, 2, none)
abbrev mX3_isTextFull : zMt := (yX3_isTextFull, cX3_isTextFull, 1, (some .boolean))
abbrev mX3_append : zMt := (yX3_append, cX3_append, 2, (some .int))
abbrev mX3_dropText : zMt := (yX3_dropText, cX3_dropText, 2, (some .int))
abbrev mX4_empty : zMt := (yX4_empty, cX4_empty, 2, (some .int))
abbrev mX6_reset : zMt := (yX6_reset, cX6_reset, 2, none)
abbrev mX3_byteAt : zMt := (yX3_byteAt, cX3_byteAt, 2, (some .int))
abbrev mX3_tokenBegunBy : zMt := (yX3_tokenBegunBy, cX3_tokenBegunBy, 1, (some .int))
abbrev mX3_readFigures : zMt := (yX3_readFigures, cX3_readFigures, 3, none)
abbrev mX3_advance : zMt := (yX3_advance, cX3_advance, 2, none)
abbrev mX3_atWord : zMt := (yX3_atWord, cX3_atWord, 3, (some .boolean))
abbrev mX3_takeNumber : zMt := (yX3_takeNumber, cX3_takeNumber, 4, (some .int))
abbrev mX3_itemEnds : zMt := (yX3_itemEnds, cX3_itemEnds, 1, (some .boolean))
abbrev mX3_storeItem : zMt := (yX3_storeItem, cX3_storeItem, 2, (some .boolean))
abbrev mX4_isFull : zMt := (yX4_isFull, cX4_isFull, 1, (some .boolean))
abbrev mX4_put : zMt := (yX4_put, cX4_put, 5, none)
abbrev mX4_openRow : zMt := (yX4_openRow, cX4_openRow, 2, (some .int))
abbrev mX6_addCellar : zMt := (yX6_addCellar, cX6_addCellar, 4, (some .int))
abbrev mX6_putStones : zMt := (yX6_putStones, cX6_putStones, 4, none)
abbrev mX3_cellarItem : zMt := (yX3_cellarItem, cX3_cellarItem, 5, (some .boolean))
abbrev mX6_addSlinger : zMt := (yX6_addSlinger, cX6_addSlinger, 4, (some .int))
abbrev mX3_slingerItem : zMt := (yX3_slingerItem, cX3_slingerItem, 3, (some .boolean))
abbrev mX6_addCloud : zMt := (yX6_addCloud, cX6_addCloud, 4, (some .int))
abbrev mX3_cloudItem : zMt := (yX3_cloudItem, cX3_cloudItem, 3, (some .boolean))
abbrev mX6_loseRings : zMt := (yX6_loseRings, cX6_loseRings, 4, none)
abbrev mX6_passWeeks : zMt := (yX6_passWeeks, cX6_passWeeks, 4, none)
abbrev mX3_weeksItem : zMt := (yX3_weeksItem, cX3_weeksItem, 2, (some .boolean))
abbrev mX3_readStore : zMt := (yX3_readStore, cX3_readStore, 3, (some .int))
abbrev mX4_init : zMt := (yX4_init, cX4_init, 3, none)
abbrev mX4_holds : zMt := (yX4_holds, cX4_holds, 2, (some .boolean))
abbrev mX4_addRow : zMt := (yX4_addRow, cX4_addRow, 7, (some .int))
abbrev mX4_dropFirst : zMt := (yX4_dropFirst, cX4_dropFirst, 1, none)
abbrev mX4_putSheet : zMt := (yX4_putSheet, cX4_putSheet, 5, none)
abbrev mX4_getSheet : zMt := (yX4_getSheet, cX4_getSheet, 5, none)
abbrev mX4_copyFrom : zMt := (yX4_copyFrom, cX4_copyFrom, 2, none)
abbrev mX4_mixInto : zMt := (yX4_mixInto, cX4_mixInto, 6, (some .long))
abbrev mX5_init : zMt := (yX5_init, cX5_init, 2, none)
abbrev mX5_doorsBy : zMt := (yX5_doorsBy, cX5_doorsBy, 6, (some .int))
abbrev mX5_doorsByAll : zMt := (yX5_doorsByAll, cX5_doorsByAll, 4, (some .int))
abbrev mX5_fitsNotes : zMt := (yX5_fitsNotes, cX5_fitsNotes, 7, (some .boolean))
abbrev mX5_kindsOfCellar : zMt := (yX5_kindsOfCellar, cX5_kindsOfCellar, 4, (some .int))
abbrev mX5_isIn : zMt := (yX5_isIn, cX5_isIn, 2, (some .boolean))
abbrev mX5_mostAlike : zMt := (yX5_mostAlike, cX5_mostAlike, 5, (some .int))
abbrev mX5_weekToWatch : zMt := (yX5_weekToWatch, cX5_weekToWatch, 8, (some .int))
abbrev mX5_fitsThrown : zMt := (yX5_fitsThrown, cX5_fitsThrown, 9, (some .boolean))
abbrev mX5_kindsOfSlinger : zMt := (yX5_kindsOfSlinger, cX5_kindsOfSlinger, 4, (some .int))
abbrev mX5_throwToAsk : zMt := (yX5_throwToAsk, cX5_throwToAsk, 10, (some .int))
abbrev mX6_init : zMt := (yX6_init, cX6_init, 1, none)
abbrev mX6_copyFrom : zMt := (yX6_copyFrom, cX6_copyFrom, 2, none)
abbrev mX6_remember : zMt := (yX6_remember, cX6_remember, 2, none)
abbrev mX6_goBack : zMt := (yX6_goBack, cX6_goBack, 2, none)
abbrev mX6_allStones : zMt := (yX6_allStones, cX6_allStones, 3, (some .int))
abbrev mX6_openDoor : zMt := (yX6_openDoor, cX6_openDoor, 2, none)
abbrev mX6_isTurned : zMt := (yX6_isTurned, cX6_isTurned, 2, (some .boolean))
abbrev mX6_turnedClouds : zMt := (yX6_turnedClouds, cX6_turnedClouds, 3, (some .int))
abbrev mX6_throwStone : zMt := (yX6_throwStone, cX6_throwStone, 6, (some .int))
abbrev mX6_passHour : zMt := (yX6_passHour, cX6_passHour, 3, (some .int))
abbrev mX7_init : zMt := (yX7_init, cX7_init, 1, none)
abbrev mX7_refusedAsBad : zMt := (yX7_refusedAsBad, cX7_refusedAsBad, 2, (some .int))
abbrev mX7_bad : zMt := (yX7_bad, cX7_bad, 1, (some .int))
abbrev mX7_store : zMt := (yX7_store, cX7_store, 3, (some .int))
abbrev mX7_full : zMt := (yX7_full, cX7_full, 1, (some .int))
abbrev mX7_cellar : zMt := (yX7_cellar, cX7_cellar, 3, (some .int))
abbrev mX7_stones : zMt := (yX7_stones, cX7_stones, 4, (some .int))
abbrev mX7_straw : zMt := (yX7_straw, cX7_straw, 4, (some .int))
abbrev mX7_slinger : zMt := (yX7_slinger, cX7_slinger, 3, (some .int))
abbrev mX7_cloud : zMt := (yX7_cloud, cX7_cloud, 3, (some .int))
abbrev mX7_type : zMt := (yX7_type, cX7_type, 2, (some .int))
abbrev mX7_clear : zMt := (yX7_clear, cX7_clear, 1, (some .int))
abbrev mX7_read : zMt := (yX7_read, cX7_read, 2, (some .int))
abbrev mX7_week : zMt := (yX7_week, cX7_week, 2, (some .int))
abbrev mX7_door : zMt := (yX7_door, cX7_door, 2, (some .int))
abbrev mX7_no : zMt := (yX7_no, cX7_no, 1, (some .int))
abbrev mX7_throwing : zMt := (yX7_throwing, cX7_throwing, 5, (some .int))
abbrev mX7_hour : zMt := (yX7_hour, cX7_hour, 1, (some .int))
abbrev mX7_wind : zMt := (yX7_wind, cX7_wind, 3, (some .int))
abbrev mX7_undo : zMt := (yX7_undo, cX7_undo, 1, (some .int))
abbrev mX7_of : zMt := (yX7_of, cX7_of, 3, (some .int))
abbrev mX7_has : zMt := (yX7_has, cX7_has, 3, (some .int))
abbrev mX7_about : zMt := (yX7_about, cX7_about, 3, (some .int))
abbrev mX7_sky : zMt := (yX7_sky, cX7_sky, 3, (some .int))
abbrev mX7_melts : zMt := (yX7_melts, cX7_melts, 3, (some .int))
abbrev mX7_then : zMt := (yX7_then, cX7_then, 5, (some .int))
abbrev mX7_lasts : zMt := (yX7_lasts, cX7_lasts, 3, (some .int))
abbrev mX7_least : zMt := (yX7_least, cX7_least, 4, (some .int))
abbrev mX7_throwsOf : zMt := (yX7_throwsOf, cX7_throwsOf, 4, (some .int))
abbrev mX7_reach : zMt := (yX7_reach, cX7_reach, 3, (some .int))
abbrev mX7_turn : zMt := (yX7_turn, cX7_turn, 6, (some .int))
abbrev mX7_meet : zMt := (yX7_meet, cX7_meet, 4, (some .int))
abbrev mX7_doors : zMt := (yX7_doors, cX7_doors, 4, (some .int))
abbrev mX7_rings : zMt := (yX7_rings, cX7_rings, 5, (some .int))
abbrev mX7_cooled : zMt := (yX7_cooled, cX7_cooled, 2, (some .int))
abbrev mX7_even : zMt := (yX7_even, cX7_even, 2, (some .int))
abbrev mX7_note : zMt := (yX7_note, cX7_note, 6, (some .int))
abbrev mX7_flew : zMt := (yX7_flew, cX7_flew, 6, (some .int))
abbrev mX7_forget : zMt := (yX7_forget, cX7_forget, 2, (some .int))
abbrev mX7_is : zMt := (yX7_is, cX7_is, 2, (some .int))
abbrev mX7_watch : zMt := (yX7_watch, cX7_watch, 2, (some .int))
abbrev mX7_who : zMt := (yX7_who, cX7_who, 2, (some .int))
abbrev mX7_ask : zMt := (yX7_ask, cX7_ask, 2, (some .int))
abbrev mX7_parishes : zMt := (yX7_parishes, cX7_parishes, 5, (some .int))
abbrev mX7_keepFraction : zMt := (yX7_keepFraction, cX7_keepFraction, 7, none)
abbrev mX7_gusts : zMt := (yX7_gusts, cX7_gusts, 8, (some .int))
abbrev mX7_summers : zMt := (yX7_summers, cX7_summers, 3, (some .int))
abbrev mX7_part : zMt := (yX7_part, cX7_part, 2, (some .long))
abbrev mX7_image : zMt := (yX7_image, cX7_image, 2, (some .int))
abbrev mX7_from : zMt := (yX7_from, cX7_from, 3, (some .int))
abbrev mX7_status : zMt := (yX7_status, cX7_status, 2, (some .int))
abbrev mX7_amount : zMt := (yX7_amount, cX7_amount, 2, (some .int))
abbrev mX7_count : zMt := (yX7_count, cX7_count, 2, (some .int))
abbrev mX7_digest : zMt := (yX7_digest, cX7_digest, 4, (some .long))
abbrev mX8_init : zMt := (yX8_init, cX8_init, 1, none)
abbrev mX8_in : zMt := (yX8_in, cX8_in, 6, (some .boolean))
abbrev mX8_bad : zMt := (yX8_bad, cX8_bad, 1, (some .int))
abbrev mX8_no : zMt := (yX8_no, cX8_no, 1, (some .int))
abbrev mX8_full : zMt := (yX8_full, cX8_full, 1, (some .int))
abbrev mX8_isCellar : zMt := (yX8_isCellar, cX8_isCellar, 2, (some .boolean))
abbrev mX8_isSlinger : zMt := (yX8_isSlinger, cX8_isSlinger, 2, (some .boolean))
abbrev mX8_isCloud : zMt := (yX8_isCloud, cX8_isCloud, 2, (some .boolean))
abbrev mX8_meltsBy : zMt := (yX8_meltsBy, cX8_meltsBy, 5, (some .int))
abbrev mX8_costBy : zMt := (yX8_costBy, cX8_costBy, 1, (some .int))
abbrev mX8_sizeOf : zMt := (yX8_sizeOf, cX8_sizeOf, 1, (some .int))
abbrev mX8_least0 : zMt := (yX8_least0, cX8_least0, 1, (some .int))
abbrev mX8_farBy : zMt := (yX8_farBy, cX8_farBy, 5, (some .int))
abbrev mX8_hitsBy : zMt := (yX8_hitsBy, cX8_hitsBy, 3, (some .int))
abbrev mX8_farOf : zMt := (yX8_farOf, cX8_farOf, 4, (some .int))
abbrev mX8_hitsOf : zMt := (yX8_hitsOf, cX8_hitsOf, 3, (some .int))
abbrev mX8_reaches : zMt := (yX8_reaches, cX8_reaches, 5, (some .boolean))
abbrev mX8_isTurned : zMt := (yX8_isTurned, cX8_isTurned, 2, (some .boolean))
abbrev mX8_melt : zMt := (yX8_melt, cX8_melt, 4, none)
abbrev mX8_stonesIn : zMt := (yX8_stonesIn, cX8_stonesIn, 4, (some .int))
abbrev mX8_allStones : zMt := (yX8_allStones, cX8_allStones, 3, (some .int))
abbrev mX8_passWeek : zMt := (yX8_passWeek, cX8_passWeek, 2, none)
abbrev mX8_undoneAt : zMt := (yX8_undoneAt, cX8_undoneAt, 1, (some .int))
abbrev mX8_remember : zMt := (yX8_remember, cX8_remember, 2, none)
abbrev mX8_emptyAll : zMt := (yX8_emptyAll, cX8_emptyAll, 3, none)
abbrev mX8_store : zMt := (yX8_store, cX8_store, 3, (some .int))
abbrev mX8_cellar : zMt := (yX8_cellar, cX8_cellar, 4, (some .int))
abbrev mX8_stones : zMt := (yX8_stones, cX8_stones, 5, (some .int))
abbrev mX8_straw : zMt := (yX8_straw, cX8_straw, 4, (some .int))
abbrev mX8_slinger : zMt := (yX8_slinger, cX8_slinger, 4, (some .int))
abbrev mX8_cloud : zMt := (yX8_cloud, cX8_cloud, 4, (some .int))
abbrev mX8_type : zMt := (yX8_type, cX8_type, 2, (some .int))
abbrev mX8_clear : zMt := (yX8_clear, cX8_clear, 2, (some .int))
abbrev mX8_isLetter : zMt := (yX8_isLetter, cX8_isLetter, 2, (some .boolean))
abbrev mX8_isFigure : zMt := (yX8_isFigure, cX8_isFigure, 2, (some .boolean))
abbrev mX8_nextToken : zMt := (yX8_nextToken, cX8_nextToken, 2, none)
abbrev mX8_wordNow : zMt := (yX8_wordNow, cX8_wordNow, 4, (some .long))
abbrev mX8_takes : zMt := (yX8_takes, cX8_takes, 5, (some .boolean))
abbrev mX8_takesCellar : zMt := (yX8_takesCellar, cX8_takesCellar, 4, (some .boolean))
abbrev mX8_takesSlinger : zMt := (yX8_takesSlinger, cX8_takesSlinger, 2, (some .boolean))
abbrev mX8_takesCloud : zMt := (yX8_takesCloud, cX8_takesCloud, 2, (some .boolean))
abbrev mX8_takesWeeks : zMt := (yX8_takesWeeks, cX8_takesWeeks, 3, (some .boolean))
abbrev mX8_takesItem : zMt := (yX8_takesItem, cX8_takesItem, 5, (some .boolean))
abbrev mX8_read : zMt := (yX8_read, cX8_read, 3, (some .int))
abbrev mX8_week : zMt := (yX8_week, cX8_week, 3, (some .int))
abbrev mX8_openDoor : zMt := (yX8_openDoor, cX8_openDoor, 2, none)
abbrev mX8_door : zMt := (yX8_door, cX8_door, 2, (some .int))
abbrev mX8_throwing : zMt := (yX8_throwing, cX8_throwing, 6, (some .int))
abbrev mX8_hour : zMt := (yX8_hour, cX8_hour, 3, (some .int))
abbrev mX8_wind : zMt := (yX8_wind, cX8_wind, 3, (some .int))
abbrev mX8_undo : zMt := (yX8_undo, cX8_undo, 2, (some .int))
abbrev mX8_of : zMt := (yX8_of, cX8_of, 3, (some .int))
abbrev mX8_has : zMt := (yX8_has, cX8_has, 3, (some .int))
abbrev mX8_about : zMt := (yX8_about, cX8_about, 3, (some .int))
abbrev mX8_sky : zMt := (yX8_sky, cX8_sky, 3, (some .int))
abbrev mX8_melts : zMt := (yX8_melts, cX8_melts, 3, (some .int))
abbrev mX8_takeJar : zMt := (yX8_takeJar, cX8_takeJar, 3, none)
abbrev mX8_greatestIn : zMt := (yX8_greatestIn, cX8_greatestIn, 3, (some .int))
abbrev mX8_then : zMt := (yX8_then, cX8_then, 7, (some .int))
abbrev mX8_lasts : zMt := (yX8_lasts, cX8_lasts, 4, (some .int))
abbrev mX8_least : zMt := (yX8_least, cX8_least, 6, (some .int))
abbrev mX8_throwsOf : zMt := (yX8_throwsOf, cX8_throwsOf, 4, (some .int))
abbrev mX8_reach : zMt := (yX8_reach, cX8_reach, 5, (some .int))
abbrev mX8_throwOne : zMt := (yX8_throwOne, cX8_throwOne, 7, none)
abbrev mX8_turn : zMt := (yX8_turn, cX8_turn, 8, (some .int))
abbrev mX8_ways : zMt := (yX8_ways, cX8_ways, 3, (some .int))
abbrev mX8_cloudOf : zMt := (yX8_cloudOf, cX8_cloudOf, 5, (some .int))
abbrev mX8_anHour : zMt := (yX8_anHour, cX8_anHour, 6, none)
abbrev mX8_turnedBy : zMt := (yX8_turnedBy, cX8_turnedBy, 5, (some .int))
abbrev mX8_meet : zMt := (yX8_meet, cX8_meet, 7, (some .int))
abbrev mX8_manyFrom : zMt := (yX8_manyFrom, cX8_manyFrom, 4, (some .int))
abbrev mX8_doors : zMt := (yX8_doors, cX8_doors, 9, (some .int))
abbrev mX8_rings : zMt := (yX8_rings, cX8_rings, 6, (some .int))
abbrev mX8_cooledBy : zMt := (yX8_cooledBy, cX8_cooledBy, 7, (some .int))
abbrev mX8_cooled : zMt := (yX8_cooled, cX8_cooled, 2, (some .int))
abbrev mX8_even : zMt := (yX8_even, cX8_even, 4, (some .int))
abbrev mX8_noteDown : zMt := (yX8_noteDown, cX8_noteDown, 9, (some .int))
abbrev mX8_note : zMt := (yX8_note, cX8_note, 6, (some .int))
abbrev mX8_flew : zMt := (yX8_flew, cX8_flew, 6, (some .int))
abbrev mX8_forget : zMt := (yX8_forget, cX8_forget, 3, (some .int))
abbrev mX8_kindsOf : zMt := (yX8_kindsOf, cX8_kindsOf, 8, (some .int))
abbrev mX8_is : zMt := (yX8_is, cX8_is, 2, (some .int))
abbrev mX8_hasKind : zMt := (yX8_hasKind, cX8_hasKind, 2, (some .boolean))
abbrev mX8_mostAlike : zMt := (yX8_mostAlike, cX8_mostAlike, 6, (some .int))
abbrev mX8_watch : zMt := (yX8_watch, cX8_watch, 7, (some .int))
abbrev mX8_sortsOf : zMt := (yX8_sortsOf, cX8_sortsOf, 8, (some .int))
abbrev mX8_who : zMt := (yX8_who, cX8_who, 2, (some .int))
abbrev mX8_ask : zMt := (yX8_ask, cX8_ask, 7, (some .int))
abbrev mX8_parishes : zMt := (yX8_parishes, cX8_parishes, 17, (some .int))
abbrev mX8_common : zMt := (yX8_common, cX8_common, 5, (some .int))
abbrev mX8_gusts : zMt := (yX8_gusts, cX8_gusts, 11, (some .int))
abbrev mX8_summers : zMt := (yX8_summers, cX8_summers, 7, (some .int))
abbrev mX8_part : zMt := (yX8_part, cX8_part, 2, (some .long))
abbrev mX8_keepPast : zMt := (yX8_keepPast, cX8_keepPast, 3, none)
abbrev mX8_image : zMt := (yX8_image, cX8_image, 3, (some .int))
abbrev mX8_from : zMt := (yX8_from, cX8_from, 3, (some .int))
abbrev mX8_status : zMt := (yX8_status, cX8_status, 2, (some .int))
abbrev mX8_turnedNow : zMt := (yX8_turnedNow, cX8_turnedNow, 3, (some .int))
abbrev mX8_countOf : zMt := (yX8_countOf, cX8_countOf, 2, (some .int))
abbrev mX8_count : zMt := (yX8_count, cX8_count, 2, (some .int))
abbrev mX8_add : zMt := (yX8_add, cX8_add, 4, none)
abbrev mX8_digest : zMt := (yX8_digest, cX8_digest, 2, (some .long))
abbrev mL_law : zMt := (yL_law, cL_law, maxLocals, ret)
theorem tw_1_160 : Cond.laysFinal "HailCellar$Battle" "HailCellar$Battle" "store" "LHailCellar$Store;" ∈ zWL := zWL_of (ztb_1 (i := 160) (by decide +kernel)) rfl
theorem tw_1_162 : Cond.laysFinal "HailCellar$Battle" "HailCellar$Battle" "prices" "[I" ∈ zWL := zWL_of (ztb_1 (i := 162) (by decide +kernel)) rfl
theorem tw_1_164 : Cond.laysFinal "HailCellar$Battle" "HailCellar$Battle" "hitsOf" "[I" ∈ zWL := zWL_of (ztb_1 (i := 164) (by decide +kernel)) rfl
theorem tw_1_166 : Cond.laysFinal "HailCellar$Battle" "HailCellar$Battle" "open" "[I" ∈ zWL := zWL_of (ztb_1 (i := 166) (by decide +kernel)) rfl
theorem tw_1_168 : Cond.laysFinal "HailCellar$Battle" "HailCellar$Battle" "way" "[I" ∈ zWL := zWL_of (ztb_1 (i := 168) (by decide +kernel)) rfl
theorem tw_1_170 : Cond.laysFinal "HailCellar$Battle" "HailCellar$Battle" "bestWay" "[I" ∈ zWL := zWL_of (ztb_1 (i := 170) (by decide +kernel)) rfl
theorem inWX0 : ∀ w ∈ u_ws RX0 TX0 6, w ∈ zWL := by
  intro w hw
  obtain ⟨k, hk, rfl⟩ := List.mem_map.mp hw
  have hk := List.mem_range.mp hk
  match k, hk with
  | 0, _ => exact (tw_1_160 : _)
  | 1, _ => exact (tw_1_162 : _)
  | 2, _ => exact (tw_1_164 : _)
  | 3, _ => exact (tw_1_166 : _)
  | 4, _ => exact (tw_1_168 : _)
  | 5, _ => exact (tw_1_170 : _)
theorem tw_1_145 : Cond.laysFinal "HailCellar$Forecast" "HailCellar$Forecast" "store" "LHailCellar$Store;" ∈ zWL := zWL_of (ztb_1 (i := 145) (by decide +kernel)) rfl
theorem inWX1 : ∀ w ∈ u_ws RX1 TX1 1, w ∈ zWL := by
  intro w hw
  obtain ⟨k, hk, rfl⟩ := List.mem_map.mp hw
  have hk := List.mem_range.mp hk
  match k, hk with
  | 0, _ => exact (tw_1_145 : _)
theorem tw_1_123 : Cond.laysFinal "HailCellar$Reader" "HailCellar$Reader" "text" "[I" ∈ zWL := zWL_of (ztb_1 (i := 123) (by decide +kernel)) rfl
theorem tw_1_125 : Cond.lays "HailCellar$Reader" "HailCellar$Reader" "length" "I" ∈ zWL := zWL_of (ztb_1 (i := 125) (by decide +kernel)) rfl
theorem tw_1_127 : Cond.laysFinal "HailCellar$Reader" "HailCellar$Reader" "draft" "LHailCellar$Store;" ∈ zWL := zWL_of (ztb_1 (i := 127) (by decide +kernel)) rfl
theorem tw_1_129 : Cond.lays "HailCellar$Reader" "HailCellar$Reader" "next" "I" ∈ zWL := zWL_of (ztb_1 (i := 129) (by decide +kernel)) rfl
theorem tw_1_131 : Cond.lays "HailCellar$Reader" "HailCellar$Reader" "start" "I" ∈ zWL := zWL_of (ztb_1 (i := 131) (by decide +kernel)) rfl
theorem tw_1_133 : Cond.lays "HailCellar$Reader" "HailCellar$Reader" "token" "I" ∈ zWL := zWL_of (ztb_1 (i := 133) (by decide +kernel)) rfl
theorem tw_1_135 : Cond.lays "HailCellar$Reader" "HailCellar$Reader" "number" "I" ∈ zWL := zWL_of (ztb_1 (i := 135) (by decide +kernel)) rfl
theorem inWX3 : ∀ w ∈ u_ws RX3 TX3 7, w ∈ zWL := by
  intro w hw
  obtain ⟨k, hk, rfl⟩ := List.mem_map.mp hw
  have hk := List.mem_range.mp hk
  match k, hk with
  | 0, _ => exact (tw_1_123 : _)
  | 1, _ => exact (tw_1_125 : _)
  | 2, _ => exact (tw_1_127 : _)
  | 3, _ => exact (tw_1_129 : _)
  | 4, _ => exact (tw_1_131 : _)
  | 5, _ => exact (tw_1_133 : _)
  | 6, _ => exact (tw_1_135 : _)
theorem tw_1_48 : Cond.laysFinal "HailCellar$Sheet" "HailCellar$Sheet" "most" "I" ∈ zWL := zWL_of (ztb_1 (i := 48) (by decide +kernel)) rfl
theorem tw_1_50 : Cond.laysFinal "HailCellar$Sheet" "HailCellar$Sheet" "width" "I" ∈ zWL := zWL_of (ztb_1 (i := 50) (by decide +kernel)) rfl
theorem tw_1_52 : Cond.laysFinal "HailCellar$Sheet" "HailCellar$Sheet" "cells" "[I" ∈ zWL := zWL_of (ztb_1 (i := 52) (by decide +kernel)) rfl
theorem tw_1_54 : Cond.lays "HailCellar$Sheet" "HailCellar$Sheet" "rows" "I" ∈ zWL := zWL_of (ztb_1 (i := 54) (by decide +kernel)) rfl
theorem inWX4 : ∀ w ∈ u_ws RX4 TX4 4, w ∈ zWL := by
  intro w hw
  obtain ⟨k, hk, rfl⟩ := List.mem_map.mp hw
  have hk := List.mem_range.mp hk
  match k, hk with
  | 0, _ => exact (tw_1_48 : _)
  | 1, _ => exact (tw_1_50 : _)
  | 2, _ => exact (tw_1_52 : _)
  | 3, _ => exact (tw_1_54 : _)
theorem tw_1_181 : Cond.laysFinal "HailCellar$Sleuth" "HailCellar$Sleuth" "store" "LHailCellar$Store;" ∈ zWL := zWL_of (ztb_1 (i := 181) (by decide +kernel)) rfl
theorem tw_1_183 : Cond.laysFinal "HailCellar$Sleuth" "HailCellar$Sleuth" "signs" "[I" ∈ zWL := zWL_of (ztb_1 (i := 183) (by decide +kernel)) rfl
theorem inWX5 : ∀ w ∈ u_ws RX5 TX5 2, w ∈ zWL := by
  intro w hw
  obtain ⟨k, hk, rfl⟩ := List.mem_map.mp hw
  have hk := List.mem_range.mp hk
  match k, hk with
  | 0, _ => exact (tw_1_181 : _)
  | 1, _ => exact (tw_1_183 : _)
theorem tw_1_90 : Cond.lays "HailCellar$Store" "HailCellar$Store" "week" "I" ∈ zWL := zWL_of (ztb_1 (i := 90) (by decide +kernel)) rfl
theorem tw_1_92 : Cond.lays "HailCellar$Store" "HailCellar$Store" "wind" "I" ∈ zWL := zWL_of (ztb_1 (i := 92) (by decide +kernel)) rfl
theorem tw_1_94 : Cond.laysFinal "HailCellar$Store" "HailCellar$Store" "cellars" "LHailCellar$Sheet;" ∈ zWL := zWL_of (ztb_1 (i := 94) (by decide +kernel)) rfl
theorem tw_1_96 : Cond.laysFinal "HailCellar$Store" "HailCellar$Store" "slingers" "LHailCellar$Sheet;" ∈ zWL := zWL_of (ztb_1 (i := 96) (by decide +kernel)) rfl
theorem tw_1_98 : Cond.laysFinal "HailCellar$Store" "HailCellar$Store" "clouds" "LHailCellar$Sheet;" ∈ zWL := zWL_of (ztb_1 (i := 98) (by decide +kernel)) rfl
theorem tw_1_100 : Cond.laysFinal "HailCellar$Store" "HailCellar$Store" "ringsTold" "LHailCellar$Sheet;" ∈ zWL := zWL_of (ztb_1 (i := 100) (by decide +kernel)) rfl
theorem tw_1_102 : Cond.laysFinal "HailCellar$Store" "HailCellar$Store" "notes" "LHailCellar$Sheet;" ∈ zWL := zWL_of (ztb_1 (i := 102) (by decide +kernel)) rfl
theorem tw_1_104 : Cond.laysFinal "HailCellar$Store" "HailCellar$Store" "thrown" "LHailCellar$Sheet;" ∈ zWL := zWL_of (ztb_1 (i := 104) (by decide +kernel)) rfl
theorem tw_1_106 : Cond.laysFinal "HailCellar$Store" "HailCellar$Store" "past" "LHailCellar$Sheet;" ∈ zWL := zWL_of (ztb_1 (i := 106) (by decide +kernel)) rfl
theorem inWX6 : ∀ w ∈ u_ws RX6 TX6 9, w ∈ zWL := by
  intro w hw
  obtain ⟨k, hk, rfl⟩ := List.mem_map.mp hw
  have hk := List.mem_range.mp hk
  match k, hk with
  | 0, _ => exact (tw_1_90 : _)
  | 1, _ => exact (tw_1_92 : _)
  | 2, _ => exact (tw_1_94 : _)
  | 3, _ => exact (tw_1_96 : _)
  | 4, _ => exact (tw_1_98 : _)
  | 5, _ => exact (tw_1_100 : _)
  | 6, _ => exact (tw_1_102 : _)
  | 7, _ => exact (tw_1_104 : _)
  | 8, _ => exact (tw_1_106 : _)
theorem tw_1_201 : Cond.laysFinal "HailCellar" "HailCellar" "now" "LHailCellar$Store;" ∈ zWL := zWL_of (ztb_1 (i := 201) (by decide +kernel)) rfl
theorem tw_1_203 : Cond.laysFinal "HailCellar" "HailCellar" "firstImage" "LHailCellar$Store;" ∈ zWL := zWL_of (ztb_1 (i := 203) (by decide +kernel)) rfl
theorem tw_1_205 : Cond.laysFinal "HailCellar" "HailCellar" "secondImage" "LHailCellar$Store;" ∈ zWL := zWL_of (ztb_1 (i := 205) (by decide +kernel)) rfl
theorem tw_1_207 : Cond.laysFinal "HailCellar" "HailCellar" "draft" "LHailCellar$Store;" ∈ zWL := zWL_of (ztb_1 (i := 207) (by decide +kernel)) rfl
theorem tw_1_209 : Cond.laysFinal "HailCellar" "HailCellar" "reader" "LHailCellar$Reader;" ∈ zWL := zWL_of (ztb_1 (i := 209) (by decide +kernel)) rfl
theorem tw_1_211 : Cond.laysFinal "HailCellar" "HailCellar" "forecast" "LHailCellar$Forecast;" ∈ zWL := zWL_of (ztb_1 (i := 211) (by decide +kernel)) rfl
theorem tw_1_213 : Cond.laysFinal "HailCellar" "HailCellar" "battle" "LHailCellar$Battle;" ∈ zWL := zWL_of (ztb_1 (i := 213) (by decide +kernel)) rfl
theorem tw_1_215 : Cond.laysFinal "HailCellar" "HailCellar" "sleuth" "LHailCellar$Sleuth;" ∈ zWL := zWL_of (ztb_1 (i := 215) (by decide +kernel)) rfl
theorem tw_1_217 : Cond.lays "HailCellar" "HailCellar" "firstKept" "Z" ∈ zWL := zWL_of (ztb_1 (i := 217) (by decide +kernel)) rfl
theorem tw_1_219 : Cond.lays "HailCellar" "HailCellar" "secondKept" "Z" ∈ zWL := zWL_of (ztb_1 (i := 219) (by decide +kernel)) rfl
theorem tw_1_221 : Cond.lays "HailCellar" "HailCellar" "above" "J" ∈ zWL := zWL_of (ztb_1 (i := 221) (by decide +kernel)) rfl
theorem tw_1_223 : Cond.lays "HailCellar" "HailCellar" "below" "J" ∈ zWL := zWL_of (ztb_1 (i := 223) (by decide +kernel)) rfl
theorem tw_1_225 : Cond.lays "HailCellar" "HailCellar" "bads" "I" ∈ zWL := zWL_of (ztb_1 (i := 225) (by decide +kernel)) rfl
theorem tw_1_227 : Cond.lays "HailCellar" "HailCellar" "noes" "I" ∈ zWL := zWL_of (ztb_1 (i := 227) (by decide +kernel)) rfl
theorem tw_1_229 : Cond.lays "HailCellar" "HailCellar" "fulls" "I" ∈ zWL := zWL_of (ztb_1 (i := 229) (by decide +kernel)) rfl
theorem inWX7 : ∀ w ∈ u_ws RX7 TX7 15, w ∈ zWL := by
  intro w hw
  obtain ⟨k, hk, rfl⟩ := List.mem_map.mp hw
  have hk := List.mem_range.mp hk
  match k, hk with
  | 0, _ => exact (tw_1_201 : _)
  | 1, _ => exact (tw_1_203 : _)
  | 2, _ => exact (tw_1_205 : _)
  | 3, _ => exact (tw_1_207 : _)
  | 4, _ => exact (tw_1_209 : _)
  | 5, _ => exact (tw_1_211 : _)
  | 6, _ => exact (tw_1_213 : _)
  | 7, _ => exact (tw_1_215 : _)
  | 8, _ => exact (tw_1_217 : _)
  | 9, _ => exact (tw_1_219 : _)
  | 10, _ => exact (tw_1_221 : _)
  | 11, _ => exact (tw_1_223 : _)
  | 12, _ => exact (tw_1_225 : _)
  | 13, _ => exact (tw_1_227 : _)
  | 14, _ => exact (tw_1_229 : _)
theorem tw_5_21 : Cond.laysFinal "HailCellarModel" "HailCellarModel" "now" "[I" ∈ zWL := zWL_of (ztb_5 (i := 21) (by decide +kernel)) rfl
theorem tw_5_23 : Cond.laysFinal "HailCellarModel" "HailCellarModel" "refused" "[I" ∈ zWL := zWL_of (ztb_5 (i := 23) (by decide +kernel)) rfl
theorem tw_5_25 : Cond.lays "HailCellarModel" "HailCellarModel" "above" "J" ∈ zWL := zWL_of (ztb_5 (i := 25) (by decide +kernel)) rfl
theorem tw_5_27 : Cond.lays "HailCellarModel" "HailCellarModel" "below" "J" ∈ zWL := zWL_of (ztb_5 (i := 27) (by decide +kernel)) rfl
theorem tw_5_29 : Cond.lays "HailCellarModel" "HailCellarModel" "undos" "I" ∈ zWL := zWL_of (ztb_5 (i := 29) (by decide +kernel)) rfl
theorem tw_5_31 : Cond.laysFinal "HailCellarModel" "HailCellarModel" "past" "[I" ∈ zWL := zWL_of (ztb_5 (i := 31) (by decide +kernel)) rfl
theorem tw_5_33 : Cond.laysFinal "HailCellarModel" "HailCellarModel" "text" "[I" ∈ zWL := zWL_of (ztb_5 (i := 33) (by decide +kernel)) rfl
theorem tw_5_35 : Cond.lays "HailCellarModel" "HailCellarModel" "typed" "I" ∈ zWL := zWL_of (ztb_5 (i := 35) (by decide +kernel)) rfl
theorem tw_5_37 : Cond.lays "HailCellarModel" "HailCellarModel" "at" "I" ∈ zWL := zWL_of (ztb_5 (i := 37) (by decide +kernel)) rfl
theorem tw_5_39 : Cond.lays "HailCellarModel" "HailCellarModel" "token" "I" ∈ zWL := zWL_of (ztb_5 (i := 39) (by decide +kernel)) rfl
theorem tw_5_41 : Cond.lays "HailCellarModel" "HailCellarModel" "tokenAt" "I" ∈ zWL := zWL_of (ztb_5 (i := 41) (by decide +kernel)) rfl
theorem tw_5_43 : Cond.lays "HailCellarModel" "HailCellarModel" "tokenEnd" "I" ∈ zWL := zWL_of (ztb_5 (i := 43) (by decide +kernel)) rfl
theorem tw_5_45 : Cond.lays "HailCellarModel" "HailCellarModel" "number" "I" ∈ zWL := zWL_of (ztb_5 (i := 45) (by decide +kernel)) rfl
theorem tw_5_47 : Cond.laysFinal "HailCellarModel" "HailCellarModel" "reads" "[I" ∈ zWL := zWL_of (ztb_5 (i := 47) (by decide +kernel)) rfl
theorem tw_5_49 : Cond.lays "HailCellarModel" "HailCellarModel" "items" "I" ∈ zWL := zWL_of (ztb_5 (i := 49) (by decide +kernel)) rfl
theorem tw_5_51 : Cond.laysFinal "HailCellarModel" "HailCellarModel" "jar" "[I" ∈ zWL := zWL_of (ztb_5 (i := 51) (by decide +kernel)) rfl
theorem tw_5_53 : Cond.laysFinal "HailCellarModel" "HailCellarModel" "costs" "[I" ∈ zWL := zWL_of (ztb_5 (i := 53) (by decide +kernel)) rfl
theorem tw_5_55 : Cond.laysFinal "HailCellarModel" "HailCellarModel" "farOff" "[I" ∈ zWL := zWL_of (ztb_5 (i := 55) (by decide +kernel)) rfl
theorem tw_5_57 : Cond.laysFinal "HailCellarModel" "HailCellarModel" "hitBy" "[I" ∈ zWL := zWL_of (ztb_5 (i := 57) (by decide +kernel)) rfl
theorem tw_5_59 : Cond.laysFinal "HailCellarModel" "HailCellarModel" "shows" "[I" ∈ zWL := zWL_of (ztb_5 (i := 59) (by decide +kernel)) rfl
theorem tw_5_61 : Cond.laysFinal "HailCellarModel" "HailCellarModel" "tried" "[I" ∈ zWL := zWL_of (ztb_5 (i := 61) (by decide +kernel)) rfl
theorem tw_5_63 : Cond.laysFinal "HailCellarModel" "HailCellarModel" "images" "[I" ∈ zWL := zWL_of (ztb_5 (i := 63) (by decide +kernel)) rfl
theorem tw_5_65 : Cond.laysFinal "HailCellarModel" "HailCellarModel" "isKept" "[Z" ∈ zWL := zWL_of (ztb_5 (i := 65) (by decide +kernel)) rfl
theorem tw_5_67 : Cond.laysFinal "HailCellarModel" "HailCellarModel" "keptUndos" "[I" ∈ zWL := zWL_of (ztb_5 (i := 67) (by decide +kernel)) rfl
theorem tw_5_69 : Cond.laysFinal "HailCellarModel" "HailCellarModel" "keptPast" "[I" ∈ zWL := zWL_of (ztb_5 (i := 69) (by decide +kernel)) rfl
theorem tw_5_71 : Cond.lays "HailCellarModel" "HailCellarModel" "sum" "J" ∈ zWL := zWL_of (ztb_5 (i := 71) (by decide +kernel)) rfl
theorem inWX8 : ∀ w ∈ u_ws RX8 TX8 26, w ∈ zWL := by
  intro w hw
  obtain ⟨k, hk, rfl⟩ := List.mem_map.mp hw
  have hk := List.mem_range.mp hk
  match k, hk with
  | 0, _ => exact (tw_5_21 : _)
  | 1, _ => exact (tw_5_23 : _)
  | 2, _ => exact (tw_5_25 : _)
  | 3, _ => exact (tw_5_27 : _)
  | 4, _ => exact (tw_5_29 : _)
  | 5, _ => exact (tw_5_31 : _)
  | 6, _ => exact (tw_5_33 : _)
  | 7, _ => exact (tw_5_35 : _)
  | 8, _ => exact (tw_5_37 : _)
  | 9, _ => exact (tw_5_39 : _)
  | 10, _ => exact (tw_5_41 : _)
  | 11, _ => exact (tw_5_43 : _)
  | 12, _ => exact (tw_5_45 : _)
  | 13, _ => exact (tw_5_47 : _)
  | 14, _ => exact (tw_5_49 : _)
  | 15, _ => exact (tw_5_51 : _)
  | 16, _ => exact (tw_5_53 : _)
  | 17, _ => exact (tw_5_55 : _)
  | 18, _ => exact (tw_5_57 : _)
  | 19, _ => exact (tw_5_59 : _)
  | 20, _ => exact (tw_5_61 : _)
  | 21, _ => exact (tw_5_63 : _)
  | 22, _ => exact (tw_5_65 : _)
  | 23, _ => exact (tw_5_67 : _)
  | 24, _ => exact (tw_5_69 : _)
  | 25, _ => exact (tw_5_71 : _)
  | k + 26, h => exact absurd h (by omega)
theorem tw_1_153 : Cond.methodLink "HailCellar$Battle" 3 Lib.objectInit ∈ zWL := zWL_of (ztb_1 (i := 153) (by decide +kernel)) rfl
theorem tw_1_155 : Cond.fieldLink "HailCellar$Battle" 9 "HailCellar$Battle" "prices" "[I" ∈ zWL := zWL_of (ztb_1 (i := 155) (by decide +kernel)) rfl
theorem tw_1_156 : Cond.fieldLink "HailCellar$Battle" 15 "HailCellar$Battle" "hitsOf" "[I" ∈ zWL := zWL_of (ztb_1 (i := 156) (by decide +kernel)) rfl
theorem tw_1_157 : Cond.fieldLink "HailCellar$Battle" 18 "HailCellar$Battle" "open" "[I" ∈ zWL := zWL_of (ztb_1 (i := 157) (by decide +kernel)) rfl
theorem tw_1_158 : Cond.fieldLink "HailCellar$Battle" 21 "HailCellar$Battle" "way" "[I" ∈ zWL := zWL_of (ztb_1 (i := 158) (by decide +kernel)) rfl
theorem tw_1_159 : Cond.fieldLink "HailCellar$Battle" 24 "HailCellar$Battle" "bestWay" "[I" ∈ zWL := zWL_of (ztb_1 (i := 159) (by decide +kernel)) rfl
theorem tw_1_154 : Cond.fieldLink "HailCellar$Battle" 27 "HailCellar$Battle" "store" "LHailCellar$Store;" ∈ zWL := zWL_of (ztb_1 (i := 154) (by decide +kernel)) rfl
theorem tw_1_62 : Cond.fieldLink "HailCellar$Battle" 31 "HailCellar$Store" "wind" "I" ∈ zWL := zWL_of (ztb_1 (i := 62) (by decide +kernel)) rfl
theorem tw_3_213 : Cond.methodLink "HailCellar$Battle" 37 yX6_reaches ∈ zWL := zWL_of (ztb_3 (i := 213) (by decide +kernel)) rfl
theorem tw_3_87 : Cond.code yX6_reaches cX6_reaches 5 (some .boolean) ∈ zWL := zWL_of (ztb_3 (i := 87) rfl) rfl
theorem tw_1_2 : Cond.initialized "HailCellar$Store" ∈ zWL := zWL_of (ztb_1 (i := 2) (by decide +kernel)) rfl
theorem tw_3_86 : Cond.selects "HailCellar$Store" yX6_reaches yX6_reaches ∈ zWL := zWL_of (ztb_3 (i := 86) (by decide +kernel)) rfl
theorem tw_3_85 : Cond.instanceMethod yX6_reaches ∈ zWL := zWL_of (ztb_3 (i := 85) (by decide +kernel)) rfl
theorem tw_3_222 : Cond.methodLink "HailCellar$Battle" 41 yX6_needsYet ∈ zWL := zWL_of (ztb_3 (i := 222) (by decide +kernel)) rfl
theorem tw_3_120 : Cond.code yX6_needsYet cX6_needsYet 2 (some .int) ∈ zWL := zWL_of (ztb_3 (i := 120) rfl) rfl
theorem tw_3_119 : Cond.selects "HailCellar$Store" yX6_needsYet yX6_needsYet ∈ zWL := zWL_of (ztb_3 (i := 119) (by decide +kernel)) rfl
theorem tw_3_118 : Cond.instanceMethod yX6_needsYet ∈ zWL := zWL_of (ztb_3 (i := 118) (by decide +kernel)) rfl
theorem tw_3_223 : Cond.methodLink "HailCellar$Battle" 45 Lib.Math.min.name ∈ zWL := zWL_of (ztb_3 (i := 223) (by decide +kernel)) rfl
theorem tw_3_224 : Cond.constant "HailCellar$Battle" 51 (Int32.ofInt (1000000)) ∈ zWL := zWL_of (ztb_3 (i := 224) (by decide +kernel)) rfl
theorem tw_3_225 : Cond.methodLink "HailCellar$Battle" 52 yX6_hitsAt ∈ zWL := zWL_of (ztb_3 (i := 225) (by decide +kernel)) rfl
theorem tw_3_83 : Cond.code yX6_hitsAt cX6_hitsAt 5 (some .int) ∈ zWL := zWL_of (ztb_3 (i := 83) rfl) rfl
theorem tw_3_82 : Cond.selects "HailCellar$Store" yX6_hitsAt yX6_hitsAt ∈ zWL := zWL_of (ztb_3 (i := 82) (by decide +kernel)) rfl
theorem tw_3_81 : Cond.instanceMethod yX6_hitsAt ∈ zWL := zWL_of (ztb_3 (i := 81) (by decide +kernel)) rfl
theorem tw_3_226 : Cond.methodLink "HailCellar$Battle" 56 yX6_stonesOf ∈ zWL := zWL_of (ztb_3 (i := 226) (by decide +kernel)) rfl
theorem tw_2_60 : Cond.code yX6_stonesOf cX6_stonesOf 3 (some .int) ∈ zWL := zWL_of (ztb_2 (i := 60) rfl) rfl
theorem tw_2_59 : Cond.selects "HailCellar$Store" yX6_stonesOf yX6_stonesOf ∈ zWL := zWL_of (ztb_2 (i := 59) (by decide +kernel)) rfl
theorem tw_2_58 : Cond.instanceMethod yX6_stonesOf ∈ zWL := zWL_of (ztb_2 (i := 58) (by decide +kernel)) rfl
theorem tw_3_227 : Cond.methodLink "HailCellar$Battle" 59 yX0_offerStone ∈ zWL := zWL_of (ztb_3 (i := 227) (by decide +kernel)) rfl
theorem tw_3_230 : Cond.code yX0_offerStone cX0_offerStone 5 none ∈ zWL := zWL_of (ztb_3 (i := 230) rfl) rfl
theorem tw_1_7 : Cond.initialized "HailCellar$Battle" ∈ zWL := zWL_of (ztb_1 (i := 7) (by decide +kernel)) rfl
theorem tw_0_18 : Cond.selects RX0 yX0_offerStone yX0_offerStone ∈ zWL := zWL_of (ztb_0 (i := 18) (by decide +kernel)) rfl
theorem tw_3_229 : Cond.instanceMethod yX0_offerStone ∈ zWL := zWL_of (ztb_3 (i := 229) (by decide +kernel)) rfl
theorem tw_3_231 : Cond.methodLink "HailCellar$Battle" 63 Lib.Math.max.name ∈ zWL := zWL_of (ztb_3 (i := 231) (by decide +kernel)) rfl
theorem tw_4_0 : Cond.methodLink "HailCellar$Battle" 66 yX0_startWays ∈ zWL := zWL_of (ztb_4 (i := 0) (by decide +kernel)) rfl
theorem tw_4_3 : Cond.code yX0_startWays cX0_startWays 4 none ∈ zWL := zWL_of (ztb_4 (i := 3) rfl) rfl
theorem tw_0_19 : Cond.selects RX0 yX0_startWays yX0_startWays ∈ zWL := zWL_of (ztb_0 (i := 19) (by decide +kernel)) rfl
theorem tw_4_2 : Cond.instanceMethod yX0_startWays ∈ zWL := zWL_of (ztb_4 (i := 2) (by decide +kernel)) rfl
theorem tw_4_23 : Cond.methodLink "HailCellar$Battle" 70 yX0_turnedByAllAtEach ∈ zWL := zWL_of (ztb_4 (i := 23) (by decide +kernel)) rfl
theorem tw_4_26 : Cond.code yX0_turnedByAllAtEach cX0_turnedByAllAtEach 5 (some .int) ∈ zWL := zWL_of (ztb_4 (i := 26) rfl) rfl
theorem tw_0_24 : Cond.selects RX0 yX0_turnedByAllAtEach yX0_turnedByAllAtEach ∈ zWL := zWL_of (ztb_0 (i := 24) (by decide +kernel)) rfl
theorem tw_4_25 : Cond.instanceMethod yX0_turnedByAllAtEach ∈ zWL := zWL_of (ztb_4 (i := 25) (by decide +kernel)) rfl
theorem tw_4_27 : Cond.methodLink "HailCellar$Battle" 74 yX0_turnedNow ∈ zWL := zWL_of (ztb_4 (i := 27) (by decide +kernel)) rfl
theorem tw_4_30 : Cond.code yX0_turnedNow cX0_turnedNow 3 (some .int) ∈ zWL := zWL_of (ztb_4 (i := 30) rfl) rfl
theorem tw_0_25 : Cond.selects RX0 yX0_turnedNow yX0_turnedNow ∈ zWL := zWL_of (ztb_0 (i := 25) (by decide +kernel)) rfl
theorem tw_4_29 : Cond.instanceMethod yX0_turnedNow ∈ zWL := zWL_of (ztb_4 (i := 29) (by decide +kernel)) rfl
theorem tw_4_31 : Cond.methodLink "HailCellar$Battle" 77 ⟨"java/lang/System", "arraycopy", "(Ljava/lang/Object;ILjava/lang/Object;II)V"⟩ ∈ zWL := zWL_of (ztb_4 (i := 31) (by decide +kernel)) rfl
theorem tw_4_32 : Cond.methodLink "HailCellar$Battle" 83 yX0_nextWay ∈ zWL := zWL_of (ztb_4 (i := 32) (by decide +kernel)) rfl
theorem tw_4_35 : Cond.code yX0_nextWay cX0_nextWay 4 (some .boolean) ∈ zWL := zWL_of (ztb_4 (i := 35) rfl) rfl
theorem tw_0_26 : Cond.selects RX0 yX0_nextWay yX0_nextWay ∈ zWL := zWL_of (ztb_0 (i := 26) (by decide +kernel)) rfl
theorem tw_4_34 : Cond.instanceMethod yX0_nextWay ∈ zWL := zWL_of (ztb_4 (i := 34) (by decide +kernel)) rfl
theorem tw_1_72 : Cond.fieldLink "HailCellar$Battle" 87 "HailCellar$Store" "slingers" "LHailCellar$Sheet;" ∈ zWL := zWL_of (ztb_1 (i := 72) (by decide +kernel)) rfl
theorem tw_1_47 : Cond.fieldLink "HailCellar$Battle" 91 "HailCellar$Sheet" "rows" "I" ∈ zWL := zWL_of (ztb_1 (i := 47) (by decide +kernel)) rfl
theorem tw_1_77 : Cond.fieldLink "HailCellar$Battle" 96 "HailCellar$Store" "clouds" "LHailCellar$Sheet;" ∈ zWL := zWL_of (ztb_1 (i := 77) (by decide +kernel)) rfl
theorem tw_4_4 : Cond.methodLink "HailCellar$Battle" 99 yX0_hitsUntilHere ∈ zWL := zWL_of (ztb_4 (i := 4) (by decide +kernel)) rfl
theorem tw_4_7 : Cond.code yX0_hitsUntilHere cX0_hitsUntilHere 4 (some .int) ∈ zWL := zWL_of (ztb_4 (i := 7) rfl) rfl
theorem tw_0_20 : Cond.selects RX0 yX0_hitsUntilHere yX0_hitsUntilHere ∈ zWL := zWL_of (ztb_0 (i := 20) (by decide +kernel)) rfl
theorem tw_4_6 : Cond.instanceMethod yX0_hitsUntilHere ∈ zWL := zWL_of (ztb_4 (i := 6) (by decide +kernel)) rfl
theorem tw_4_11 : Cond.methodLink "HailCellar$Battle" 103 yX0_keepHits ∈ zWL := zWL_of (ztb_4 (i := 11) (by decide +kernel)) rfl
theorem tw_4_14 : Cond.code yX0_keepHits cX0_keepHits 5 none ∈ zWL := zWL_of (ztb_4 (i := 14) rfl) rfl
theorem tw_0_21 : Cond.selects RX0 yX0_keepHits yX0_keepHits ∈ zWL := zWL_of (ztb_0 (i := 21) (by decide +kernel)) rfl
theorem tw_4_13 : Cond.instanceMethod yX0_keepHits ∈ zWL := zWL_of (ztb_4 (i := 13) (by decide +kernel)) rfl
theorem tw_4_15 : Cond.methodLink "HailCellar$Battle" 107 yX0_hitsKept ∈ zWL := zWL_of (ztb_4 (i := 15) (by decide +kernel)) rfl
theorem tw_4_18 : Cond.code yX0_hitsKept cX0_hitsKept 4 (some .int) ∈ zWL := zWL_of (ztb_4 (i := 18) rfl) rfl
theorem tw_0_22 : Cond.selects RX0 yX0_hitsKept yX0_hitsKept ∈ zWL := zWL_of (ztb_0 (i := 22) (by decide +kernel)) rfl
theorem tw_4_17 : Cond.instanceMethod yX0_hitsKept ∈ zWL := zWL_of (ztb_4 (i := 17) (by decide +kernel)) rfl
theorem tw_4_19 : Cond.methodLink "HailCellar$Battle" 110 yX0_close ∈ zWL := zWL_of (ztb_4 (i := 19) (by decide +kernel)) rfl
theorem tw_4_22 : Cond.code yX0_close cX0_close 3 none ∈ zWL := zWL_of (ztb_4 (i := 22) rfl) rfl
theorem tw_0_23 : Cond.selects RX0 yX0_close yX0_close ∈ zWL := zWL_of (ztb_0 (i := 23) (by decide +kernel)) rfl
theorem tw_4_21 : Cond.instanceMethod yX0_close ∈ zWL := zWL_of (ztb_4 (i := 21) (by decide +kernel)) rfl
theorem tw_4_8 : Cond.methodLink "HailCellar$Battle" 113 yX6_throwHits ∈ zWL := zWL_of (ztb_4 (i := 8) (by decide +kernel)) rfl
theorem tw_3_100 : Cond.code yX6_throwHits cX6_throwHits 3 (some .int) ∈ zWL := zWL_of (ztb_3 (i := 100) rfl) rfl
theorem tw_3_99 : Cond.selects "HailCellar$Store" yX6_throwHits yX6_throwHits ∈ zWL := zWL_of (ztb_3 (i := 99) (by decide +kernel)) rfl
theorem tw_3_98 : Cond.instanceMethod yX6_throwHits ∈ zWL := zWL_of (ztb_3 (i := 98) (by decide +kernel)) rfl
theorem tw_4_9 : Cond.methodLink "HailCellar$Battle" 116 yX4_get ∈ zWL := zWL_of (ztb_4 (i := 9) (by decide +kernel)) rfl
theorem tw_2_65 : Cond.code yX4_get cX4_get 4 (some .int) ∈ zWL := zWL_of (ztb_2 (i := 65) rfl) rfl
theorem tw_1_3 : Cond.initialized "HailCellar$Sheet" ∈ zWL := zWL_of (ztb_1 (i := 3) (by decide +kernel)) rfl
theorem tw_2_64 : Cond.selects "HailCellar$Sheet" yX4_get yX4_get ∈ zWL := zWL_of (ztb_2 (i := 64) (by decide +kernel)) rfl
theorem tw_2_63 : Cond.instanceMethod yX4_get ∈ zWL := zWL_of (ztb_2 (i := 63) (by decide +kernel)) rfl
theorem tw_4_10 : Cond.methodLink "HailCellar$Battle" 119 yX6_throwFar ∈ zWL := zWL_of (ztb_4 (i := 10) (by decide +kernel)) rfl
theorem tw_3_92 : Cond.code yX6_throwFar cX6_throwFar 4 (some .int) ∈ zWL := zWL_of (ztb_3 (i := 92) rfl) rfl
theorem tw_3_91 : Cond.selects "HailCellar$Store" yX6_throwFar yX6_throwFar ∈ zWL := zWL_of (ztb_3 (i := 91) (by decide +kernel)) rfl
theorem tw_3_90 : Cond.instanceMethod yX6_throwFar ∈ zWL := zWL_of (ztb_3 (i := 90) (by decide +kernel)) rfl
theorem tw_4_157 : Cond.methodLink "HailCellar$Battle" 122 yX0_rests ∈ zWL := zWL_of (ztb_4 (i := 157) (by decide +kernel)) rfl
theorem tw_4_159 : Cond.code yX0_rests cX0_rests 4 (some .boolean) ∈ zWL := zWL_of (ztb_4 (i := 159) rfl) rfl
theorem tw_4_158 : Cond.static yX0_rests ∈ zWL := zWL_of (ztb_4 (i := 158) (by decide +kernel)) rfl
theorem tw_4_160 : Cond.methodLink "HailCellar$Battle" 126 yX0_worth ∈ zWL := zWL_of (ztb_4 (i := 160) (by decide +kernel)) rfl
theorem tw_4_162 : Cond.code yX0_worth cX0_worth 2 (some .int) ∈ zWL := zWL_of (ztb_4 (i := 162) rfl) rfl
theorem tw_4_161 : Cond.static yX0_worth ∈ zWL := zWL_of (ztb_4 (i := 161) (by decide +kernel)) rfl
theorem tw_1_143 : Cond.methodLink "HailCellar$Forecast" 3 Lib.objectInit ∈ zWL := zWL_of (ztb_1 (i := 143) (by decide +kernel)) rfl
theorem tw_1_144 : Cond.fieldLink "HailCellar$Forecast" 9 "HailCellar$Forecast" "store" "LHailCellar$Store;" ∈ zWL := zWL_of (ztb_1 (i := 144) (by decide +kernel)) rfl
theorem tw_1_66 : Cond.fieldLink "HailCellar$Forecast" 15 "HailCellar$Store" "cellars" "LHailCellar$Sheet;" ∈ zWL := zWL_of (ztb_1 (i := 66) (by decide +kernel)) rfl
theorem tw_3_169 : Cond.methodLink "HailCellar$Forecast" 21 yX4_get ∈ zWL := zWL_of (ztb_3 (i := 169) (by decide +kernel)) rfl
theorem tw_3_174 : Cond.methodLink "HailCellar$Forecast" 27 yX2_costOfDoor ∈ zWL := zWL_of (ztb_3 (i := 174) (by decide +kernel)) rfl
theorem tw_3_60 : Cond.code yX2_costOfDoor cX2_costOfDoor 1 (some .int) ∈ zWL := zWL_of (ztb_3 (i := 60) rfl) rfl
theorem tw_1_14 : Cond.initialized "HailCellar$Kinds" ∈ zWL := zWL_of (ztb_1 (i := 14) (by decide +kernel)) rfl
theorem tw_3_59 : Cond.static yX2_costOfDoor ∈ zWL := zWL_of (ztb_3 (i := 59) (by decide +kernel)) rfl
theorem tw_1_59 : Cond.fieldLink "HailCellar$Forecast" 33 "HailCellar$Store" "week" "I" ∈ zWL := zWL_of (ztb_1 (i := 59) (by decide +kernel)) rfl
theorem tw_3_175 : Cond.methodLink "HailCellar$Forecast" 37 yX2_meltBy ∈ zWL := zWL_of (ztb_3 (i := 175) (by decide +kernel)) rfl
theorem tw_3_1 : Cond.code yX2_meltBy cX2_meltBy 6 (some .int) ∈ zWL := zWL_of (ztb_3 (i := 1) rfl) rfl
theorem tw_3_0 : Cond.static yX2_meltBy ∈ zWL := zWL_of (ztb_3 (i := 0) (by decide +kernel)) rfl
theorem tw_3_170 : Cond.methodLink "HailCellar$Forecast" 41 yX1_lostRings ∈ zWL := zWL_of (ztb_3 (i := 170) (by decide +kernel)) rfl
theorem tw_3_173 : Cond.code yX1_lostRings cX1_lostRings 8 (some .int) ∈ zWL := zWL_of (ztb_3 (i := 173) rfl) rfl
theorem tw_1_6 : Cond.initialized "HailCellar$Forecast" ∈ zWL := zWL_of (ztb_1 (i := 6) (by decide +kernel)) rfl
theorem tw_0_17 : Cond.selects RX1 yX1_lostRings yX1_lostRings ∈ zWL := zWL_of (ztb_0 (i := 17) (by decide +kernel)) rfl
theorem tw_3_172 : Cond.instanceMethod yX1_lostRings ∈ zWL := zWL_of (ztb_3 (i := 172) (by decide +kernel)) rfl
theorem tw_3_176 : Cond.methodLink "HailCellar$Forecast" 45 yX6_stonesFrom ∈ zWL := zWL_of (ztb_3 (i := 176) (by decide +kernel)) rfl
theorem tw_3_43 : Cond.code yX6_stonesFrom cX6_stonesFrom 5 (some .int) ∈ zWL := zWL_of (ztb_3 (i := 43) rfl) rfl
theorem tw_3_42 : Cond.selects "HailCellar$Store" yX6_stonesFrom yX6_stonesFrom ∈ zWL := zWL_of (ztb_3 (i := 42) (by decide +kernel)) rfl
theorem tw_3_41 : Cond.instanceMethod yX6_stonesFrom ∈ zWL := zWL_of (ztb_3 (i := 41) (by decide +kernel)) rfl
theorem tw_3_177 : Cond.methodLink "HailCellar$Forecast" 48 yX6_greatest ∈ zWL := zWL_of (ztb_3 (i := 177) (by decide +kernel)) rfl
theorem tw_3_180 : Cond.code yX6_greatest cX6_greatest 3 (some .int) ∈ zWL := zWL_of (ztb_3 (i := 180) rfl) rfl
theorem tw_3_179 : Cond.selects "HailCellar$Store" yX6_greatest yX6_greatest ∈ zWL := zWL_of (ztb_3 (i := 179) (by decide +kernel)) rfl
theorem tw_3_178 : Cond.instanceMethod yX6_greatest ∈ zWL := zWL_of (ztb_3 (i := 178) (by decide +kernel)) rfl
theorem tw_3_181 : Cond.methodLink "HailCellar$Forecast" 51 Lib.Math.max.name ∈ zWL := zWL_of (ztb_3 (i := 181) (by decide +kernel)) rfl
theorem tw_3_190 : Cond.methodLink "HailCellar$Forecast" 56 yX6_meltIn ∈ zWL := zWL_of (ztb_3 (i := 190) (by decide +kernel)) rfl
theorem tw_2_238 : Cond.code yX6_meltIn cX6_meltIn 3 (some .int) ∈ zWL := zWL_of (ztb_2 (i := 238) rfl) rfl
theorem tw_2_237 : Cond.selects "HailCellar$Store" yX6_meltIn yX6_meltIn ∈ zWL := zWL_of (ztb_2 (i := 237) (by decide +kernel)) rfl
theorem tw_2_236 : Cond.instanceMethod yX6_meltIn ∈ zWL := zWL_of (ztb_2 (i := 236) (by decide +kernel)) rfl
theorem tw_4_52 : Cond.methodLink "HailCellar$Forecast" 59 yX6_doorCost ∈ zWL := zWL_of (ztb_4 (i := 52) (by decide +kernel)) rfl
theorem tw_3_57 : Cond.code yX6_doorCost cX6_doorCost 2 (some .int) ∈ zWL := zWL_of (ztb_3 (i := 57) rfl) rfl
theorem tw_3_56 : Cond.selects "HailCellar$Store" yX6_doorCost yX6_doorCost ∈ zWL := zWL_of (ztb_3 (i := 56) (by decide +kernel)) rfl
theorem tw_3_55 : Cond.instanceMethod yX6_doorCost ∈ zWL := zWL_of (ztb_3 (i := 55) (by decide +kernel)) rfl
theorem tw_1_46 : Cond.fieldLink "HailCellar$Forecast" 62 "HailCellar$Sheet" "rows" "I" ∈ zWL := zWL_of (ztb_1 (i := 46) (by decide +kernel)) rfl
theorem tw_4_48 : Cond.methodLink "HailCellar$Forecast" 65 yX1_lostByDoor ∈ zWL := zWL_of (ztb_4 (i := 48) (by decide +kernel)) rfl
theorem tw_4_51 : Cond.code yX1_lostByDoor cX1_lostByDoor 3 (some .int) ∈ zWL := zWL_of (ztb_4 (i := 51) rfl) rfl
theorem tw_4_50 : Cond.selects "HailCellar$Forecast" yX1_lostByDoor yX1_lostByDoor ∈ zWL := zWL_of (ztb_4 (i := 50) (by decide +kernel)) rfl
theorem tw_4_49 : Cond.instanceMethod yX1_lostByDoor ∈ zWL := zWL_of (ztb_4 (i := 49) (by decide +kernel)) rfl
theorem tw_4_181 : Cond.methodLink "HailCellar$Forecast" 68 yX1_lostBySeed ∈ zWL := zWL_of (ztb_4 (i := 181) (by decide +kernel)) rfl
theorem tw_4_184 : Cond.code yX1_lostBySeed cX1_lostBySeed 8 (some .int) ∈ zWL := zWL_of (ztb_4 (i := 184) rfl) rfl
theorem tw_0_31 : Cond.selects RX1 yX1_lostBySeed yX1_lostBySeed ∈ zWL := zWL_of (ztb_0 (i := 31) (by decide +kernel)) rfl
theorem tw_4_183 : Cond.instanceMethod yX1_lostBySeed ∈ zWL := zWL_of (ztb_4 (i := 183) (by decide +kernel)) rfl
theorem tw_4_185 : Cond.constantLong "HailCellar$Forecast" 71 (Int64.ofInt (1103515245)) ∈ zWL := zWL_of (ztb_4 (i := 185) (by decide +kernel)) rfl
theorem tw_4_186 : Cond.constantLong "HailCellar$Forecast" 73 (Int64.ofInt (12345)) ∈ zWL := zWL_of (ztb_4 (i := 186) (by decide +kernel)) rfl
theorem tw_4_187 : Cond.constantLong "HailCellar$Forecast" 75 (Int64.ofInt (2147483648)) ∈ zWL := zWL_of (ztb_4 (i := 187) (by decide +kernel)) rfl
theorem tw_4_188 : Cond.constantLong "HailCellar$Forecast" 77 (Int64.ofInt (65536)) ∈ zWL := zWL_of (ztb_4 (i := 188) (by decide +kernel)) rfl
theorem tw_4_189 : Cond.constantLong "HailCellar$Forecast" 79 (Int64.ofInt (5)) ∈ zWL := zWL_of (ztb_4 (i := 189) (by decide +kernel)) rfl
theorem tw_3_96 : Cond.methodLink "HailCellar$Kinds" 7 Lib.Math.max.name ∈ zWL := zWL_of (ztb_3 (i := 96) (by decide +kernel)) rfl
theorem tw_1_114 : Cond.methodLink "HailCellar$Reader" 3 Lib.objectInit ∈ zWL := zWL_of (ztb_1 (i := 114) (by decide +kernel)) rfl
theorem tw_1_115 : Cond.fieldLink "HailCellar$Reader" 9 "HailCellar$Reader" "text" "[I" ∈ zWL := zWL_of (ztb_1 (i := 115) (by decide +kernel)) rfl
theorem tw_1_118 : Cond.fieldLink "HailCellar$Reader" 15 "HailCellar$Reader" "draft" "LHailCellar$Store;" ∈ zWL := zWL_of (ztb_1 (i := 118) (by decide +kernel)) rfl
theorem tw_1_116 : Cond.fieldLink "HailCellar$Reader" 19 "HailCellar$Reader" "length" "I" ∈ zWL := zWL_of (ztb_1 (i := 116) (by decide +kernel)) rfl
theorem tw_2_123 : Cond.methodLink "HailCellar$Reader" 23 yX6_reset ∈ zWL := zWL_of (ztb_2 (i := 123) (by decide +kernel)) rfl
theorem tw_2_10 : Cond.code yX6_reset cX6_reset 2 none ∈ zWL := zWL_of (ztb_2 (i := 10) rfl) rfl
theorem tw_2_9 : Cond.selects "HailCellar$Store" yX6_reset yX6_reset ∈ zWL := zWL_of (ztb_2 (i := 9) (by decide +kernel)) rfl
theorem tw_2_8 : Cond.instanceMethod yX6_reset ∈ zWL := zWL_of (ztb_2 (i := 8) (by decide +kernel)) rfl
theorem tw_1_119 : Cond.fieldLink "HailCellar$Reader" 29 "HailCellar$Reader" "next" "I" ∈ zWL := zWL_of (ztb_1 (i := 119) (by decide +kernel)) rfl
theorem tw_2_124 : Cond.methodLink "HailCellar$Reader" 32 yX3_advance ∈ zWL := zWL_of (ztb_2 (i := 124) (by decide +kernel)) rfl
theorem tw_2_127 : Cond.code yX3_advance cX3_advance 2 none ∈ zWL := zWL_of (ztb_2 (i := 127) rfl) rfl
theorem tw_1_5 : Cond.initialized "HailCellar$Reader" ∈ zWL := zWL_of (ztb_1 (i := 5) (by decide +kernel)) rfl
theorem tw_0_4 : Cond.selects RX3 yX3_advance yX3_advance ∈ zWL := zWL_of (ztb_0 (i := 4) (by decide +kernel)) rfl
theorem tw_2_126 : Cond.instanceMethod yX3_advance ∈ zWL := zWL_of (ztb_2 (i := 126) (by decide +kernel)) rfl
theorem tw_2_141 : Cond.methodLink "HailCellar$Reader" 37 yX3_atWord ∈ zWL := zWL_of (ztb_2 (i := 141) (by decide +kernel)) rfl
theorem tw_2_144 : Cond.code yX3_atWord cX3_atWord 3 (some .boolean) ∈ zWL := zWL_of (ztb_2 (i := 144) rfl) rfl
theorem tw_0_7 : Cond.selects RX3 yX3_atWord yX3_atWord ∈ zWL := zWL_of (ztb_0 (i := 7) (by decide +kernel)) rfl
theorem tw_2_143 : Cond.instanceMethod yX3_atWord ∈ zWL := zWL_of (ztb_2 (i := 143) (by decide +kernel)) rfl
theorem tw_2_193 : Cond.methodLink "HailCellar$Reader" 41 yX3_storeItem ∈ zWL := zWL_of (ztb_2 (i := 193) (by decide +kernel)) rfl
theorem tw_2_196 : Cond.code yX3_storeItem cX3_storeItem 2 (some .boolean) ∈ zWL := zWL_of (ztb_2 (i := 196) rfl) rfl
theorem tw_0_8 : Cond.selects RX3 yX3_storeItem yX3_storeItem ∈ zWL := zWL_of (ztb_0 (i := 8) (by decide +kernel)) rfl
theorem tw_2_195 : Cond.instanceMethod yX3_storeItem ∈ zWL := zWL_of (ztb_2 (i := 195) (by decide +kernel)) rfl
theorem tw_1_121 : Cond.fieldLink "HailCellar$Reader" 45 "HailCellar$Reader" "token" "I" ∈ zWL := zWL_of (ztb_1 (i := 121) (by decide +kernel)) rfl
theorem tw_2_207 : Cond.methodLink "HailCellar$Reader" 50 yX3_cellarItem ∈ zWL := zWL_of (ztb_2 (i := 207) (by decide +kernel)) rfl
theorem tw_2_210 : Cond.code yX3_cellarItem cX3_cellarItem 5 (some .boolean) ∈ zWL := zWL_of (ztb_2 (i := 210) rfl) rfl
theorem tw_0_11 : Cond.selects RX3 yX3_cellarItem yX3_cellarItem ∈ zWL := zWL_of (ztb_0 (i := 11) (by decide +kernel)) rfl
theorem tw_2_209 : Cond.instanceMethod yX3_cellarItem ∈ zWL := zWL_of (ztb_2 (i := 209) (by decide +kernel)) rfl
theorem tw_2_215 : Cond.methodLink "HailCellar$Reader" 55 yX3_slingerItem ∈ zWL := zWL_of (ztb_2 (i := 215) (by decide +kernel)) rfl
theorem tw_2_218 : Cond.code yX3_slingerItem cX3_slingerItem 3 (some .boolean) ∈ zWL := zWL_of (ztb_2 (i := 218) rfl) rfl
theorem tw_0_12 : Cond.selects RX3 yX3_slingerItem yX3_slingerItem ∈ zWL := zWL_of (ztb_0 (i := 12) (by decide +kernel)) rfl
theorem tw_2_217 : Cond.instanceMethod yX3_slingerItem ∈ zWL := zWL_of (ztb_2 (i := 217) (by decide +kernel)) rfl
theorem tw_2_221 : Cond.methodLink "HailCellar$Reader" 60 yX3_cloudItem ∈ zWL := zWL_of (ztb_2 (i := 221) (by decide +kernel)) rfl
theorem tw_2_224 : Cond.code yX3_cloudItem cX3_cloudItem 3 (some .boolean) ∈ zWL := zWL_of (ztb_2 (i := 224) rfl) rfl
theorem tw_0_13 : Cond.selects RX3 yX3_cloudItem yX3_cloudItem ∈ zWL := zWL_of (ztb_0 (i := 13) (by decide +kernel)) rfl
theorem tw_2_223 : Cond.instanceMethod yX3_cloudItem ∈ zWL := zWL_of (ztb_2 (i := 223) (by decide +kernel)) rfl
theorem tw_2_227 : Cond.methodLink "HailCellar$Reader" 65 yX3_weeksItem ∈ zWL := zWL_of (ztb_2 (i := 227) (by decide +kernel)) rfl
theorem tw_2_230 : Cond.code yX3_weeksItem cX3_weeksItem 2 (some .boolean) ∈ zWL := zWL_of (ztb_2 (i := 230) rfl) rfl
theorem tw_0_14 : Cond.selects RX3 yX3_weeksItem yX3_weeksItem ∈ zWL := zWL_of (ztb_0 (i := 14) (by decide +kernel)) rfl
theorem tw_2_229 : Cond.instanceMethod yX3_weeksItem ∈ zWL := zWL_of (ztb_2 (i := 229) (by decide +kernel)) rfl
theorem tw_1_120 : Cond.fieldLink "HailCellar$Reader" 68 "HailCellar$Reader" "start" "I" ∈ zWL := zWL_of (ztb_1 (i := 120) (by decide +kernel)) rfl
theorem tw_2_197 : Cond.methodLink "HailCellar$Reader" 71 yX3_takeNumber ∈ zWL := zWL_of (ztb_2 (i := 197) (by decide +kernel)) rfl
theorem tw_2_200 : Cond.code yX3_takeNumber cX3_takeNumber 4 (some .int) ∈ zWL := zWL_of (ztb_2 (i := 200) rfl) rfl
theorem tw_0_9 : Cond.selects RX3 yX3_takeNumber yX3_takeNumber ∈ zWL := zWL_of (ztb_0 (i := 9) (by decide +kernel)) rfl
theorem tw_2_199 : Cond.instanceMethod yX3_takeNumber ∈ zWL := zWL_of (ztb_2 (i := 199) (by decide +kernel)) rfl
theorem tw_1_63 : Cond.fieldLink "HailCellar$Reader" 75 "HailCellar$Store" "wind" "I" ∈ zWL := zWL_of (ztb_1 (i := 63) (by decide +kernel)) rfl
theorem tw_2_202 : Cond.methodLink "HailCellar$Reader" 78 yX3_itemEnds ∈ zWL := zWL_of (ztb_2 (i := 202) (by decide +kernel)) rfl
theorem tw_2_205 : Cond.code yX3_itemEnds cX3_itemEnds 1 (some .boolean) ∈ zWL := zWL_of (ztb_2 (i := 205) rfl) rfl
theorem tw_0_10 : Cond.selects RX3 yX3_itemEnds yX3_itemEnds ∈ zWL := zWL_of (ztb_0 (i := 10) (by decide +kernel)) rfl
theorem tw_2_204 : Cond.instanceMethod yX3_itemEnds ∈ zWL := zWL_of (ztb_2 (i := 204) (by decide +kernel)) rfl
theorem tw_1_69 : Cond.fieldLink "HailCellar$Reader" 81 "HailCellar$Store" "cellars" "LHailCellar$Sheet;" ∈ zWL := zWL_of (ztb_1 (i := 69) (by decide +kernel)) rfl
theorem tw_2_211 : Cond.methodLink "HailCellar$Reader" 85 yX4_isFull ∈ zWL := zWL_of (ztb_2 (i := 211) (by decide +kernel)) rfl
theorem tw_2_22 : Cond.code yX4_isFull cX4_isFull 1 (some .boolean) ∈ zWL := zWL_of (ztb_2 (i := 22) rfl) rfl
theorem tw_2_21 : Cond.selects "HailCellar$Sheet" yX4_isFull yX4_isFull ∈ zWL := zWL_of (ztb_2 (i := 21) (by decide +kernel)) rfl
theorem tw_2_20 : Cond.instanceMethod yX4_isFull ∈ zWL := zWL_of (ztb_2 (i := 20) (by decide +kernel)) rfl
theorem tw_2_212 : Cond.methodLink "HailCellar$Reader" 90 yX6_addCellar ∈ zWL := zWL_of (ztb_2 (i := 212) (by decide +kernel)) rfl
theorem tw_2_31 : Cond.code yX6_addCellar cX6_addCellar 4 (some .int) ∈ zWL := zWL_of (ztb_2 (i := 31) rfl) rfl
theorem tw_2_30 : Cond.selects "HailCellar$Store" yX6_addCellar yX6_addCellar ∈ zWL := zWL_of (ztb_2 (i := 30) (by decide +kernel)) rfl
theorem tw_2_29 : Cond.instanceMethod yX6_addCellar ∈ zWL := zWL_of (ztb_2 (i := 29) (by decide +kernel)) rfl
theorem tw_2_213 : Cond.methodLink "HailCellar$Reader" 93 yX6_putStones ∈ zWL := zWL_of (ztb_2 (i := 213) (by decide +kernel)) rfl
theorem tw_2_72 : Cond.code yX6_putStones cX6_putStones 4 none ∈ zWL := zWL_of (ztb_2 (i := 72) rfl) rfl
theorem tw_2_71 : Cond.selects "HailCellar$Store" yX6_putStones yX6_putStones ∈ zWL := zWL_of (ztb_2 (i := 71) (by decide +kernel)) rfl
theorem tw_2_70 : Cond.instanceMethod yX6_putStones ∈ zWL := zWL_of (ztb_2 (i := 70) (by decide +kernel)) rfl
theorem tw_1_73 : Cond.fieldLink "HailCellar$Reader" 97 "HailCellar$Store" "slingers" "LHailCellar$Sheet;" ∈ zWL := zWL_of (ztb_1 (i := 73) (by decide +kernel)) rfl
theorem tw_2_219 : Cond.methodLink "HailCellar$Reader" 100 yX6_addSlinger ∈ zWL := zWL_of (ztb_2 (i := 219) (by decide +kernel)) rfl
theorem tw_2_86 : Cond.code yX6_addSlinger cX6_addSlinger 4 (some .int) ∈ zWL := zWL_of (ztb_2 (i := 86) rfl) rfl
theorem tw_2_85 : Cond.selects "HailCellar$Store" yX6_addSlinger yX6_addSlinger ∈ zWL := zWL_of (ztb_2 (i := 85) (by decide +kernel)) rfl
theorem tw_2_84 : Cond.instanceMethod yX6_addSlinger ∈ zWL := zWL_of (ztb_2 (i := 84) (by decide +kernel)) rfl
theorem tw_1_78 : Cond.fieldLink "HailCellar$Reader" 103 "HailCellar$Store" "clouds" "LHailCellar$Sheet;" ∈ zWL := zWL_of (ztb_1 (i := 78) (by decide +kernel)) rfl
theorem tw_2_225 : Cond.methodLink "HailCellar$Reader" 106 yX6_addCloud ∈ zWL := zWL_of (ztb_2 (i := 225) (by decide +kernel)) rfl
theorem tw_2_94 : Cond.code yX6_addCloud cX6_addCloud 4 (some .int) ∈ zWL := zWL_of (ztb_2 (i := 94) rfl) rfl
theorem tw_2_93 : Cond.selects "HailCellar$Store" yX6_addCloud yX6_addCloud ∈ zWL := zWL_of (ztb_2 (i := 93) (by decide +kernel)) rfl
theorem tw_2_92 : Cond.instanceMethod yX6_addCloud ∈ zWL := zWL_of (ztb_2 (i := 92) (by decide +kernel)) rfl
theorem tw_2_231 : Cond.methodLink "HailCellar$Reader" 109 yX6_passWeeks ∈ zWL := zWL_of (ztb_2 (i := 231) (by decide +kernel)) rfl
theorem tw_2_234 : Cond.code yX6_passWeeks cX6_passWeeks 4 none ∈ zWL := zWL_of (ztb_2 (i := 234) rfl) rfl
theorem tw_2_233 : Cond.selects "HailCellar$Store" yX6_passWeeks yX6_passWeeks ∈ zWL := zWL_of (ztb_2 (i := 233) (by decide +kernel)) rfl
theorem tw_2_232 : Cond.instanceMethod yX6_passWeeks ∈ zWL := zWL_of (ztb_2 (i := 232) (by decide +kernel)) rfl
theorem tw_1_122 : Cond.fieldLink "HailCellar$Reader" 112 "HailCellar$Reader" "number" "I" ∈ zWL := zWL_of (ztb_1 (i := 122) (by decide +kernel)) rfl
theorem tw_1_238 : Cond.code yX7_within cX7_within 3 (some .boolean) ∈ zWL := zWL_of (ztb_1 (i := 238) rfl) rfl
theorem tw_1_1 : Cond.initialized "HailCellar" ∈ zWL := zWL_of (ztb_1 (i := 1) (by decide +kernel)) rfl
theorem tw_1_237 : Cond.static yX7_within ∈ zWL := zWL_of (ztb_1 (i := 237) (by decide +kernel)) rfl
theorem tw_2_145 : Cond.methodLink "HailCellar$Reader" 119 yJ0_length_8abf5 ∈ zWL := zWL_of (ztb_2 (i := 145) (by decide +kernel)) rfl
theorem tw_2_128 : Cond.methodLink "HailCellar$Reader" 124 yX3_byteAt ∈ zWL := zWL_of (ztb_2 (i := 128) (by decide +kernel)) rfl
theorem tw_2_131 : Cond.code yX3_byteAt cX3_byteAt 2 (some .int) ∈ zWL := zWL_of (ztb_2 (i := 131) rfl) rfl
theorem tw_0_5 : Cond.selects RX3 yX3_byteAt yX3_byteAt ∈ zWL := zWL_of (ztb_0 (i := 5) (by decide +kernel)) rfl
theorem tw_2_130 : Cond.instanceMethod yX3_byteAt ∈ zWL := zWL_of (ztb_2 (i := 130) (by decide +kernel)) rfl
theorem tw_2_155 : Cond.methodLink "HailCellar$Reader" 128 yJ0_charAt_5068e ∈ zWL := zWL_of (ztb_2 (i := 155) (by decide +kernel)) rfl
theorem tw_2_132 : Cond.methodLink "HailCellar$Reader" 132 yX3_tokenBegunBy ∈ zWL := zWL_of (ztb_2 (i := 132) (by decide +kernel)) rfl
theorem tw_2_134 : Cond.code yX3_tokenBegunBy cX3_tokenBegunBy 1 (some .int) ∈ zWL := zWL_of (ztb_2 (i := 134) rfl) rfl
theorem tw_2_133 : Cond.static yX3_tokenBegunBy ∈ zWL := zWL_of (ztb_2 (i := 133) (by decide +kernel)) rfl
theorem tw_2_135 : Cond.methodLink "HailCellar$Reader" 135 Lib.Math.min.name ∈ zWL := zWL_of (ztb_2 (i := 135) (by decide +kernel)) rfl
theorem tw_2_136 : Cond.methodLink "HailCellar$Reader" 140 yX3_readFigures ∈ zWL := zWL_of (ztb_2 (i := 136) (by decide +kernel)) rfl
theorem tw_2_139 : Cond.code yX3_readFigures cX3_readFigures 3 none ∈ zWL := zWL_of (ztb_2 (i := 139) rfl) rfl
theorem tw_0_6 : Cond.selects RX3 yX3_readFigures yX3_readFigures ∈ zWL := zWL_of (ztb_0 (i := 6) (by decide +kernel)) rfl
theorem tw_2_138 : Cond.instanceMethod yX3_readFigures ∈ zWL := zWL_of (ztb_2 (i := 138) (by decide +kernel)) rfl
theorem tw_1_35 : Cond.methodLink "HailCellar$Sheet" 3 Lib.objectInit ∈ zWL := zWL_of (ztb_1 (i := 35) (by decide +kernel)) rfl
theorem tw_1_36 : Cond.methodLink "HailCellar$Sheet" 9 Lib.Math.max.name ∈ zWL := zWL_of (ztb_1 (i := 36) (by decide +kernel)) rfl
theorem tw_1_39 : Cond.fieldLink "HailCellar$Sheet" 15 "HailCellar$Sheet" "most" "I" ∈ zWL := zWL_of (ztb_1 (i := 39) (by decide +kernel)) rfl
theorem tw_1_40 : Cond.fieldLink "HailCellar$Sheet" 21 "HailCellar$Sheet" "width" "I" ∈ zWL := zWL_of (ztb_1 (i := 40) (by decide +kernel)) rfl
theorem tw_1_41 : Cond.fieldLink "HailCellar$Sheet" 24 "HailCellar$Sheet" "cells" "[I" ∈ zWL := zWL_of (ztb_1 (i := 41) (by decide +kernel)) rfl
theorem tw_1_42 : Cond.fieldLink "HailCellar$Sheet" 28 "HailCellar$Sheet" "rows" "I" ∈ zWL := zWL_of (ztb_1 (i := 42) (by decide +kernel)) rfl
theorem tw_2_41 : Cond.methodLink "HailCellar$Sheet" 31 yX4_placeOf ∈ zWL := zWL_of (ztb_2 (i := 41) (by decide +kernel)) rfl
theorem tw_2_44 : Cond.code yX4_placeOf cX4_placeOf 3 (some .int) ∈ zWL := zWL_of (ztb_2 (i := 44) rfl) rfl
theorem tw_0_3 : Cond.selects RX4 yX4_placeOf yX4_placeOf ∈ zWL := zWL_of (ztb_0 (i := 3) (by decide +kernel)) rfl
theorem tw_2_43 : Cond.instanceMethod yX4_placeOf ∈ zWL := zWL_of (ztb_2 (i := 43) (by decide +kernel)) rfl
theorem tw_2_36 : Cond.methodLink "HailCellar$Sheet" 34 yX4_isFull ∈ zWL := zWL_of (ztb_2 (i := 36) (by decide +kernel)) rfl
theorem tw_2_37 : Cond.methodLink "HailCellar$Sheet" 38 yX4_put ∈ zWL := zWL_of (ztb_2 (i := 37) (by decide +kernel)) rfl
theorem tw_2_40 : Cond.code yX4_put cX4_put 5 none ∈ zWL := zWL_of (ztb_2 (i := 40) rfl) rfl
theorem tw_2_39 : Cond.selects "HailCellar$Sheet" yX4_put yX4_put ∈ zWL := zWL_of (ztb_2 (i := 39) (by decide +kernel)) rfl
theorem tw_2_38 : Cond.instanceMethod yX4_put ∈ zWL := zWL_of (ztb_2 (i := 38) (by decide +kernel)) rfl
theorem tw_4_62 : Cond.methodLink "HailCellar$Sheet" 42 yX4_openRow ∈ zWL := zWL_of (ztb_4 (i := 62) (by decide +kernel)) rfl
theorem tw_2_35 : Cond.code yX4_openRow cX4_openRow 2 (some .int) ∈ zWL := zWL_of (ztb_2 (i := 35) rfl) rfl
theorem tw_2_34 : Cond.selects "HailCellar$Sheet" yX4_openRow yX4_openRow ∈ zWL := zWL_of (ztb_2 (i := 34) (by decide +kernel)) rfl
theorem tw_2_33 : Cond.instanceMethod yX4_openRow ∈ zWL := zWL_of (ztb_2 (i := 33) (by decide +kernel)) rfl
theorem tw_3_14 : Cond.methodLink "HailCellar$Sheet" 46 ⟨"java/lang/System", "arraycopy", "(Ljava/lang/Object;ILjava/lang/Object;II)V"⟩ ∈ zWL := zWL_of (ztb_3 (i := 14) (by decide +kernel)) rfl
theorem tw_4_228 : Cond.constantLong "HailCellar$Sheet" 52 (Int64.ofInt (31)) ∈ zWL := zWL_of (ztb_4 (i := 228) (by decide +kernel)) rfl
theorem tw_1_178 : Cond.methodLink "HailCellar$Sleuth" 3 Lib.objectInit ∈ zWL := zWL_of (ztb_1 (i := 178) (by decide +kernel)) rfl
theorem tw_1_180 : Cond.fieldLink "HailCellar$Sleuth" 9 "HailCellar$Sleuth" "signs" "[I" ∈ zWL := zWL_of (ztb_1 (i := 180) (by decide +kernel)) rfl
theorem tw_1_179 : Cond.fieldLink "HailCellar$Sleuth" 15 "HailCellar$Sleuth" "store" "LHailCellar$Store;" ∈ zWL := zWL_of (ztb_1 (i := 179) (by decide +kernel)) rfl
theorem tw_1_80 : Cond.fieldLink "HailCellar$Sleuth" 19 "HailCellar$Store" "ringsTold" "LHailCellar$Sheet;" ∈ zWL := zWL_of (ztb_1 (i := 80) (by decide +kernel)) rfl
theorem tw_4_71 : Cond.methodLink "HailCellar$Sleuth" 25 yX4_get ∈ zWL := zWL_of (ztb_4 (i := 71) (by decide +kernel)) rfl
theorem tw_4_72 : Cond.methodLink "HailCellar$Sleuth" 31 yX6_meltIn ∈ zWL := zWL_of (ztb_4 (i := 72) (by decide +kernel)) rfl
theorem tw_4_73 : Cond.methodLink "HailCellar$Sleuth" 34 yX6_doorCost ∈ zWL := zWL_of (ztb_4 (i := 73) (by decide +kernel)) rfl
theorem tw_4_74 : Cond.methodLink "HailCellar$Sleuth" 38 Lib.Math.max.name ∈ zWL := zWL_of (ztb_4 (i := 74) (by decide +kernel)) rfl
theorem tw_1_44 : Cond.fieldLink "HailCellar$Sleuth" 43 "HailCellar$Sheet" "rows" "I" ∈ zWL := zWL_of (ztb_1 (i := 44) (by decide +kernel)) rfl
theorem tw_4_83 : Cond.methodLink "HailCellar$Sleuth" 47 yX5_doorsBy ∈ zWL := zWL_of (ztb_4 (i := 83) (by decide +kernel)) rfl
theorem tw_4_70 : Cond.code yX5_doorsBy cX5_doorsBy 6 (some .int) ∈ zWL := zWL_of (ztb_4 (i := 70) rfl) rfl
theorem tw_1_8 : Cond.initialized "HailCellar$Sleuth" ∈ zWL := zWL_of (ztb_1 (i := 8) (by decide +kernel)) rfl
theorem tw_4_69 : Cond.selects "HailCellar$Sleuth" yX5_doorsBy yX5_doorsBy ∈ zWL := zWL_of (ztb_4 (i := 69) (by decide +kernel)) rfl
theorem tw_4_68 : Cond.instanceMethod yX5_doorsBy ∈ zWL := zWL_of (ztb_4 (i := 68) (by decide +kernel)) rfl
theorem tw_4_104 : Cond.methodLink "HailCellar$Sleuth" 50 yX5_fitsNotes ∈ zWL := zWL_of (ztb_4 (i := 104) (by decide +kernel)) rfl
theorem tw_4_107 : Cond.code yX5_fitsNotes cX5_fitsNotes 7 (some .boolean) ∈ zWL := zWL_of (ztb_4 (i := 107) rfl) rfl
theorem tw_0_27 : Cond.selects RX5 yX5_fitsNotes yX5_fitsNotes ∈ zWL := zWL_of (ztb_0 (i := 27) (by decide +kernel)) rfl
theorem tw_4_106 : Cond.instanceMethod yX5_fitsNotes ∈ zWL := zWL_of (ztb_4 (i := 106) (by decide +kernel)) rfl
theorem tw_1_83 : Cond.fieldLink "HailCellar$Sleuth" 54 "HailCellar$Store" "notes" "LHailCellar$Sheet;" ∈ zWL := zWL_of (ztb_1 (i := 83) (by decide +kernel)) rfl
theorem tw_4_108 : Cond.methodLink "HailCellar$Sleuth" 57 yX2_meltBy ∈ zWL := zWL_of (ztb_4 (i := 108) (by decide +kernel)) rfl
theorem tw_4_109 : Cond.methodLink "HailCellar$Sleuth" 63 yX2_costOfDoor ∈ zWL := zWL_of (ztb_4 (i := 109) (by decide +kernel)) rfl
theorem tw_4_118 : Cond.methodLink "HailCellar$Sleuth" 66 yX5_kindsOfCellar ∈ zWL := zWL_of (ztb_4 (i := 118) (by decide +kernel)) rfl
theorem tw_4_103 : Cond.code yX5_kindsOfCellar cX5_kindsOfCellar 4 (some .int) ∈ zWL := zWL_of (ztb_4 (i := 103) rfl) rfl
theorem tw_4_102 : Cond.selects "HailCellar$Sleuth" yX5_kindsOfCellar yX5_kindsOfCellar ∈ zWL := zWL_of (ztb_4 (i := 102) (by decide +kernel)) rfl
theorem tw_4_101 : Cond.instanceMethod yX5_kindsOfCellar ∈ zWL := zWL_of (ztb_4 (i := 101) (by decide +kernel)) rfl
theorem tw_1_68 : Cond.fieldLink "HailCellar$Sleuth" 69 "HailCellar$Store" "cellars" "LHailCellar$Sheet;" ∈ zWL := zWL_of (ztb_1 (i := 68) (by decide +kernel)) rfl
theorem tw_4_119 : Cond.methodLink "HailCellar$Sleuth" 72 yX5_isIn ∈ zWL := zWL_of (ztb_4 (i := 119) (by decide +kernel)) rfl
theorem tw_4_121 : Cond.code yX5_isIn cX5_isIn 2 (some .boolean) ∈ zWL := zWL_of (ztb_4 (i := 121) rfl) rfl
theorem tw_4_120 : Cond.static yX5_isIn ∈ zWL := zWL_of (ztb_4 (i := 120) (by decide +kernel)) rfl
theorem tw_4_122 : Cond.methodLink "HailCellar$Sleuth" 75 yX5_mostAlike ∈ zWL := zWL_of (ztb_4 (i := 122) (by decide +kernel)) rfl
theorem tw_4_125 : Cond.code yX5_mostAlike cX5_mostAlike 5 (some .int) ∈ zWL := zWL_of (ztb_4 (i := 125) rfl) rfl
theorem tw_0_28 : Cond.selects RX5 yX5_mostAlike yX5_mostAlike ∈ zWL := zWL_of (ztb_0 (i := 28) (by decide +kernel)) rfl
theorem tw_4_124 : Cond.instanceMethod yX5_mostAlike ∈ zWL := zWL_of (ztb_4 (i := 124) (by decide +kernel)) rfl
theorem tw_4_134 : Cond.methodLink "HailCellar$Sleuth" 79 yX5_fitsThrown ∈ zWL := zWL_of (ztb_4 (i := 134) (by decide +kernel)) rfl
theorem tw_4_137 : Cond.code yX5_fitsThrown cX5_fitsThrown 9 (some .boolean) ∈ zWL := zWL_of (ztb_4 (i := 137) rfl) rfl
theorem tw_0_29 : Cond.selects RX5 yX5_fitsThrown yX5_fitsThrown ∈ zWL := zWL_of (ztb_0 (i := 29) (by decide +kernel)) rfl
theorem tw_4_136 : Cond.instanceMethod yX5_fitsThrown ∈ zWL := zWL_of (ztb_4 (i := 136) (by decide +kernel)) rfl
theorem tw_1_86 : Cond.fieldLink "HailCellar$Sleuth" 82 "HailCellar$Store" "thrown" "LHailCellar$Sheet;" ∈ zWL := zWL_of (ztb_1 (i := 86) (by decide +kernel)) rfl
theorem tw_1_74 : Cond.fieldLink "HailCellar$Sleuth" 85 "HailCellar$Store" "slingers" "LHailCellar$Sheet;" ∈ zWL := zWL_of (ztb_1 (i := 74) (by decide +kernel)) rfl
theorem tw_4_138 : Cond.methodLink "HailCellar$Sleuth" 88 yX2_farBy ∈ zWL := zWL_of (ztb_4 (i := 138) (by decide +kernel)) rfl
theorem tw_3_95 : Cond.code yX2_farBy cX2_farBy 6 (some .int) ∈ zWL := zWL_of (ztb_3 (i := 95) rfl) rfl
theorem tw_3_94 : Cond.static yX2_farBy ∈ zWL := zWL_of (ztb_3 (i := 94) (by decide +kernel)) rfl
theorem tw_4_139 : Cond.methodLink "HailCellar$Sleuth" 92 yX2_hitsBy ∈ zWL := zWL_of (ztb_4 (i := 139) (by decide +kernel)) rfl
theorem tw_3_103 : Cond.code yX2_hitsBy cX2_hitsBy 4 (some .int) ∈ zWL := zWL_of (ztb_3 (i := 103) rfl) rfl
theorem tw_3_102 : Cond.static yX2_hitsBy ∈ zWL := zWL_of (ztb_3 (i := 102) (by decide +kernel)) rfl
theorem tw_4_148 : Cond.methodLink "HailCellar$Sleuth" 95 yX5_kindsOfSlinger ∈ zWL := zWL_of (ztb_4 (i := 148) (by decide +kernel)) rfl
theorem tw_4_133 : Cond.code yX5_kindsOfSlinger cX5_kindsOfSlinger 4 (some .int) ∈ zWL := zWL_of (ztb_4 (i := 133) rfl) rfl
theorem tw_4_132 : Cond.selects "HailCellar$Sleuth" yX5_kindsOfSlinger yX5_kindsOfSlinger ∈ zWL := zWL_of (ztb_4 (i := 132) (by decide +kernel)) rfl
theorem tw_4_131 : Cond.instanceMethod yX5_kindsOfSlinger ∈ zWL := zWL_of (ztb_4 (i := 131) (by decide +kernel)) rfl
theorem tw_1_29 : Cond.methodLink "HailCellar$Store" 5 Lib.objectInit ∈ zWL := zWL_of (ztb_1 (i := 29) (by decide +kernel)) rfl
theorem tw_1_30 : Cond.classLink "HailCellar$Store" 11 "HailCellar$Sheet" ∈ zWL := zWL_of (ztb_1 (i := 30) (by decide +kernel)) rfl
theorem tw_1_31 : Cond.instantiable "HailCellar$Sheet" 4 ∈ zWL := zWL_of (ztb_1 (i := 31) (by decide +kernel)) rfl
theorem tw_1_32 : Cond.methodLink "HailCellar$Store" 13 yX4_init ∈ zWL := zWL_of (ztb_1 (i := 32) (by decide +kernel)) rfl
theorem tw_1_34 : Cond.code yX4_init cX4_init 3 none ∈ zWL := zWL_of (ztb_1 (i := 34) rfl) rfl
theorem tw_1_33 : Cond.instanceMethod yX4_init ∈ zWL := zWL_of (ztb_1 (i := 33) (by decide +kernel)) rfl
theorem tw_1_65 : Cond.fieldLink "HailCellar$Store" 16 "HailCellar$Store" "cellars" "LHailCellar$Sheet;" ∈ zWL := zWL_of (ztb_1 (i := 65) (by decide +kernel)) rfl
theorem tw_1_70 : Cond.fieldLink "HailCellar$Store" 20 "HailCellar$Store" "slingers" "LHailCellar$Sheet;" ∈ zWL := zWL_of (ztb_1 (i := 70) (by decide +kernel)) rfl
theorem tw_1_75 : Cond.fieldLink "HailCellar$Store" 23 "HailCellar$Store" "clouds" "LHailCellar$Sheet;" ∈ zWL := zWL_of (ztb_1 (i := 75) (by decide +kernel)) rfl
theorem tw_1_79 : Cond.fieldLink "HailCellar$Store" 26 "HailCellar$Store" "ringsTold" "LHailCellar$Sheet;" ∈ zWL := zWL_of (ztb_1 (i := 79) (by decide +kernel)) rfl
theorem tw_1_82 : Cond.fieldLink "HailCellar$Store" 29 "HailCellar$Store" "notes" "LHailCellar$Sheet;" ∈ zWL := zWL_of (ztb_1 (i := 82) (by decide +kernel)) rfl
theorem tw_1_85 : Cond.fieldLink "HailCellar$Store" 32 "HailCellar$Store" "thrown" "LHailCellar$Sheet;" ∈ zWL := zWL_of (ztb_1 (i := 85) (by decide +kernel)) rfl
theorem tw_1_88 : Cond.fieldLink "HailCellar$Store" 35 "HailCellar$Store" "past" "LHailCellar$Sheet;" ∈ zWL := zWL_of (ztb_1 (i := 88) (by decide +kernel)) rfl
theorem tw_1_58 : Cond.fieldLink "HailCellar$Store" 38 "HailCellar$Store" "week" "I" ∈ zWL := zWL_of (ztb_1 (i := 58) (by decide +kernel)) rfl
theorem tw_1_61 : Cond.fieldLink "HailCellar$Store" 42 "HailCellar$Store" "wind" "I" ∈ zWL := zWL_of (ztb_1 (i := 61) (by decide +kernel)) rfl
theorem tw_2_11 : Cond.methodLink "HailCellar$Store" 45 yX4_empty ∈ zWL := zWL_of (ztb_2 (i := 11) (by decide +kernel)) rfl
theorem tw_2_14 : Cond.code yX4_empty cX4_empty 2 (some .int) ∈ zWL := zWL_of (ztb_2 (i := 14) rfl) rfl
theorem tw_2_13 : Cond.selects "HailCellar$Sheet" yX4_empty yX4_empty ∈ zWL := zWL_of (ztb_2 (i := 13) (by decide +kernel)) rfl
theorem tw_2_12 : Cond.instanceMethod yX4_empty ∈ zWL := zWL_of (ztb_2 (i := 12) (by decide +kernel)) rfl
theorem tw_3_10 : Cond.methodLink "HailCellar$Store" 49 yX4_copyFrom ∈ zWL := zWL_of (ztb_3 (i := 10) (by decide +kernel)) rfl
theorem tw_3_13 : Cond.code yX4_copyFrom cX4_copyFrom 2 none ∈ zWL := zWL_of (ztb_3 (i := 13) rfl) rfl
theorem tw_3_12 : Cond.selects "HailCellar$Sheet" yX4_copyFrom yX4_copyFrom ∈ zWL := zWL_of (ztb_3 (i := 12) (by decide +kernel)) rfl
theorem tw_3_11 : Cond.instanceMethod yX4_copyFrom ∈ zWL := zWL_of (ztb_3 (i := 11) (by decide +kernel)) rfl
theorem tw_3_26 : Cond.methodLink "HailCellar$Store" 53 yX4_isFull ∈ zWL := zWL_of (ztb_3 (i := 26) (by decide +kernel)) rfl
theorem tw_3_27 : Cond.methodLink "HailCellar$Store" 57 yX4_dropFirst ∈ zWL := zWL_of (ztb_3 (i := 27) (by decide +kernel)) rfl
theorem tw_3_30 : Cond.code yX4_dropFirst cX4_dropFirst 1 none ∈ zWL := zWL_of (ztb_3 (i := 30) rfl) rfl
theorem tw_3_29 : Cond.selects "HailCellar$Sheet" yX4_dropFirst yX4_dropFirst ∈ zWL := zWL_of (ztb_3 (i := 29) (by decide +kernel)) rfl
theorem tw_3_28 : Cond.instanceMethod yX4_dropFirst ∈ zWL := zWL_of (ztb_3 (i := 28) (by decide +kernel)) rfl
theorem tw_2_32 : Cond.methodLink "HailCellar$Store" 60 yX4_openRow ∈ zWL := zWL_of (ztb_2 (i := 32) (by decide +kernel)) rfl
theorem tw_2_45 : Cond.methodLink "HailCellar$Store" 63 yX4_put ∈ zWL := zWL_of (ztb_2 (i := 45) (by decide +kernel)) rfl
theorem tw_3_31 : Cond.methodLink "HailCellar$Store" 67 yX4_putSheet ∈ zWL := zWL_of (ztb_3 (i := 31) (by decide +kernel)) rfl
theorem tw_3_34 : Cond.code yX4_putSheet cX4_putSheet 5 none ∈ zWL := zWL_of (ztb_3 (i := 34) rfl) rfl
theorem tw_3_33 : Cond.selects "HailCellar$Sheet" yX4_putSheet yX4_putSheet ∈ zWL := zWL_of (ztb_3 (i := 33) (by decide +kernel)) rfl
theorem tw_3_32 : Cond.instanceMethod yX4_putSheet ∈ zWL := zWL_of (ztb_3 (i := 32) (by decide +kernel)) rfl
theorem tw_1_45 : Cond.fieldLink "HailCellar$Store" 71 "HailCellar$Sheet" "rows" "I" ∈ zWL := zWL_of (ztb_1 (i := 45) (by decide +kernel)) rfl
theorem tw_3_133 : Cond.methodLink "HailCellar$Store" 74 yX4_holds ∈ zWL := zWL_of (ztb_3 (i := 133) (by decide +kernel)) rfl
theorem tw_2_53 : Cond.code yX4_holds cX4_holds 2 (some .boolean) ∈ zWL := zWL_of (ztb_2 (i := 53) rfl) rfl
theorem tw_2_52 : Cond.selects "HailCellar$Sheet" yX4_holds yX4_holds ∈ zWL := zWL_of (ztb_2 (i := 52) (by decide +kernel)) rfl
theorem tw_2_51 : Cond.instanceMethod yX4_holds ∈ zWL := zWL_of (ztb_2 (i := 51) (by decide +kernel)) rfl
theorem tw_2_62 : Cond.methodLink "HailCellar$Store" 78 yX4_get ∈ zWL := zWL_of (ztb_2 (i := 62) (by decide +kernel)) rfl
theorem tw_3_134 : Cond.methodLink "HailCellar$Store" 82 yX4_getSheet ∈ zWL := zWL_of (ztb_3 (i := 134) (by decide +kernel)) rfl
theorem tw_3_137 : Cond.code yX4_getSheet cX4_getSheet 5 none ∈ zWL := zWL_of (ztb_3 (i := 137) rfl) rfl
theorem tw_3_136 : Cond.selects "HailCellar$Sheet" yX4_getSheet yX4_getSheet ∈ zWL := zWL_of (ztb_3 (i := 136) (by decide +kernel)) rfl
theorem tw_3_135 : Cond.instanceMethod yX4_getSheet ∈ zWL := zWL_of (ztb_3 (i := 135) (by decide +kernel)) rfl
theorem tw_2_56 : Cond.code yX7_isRings cX7_isRings 1 (some .boolean) ∈ zWL := zWL_of (ztb_2 (i := 56) rfl) rfl
theorem tw_2_55 : Cond.static yX7_isRings ∈ zWL := zWL_of (ztb_2 (i := 55) (by decide +kernel)) rfl
theorem tw_3_44 : Cond.methodLink "HailCellar$Store" 88 Lib.Math.max.name ∈ zWL := zWL_of (ztb_3 (i := 44) (by decide +kernel)) rfl
theorem tw_3_45 : Cond.methodLink "HailCellar$Store" 93 yX6_stonesOf ∈ zWL := zWL_of (ztb_3 (i := 45) (by decide +kernel)) rfl
theorem tw_3_40 : Cond.methodLink "HailCellar$Store" 96 yX6_stonesFrom ∈ zWL := zWL_of (ztb_3 (i := 40) (by decide +kernel)) rfl
theorem tw_2_239 : Cond.methodLink "HailCellar$Store" 99 yX2_meltBy ∈ zWL := zWL_of (ztb_2 (i := 239) (by decide +kernel)) rfl
theorem tw_3_58 : Cond.methodLink "HailCellar$Store" 105 yX2_costOfDoor ∈ zWL := zWL_of (ztb_3 (i := 58) (by decide +kernel)) rfl
theorem tw_3_54 : Cond.methodLink "HailCellar$Store" 109 yX6_doorCost ∈ zWL := zWL_of (ztb_3 (i := 54) (by decide +kernel)) rfl
theorem tw_3_2 : Cond.methodLink "HailCellar$Store" 112 yX6_loseRings ∈ zWL := zWL_of (ztb_3 (i := 2) (by decide +kernel)) rfl
theorem tw_3_5 : Cond.code yX6_loseRings cX6_loseRings 4 none ∈ zWL := zWL_of (ztb_3 (i := 5) rfl) rfl
theorem tw_0_15 : Cond.selects RX6 yX6_loseRings yX6_loseRings ∈ zWL := zWL_of (ztb_0 (i := 15) (by decide +kernel)) rfl
theorem tw_3_4 : Cond.instanceMethod yX6_loseRings ∈ zWL := zWL_of (ztb_3 (i := 4) (by decide +kernel)) rfl
theorem tw_2_235 : Cond.methodLink "HailCellar$Store" 115 yX6_meltIn ∈ zWL := zWL_of (ztb_2 (i := 235) (by decide +kernel)) rfl
theorem tw_3_93 : Cond.methodLink "HailCellar$Store" 118 yX2_farBy ∈ zWL := zWL_of (ztb_3 (i := 93) (by decide +kernel)) rfl
theorem tw_3_101 : Cond.methodLink "HailCellar$Store" 122 yX2_hitsBy ∈ zWL := zWL_of (ztb_3 (i := 101) (by decide +kernel)) rfl
theorem tw_3_117 : Cond.methodLink "HailCellar$Store" 125 yX6_needsYet ∈ zWL := zWL_of (ztb_3 (i := 117) (by decide +kernel)) rfl
theorem tw_3_113 : Cond.methodLink "HailCellar$Store" 128 yX6_isTurned ∈ zWL := zWL_of (ztb_3 (i := 113) (by decide +kernel)) rfl
theorem tw_3_116 : Cond.code yX6_isTurned cX6_isTurned 2 (some .boolean) ∈ zWL := zWL_of (ztb_3 (i := 116) rfl) rfl
theorem tw_3_115 : Cond.selects "HailCellar$Store" yX6_isTurned yX6_isTurned ∈ zWL := zWL_of (ztb_3 (i := 115) (by decide +kernel)) rfl
theorem tw_3_114 : Cond.instanceMethod yX6_isTurned ∈ zWL := zWL_of (ztb_3 (i := 114) (by decide +kernel)) rfl
theorem tw_3_88 : Cond.methodLink "HailCellar$Store" 131 yX6_isHere ∈ zWL := zWL_of (ztb_3 (i := 88) (by decide +kernel)) rfl
theorem tw_3_69 : Cond.code yX6_isHere cX6_isHere 2 (some .boolean) ∈ zWL := zWL_of (ztb_3 (i := 69) rfl) rfl
theorem tw_3_68 : Cond.selects "HailCellar$Store" yX6_isHere yX6_isHere ∈ zWL := zWL_of (ztb_3 (i := 68) (by decide +kernel)) rfl
theorem tw_3_67 : Cond.instanceMethod yX6_isHere ∈ zWL := zWL_of (ztb_3 (i := 67) (by decide +kernel)) rfl
theorem tw_3_89 : Cond.methodLink "HailCellar$Store" 134 yX6_throwFar ∈ zWL := zWL_of (ztb_3 (i := 89) (by decide +kernel)) rfl
theorem tw_3_84 : Cond.methodLink "HailCellar$Store" 137 yX6_reaches ∈ zWL := zWL_of (ztb_3 (i := 84) (by decide +kernel)) rfl
theorem tw_3_97 : Cond.methodLink "HailCellar$Store" 141 yX6_throwHits ∈ zWL := zWL_of (ztb_3 (i := 97) (by decide +kernel)) rfl
theorem tw_3_78 : Cond.methodLink "HailCellar$Store" 144 yX6_putStones ∈ zWL := zWL_of (ztb_3 (i := 78) (by decide +kernel)) rfl
theorem tw_3_79 : Cond.methodLink "HailCellar$Store" 147 yX6_openDoor ∈ zWL := zWL_of (ztb_3 (i := 79) (by decide +kernel)) rfl
theorem tw_3_53 : Cond.code yX6_openDoor cX6_openDoor 2 none ∈ zWL := zWL_of (ztb_3 (i := 53) rfl) rfl
theorem tw_3_52 : Cond.selects "HailCellar$Store" yX6_openDoor yX6_openDoor ∈ zWL := zWL_of (ztb_3 (i := 52) (by decide +kernel)) rfl
theorem tw_3_51 : Cond.instanceMethod yX6_openDoor ∈ zWL := zWL_of (ztb_3 (i := 51) (by decide +kernel)) rfl
theorem tw_3_80 : Cond.methodLink "HailCellar$Store" 151 yX6_hitsAt ∈ zWL := zWL_of (ztb_3 (i := 80) (by decide +kernel)) rfl
theorem tw_3_104 : Cond.methodLink "HailCellar$Store" 154 Lib.Math.min.name ∈ zWL := zWL_of (ztb_3 (i := 104) (by decide +kernel)) rfl
theorem tw_1_21 : Cond.methodLink "HailCellar" 1 Lib.objectInit ∈ zWL := zWL_of (ztb_1 (i := 21) (by decide +kernel)) rfl
theorem tw_1_24 : Cond.classLink "HailCellar" 7 "HailCellar$Store" ∈ zWL := zWL_of (ztb_1 (i := 24) (by decide +kernel)) rfl
theorem tw_1_25 : Cond.instantiable "HailCellar$Store" 9 ∈ zWL := zWL_of (ztb_1 (i := 25) (by decide +kernel)) rfl
theorem tw_1_28 : Cond.code yX6_init cX6_init 1 none ∈ zWL := zWL_of (ztb_1 (i := 28) rfl) rfl
theorem tw_1_27 : Cond.instanceMethod yX6_init ∈ zWL := zWL_of (ztb_1 (i := 27) (by decide +kernel)) rfl
theorem tw_1_186 : Cond.fieldLink "HailCellar" 10 "HailCellar" "now" "LHailCellar$Store;" ∈ zWL := zWL_of (ztb_1 (i := 186) (by decide +kernel)) rfl
theorem tw_1_187 : Cond.fieldLink "HailCellar" 16 "HailCellar" "firstImage" "LHailCellar$Store;" ∈ zWL := zWL_of (ztb_1 (i := 187) (by decide +kernel)) rfl
theorem tw_1_188 : Cond.fieldLink "HailCellar" 19 "HailCellar" "secondImage" "LHailCellar$Store;" ∈ zWL := zWL_of (ztb_1 (i := 188) (by decide +kernel)) rfl
theorem tw_1_189 : Cond.fieldLink "HailCellar" 22 "HailCellar" "draft" "LHailCellar$Store;" ∈ zWL := zWL_of (ztb_1 (i := 189) (by decide +kernel)) rfl
theorem tw_1_109 : Cond.classLink "HailCellar" 25 "HailCellar$Reader" ∈ zWL := zWL_of (ztb_1 (i := 109) (by decide +kernel)) rfl
theorem tw_1_110 : Cond.instantiable "HailCellar$Reader" 7 ∈ zWL := zWL_of (ztb_1 (i := 110) (by decide +kernel)) rfl
theorem tw_1_111 : Cond.methodLink "HailCellar" 27 yX3_init ∈ zWL := zWL_of (ztb_1 (i := 111) (by decide +kernel)) rfl
theorem tw_1_113 : Cond.code yX3_init cX3_init 2 none ∈ zWL := zWL_of (ztb_1 (i := 113) rfl) rfl
theorem tw_1_112 : Cond.instanceMethod yX3_init ∈ zWL := zWL_of (ztb_1 (i := 112) (by decide +kernel)) rfl
theorem tw_1_190 : Cond.fieldLink "HailCellar" 30 "HailCellar" "reader" "LHailCellar$Reader;" ∈ zWL := zWL_of (ztb_1 (i := 190) (by decide +kernel)) rfl
theorem tw_1_138 : Cond.classLink "HailCellar" 34 "HailCellar$Forecast" ∈ zWL := zWL_of (ztb_1 (i := 138) (by decide +kernel)) rfl
theorem tw_1_139 : Cond.instantiable "HailCellar$Forecast" 1 ∈ zWL := zWL_of (ztb_1 (i := 139) (by decide +kernel)) rfl
theorem tw_1_140 : Cond.methodLink "HailCellar" 36 yX1_init ∈ zWL := zWL_of (ztb_1 (i := 140) (by decide +kernel)) rfl
theorem tw_1_142 : Cond.code yX1_init cX1_init 2 none ∈ zWL := zWL_of (ztb_1 (i := 142) rfl) rfl
theorem tw_1_141 : Cond.instanceMethod yX1_init ∈ zWL := zWL_of (ztb_1 (i := 141) (by decide +kernel)) rfl
theorem tw_1_191 : Cond.fieldLink "HailCellar" 37 "HailCellar" "forecast" "LHailCellar$Forecast;" ∈ zWL := zWL_of (ztb_1 (i := 191) (by decide +kernel)) rfl
theorem tw_1_148 : Cond.classLink "HailCellar" 41 "HailCellar$Battle" ∈ zWL := zWL_of (ztb_1 (i := 148) (by decide +kernel)) rfl
theorem tw_1_149 : Cond.instantiable "HailCellar$Battle" 6 ∈ zWL := zWL_of (ztb_1 (i := 149) (by decide +kernel)) rfl
theorem tw_1_150 : Cond.methodLink "HailCellar" 43 yX0_init ∈ zWL := zWL_of (ztb_1 (i := 150) (by decide +kernel)) rfl
theorem tw_1_152 : Cond.code yX0_init cX0_init 2 none ∈ zWL := zWL_of (ztb_1 (i := 152) rfl) rfl
theorem tw_1_151 : Cond.instanceMethod yX0_init ∈ zWL := zWL_of (ztb_1 (i := 151) (by decide +kernel)) rfl
theorem tw_1_192 : Cond.fieldLink "HailCellar" 44 "HailCellar" "battle" "LHailCellar$Battle;" ∈ zWL := zWL_of (ztb_1 (i := 192) (by decide +kernel)) rfl
theorem tw_1_173 : Cond.classLink "HailCellar" 48 "HailCellar$Sleuth" ∈ zWL := zWL_of (ztb_1 (i := 173) (by decide +kernel)) rfl
theorem tw_1_174 : Cond.instantiable "HailCellar$Sleuth" 2 ∈ zWL := zWL_of (ztb_1 (i := 174) (by decide +kernel)) rfl
theorem tw_1_175 : Cond.methodLink "HailCellar" 50 yX5_init ∈ zWL := zWL_of (ztb_1 (i := 175) (by decide +kernel)) rfl
theorem tw_1_177 : Cond.code yX5_init cX5_init 2 none ∈ zWL := zWL_of (ztb_1 (i := 177) rfl) rfl
theorem tw_1_176 : Cond.instanceMethod yX5_init ∈ zWL := zWL_of (ztb_1 (i := 176) (by decide +kernel)) rfl
theorem tw_1_193 : Cond.fieldLink "HailCellar" 51 "HailCellar" "sleuth" "LHailCellar$Sleuth;" ∈ zWL := zWL_of (ztb_1 (i := 193) (by decide +kernel)) rfl
theorem tw_1_196 : Cond.fieldLink "HailCellar" 55 "HailCellar" "above" "J" ∈ zWL := zWL_of (ztb_1 (i := 196) (by decide +kernel)) rfl
theorem tw_1_197 : Cond.fieldLink "HailCellar" 59 "HailCellar" "below" "J" ∈ zWL := zWL_of (ztb_1 (i := 197) (by decide +kernel)) rfl
theorem tw_1_236 : Cond.methodLink "HailCellar" 62 yX7_within ∈ zWL := zWL_of (ztb_1 (i := 236) (by decide +kernel)) rfl
theorem tw_1_239 : Cond.methodLink "HailCellar" 66 yX7_bad ∈ zWL := zWL_of (ztb_1 (i := 239) (by decide +kernel)) rfl
theorem tw_2_2 : Cond.code yX7_bad cX7_bad 1 (some .int) ∈ zWL := zWL_of (ztb_2 (i := 2) rfl) rfl
theorem tw_0_0 : Cond.selects RX7 yX7_bad yX7_bad ∈ zWL := zWL_of (ztb_0 (i := 0) (by decide +kernel)) rfl
theorem tw_2_1 : Cond.instanceMethod yX7_bad ∈ zWL := zWL_of (ztb_2 (i := 1) (by decide +kernel)) rfl
theorem tw_1_67 : Cond.fieldLink "HailCellar" 70 "HailCellar$Store" "cellars" "LHailCellar$Sheet;" ∈ zWL := zWL_of (ztb_1 (i := 67) (by decide +kernel)) rfl
theorem tw_1_43 : Cond.fieldLink "HailCellar" 74 "HailCellar$Sheet" "rows" "I" ∈ zWL := zWL_of (ztb_1 (i := 43) (by decide +kernel)) rfl
theorem tw_2_7 : Cond.methodLink "HailCellar" 80 yX6_reset ∈ zWL := zWL_of (ztb_2 (i := 7) (by decide +kernel)) rfl
theorem tw_2_19 : Cond.methodLink "HailCellar" 84 yX4_isFull ∈ zWL := zWL_of (ztb_2 (i := 19) (by decide +kernel)) rfl
theorem tw_2_23 : Cond.methodLink "HailCellar" 88 yX7_full ∈ zWL := zWL_of (ztb_2 (i := 23) (by decide +kernel)) rfl
theorem tw_2_26 : Cond.code yX7_full cX7_full 1 (some .int) ∈ zWL := zWL_of (ztb_2 (i := 26) rfl) rfl
theorem tw_0_2 : Cond.selects RX7 yX7_full yX7_full ∈ zWL := zWL_of (ztb_0 (i := 2) (by decide +kernel)) rfl
theorem tw_2_25 : Cond.instanceMethod yX7_full ∈ zWL := zWL_of (ztb_2 (i := 25) (by decide +kernel)) rfl
theorem tw_1_89 : Cond.fieldLink "HailCellar" 91 "HailCellar$Store" "past" "LHailCellar$Sheet;" ∈ zWL := zWL_of (ztb_1 (i := 89) (by decide +kernel)) rfl
theorem tw_2_27 : Cond.methodLink "HailCellar" 94 yX4_empty ∈ zWL := zWL_of (ztb_2 (i := 27) (by decide +kernel)) rfl
theorem tw_2_28 : Cond.methodLink "HailCellar" 97 yX6_addCellar ∈ zWL := zWL_of (ztb_2 (i := 28) (by decide +kernel)) rfl
theorem tw_2_50 : Cond.methodLink "HailCellar" 101 yX4_holds ∈ zWL := zWL_of (ztb_2 (i := 50) (by decide +kernel)) rfl
theorem tw_2_54 : Cond.methodLink "HailCellar" 105 yX7_isRings ∈ zWL := zWL_of (ztb_2 (i := 54) (by decide +kernel)) rfl
theorem tw_2_57 : Cond.methodLink "HailCellar" 108 yX6_stonesOf ∈ zWL := zWL_of (ztb_2 (i := 57) (by decide +kernel)) rfl
theorem tw_2_66 : Cond.methodLink "HailCellar" 111 Lib.Math.min.name ∈ zWL := zWL_of (ztb_2 (i := 66) (by decide +kernel)) rfl
theorem tw_2_69 : Cond.methodLink "HailCellar" 116 yX6_putStones ∈ zWL := zWL_of (ztb_2 (i := 69) (by decide +kernel)) rfl
theorem tw_2_77 : Cond.methodLink "HailCellar" 120 yX4_get ∈ zWL := zWL_of (ztb_2 (i := 77) (by decide +kernel)) rfl
theorem tw_2_78 : Cond.methodLink "HailCellar" 123 yX4_put ∈ zWL := zWL_of (ztb_2 (i := 78) (by decide +kernel)) rfl
theorem tw_1_71 : Cond.fieldLink "HailCellar" 126 "HailCellar$Store" "slingers" "LHailCellar$Sheet;" ∈ zWL := zWL_of (ztb_1 (i := 71) (by decide +kernel)) rfl
theorem tw_2_83 : Cond.methodLink "HailCellar" 129 yX6_addSlinger ∈ zWL := zWL_of (ztb_2 (i := 83) (by decide +kernel)) rfl
theorem tw_1_76 : Cond.fieldLink "HailCellar" 132 "HailCellar$Store" "clouds" "LHailCellar$Sheet;" ∈ zWL := zWL_of (ztb_1 (i := 76) (by decide +kernel)) rfl
theorem tw_2_91 : Cond.methodLink "HailCellar" 135 yX6_addCloud ∈ zWL := zWL_of (ztb_2 (i := 91) (by decide +kernel)) rfl
theorem tw_2_99 : Cond.methodLink "HailCellar" 138 yX3_isTextFull ∈ zWL := zWL_of (ztb_2 (i := 99) (by decide +kernel)) rfl
theorem tw_2_102 : Cond.code yX3_isTextFull cX3_isTextFull 1 (some .boolean) ∈ zWL := zWL_of (ztb_2 (i := 102) rfl) rfl
theorem tw_2_101 : Cond.selects "HailCellar$Reader" yX3_isTextFull yX3_isTextFull ∈ zWL := zWL_of (ztb_2 (i := 101) (by decide +kernel)) rfl
theorem tw_2_100 : Cond.instanceMethod yX3_isTextFull ∈ zWL := zWL_of (ztb_2 (i := 100) (by decide +kernel)) rfl
theorem tw_2_103 : Cond.methodLink "HailCellar" 141 yX3_append ∈ zWL := zWL_of (ztb_2 (i := 103) (by decide +kernel)) rfl
theorem tw_2_106 : Cond.code yX3_append cX3_append 2 (some .int) ∈ zWL := zWL_of (ztb_2 (i := 106) rfl) rfl
theorem tw_2_105 : Cond.selects "HailCellar$Reader" yX3_append yX3_append ∈ zWL := zWL_of (ztb_2 (i := 105) (by decide +kernel)) rfl
theorem tw_2_104 : Cond.instanceMethod yX3_append ∈ zWL := zWL_of (ztb_2 (i := 104) (by decide +kernel)) rfl
theorem tw_2_111 : Cond.methodLink "HailCellar" 145 yX3_dropText ∈ zWL := zWL_of (ztb_2 (i := 111) (by decide +kernel)) rfl
theorem tw_2_114 : Cond.code yX3_dropText cX3_dropText 2 (some .int) ∈ zWL := zWL_of (ztb_2 (i := 114) rfl) rfl
theorem tw_2_113 : Cond.selects "HailCellar$Reader" yX3_dropText yX3_dropText ∈ zWL := zWL_of (ztb_2 (i := 113) (by decide +kernel)) rfl
theorem tw_2_112 : Cond.instanceMethod yX3_dropText ∈ zWL := zWL_of (ztb_2 (i := 112) (by decide +kernel)) rfl
theorem tw_2_119 : Cond.methodLink "HailCellar" 148 yX3_readStore ∈ zWL := zWL_of (ztb_2 (i := 119) (by decide +kernel)) rfl
theorem tw_2_122 : Cond.code yX3_readStore cX3_readStore 3 (some .int) ∈ zWL := zWL_of (ztb_2 (i := 122) rfl) rfl
theorem tw_2_121 : Cond.selects "HailCellar$Reader" yX3_readStore yX3_readStore ∈ zWL := zWL_of (ztb_2 (i := 121) (by decide +kernel)) rfl
theorem tw_2_120 : Cond.instanceMethod yX3_readStore ∈ zWL := zWL_of (ztb_2 (i := 120) (by decide +kernel)) rfl
theorem tw_3_6 : Cond.methodLink "HailCellar" 151 yX6_copyFrom ∈ zWL := zWL_of (ztb_3 (i := 6) (by decide +kernel)) rfl
theorem tw_3_9 : Cond.code yX6_copyFrom cX6_copyFrom 2 none ∈ zWL := zWL_of (ztb_3 (i := 9) rfl) rfl
theorem tw_3_8 : Cond.selects "HailCellar$Store" yX6_copyFrom yX6_copyFrom ∈ zWL := zWL_of (ztb_3 (i := 8) (by decide +kernel)) rfl
theorem tw_3_7 : Cond.instanceMethod yX6_copyFrom ∈ zWL := zWL_of (ztb_3 (i := 7) (by decide +kernel)) rfl
theorem tw_3_22 : Cond.methodLink "HailCellar" 154 yX6_remember ∈ zWL := zWL_of (ztb_3 (i := 22) (by decide +kernel)) rfl
theorem tw_3_25 : Cond.code yX6_remember cX6_remember 2 none ∈ zWL := zWL_of (ztb_3 (i := 25) rfl) rfl
theorem tw_3_24 : Cond.selects "HailCellar$Store" yX6_remember yX6_remember ∈ zWL := zWL_of (ztb_3 (i := 24) (by decide +kernel)) rfl
theorem tw_3_23 : Cond.instanceMethod yX6_remember ∈ zWL := zWL_of (ztb_3 (i := 23) (by decide +kernel)) rfl
theorem tw_3_35 : Cond.methodLink "HailCellar" 157 yX6_passWeeks ∈ zWL := zWL_of (ztb_3 (i := 35) (by decide +kernel)) rfl
theorem tw_3_36 : Cond.methodLink "HailCellar" 160 yX6_allStones ∈ zWL := zWL_of (ztb_3 (i := 36) (by decide +kernel)) rfl
theorem tw_3_39 : Cond.code yX6_allStones cX6_allStones 3 (some .int) ∈ zWL := zWL_of (ztb_3 (i := 39) rfl) rfl
theorem tw_3_38 : Cond.selects "HailCellar$Store" yX6_allStones yX6_allStones ∈ zWL := zWL_of (ztb_3 (i := 38) (by decide +kernel)) rfl
theorem tw_3_37 : Cond.instanceMethod yX6_allStones ∈ zWL := zWL_of (ztb_3 (i := 37) (by decide +kernel)) rfl
theorem tw_3_50 : Cond.methodLink "HailCellar" 163 yX6_openDoor ∈ zWL := zWL_of (ztb_3 (i := 50) (by decide +kernel)) rfl
theorem tw_3_61 : Cond.methodLink "HailCellar" 166 yX6_stonesFrom ∈ zWL := zWL_of (ztb_3 (i := 61) (by decide +kernel)) rfl
theorem tw_3_66 : Cond.methodLink "HailCellar" 169 yX6_isHere ∈ zWL := zWL_of (ztb_3 (i := 66) (by decide +kernel)) rfl
theorem tw_3_70 : Cond.methodLink "HailCellar" 172 yX7_no ∈ zWL := zWL_of (ztb_3 (i := 70) (by decide +kernel)) rfl
theorem tw_3_73 : Cond.code yX7_no cX7_no 1 (some .int) ∈ zWL := zWL_of (ztb_3 (i := 73) rfl) rfl
theorem tw_0_16 : Cond.selects RX7 yX7_no yX7_no ∈ zWL := zWL_of (ztb_0 (i := 16) (by decide +kernel)) rfl
theorem tw_3_72 : Cond.instanceMethod yX7_no ∈ zWL := zWL_of (ztb_3 (i := 72) (by decide +kernel)) rfl
theorem tw_3_74 : Cond.methodLink "HailCellar" 175 yX6_throwStone ∈ zWL := zWL_of (ztb_3 (i := 74) (by decide +kernel)) rfl
theorem tw_3_77 : Cond.code yX6_throwStone cX6_throwStone 6 (some .int) ∈ zWL := zWL_of (ztb_3 (i := 77) rfl) rfl
theorem tw_3_76 : Cond.selects "HailCellar$Store" yX6_throwStone yX6_throwStone ∈ zWL := zWL_of (ztb_3 (i := 76) (by decide +kernel)) rfl
theorem tw_3_75 : Cond.instanceMethod yX6_throwStone ∈ zWL := zWL_of (ztb_3 (i := 75) (by decide +kernel)) rfl
theorem tw_3_109 : Cond.methodLink "HailCellar" 179 yX6_passHour ∈ zWL := zWL_of (ztb_3 (i := 109) (by decide +kernel)) rfl
theorem tw_3_112 : Cond.code yX6_passHour cX6_passHour 3 (some .int) ∈ zWL := zWL_of (ztb_3 (i := 112) rfl) rfl
theorem tw_3_111 : Cond.selects "HailCellar$Store" yX6_passHour yX6_passHour ∈ zWL := zWL_of (ztb_3 (i := 111) (by decide +kernel)) rfl
theorem tw_3_110 : Cond.instanceMethod yX6_passHour ∈ zWL := zWL_of (ztb_3 (i := 110) (by decide +kernel)) rfl
theorem tw_1_64 : Cond.fieldLink "HailCellar" 182 "HailCellar$Store" "wind" "I" ∈ zWL := zWL_of (ztb_1 (i := 64) (by decide +kernel)) rfl
theorem tw_3_129 : Cond.methodLink "HailCellar" 185 yX6_goBack ∈ zWL := zWL_of (ztb_3 (i := 129) (by decide +kernel)) rfl
theorem tw_3_132 : Cond.code yX6_goBack cX6_goBack 2 none ∈ zWL := zWL_of (ztb_3 (i := 132) rfl) rfl
theorem tw_3_131 : Cond.selects "HailCellar$Store" yX6_goBack yX6_goBack ∈ zWL := zWL_of (ztb_3 (i := 131) (by decide +kernel)) rfl
theorem tw_3_130 : Cond.instanceMethod yX6_goBack ∈ zWL := zWL_of (ztb_3 (i := 130) (by decide +kernel)) rfl
theorem tw_1_60 : Cond.fieldLink "HailCellar" 188 "HailCellar$Store" "week" "I" ∈ zWL := zWL_of (ztb_1 (i := 60) (by decide +kernel)) rfl
theorem tw_3_142 : Cond.methodLink "HailCellar" 191 yX6_doorCost ∈ zWL := zWL_of (ztb_3 (i := 142) (by decide +kernel)) rfl
theorem tw_3_155 : Cond.methodLink "HailCellar" 194 yX6_isTurned ∈ zWL := zWL_of (ztb_3 (i := 155) (by decide +kernel)) rfl
theorem tw_3_160 : Cond.methodLink "HailCellar" 197 yX6_meltIn ∈ zWL := zWL_of (ztb_3 (i := 160) (by decide +kernel)) rfl
theorem tw_3_165 : Cond.methodLink "HailCellar" 200 yX1_leftBehind ∈ zWL := zWL_of (ztb_3 (i := 165) (by decide +kernel)) rfl
theorem tw_3_168 : Cond.code yX1_leftBehind cX1_leftBehind 6 (some .int) ∈ zWL := zWL_of (ztb_3 (i := 168) rfl) rfl
theorem tw_3_167 : Cond.selects "HailCellar$Forecast" yX1_leftBehind yX1_leftBehind ∈ zWL := zWL_of (ztb_3 (i := 167) (by decide +kernel)) rfl
theorem tw_3_166 : Cond.instanceMethod yX1_leftBehind ∈ zWL := zWL_of (ztb_3 (i := 166) (by decide +kernel)) rfl
theorem tw_3_186 : Cond.methodLink "HailCellar" 203 yX1_weeksKept ∈ zWL := zWL_of (ztb_3 (i := 186) (by decide +kernel)) rfl
theorem tw_3_189 : Cond.code yX1_weeksKept cX1_weeksKept 5 (some .int) ∈ zWL := zWL_of (ztb_3 (i := 189) rfl) rfl
theorem tw_3_188 : Cond.selects "HailCellar$Forecast" yX1_weeksKept yX1_weeksKept ∈ zWL := zWL_of (ztb_3 (i := 188) (by decide +kernel)) rfl
theorem tw_3_187 : Cond.instanceMethod yX1_weeksKept ∈ zWL := zWL_of (ztb_3 (i := 187) (by decide +kernel)) rfl
theorem tw_3_195 : Cond.methodLink "HailCellar" 206 yX1_leastStraw ∈ zWL := zWL_of (ztb_3 (i := 195) (by decide +kernel)) rfl
theorem tw_3_198 : Cond.code yX1_leastStraw cX1_leastStraw 5 (some .int) ∈ zWL := zWL_of (ztb_3 (i := 198) rfl) rfl
theorem tw_3_197 : Cond.selects "HailCellar$Forecast" yX1_leastStraw yX1_leastStraw ∈ zWL := zWL_of (ztb_3 (i := 197) (by decide +kernel)) rfl
theorem tw_3_196 : Cond.instanceMethod yX1_leastStraw ∈ zWL := zWL_of (ztb_3 (i := 196) (by decide +kernel)) rfl
theorem tw_3_203 : Cond.methodLink "HailCellar" 210 yX6_throwFar ∈ zWL := zWL_of (ztb_3 (i := 203) (by decide +kernel)) rfl
theorem tw_3_204 : Cond.methodLink "HailCellar" 213 yX6_throwHits ∈ zWL := zWL_of (ztb_3 (i := 204) (by decide +kernel)) rfl
theorem tw_3_209 : Cond.methodLink "HailCellar" 216 yX0_reachingRings ∈ zWL := zWL_of (ztb_3 (i := 209) (by decide +kernel)) rfl
theorem tw_3_212 : Cond.code yX0_reachingRings cX0_reachingRings 5 (some .int) ∈ zWL := zWL_of (ztb_3 (i := 212) rfl) rfl
theorem tw_3_211 : Cond.selects "HailCellar$Battle" yX0_reachingRings yX0_reachingRings ∈ zWL := zWL_of (ztb_3 (i := 211) (by decide +kernel)) rfl
theorem tw_3_210 : Cond.instanceMethod yX0_reachingRings ∈ zWL := zWL_of (ztb_3 (i := 210) (by decide +kernel)) rfl
theorem tw_3_218 : Cond.methodLink "HailCellar" 219 yX0_priceToTurn ∈ zWL := zWL_of (ztb_3 (i := 218) (by decide +kernel)) rfl
theorem tw_3_221 : Cond.code yX0_priceToTurn cX0_priceToTurn 9 (some .int) ∈ zWL := zWL_of (ztb_3 (i := 221) rfl) rfl
theorem tw_3_220 : Cond.selects "HailCellar$Battle" yX0_priceToTurn yX0_priceToTurn ∈ zWL := zWL_of (ztb_3 (i := 220) (by decide +kernel)) rfl
theorem tw_3_219 : Cond.instanceMethod yX0_priceToTurn ∈ zWL := zWL_of (ztb_3 (i := 219) (by decide +kernel)) rfl
theorem tw_2_3 : Cond.methodLink "HailCellar" 222 yX7_refusedAsBad ∈ zWL := zWL_of (ztb_2 (i := 3) (by decide +kernel)) rfl
theorem tw_2_6 : Cond.code yX7_refusedAsBad cX7_refusedAsBad 2 (some .int) ∈ zWL := zWL_of (ztb_2 (i := 6) rfl) rfl
theorem tw_0_1 : Cond.selects RX7 yX7_refusedAsBad yX7_refusedAsBad ∈ zWL := zWL_of (ztb_0 (i := 1) (by decide +kernel)) rfl
theorem tw_2_5 : Cond.instanceMethod yX7_refusedAsBad ∈ zWL := zWL_of (ztb_2 (i := 5) (by decide +kernel)) rfl
theorem tw_3_236 : Cond.methodLink "HailCellar" 225 yX0_mostTurned ∈ zWL := zWL_of (ztb_3 (i := 236) (by decide +kernel)) rfl
theorem tw_3_239 : Cond.code yX0_mostTurned cX0_mostTurned 7 (some .int) ∈ zWL := zWL_of (ztb_3 (i := 239) rfl) rfl
theorem tw_3_238 : Cond.selects "HailCellar$Battle" yX0_mostTurned yX0_mostTurned ∈ zWL := zWL_of (ztb_3 (i := 238) (by decide +kernel)) rfl
theorem tw_3_237 : Cond.instanceMethod yX0_mostTurned ∈ zWL := zWL_of (ztb_3 (i := 237) (by decide +kernel)) rfl
theorem tw_4_36 : Cond.methodLink "HailCellar" 228 yX0_givenCloud ∈ zWL := zWL_of (ztb_4 (i := 36) (by decide +kernel)) rfl
theorem tw_4_39 : Cond.code yX0_givenCloud cX0_givenCloud 2 (some .int) ∈ zWL := zWL_of (ztb_4 (i := 39) rfl) rfl
theorem tw_4_38 : Cond.selects "HailCellar$Battle" yX0_givenCloud yX0_givenCloud ∈ zWL := zWL_of (ztb_4 (i := 38) (by decide +kernel)) rfl
theorem tw_4_37 : Cond.instanceMethod yX0_givenCloud ∈ zWL := zWL_of (ztb_4 (i := 37) (by decide +kernel)) rfl
theorem tw_4_44 : Cond.methodLink "HailCellar" 231 yX1_cheapestDoor ∈ zWL := zWL_of (ztb_4 (i := 44) (by decide +kernel)) rfl
theorem tw_4_47 : Cond.code yX1_cheapestDoor cX1_cheapestDoor 4 (some .int) ∈ zWL := zWL_of (ztb_4 (i := 47) rfl) rfl
theorem tw_4_46 : Cond.selects "HailCellar$Forecast" yX1_cheapestDoor yX1_cheapestDoor ∈ zWL := zWL_of (ztb_4 (i := 46) (by decide +kernel)) rfl
theorem tw_4_45 : Cond.instanceMethod yX1_cheapestDoor ∈ zWL := zWL_of (ztb_4 (i := 45) (by decide +kernel)) rfl
theorem tw_4_53 : Cond.methodLink "HailCellar" 234 yX1_lostByDoor ∈ zWL := zWL_of (ztb_4 (i := 53) (by decide +kernel)) rfl
theorem tw_1_81 : Cond.fieldLink "HailCellar" 237 "HailCellar$Store" "ringsTold" "LHailCellar$Sheet;" ∈ zWL := zWL_of (ztb_1 (i := 81) (by decide +kernel)) rfl
theorem tw_4_58 : Cond.methodLink "HailCellar" 240 yX4_addRow ∈ zWL := zWL_of (ztb_4 (i := 58) (by decide +kernel)) rfl
theorem tw_4_61 : Cond.code yX4_addRow cX4_addRow 7 (some .int) ∈ zWL := zWL_of (ztb_4 (i := 61) rfl) rfl
theorem tw_4_60 : Cond.selects "HailCellar$Sheet" yX4_addRow yX4_addRow ∈ zWL := zWL_of (ztb_4 (i := 60) (by decide +kernel)) rfl
theorem tw_4_59 : Cond.instanceMethod yX4_addRow ∈ zWL := zWL_of (ztb_4 (i := 59) (by decide +kernel)) rfl
theorem tw_4_67 : Cond.methodLink "HailCellar" 244 yX5_doorsBy ∈ zWL := zWL_of (ztb_4 (i := 67) (by decide +kernel)) rfl
theorem tw_4_79 : Cond.methodLink "HailCellar" 247 yX5_doorsByAll ∈ zWL := zWL_of (ztb_4 (i := 79) (by decide +kernel)) rfl
theorem tw_4_82 : Cond.code yX5_doorsByAll cX5_doorsByAll 4 (some .int) ∈ zWL := zWL_of (ztb_4 (i := 82) rfl) rfl
theorem tw_4_81 : Cond.selects "HailCellar$Sleuth" yX5_doorsByAll yX5_doorsByAll ∈ zWL := zWL_of (ztb_4 (i := 81) (by decide +kernel)) rfl
theorem tw_4_80 : Cond.instanceMethod yX5_doorsByAll ∈ zWL := zWL_of (ztb_4 (i := 80) (by decide +kernel)) rfl
theorem tw_1_84 : Cond.fieldLink "HailCellar" 250 "HailCellar$Store" "notes" "LHailCellar$Sheet;" ∈ zWL := zWL_of (ztb_1 (i := 84) (by decide +kernel)) rfl
theorem tw_1_87 : Cond.fieldLink "HailCellar" 253 "HailCellar$Store" "thrown" "LHailCellar$Sheet;" ∈ zWL := zWL_of (ztb_1 (i := 87) (by decide +kernel)) rfl
theorem tw_4_100 : Cond.methodLink "HailCellar" 256 yX5_kindsOfCellar ∈ zWL := zWL_of (ztb_4 (i := 100) (by decide +kernel)) rfl
theorem tw_4_114 : Cond.methodLink "HailCellar" 259 yX5_weekToWatch ∈ zWL := zWL_of (ztb_4 (i := 114) (by decide +kernel)) rfl
theorem tw_4_117 : Cond.code yX5_weekToWatch cX5_weekToWatch 8 (some .int) ∈ zWL := zWL_of (ztb_4 (i := 117) rfl) rfl
theorem tw_4_116 : Cond.selects "HailCellar$Sleuth" yX5_weekToWatch yX5_weekToWatch ∈ zWL := zWL_of (ztb_4 (i := 116) (by decide +kernel)) rfl
theorem tw_4_115 : Cond.instanceMethod yX5_weekToWatch ∈ zWL := zWL_of (ztb_4 (i := 115) (by decide +kernel)) rfl
theorem tw_4_130 : Cond.methodLink "HailCellar" 262 yX5_kindsOfSlinger ∈ zWL := zWL_of (ztb_4 (i := 130) (by decide +kernel)) rfl
theorem tw_4_144 : Cond.methodLink "HailCellar" 265 yX5_throwToAsk ∈ zWL := zWL_of (ztb_4 (i := 144) (by decide +kernel)) rfl
theorem tw_4_147 : Cond.code yX5_throwToAsk cX5_throwToAsk 10 (some .int) ∈ zWL := zWL_of (ztb_4 (i := 147) rfl) rfl
theorem tw_4_146 : Cond.selects "HailCellar$Sleuth" yX5_throwToAsk yX5_throwToAsk ∈ zWL := zWL_of (ztb_4 (i := 146) (by decide +kernel)) rfl
theorem tw_4_145 : Cond.instanceMethod yX5_throwToAsk ∈ zWL := zWL_of (ztb_4 (i := 145) (by decide +kernel)) rfl
theorem tw_4_153 : Cond.methodLink "HailCellar" 268 yX0_pairsThatRest ∈ zWL := zWL_of (ztb_4 (i := 153) (by decide +kernel)) rfl
theorem tw_4_156 : Cond.code yX0_pairsThatRest cX0_pairsThatRest 12 (some .int) ∈ zWL := zWL_of (ztb_4 (i := 156) rfl) rfl
theorem tw_4_155 : Cond.selects "HailCellar$Battle" yX0_pairsThatRest yX0_pairsThatRest ∈ zWL := zWL_of (ztb_4 (i := 155) (by decide +kernel)) rfl
theorem tw_4_154 : Cond.instanceMethod yX0_pairsThatRest ∈ zWL := zWL_of (ztb_4 (i := 154) (by decide +kernel)) rfl
theorem tw_4_167 : Cond.methodLink "HailCellar" 271 yX6_hitsAt ∈ zWL := zWL_of (ztb_4 (i := 167) (by decide +kernel)) rfl
theorem tw_4_168 : Cond.methodLink "HailCellar" 274 yX7_keepFraction ∈ zWL := zWL_of (ztb_4 (i := 168) (by decide +kernel)) rfl
theorem tw_4_171 : Cond.code yX7_keepFraction cX7_keepFraction 7 none ∈ zWL := zWL_of (ztb_4 (i := 171) rfl) rfl
theorem tw_0_30 : Cond.selects RX7 yX7_keepFraction yX7_keepFraction ∈ zWL := zWL_of (ztb_0 (i := 30) (by decide +kernel)) rfl
theorem tw_4_170 : Cond.instanceMethod yX7_keepFraction ∈ zWL := zWL_of (ztb_4 (i := 170) (by decide +kernel)) rfl
theorem tw_4_176 : Cond.constant "HailCellar" 278 (Int32.ofInt (999999)) ∈ zWL := zWL_of (ztb_4 (i := 176) (by decide +kernel)) rfl
theorem tw_4_177 : Cond.methodLink "HailCellar" 279 yX1_leftBySeed ∈ zWL := zWL_of (ztb_4 (i := 177) (by decide +kernel)) rfl
theorem tw_4_180 : Cond.code yX1_leftBySeed cX1_leftBySeed 5 (some .int) ∈ zWL := zWL_of (ztb_4 (i := 180) rfl) rfl
theorem tw_4_179 : Cond.selects "HailCellar$Forecast" yX1_leftBySeed yX1_leftBySeed ∈ zWL := zWL_of (ztb_4 (i := 179) (by decide +kernel)) rfl
theorem tw_4_178 : Cond.instanceMethod yX1_leftBySeed ∈ zWL := zWL_of (ztb_4 (i := 178) (by decide +kernel)) rfl
theorem tw_1_194 : Cond.fieldLink "HailCellar" 282 "HailCellar" "firstKept" "Z" ∈ zWL := zWL_of (ztb_1 (i := 194) (by decide +kernel)) rfl
theorem tw_1_195 : Cond.fieldLink "HailCellar" 286 "HailCellar" "secondKept" "Z" ∈ zWL := zWL_of (ztb_1 (i := 195) (by decide +kernel)) rfl
theorem tw_1_198 : Cond.fieldLink "HailCellar" 289 "HailCellar" "bads" "I" ∈ zWL := zWL_of (ztb_1 (i := 198) (by decide +kernel)) rfl
theorem tw_1_199 : Cond.fieldLink "HailCellar" 292 "HailCellar" "noes" "I" ∈ zWL := zWL_of (ztb_1 (i := 199) (by decide +kernel)) rfl
theorem tw_1_200 : Cond.fieldLink "HailCellar" 295 "HailCellar" "fulls" "I" ∈ zWL := zWL_of (ztb_1 (i := 200) (by decide +kernel)) rfl
theorem tw_4_210 : Cond.methodLink "HailCellar" 298 yX7_amount ∈ zWL := zWL_of (ztb_4 (i := 210) (by decide +kernel)) rfl
theorem tw_4_213 : Cond.code yX7_amount cX7_amount 2 (some .int) ∈ zWL := zWL_of (ztb_4 (i := 213) rfl) rfl
theorem tw_0_32 : Cond.selects RX7 yX7_amount yX7_amount ∈ zWL := zWL_of (ztb_0 (i := 32) (by decide +kernel)) rfl
theorem tw_4_212 : Cond.instanceMethod yX7_amount ∈ zWL := zWL_of (ztb_4 (i := 212) (by decide +kernel)) rfl
theorem tw_4_222 : Cond.constantLong "HailCellar" 301 (Int64.ofInt (1471)) ∈ zWL := zWL_of (ztb_4 (i := 222) (by decide +kernel)) rfl
theorem tw_4_223 : Cond.constantLong "HailCellar" 303 (Int64.ofInt (31)) ∈ zWL := zWL_of (ztb_4 (i := 223) (by decide +kernel)) rfl
theorem tw_4_224 : Cond.methodLink "HailCellar" 305 yX4_mixInto ∈ zWL := zWL_of (ztb_4 (i := 224) (by decide +kernel)) rfl
theorem tw_4_227 : Cond.code yX4_mixInto cX4_mixInto 6 (some .long) ∈ zWL := zWL_of (ztb_4 (i := 227) rfl) rfl
theorem tw_4_226 : Cond.selects "HailCellar$Sheet" yX4_mixInto yX4_mixInto ∈ zWL := zWL_of (ztb_4 (i := 226) (by decide +kernel)) rfl
theorem tw_4_225 : Cond.instanceMethod yX4_mixInto ∈ zWL := zWL_of (ztb_4 (i := 225) (by decide +kernel)) rfl
theorem tw_4_214 : Cond.methodLink "HailCellar" 309 yX6_turnedClouds ∈ zWL := zWL_of (ztb_4 (i := 214) (by decide +kernel)) rfl
theorem tw_4_217 : Cond.code yX6_turnedClouds cX6_turnedClouds 3 (some .int) ∈ zWL := zWL_of (ztb_4 (i := 217) rfl) rfl
theorem tw_4_216 : Cond.selects "HailCellar$Store" yX6_turnedClouds yX6_turnedClouds ∈ zWL := zWL_of (ztb_4 (i := 216) (by decide +kernel)) rfl
theorem tw_4_215 : Cond.instanceMethod yX6_turnedClouds ∈ zWL := zWL_of (ztb_4 (i := 215) (by decide +kernel)) rfl
theorem tw_1_117 : Cond.fieldLink "HailCellar" 312 "HailCellar$Reader" "length" "I" ∈ zWL := zWL_of (ztb_1 (i := 117) (by decide +kernel)) rfl
theorem tw_4_234 : Cond.methodLink "HailCellarModel" 1 Lib.objectInit ∈ zWL := zWL_of (ztb_4 (i := 234) (by decide +kernel)) rfl
theorem tw_4_235 : Cond.fieldLink "HailCellarModel" 7 "HailCellarModel" "now" "[I" ∈ zWL := zWL_of (ztb_4 (i := 235) (by decide +kernel)) rfl
theorem tw_4_236 : Cond.fieldLink "HailCellarModel" 13 "HailCellarModel" "refused" "[I" ∈ zWL := zWL_of (ztb_4 (i := 236) (by decide +kernel)) rfl
theorem tw_4_238 : Cond.fieldLink "HailCellarModel" 16 "HailCellarModel" "below" "J" ∈ zWL := zWL_of (ztb_4 (i := 238) (by decide +kernel)) rfl
theorem tw_5_0 : Cond.fieldLink "HailCellarModel" 20 "HailCellarModel" "past" "[I" ∈ zWL := zWL_of (ztb_5 (i := 0) (by decide +kernel)) rfl
theorem tw_5_1 : Cond.fieldLink "HailCellarModel" 23 "HailCellarModel" "text" "[I" ∈ zWL := zWL_of (ztb_5 (i := 1) (by decide +kernel)) rfl
theorem tw_5_8 : Cond.fieldLink "HailCellarModel" 26 "HailCellarModel" "reads" "[I" ∈ zWL := zWL_of (ztb_5 (i := 8) (by decide +kernel)) rfl
theorem tw_5_10 : Cond.fieldLink "HailCellarModel" 29 "HailCellarModel" "jar" "[I" ∈ zWL := zWL_of (ztb_5 (i := 10) (by decide +kernel)) rfl
theorem tw_5_11 : Cond.fieldLink "HailCellarModel" 32 "HailCellarModel" "costs" "[I" ∈ zWL := zWL_of (ztb_5 (i := 11) (by decide +kernel)) rfl
theorem tw_5_12 : Cond.fieldLink "HailCellarModel" 35 "HailCellarModel" "farOff" "[I" ∈ zWL := zWL_of (ztb_5 (i := 12) (by decide +kernel)) rfl
theorem tw_5_13 : Cond.fieldLink "HailCellarModel" 38 "HailCellarModel" "hitBy" "[I" ∈ zWL := zWL_of (ztb_5 (i := 13) (by decide +kernel)) rfl
theorem tw_5_14 : Cond.fieldLink "HailCellarModel" 41 "HailCellarModel" "shows" "[I" ∈ zWL := zWL_of (ztb_5 (i := 14) (by decide +kernel)) rfl
theorem tw_5_15 : Cond.fieldLink "HailCellarModel" 44 "HailCellarModel" "tried" "[I" ∈ zWL := zWL_of (ztb_5 (i := 15) (by decide +kernel)) rfl
theorem tw_5_16 : Cond.fieldLink "HailCellarModel" 47 "HailCellarModel" "images" "[I" ∈ zWL := zWL_of (ztb_5 (i := 16) (by decide +kernel)) rfl
theorem tw_5_17 : Cond.fieldLink "HailCellarModel" 50 "HailCellarModel" "isKept" "[Z" ∈ zWL := zWL_of (ztb_5 (i := 17) (by decide +kernel)) rfl
theorem tw_5_18 : Cond.fieldLink "HailCellarModel" 54 "HailCellarModel" "keptUndos" "[I" ∈ zWL := zWL_of (ztb_5 (i := 18) (by decide +kernel)) rfl
theorem tw_5_19 : Cond.fieldLink "HailCellarModel" 57 "HailCellarModel" "keptPast" "[I" ∈ zWL := zWL_of (ztb_5 (i := 19) (by decide +kernel)) rfl
theorem tw_5_80 : Cond.methodLink "HailCellarModel" 60 yX8_in ∈ zWL := zWL_of (ztb_5 (i := 80) (by decide +kernel)) rfl
theorem tw_5_82 : Cond.code yX8_in cX8_in 6 (some .boolean) ∈ zWL := zWL_of (ztb_5 (i := 82) rfl) rfl
theorem tw_1_9 : Cond.initialized "HailCellarModel" ∈ zWL := zWL_of (ztb_1 (i := 9) (by decide +kernel)) rfl
theorem tw_5_81 : Cond.static yX8_in ∈ zWL := zWL_of (ztb_5 (i := 81) (by decide +kernel)) rfl
theorem tw_6_14 : Cond.methodLink "HailCellarModel" 64 yX8_least0 ∈ zWL := zWL_of (ztb_6 (i := 14) (by decide +kernel)) rfl
theorem tw_6_16 : Cond.code yX8_least0 cX8_least0 1 (some .int) ∈ zWL := zWL_of (ztb_6 (i := 16) rfl) rfl
theorem tw_6_15 : Cond.static yX8_least0 ∈ zWL := zWL_of (ztb_6 (i := 15) (by decide +kernel)) rfl
theorem tw_6_24 : Cond.methodLink "HailCellarModel" 68 yX8_sizeOf ∈ zWL := zWL_of (ztb_6 (i := 24) (by decide +kernel)) rfl
theorem tw_6_26 : Cond.code yX8_sizeOf cX8_sizeOf 1 (some .int) ∈ zWL := zWL_of (ztb_6 (i := 26) rfl) rfl
theorem tw_6_25 : Cond.static yX8_sizeOf ∈ zWL := zWL_of (ztb_6 (i := 25) (by decide +kernel)) rfl
theorem tw_6_11 : Cond.methodLink "HailCellarModel" 71 yX8_farBy ∈ zWL := zWL_of (ztb_6 (i := 11) (by decide +kernel)) rfl
theorem tw_6_13 : Cond.code yX8_farBy cX8_farBy 5 (some .int) ∈ zWL := zWL_of (ztb_6 (i := 13) rfl) rfl
theorem tw_6_12 : Cond.static yX8_farBy ∈ zWL := zWL_of (ztb_6 (i := 12) (by decide +kernel)) rfl
theorem tw_6_21 : Cond.methodLink "HailCellarModel" 75 yX8_hitsBy ∈ zWL := zWL_of (ztb_6 (i := 21) (by decide +kernel)) rfl
theorem tw_6_23 : Cond.code yX8_hitsBy cX8_hitsBy 3 (some .int) ∈ zWL := zWL_of (ztb_6 (i := 23) rfl) rfl
theorem tw_6_22 : Cond.static yX8_hitsBy ∈ zWL := zWL_of (ztb_6 (i := 22) (by decide +kernel)) rfl
theorem tw_6_7 : Cond.methodLink "HailCellarModel" 79 yX8_farOf ∈ zWL := zWL_of (ztb_6 (i := 7) (by decide +kernel)) rfl
theorem tw_6_10 : Cond.code yX8_farOf cX8_farOf 4 (some .int) ∈ zWL := zWL_of (ztb_6 (i := 10) rfl) rfl
theorem tw_0_54 : Cond.selects RX8 yX8_farOf yX8_farOf ∈ zWL := zWL_of (ztb_0 (i := 54) (by decide +kernel)) rfl
theorem tw_6_9 : Cond.instanceMethod yX8_farOf ∈ zWL := zWL_of (ztb_6 (i := 9) (by decide +kernel)) rfl
theorem tw_5_213 : Cond.methodLink "HailCellarModel" 83 yX8_stonesIn ∈ zWL := zWL_of (ztb_5 (i := 213) (by decide +kernel)) rfl
theorem tw_5_215 : Cond.code yX8_stonesIn cX8_stonesIn 4 (some .int) ∈ zWL := zWL_of (ztb_5 (i := 215) rfl) rfl
theorem tw_5_214 : Cond.static yX8_stonesIn ∈ zWL := zWL_of (ztb_5 (i := 214) (by decide +kernel)) rfl
theorem tw_5_191 : Cond.methodLink "HailCellarModel" 87 yX8_meltsBy ∈ zWL := zWL_of (ztb_5 (i := 191) (by decide +kernel)) rfl
theorem tw_5_193 : Cond.code yX8_meltsBy cX8_meltsBy 5 (some .int) ∈ zWL := zWL_of (ztb_5 (i := 193) rfl) rfl
theorem tw_5_192 : Cond.static yX8_meltsBy ∈ zWL := zWL_of (ztb_5 (i := 192) (by decide +kernel)) rfl
theorem tw_5_194 : Cond.methodLink "HailCellarModel" 90 yX8_melt ∈ zWL := zWL_of (ztb_5 (i := 194) (by decide +kernel)) rfl
theorem tw_5_196 : Cond.code yX8_melt cX8_melt 4 none ∈ zWL := zWL_of (ztb_5 (i := 196) rfl) rfl
theorem tw_5_195 : Cond.static yX8_melt ∈ zWL := zWL_of (ztb_5 (i := 195) (by decide +kernel)) rfl
theorem tw_4_239 : Cond.fieldLink "HailCellarModel" 94 "HailCellarModel" "undos" "I" ∈ zWL := zWL_of (ztb_4 (i := 239) (by decide +kernel)) rfl
theorem tw_5_206 : Cond.methodLink "HailCellarModel" 98 yX8_undoneAt ∈ zWL := zWL_of (ztb_5 (i := 206) (by decide +kernel)) rfl
theorem tw_5_208 : Cond.code yX8_undoneAt cX8_undoneAt 1 (some .int) ∈ zWL := zWL_of (ztb_5 (i := 208) rfl) rfl
theorem tw_5_207 : Cond.static yX8_undoneAt ∈ zWL := zWL_of (ztb_5 (i := 207) (by decide +kernel)) rfl
theorem tw_5_79 : Cond.constantLong "HailCellarModel" 101 (Int64.ofInt (9)) ∈ zWL := zWL_of (ztb_5 (i := 79) (by decide +kernel)) rfl
theorem tw_5_83 : Cond.methodLink "HailCellarModel" 103 yX8_bad ∈ zWL := zWL_of (ztb_5 (i := 83) (by decide +kernel)) rfl
theorem tw_5_86 : Cond.code yX8_bad cX8_bad 1 (some .int) ∈ zWL := zWL_of (ztb_5 (i := 86) rfl) rfl
theorem tw_0_33 : Cond.selects RX8 yX8_bad yX8_bad ∈ zWL := zWL_of (ztb_0 (i := 33) (by decide +kernel)) rfl
theorem tw_5_85 : Cond.instanceMethod yX8_bad ∈ zWL := zWL_of (ztb_5 (i := 85) (by decide +kernel)) rfl
theorem tw_5_87 : Cond.methodLink "HailCellarModel" 107 yX8_emptyAll ∈ zWL := zWL_of (ztb_5 (i := 87) (by decide +kernel)) rfl
theorem tw_5_90 : Cond.code yX8_emptyAll cX8_emptyAll 3 none ∈ zWL := zWL_of (ztb_5 (i := 90) rfl) rfl
theorem tw_0_34 : Cond.selects RX8 yX8_emptyAll yX8_emptyAll ∈ zWL := zWL_of (ztb_0 (i := 34) (by decide +kernel)) rfl
theorem tw_5_89 : Cond.instanceMethod yX8_emptyAll ∈ zWL := zWL_of (ztb_5 (i := 89) (by decide +kernel)) rfl
theorem tw_5_95 : Cond.constantLong "HailCellarModel" 111 (Int64.ofInt (5)) ∈ zWL := zWL_of (ztb_5 (i := 95) (by decide +kernel)) rfl
theorem tw_5_96 : Cond.methodLink "HailCellarModel" 113 yX8_full ∈ zWL := zWL_of (ztb_5 (i := 96) (by decide +kernel)) rfl
theorem tw_5_99 : Cond.code yX8_full cX8_full 1 (some .int) ∈ zWL := zWL_of (ztb_5 (i := 99) rfl) rfl
theorem tw_0_35 : Cond.selects RX8 yX8_full yX8_full ∈ zWL := zWL_of (ztb_0 (i := 35) (by decide +kernel)) rfl
theorem tw_5_98 : Cond.instanceMethod yX8_full ∈ zWL := zWL_of (ztb_5 (i := 98) (by decide +kernel)) rfl
theorem tw_5_104 : Cond.methodLink "HailCellarModel" 116 yX8_isCellar ∈ zWL := zWL_of (ztb_5 (i := 104) (by decide +kernel)) rfl
theorem tw_5_107 : Cond.code yX8_isCellar cX8_isCellar 2 (some .boolean) ∈ zWL := zWL_of (ztb_5 (i := 107) rfl) rfl
theorem tw_0_36 : Cond.selects RX8 yX8_isCellar yX8_isCellar ∈ zWL := zWL_of (ztb_0 (i := 36) (by decide +kernel)) rfl
theorem tw_5_106 : Cond.instanceMethod yX8_isCellar ∈ zWL := zWL_of (ztb_5 (i := 106) (by decide +kernel)) rfl
theorem tw_5_108 : Cond.constantLong "HailCellarModel" 120 (Int64.ofInt (99)) ∈ zWL := zWL_of (ztb_5 (i := 108) (by decide +kernel)) rfl
theorem tw_5_121 : Cond.constantLong "HailCellarModel" 122 (Int64.ofInt (30)) ∈ zWL := zWL_of (ztb_5 (i := 121) (by decide +kernel)) rfl
theorem tw_5_122 : Cond.constantLong "HailCellarModel" 124 (Int64.ofInt (40)) ∈ zWL := zWL_of (ztb_5 (i := 122) (by decide +kernel)) rfl
theorem tw_5_127 : Cond.constantLong "HailCellarModel" 126 (Int64.ofInt (127)) ∈ zWL := zWL_of (ztb_5 (i := 127) (by decide +kernel)) rfl
theorem tw_5_2 : Cond.fieldLink "HailCellarModel" 128 "HailCellarModel" "typed" "I" ∈ zWL := zWL_of (ztb_5 (i := 2) (by decide +kernel)) rfl
theorem tw_5_144 : Cond.constantLong "HailCellarModel" 131 (Int64.ofInt (97)) ∈ zWL := zWL_of (ztb_5 (i := 144) (by decide +kernel)) rfl
theorem tw_5_145 : Cond.constantLong "HailCellarModel" 133 (Int64.ofInt (122)) ∈ zWL := zWL_of (ztb_5 (i := 145) (by decide +kernel)) rfl
theorem tw_5_150 : Cond.constantLong "HailCellarModel" 135 (Int64.ofInt (48)) ∈ zWL := zWL_of (ztb_5 (i := 150) (by decide +kernel)) rfl
theorem tw_5_151 : Cond.constantLong "HailCellarModel" 137 (Int64.ofInt (57)) ∈ zWL := zWL_of (ztb_5 (i := 151) (by decide +kernel)) rfl
theorem tw_5_3 : Cond.fieldLink "HailCellarModel" 139 "HailCellarModel" "at" "I" ∈ zWL := zWL_of (ztb_5 (i := 3) (by decide +kernel)) rfl
theorem tw_5_5 : Cond.fieldLink "HailCellarModel" 142 "HailCellarModel" "tokenAt" "I" ∈ zWL := zWL_of (ztb_5 (i := 5) (by decide +kernel)) rfl
theorem tw_5_6 : Cond.fieldLink "HailCellarModel" 145 "HailCellarModel" "tokenEnd" "I" ∈ zWL := zWL_of (ztb_5 (i := 6) (by decide +kernel)) rfl
theorem tw_5_140 : Cond.methodLink "HailCellarModel" 148 yX8_isLetter ∈ zWL := zWL_of (ztb_5 (i := 140) (by decide +kernel)) rfl
theorem tw_5_143 : Cond.code yX8_isLetter cX8_isLetter 2 (some .boolean) ∈ zWL := zWL_of (ztb_5 (i := 143) rfl) rfl
theorem tw_0_38 : Cond.selects RX8 yX8_isLetter yX8_isLetter ∈ zWL := zWL_of (ztb_0 (i := 38) (by decide +kernel)) rfl
theorem tw_5_142 : Cond.instanceMethod yX8_isLetter ∈ zWL := zWL_of (ztb_5 (i := 142) (by decide +kernel)) rfl
theorem tw_5_146 : Cond.methodLink "HailCellarModel" 151 yX8_isFigure ∈ zWL := zWL_of (ztb_5 (i := 146) (by decide +kernel)) rfl
theorem tw_5_149 : Cond.code yX8_isFigure cX8_isFigure 2 (some .boolean) ∈ zWL := zWL_of (ztb_5 (i := 149) rfl) rfl
theorem tw_0_39 : Cond.selects RX8 yX8_isFigure yX8_isFigure ∈ zWL := zWL_of (ztb_0 (i := 39) (by decide +kernel)) rfl
theorem tw_5_148 : Cond.instanceMethod yX8_isFigure ∈ zWL := zWL_of (ztb_5 (i := 148) (by decide +kernel)) rfl
theorem tw_5_4 : Cond.fieldLink "HailCellarModel" 154 "HailCellarModel" "token" "I" ∈ zWL := zWL_of (ztb_5 (i := 4) (by decide +kernel)) rfl
theorem tw_5_7 : Cond.fieldLink "HailCellarModel" 157 "HailCellarModel" "number" "I" ∈ zWL := zWL_of (ztb_5 (i := 7) (by decide +kernel)) rfl
theorem tw_5_152 : Cond.constant "HailCellarModel" 160 (Int32.ofInt (1000000)) ∈ zWL := zWL_of (ztb_5 (i := 152) (by decide +kernel)) rfl
theorem tw_5_161 : Cond.constantLong "HailCellarModel" 161 (Int64.ofInt (100000000000)) ∈ zWL := zWL_of (ztb_5 (i := 161) (by decide +kernel)) rfl
theorem tw_5_162 : Cond.constantLong "HailCellarModel" 163 (Int64.ofInt (27)) ∈ zWL := zWL_of (ztb_5 (i := 162) (by decide +kernel)) rfl
theorem tw_5_136 : Cond.methodLink "HailCellarModel" 165 yX8_nextToken ∈ zWL := zWL_of (ztb_5 (i := 136) (by decide +kernel)) rfl
theorem tw_5_139 : Cond.code yX8_nextToken cX8_nextToken 2 none ∈ zWL := zWL_of (ztb_5 (i := 139) rfl) rfl
theorem tw_0_37 : Cond.selects RX8 yX8_nextToken yX8_nextToken ∈ zWL := zWL_of (ztb_0 (i := 37) (by decide +kernel)) rfl
theorem tw_5_138 : Cond.instanceMethod yX8_nextToken ∈ zWL := zWL_of (ztb_5 (i := 138) (by decide +kernel)) rfl
theorem tw_5_164 : Cond.methodLink "HailCellarModel" 168 yX8_takes ∈ zWL := zWL_of (ztb_5 (i := 164) (by decide +kernel)) rfl
theorem tw_5_167 : Cond.code yX8_takes cX8_takes 5 (some .boolean) ∈ zWL := zWL_of (ztb_5 (i := 167) rfl) rfl
theorem tw_0_42 : Cond.selects RX8 yX8_takes yX8_takes ∈ zWL := zWL_of (ztb_0 (i := 42) (by decide +kernel)) rfl
theorem tw_5_166 : Cond.instanceMethod yX8_takes ∈ zWL := zWL_of (ztb_5 (i := 166) (by decide +kernel)) rfl
theorem tw_5_188 : Cond.methodLink "HailCellarModel" 172 yX8_passWeek ∈ zWL := zWL_of (ztb_5 (i := 188) (by decide +kernel)) rfl
theorem tw_5_190 : Cond.code yX8_passWeek cX8_passWeek 2 none ∈ zWL := zWL_of (ztb_5 (i := 190) rfl) rfl
theorem tw_5_189 : Cond.static yX8_passWeek ∈ zWL := zWL_of (ztb_5 (i := 189) (by decide +kernel)) rfl
theorem tw_5_157 : Cond.methodLink "HailCellarModel" 176 yX8_wordNow ∈ zWL := zWL_of (ztb_5 (i := 157) (by decide +kernel)) rfl
theorem tw_5_160 : Cond.code yX8_wordNow cX8_wordNow 4 (some .long) ∈ zWL := zWL_of (ztb_5 (i := 160) rfl) rfl
theorem tw_0_41 : Cond.selects RX8 yX8_wordNow yX8_wordNow ∈ zWL := zWL_of (ztb_0 (i := 41) (by decide +kernel)) rfl
theorem tw_5_159 : Cond.instanceMethod yX8_wordNow ∈ zWL := zWL_of (ztb_5 (i := 159) (by decide +kernel)) rfl
theorem tw_5_9 : Cond.fieldLink "HailCellarModel" 180 "HailCellarModel" "items" "I" ∈ zWL := zWL_of (ztb_5 (i := 9) (by decide +kernel)) rfl
theorem tw_5_163 : Cond.constantLong "HailCellarModel" 183 (Int64.ofInt (10502465)) ∈ zWL := zWL_of (ztb_5 (i := 163) (by decide +kernel)) rfl
theorem tw_5_168 : Cond.constantLong "HailCellarModel" 185 (Int64.ofInt (45948915)) ∈ zWL := zWL_of (ztb_5 (i := 168) (by decide +kernel)) rfl
theorem tw_5_169 : Cond.methodLink "HailCellarModel" 187 yX8_takesCellar ∈ zWL := zWL_of (ztb_5 (i := 169) (by decide +kernel)) rfl
theorem tw_5_172 : Cond.code yX8_takesCellar cX8_takesCellar 4 (some .boolean) ∈ zWL := zWL_of (ztb_5 (i := 172) rfl) rfl
theorem tw_0_43 : Cond.selects RX8 yX8_takesCellar yX8_takesCellar ∈ zWL := zWL_of (ztb_0 (i := 43) (by decide +kernel)) rfl
theorem tw_5_171 : Cond.instanceMethod yX8_takesCellar ∈ zWL := zWL_of (ztb_5 (i := 171) (by decide +kernel)) rfl
theorem tw_5_173 : Cond.constantLong "HailCellarModel" 191 (Int64.ofInt (7538239962)) ∈ zWL := zWL_of (ztb_5 (i := 173) (by decide +kernel)) rfl
theorem tw_5_174 : Cond.methodLink "HailCellarModel" 193 yX8_takesSlinger ∈ zWL := zWL_of (ztb_5 (i := 174) (by decide +kernel)) rfl
theorem tw_5_177 : Cond.code yX8_takesSlinger cX8_takesSlinger 2 (some .boolean) ∈ zWL := zWL_of (ztb_5 (i := 177) rfl) rfl
theorem tw_0_44 : Cond.selects RX8 yX8_takesSlinger yX8_takesSlinger ∈ zWL := zWL_of (ztb_0 (i := 44) (by decide +kernel)) rfl
theorem tw_5_176 : Cond.instanceMethod yX8_takesSlinger ∈ zWL := zWL_of (ztb_5 (i := 176) (by decide +kernel)) rfl
theorem tw_5_178 : Cond.constantLong "HailCellarModel" 196 (Int64.ofInt (1842025)) ∈ zWL := zWL_of (ztb_5 (i := 178) (by decide +kernel)) rfl
theorem tw_5_179 : Cond.methodLink "HailCellarModel" 198 yX8_takesCloud ∈ zWL := zWL_of (ztb_5 (i := 179) (by decide +kernel)) rfl
theorem tw_5_182 : Cond.code yX8_takesCloud cX8_takesCloud 2 (some .boolean) ∈ zWL := zWL_of (ztb_5 (i := 182) rfl) rfl
theorem tw_0_45 : Cond.selects RX8 yX8_takesCloud yX8_takesCloud ∈ zWL := zWL_of (ztb_0 (i := 45) (by decide +kernel)) rfl
theorem tw_5_181 : Cond.instanceMethod yX8_takesCloud ∈ zWL := zWL_of (ztb_5 (i := 181) (by decide +kernel)) rfl
theorem tw_5_183 : Cond.constantLong "HailCellarModel" 201 (Int64.ofInt (12325519)) ∈ zWL := zWL_of (ztb_5 (i := 183) (by decide +kernel)) rfl
theorem tw_5_184 : Cond.methodLink "HailCellarModel" 203 yX8_takesWeeks ∈ zWL := zWL_of (ztb_5 (i := 184) (by decide +kernel)) rfl
theorem tw_5_187 : Cond.code yX8_takesWeeks cX8_takesWeeks 3 (some .boolean) ∈ zWL := zWL_of (ztb_5 (i := 187) rfl) rfl
theorem tw_0_46 : Cond.selects RX8 yX8_takesWeeks yX8_takesWeeks ∈ zWL := zWL_of (ztb_0 (i := 46) (by decide +kernel)) rfl
theorem tw_5_186 : Cond.instanceMethod yX8_takesWeeks ∈ zWL := zWL_of (ztb_5 (i := 186) (by decide +kernel)) rfl
theorem tw_5_153 : Cond.methodLink "HailCellarModel" 206 yX8_takesItem ∈ zWL := zWL_of (ztb_5 (i := 153) (by decide +kernel)) rfl
theorem tw_5_156 : Cond.code yX8_takesItem cX8_takesItem 5 (some .boolean) ∈ zWL := zWL_of (ztb_5 (i := 156) rfl) rfl
theorem tw_0_40 : Cond.selects RX8 yX8_takesItem yX8_takesItem ∈ zWL := zWL_of (ztb_0 (i := 40) (by decide +kernel)) rfl
theorem tw_5_155 : Cond.instanceMethod yX8_takesItem ∈ zWL := zWL_of (ztb_5 (i := 155) (by decide +kernel)) rfl
theorem tw_5_201 : Cond.constantLong "HailCellarModel" 209 (Int64.ofInt (60)) ∈ zWL := zWL_of (ztb_5 (i := 201) (by decide +kernel)) rfl
theorem tw_5_202 : Cond.methodLink "HailCellarModel" 211 yX8_remember ∈ zWL := zWL_of (ztb_5 (i := 202) (by decide +kernel)) rfl
theorem tw_5_205 : Cond.code yX8_remember cX8_remember 2 none ∈ zWL := zWL_of (ztb_5 (i := 205) rfl) rfl
theorem tw_0_47 : Cond.selects RX8 yX8_remember yX8_remember ∈ zWL := zWL_of (ztb_0 (i := 47) (by decide +kernel)) rfl
theorem tw_5_204 : Cond.instanceMethod yX8_remember ∈ zWL := zWL_of (ztb_5 (i := 204) (by decide +kernel)) rfl
theorem tw_5_209 : Cond.methodLink "HailCellarModel" 214 yX8_allStones ∈ zWL := zWL_of (ztb_5 (i := 209) (by decide +kernel)) rfl
theorem tw_5_212 : Cond.code yX8_allStones cX8_allStones 3 (some .int) ∈ zWL := zWL_of (ztb_5 (i := 212) rfl) rfl
theorem tw_0_48 : Cond.selects RX8 yX8_allStones yX8_allStones ∈ zWL := zWL_of (ztb_0 (i := 48) (by decide +kernel)) rfl
theorem tw_5_211 : Cond.instanceMethod yX8_allStones ∈ zWL := zWL_of (ztb_5 (i := 211) (by decide +kernel)) rfl
theorem tw_5_224 : Cond.methodLink "HailCellarModel" 217 yX8_costBy ∈ zWL := zWL_of (ztb_5 (i := 224) (by decide +kernel)) rfl
theorem tw_5_226 : Cond.code yX8_costBy cX8_costBy 1 (some .int) ∈ zWL := zWL_of (ztb_5 (i := 226) rfl) rfl
theorem tw_5_225 : Cond.static yX8_costBy ∈ zWL := zWL_of (ztb_5 (i := 225) (by decide +kernel)) rfl
theorem tw_5_220 : Cond.methodLink "HailCellarModel" 220 yX8_openDoor ∈ zWL := zWL_of (ztb_5 (i := 220) (by decide +kernel)) rfl
theorem tw_5_223 : Cond.code yX8_openDoor cX8_openDoor 2 none ∈ zWL := zWL_of (ztb_5 (i := 223) rfl) rfl
theorem tw_0_49 : Cond.selects RX8 yX8_openDoor yX8_openDoor ∈ zWL := zWL_of (ztb_0 (i := 49) (by decide +kernel)) rfl
theorem tw_5_222 : Cond.instanceMethod yX8_openDoor ∈ zWL := zWL_of (ztb_5 (i := 222) (by decide +kernel)) rfl
theorem tw_5_231 : Cond.methodLink "HailCellarModel" 223 yX8_isSlinger ∈ zWL := zWL_of (ztb_5 (i := 231) (by decide +kernel)) rfl
theorem tw_5_234 : Cond.code yX8_isSlinger cX8_isSlinger 2 (some .boolean) ∈ zWL := zWL_of (ztb_5 (i := 234) rfl) rfl
theorem tw_0_50 : Cond.selects RX8 yX8_isSlinger yX8_isSlinger ∈ zWL := zWL_of (ztb_0 (i := 50) (by decide +kernel)) rfl
theorem tw_5_233 : Cond.instanceMethod yX8_isSlinger ∈ zWL := zWL_of (ztb_5 (i := 233) (by decide +kernel)) rfl
theorem tw_5_235 : Cond.methodLink "HailCellarModel" 226 yX8_isCloud ∈ zWL := zWL_of (ztb_5 (i := 235) (by decide +kernel)) rfl
theorem tw_5_238 : Cond.code yX8_isCloud cX8_isCloud 2 (some .boolean) ∈ zWL := zWL_of (ztb_5 (i := 238) rfl) rfl
theorem tw_0_51 : Cond.selects RX8 yX8_isCloud yX8_isCloud ∈ zWL := zWL_of (ztb_0 (i := 51) (by decide +kernel)) rfl
theorem tw_5_237 : Cond.instanceMethod yX8_isCloud ∈ zWL := zWL_of (ztb_5 (i := 237) (by decide +kernel)) rfl
theorem tw_5_239 : Cond.methodLink "HailCellarModel" 229 yX8_no ∈ zWL := zWL_of (ztb_5 (i := 239) (by decide +kernel)) rfl
theorem tw_6_2 : Cond.code yX8_no cX8_no 1 (some .int) ∈ zWL := zWL_of (ztb_6 (i := 2) rfl) rfl
theorem tw_0_52 : Cond.selects RX8 yX8_no yX8_no ∈ zWL := zWL_of (ztb_0 (i := 52) (by decide +kernel)) rfl
theorem tw_6_1 : Cond.instanceMethod yX8_no ∈ zWL := zWL_of (ztb_6 (i := 1) (by decide +kernel)) rfl
theorem tw_6_3 : Cond.methodLink "HailCellarModel" 232 yX8_reaches ∈ zWL := zWL_of (ztb_6 (i := 3) (by decide +kernel)) rfl
theorem tw_6_6 : Cond.code yX8_reaches cX8_reaches 5 (some .boolean) ∈ zWL := zWL_of (ztb_6 (i := 6) rfl) rfl
theorem tw_0_53 : Cond.selects RX8 yX8_reaches yX8_reaches ∈ zWL := zWL_of (ztb_0 (i := 53) (by decide +kernel)) rfl
theorem tw_6_5 : Cond.instanceMethod yX8_reaches ∈ zWL := zWL_of (ztb_6 (i := 5) (by decide +kernel)) rfl
theorem tw_6_17 : Cond.methodLink "HailCellarModel" 236 yX8_hitsOf ∈ zWL := zWL_of (ztb_6 (i := 17) (by decide +kernel)) rfl
theorem tw_6_20 : Cond.code yX8_hitsOf cX8_hitsOf 3 (some .int) ∈ zWL := zWL_of (ztb_6 (i := 20) rfl) rfl
theorem tw_0_55 : Cond.selects RX8 yX8_hitsOf yX8_hitsOf ∈ zWL := zWL_of (ztb_0 (i := 55) (by decide +kernel)) rfl
theorem tw_6_19 : Cond.instanceMethod yX8_hitsOf ∈ zWL := zWL_of (ztb_6 (i := 19) (by decide +kernel)) rfl
theorem tw_6_31 : Cond.methodLink "HailCellarModel" 239 yX8_isTurned ∈ zWL := zWL_of (ztb_6 (i := 31) (by decide +kernel)) rfl
theorem tw_6_34 : Cond.code yX8_isTurned cX8_isTurned 2 (some .boolean) ∈ zWL := zWL_of (ztb_6 (i := 34) rfl) rfl
theorem tw_0_56 : Cond.selects RX8 yX8_isTurned yX8_isTurned ∈ zWL := zWL_of (ztb_0 (i := 56) (by decide +kernel)) rfl
theorem tw_6_33 : Cond.instanceMethod yX8_isTurned ∈ zWL := zWL_of (ztb_6 (i := 33) (by decide +kernel)) rfl
theorem tw_6_47 : Cond.constantLong "HailCellarModel" 242 (Int64.ofInt (3)) ∈ zWL := zWL_of (ztb_6 (i := 47) (by decide +kernel)) rfl
theorem tw_6_64 : Cond.constantLong "HailCellarModel" 244 (Int64.ofInt (999)) ∈ zWL := zWL_of (ztb_6 (i := 64) (by decide +kernel)) rfl
theorem tw_6_69 : Cond.constantLong "HailCellarModel" 246 (Int64.ofInt (4)) ∈ zWL := zWL_of (ztb_6 (i := 69) (by decide +kernel)) rfl
theorem tw_6_70 : Cond.methodLink "HailCellarModel" 248 yX8_takeJar ∈ zWL := zWL_of (ztb_6 (i := 70) (by decide +kernel)) rfl
theorem tw_6_73 : Cond.code yX8_takeJar cX8_takeJar 3 none ∈ zWL := zWL_of (ztb_6 (i := 73) rfl) rfl
theorem tw_0_57 : Cond.selects RX8 yX8_takeJar yX8_takeJar ∈ zWL := zWL_of (ztb_0 (i := 57) (by decide +kernel)) rfl
theorem tw_6_72 : Cond.instanceMethod yX8_takeJar ∈ zWL := zWL_of (ztb_6 (i := 72) (by decide +kernel)) rfl
theorem tw_6_74 : Cond.methodLink "HailCellarModel" 251 yX8_greatestIn ∈ zWL := zWL_of (ztb_6 (i := 74) (by decide +kernel)) rfl
theorem tw_6_77 : Cond.code yX8_greatestIn cX8_greatestIn 3 (some .int) ∈ zWL := zWL_of (ztb_6 (i := 77) rfl) rfl
theorem tw_0_58 : Cond.selects RX8 yX8_greatestIn yX8_greatestIn ∈ zWL := zWL_of (ztb_0 (i := 58) (by decide +kernel)) rfl
theorem tw_6_76 : Cond.instanceMethod yX8_greatestIn ∈ zWL := zWL_of (ztb_6 (i := 76) (by decide +kernel)) rfl
theorem tw_6_98 : Cond.methodLink "HailCellarModel" 254 yX8_throwOne ∈ zWL := zWL_of (ztb_6 (i := 98) (by decide +kernel)) rfl
theorem tw_6_101 : Cond.code yX8_throwOne cX8_throwOne 7 none ∈ zWL := zWL_of (ztb_6 (i := 101) rfl) rfl
theorem tw_0_59 : Cond.selects RX8 yX8_throwOne yX8_throwOne ∈ zWL := zWL_of (ztb_0 (i := 59) (by decide +kernel)) rfl
theorem tw_6_100 : Cond.instanceMethod yX8_throwOne ∈ zWL := zWL_of (ztb_6 (i := 100) (by decide +kernel)) rfl
theorem tw_6_118 : Cond.methodLink "HailCellarModel" 258 yX8_cloudOf ∈ zWL := zWL_of (ztb_6 (i := 118) (by decide +kernel)) rfl
theorem tw_6_121 : Cond.code yX8_cloudOf cX8_cloudOf 5 (some .int) ∈ zWL := zWL_of (ztb_6 (i := 121) rfl) rfl
theorem tw_0_63 : Cond.selects RX8 yX8_cloudOf yX8_cloudOf ∈ zWL := zWL_of (ztb_0 (i := 63) (by decide +kernel)) rfl
theorem tw_6_120 : Cond.instanceMethod yX8_cloudOf ∈ zWL := zWL_of (ztb_6 (i := 120) (by decide +kernel)) rfl
theorem tw_6_114 : Cond.methodLink "HailCellarModel" 261 yX8_anHour ∈ zWL := zWL_of (ztb_6 (i := 114) (by decide +kernel)) rfl
theorem tw_6_117 : Cond.code yX8_anHour cX8_anHour 6 none ∈ zWL := zWL_of (ztb_6 (i := 117) rfl) rfl
theorem tw_0_62 : Cond.selects RX8 yX8_anHour yX8_anHour ∈ zWL := zWL_of (ztb_0 (i := 62) (by decide +kernel)) rfl
theorem tw_6_116 : Cond.instanceMethod yX8_anHour ∈ zWL := zWL_of (ztb_6 (i := 116) (by decide +kernel)) rfl
theorem tw_6_106 : Cond.methodLink "HailCellarModel" 265 yX8_ways ∈ zWL := zWL_of (ztb_6 (i := 106) (by decide +kernel)) rfl
theorem tw_6_109 : Cond.code yX8_ways cX8_ways 3 (some .int) ∈ zWL := zWL_of (ztb_6 (i := 109) rfl) rfl
theorem tw_0_60 : Cond.selects RX8 yX8_ways yX8_ways ∈ zWL := zWL_of (ztb_0 (i := 60) (by decide +kernel)) rfl
theorem tw_6_108 : Cond.instanceMethod yX8_ways ∈ zWL := zWL_of (ztb_6 (i := 108) (by decide +kernel)) rfl
theorem tw_6_110 : Cond.methodLink "HailCellarModel" 268 yX8_turnedBy ∈ zWL := zWL_of (ztb_6 (i := 110) (by decide +kernel)) rfl
theorem tw_6_113 : Cond.code yX8_turnedBy cX8_turnedBy 5 (some .int) ∈ zWL := zWL_of (ztb_6 (i := 113) rfl) rfl
theorem tw_0_61 : Cond.selects RX8 yX8_turnedBy yX8_turnedBy ∈ zWL := zWL_of (ztb_0 (i := 61) (by decide +kernel)) rfl
theorem tw_6_112 : Cond.instanceMethod yX8_turnedBy ∈ zWL := zWL_of (ztb_6 (i := 112) (by decide +kernel)) rfl
theorem tw_6_126 : Cond.methodLink "HailCellarModel" 271 yX8_manyFrom ∈ zWL := zWL_of (ztb_6 (i := 126) (by decide +kernel)) rfl
theorem tw_6_129 : Cond.code yX8_manyFrom cX8_manyFrom 4 (some .int) ∈ zWL := zWL_of (ztb_6 (i := 129) rfl) rfl
theorem tw_0_64 : Cond.selects RX8 yX8_manyFrom yX8_manyFrom ∈ zWL := zWL_of (ztb_0 (i := 64) (by decide +kernel)) rfl
theorem tw_6_128 : Cond.instanceMethod yX8_manyFrom ∈ zWL := zWL_of (ztb_6 (i := 128) (by decide +kernel)) rfl
theorem tw_6_138 : Cond.methodLink "HailCellarModel" 274 yX8_cooledBy ∈ zWL := zWL_of (ztb_6 (i := 138) (by decide +kernel)) rfl
theorem tw_6_141 : Cond.code yX8_cooledBy cX8_cooledBy 7 (some .int) ∈ zWL := zWL_of (ztb_6 (i := 141) rfl) rfl
theorem tw_0_65 : Cond.selects RX8 yX8_cooledBy yX8_cooledBy ∈ zWL := zWL_of (ztb_0 (i := 65) (by decide +kernel)) rfl
theorem tw_6_140 : Cond.instanceMethod yX8_cooledBy ∈ zWL := zWL_of (ztb_6 (i := 140) (by decide +kernel)) rfl
theorem tw_6_150 : Cond.methodLink "HailCellarModel" 277 yX8_noteDown ∈ zWL := zWL_of (ztb_6 (i := 150) (by decide +kernel)) rfl
theorem tw_6_153 : Cond.code yX8_noteDown cX8_noteDown 9 (some .int) ∈ zWL := zWL_of (ztb_6 (i := 153) rfl) rfl
theorem tw_0_66 : Cond.selects RX8 yX8_noteDown yX8_noteDown ∈ zWL := zWL_of (ztb_0 (i := 66) (by decide +kernel)) rfl
theorem tw_6_152 : Cond.instanceMethod yX8_noteDown ∈ zWL := zWL_of (ztb_6 (i := 152) (by decide +kernel)) rfl
theorem tw_6_158 : Cond.constantLong "HailCellarModel" 281 (Int64.ofInt (12)) ∈ zWL := zWL_of (ztb_6 (i := 158) (by decide +kernel)) rfl
theorem tw_6_163 : Cond.constantLong "HailCellarModel" 283 (Int64.ofInt (2)) ∈ zWL := zWL_of (ztb_6 (i := 163) (by decide +kernel)) rfl
theorem tw_6_168 : Cond.methodLink "HailCellarModel" 285 yX8_kindsOf ∈ zWL := zWL_of (ztb_6 (i := 168) (by decide +kernel)) rfl
theorem tw_6_171 : Cond.code yX8_kindsOf cX8_kindsOf 8 (some .int) ∈ zWL := zWL_of (ztb_6 (i := 171) rfl) rfl
theorem tw_0_67 : Cond.selects RX8 yX8_kindsOf yX8_kindsOf ∈ zWL := zWL_of (ztb_0 (i := 67) (by decide +kernel)) rfl
theorem tw_6_170 : Cond.instanceMethod yX8_kindsOf ∈ zWL := zWL_of (ztb_6 (i := 170) (by decide +kernel)) rfl
theorem tw_6_180 : Cond.methodLink "HailCellarModel" 288 yX8_hasKind ∈ zWL := zWL_of (ztb_6 (i := 180) (by decide +kernel)) rfl
theorem tw_6_182 : Cond.code yX8_hasKind cX8_hasKind 2 (some .boolean) ∈ zWL := zWL_of (ztb_6 (i := 182) rfl) rfl
theorem tw_6_181 : Cond.static yX8_hasKind ∈ zWL := zWL_of (ztb_6 (i := 181) (by decide +kernel)) rfl
theorem tw_6_176 : Cond.methodLink "HailCellarModel" 292 yX8_mostAlike ∈ zWL := zWL_of (ztb_6 (i := 176) (by decide +kernel)) rfl
theorem tw_6_179 : Cond.code yX8_mostAlike cX8_mostAlike 6 (some .int) ∈ zWL := zWL_of (ztb_6 (i := 179) rfl) rfl
theorem tw_0_68 : Cond.selects RX8 yX8_mostAlike yX8_mostAlike ∈ zWL := zWL_of (ztb_0 (i := 68) (by decide +kernel)) rfl
theorem tw_6_178 : Cond.instanceMethod yX8_mostAlike ∈ zWL := zWL_of (ztb_6 (i := 178) (by decide +kernel)) rfl
theorem tw_6_187 : Cond.methodLink "HailCellarModel" 295 yX8_sortsOf ∈ zWL := zWL_of (ztb_6 (i := 187) (by decide +kernel)) rfl
theorem tw_6_190 : Cond.code yX8_sortsOf cX8_sortsOf 8 (some .int) ∈ zWL := zWL_of (ztb_6 (i := 190) rfl) rfl
theorem tw_0_69 : Cond.selects RX8 yX8_sortsOf yX8_sortsOf ∈ zWL := zWL_of (ztb_0 (i := 69) (by decide +kernel)) rfl
theorem tw_6_189 : Cond.instanceMethod yX8_sortsOf ∈ zWL := zWL_of (ztb_6 (i := 189) (by decide +kernel)) rfl
theorem tw_6_203 : Cond.constantLong "HailCellarModel" 298 (Int64.ofInt (10)) ∈ zWL := zWL_of (ztb_6 (i := 203) (by decide +kernel)) rfl
theorem tw_6_204 : Cond.methodLink "HailCellarModel" 300 yX8_common ∈ zWL := zWL_of (ztb_6 (i := 204) (by decide +kernel)) rfl
theorem tw_6_206 : Cond.code yX8_common cX8_common 5 (some .int) ∈ zWL := zWL_of (ztb_6 (i := 206) rfl) rfl
theorem tw_6_205 : Cond.static yX8_common ∈ zWL := zWL_of (ztb_6 (i := 205) (by decide +kernel)) rfl
theorem tw_4_237 : Cond.fieldLink "HailCellarModel" 303 "HailCellarModel" "above" "J" ∈ zWL := zWL_of (ztb_4 (i := 237) (by decide +kernel)) rfl
theorem tw_6_211 : Cond.constantLong "HailCellarModel" 306 (Int64.ofInt (999999)) ∈ zWL := zWL_of (ztb_6 (i := 211) (by decide +kernel)) rfl
theorem tw_6_212 : Cond.constantLong "HailCellarModel" 308 (Int64.ofInt (1103515245)) ∈ zWL := zWL_of (ztb_6 (i := 212) (by decide +kernel)) rfl
theorem tw_6_213 : Cond.constantLong "HailCellarModel" 310 (Int64.ofInt (12345)) ∈ zWL := zWL_of (ztb_6 (i := 213) (by decide +kernel)) rfl
theorem tw_6_214 : Cond.constantLong "HailCellarModel" 312 (Int64.ofInt (2147483648)) ∈ zWL := zWL_of (ztb_6 (i := 214) (by decide +kernel)) rfl
theorem tw_6_215 : Cond.constantLong "HailCellarModel" 314 (Int64.ofInt (65536)) ∈ zWL := zWL_of (ztb_6 (i := 215) (by decide +kernel)) rfl
theorem tw_6_224 : Cond.methodLink "HailCellarModel" 316 yX8_keepPast ∈ zWL := zWL_of (ztb_6 (i := 224) (by decide +kernel)) rfl
theorem tw_6_227 : Cond.code yX8_keepPast cX8_keepPast 3 none ∈ zWL := zWL_of (ztb_6 (i := 227) rfl) rfl
theorem tw_0_70 : Cond.selects RX8 yX8_keepPast yX8_keepPast ∈ zWL := zWL_of (ztb_0 (i := 70) (by decide +kernel)) rfl
theorem tw_6_226 : Cond.instanceMethod yX8_keepPast ∈ zWL := zWL_of (ztb_6 (i := 226) (by decide +kernel)) rfl
theorem tw_7_5 : Cond.methodLink "HailCellarModel" 319 yX8_turnedNow ∈ zWL := zWL_of (ztb_7 (i := 5) (by decide +kernel)) rfl
theorem tw_7_8 : Cond.code yX8_turnedNow cX8_turnedNow 3 (some .int) ∈ zWL := zWL_of (ztb_7 (i := 8) rfl) rfl
theorem tw_0_72 : Cond.selects RX8 yX8_turnedNow yX8_turnedNow ∈ zWL := zWL_of (ztb_0 (i := 72) (by decide +kernel)) rfl
theorem tw_7_7 : Cond.instanceMethod yX8_turnedNow ∈ zWL := zWL_of (ztb_7 (i := 7) (by decide +kernel)) rfl
theorem tw_7_0 : Cond.constantLong "HailCellarModel" 322 (Int64.ofInt (11)) ∈ zWL := zWL_of (ztb_7 (i := 0) (by decide +kernel)) rfl
theorem tw_7_1 : Cond.methodLink "HailCellarModel" 324 yX8_countOf ∈ zWL := zWL_of (ztb_7 (i := 1) (by decide +kernel)) rfl
theorem tw_7_4 : Cond.code yX8_countOf cX8_countOf 2 (some .int) ∈ zWL := zWL_of (ztb_7 (i := 4) rfl) rfl
theorem tw_0_71 : Cond.selects RX8 yX8_countOf yX8_countOf ∈ zWL := zWL_of (ztb_0 (i := 71) (by decide +kernel)) rfl
theorem tw_7_3 : Cond.instanceMethod yX8_countOf ∈ zWL := zWL_of (ztb_7 (i := 3) (by decide +kernel)) rfl
theorem tw_7_14 : Cond.constantLong "HailCellarModel" 327 (Int64.ofInt (31)) ∈ zWL := zWL_of (ztb_7 (i := 14) (by decide +kernel)) rfl
theorem tw_5_20 : Cond.fieldLink "HailCellarModel" 329 "HailCellarModel" "sum" "J" ∈ zWL := zWL_of (ztb_5 (i := 20) (by decide +kernel)) rfl
theorem tw_7_13 : Cond.constantLong "HailCellarModel" 332 (Int64.ofInt (1471)) ∈ zWL := zWL_of (ztb_7 (i := 13) (by decide +kernel)) rfl
theorem tw_7_15 : Cond.methodLink "HailCellarModel" 334 yX8_add ∈ zWL := zWL_of (ztb_7 (i := 15) (by decide +kernel)) rfl
theorem tw_7_18 : Cond.code yX8_add cX8_add 4 none ∈ zWL := zWL_of (ztb_7 (i := 18) rfl) rfl
theorem tw_0_73 : Cond.selects RX8 yX8_add yX8_add ∈ zWL := zWL_of (ztb_0 (i := 73) (by decide +kernel)) rfl
theorem tw_7_17 : Cond.instanceMethod yX8_add ∈ zWL := zWL_of (ztb_7 (i := 17) (by decide +kernel)) rfl
theorem tw_1_16 : Cond.classLink "HailCellarLaw" 7 "HailCellar" ∈ zWL := zWL_of (ztb_1 (i := 16) (by decide +kernel)) rfl
theorem tw_1_17 : Cond.instantiable "HailCellar" 15 ∈ zWL := zWL_of (ztb_1 (i := 17) (by decide +kernel)) rfl
theorem tw_1_18 : Cond.methodLink "HailCellarLaw" 9 yX7_init ∈ zWL := zWL_of (ztb_1 (i := 18) (by decide +kernel)) rfl
theorem tw_1_20 : Cond.code yX7_init cX7_init 1 none ∈ zWL := zWL_of (ztb_1 (i := 20) rfl) rfl
theorem tw_1_19 : Cond.instanceMethod yX7_init ∈ zWL := zWL_of (ztb_1 (i := 19) (by decide +kernel)) rfl
theorem tw_4_229 : Cond.classLink "HailCellarLaw" 10 "HailCellarModel" ∈ zWL := zWL_of (ztb_4 (i := 229) (by decide +kernel)) rfl
theorem tw_4_230 : Cond.instantiable "HailCellarModel" 26 ∈ zWL := zWL_of (ztb_4 (i := 230) (by decide +kernel)) rfl
theorem tw_4_231 : Cond.methodLink "HailCellarLaw" 12 yX8_init ∈ zWL := zWL_of (ztb_4 (i := 231) (by decide +kernel)) rfl
theorem tw_4_233 : Cond.code yX8_init cX8_init 1 none ∈ zWL := zWL_of (ztb_4 (i := 233) rfl) rfl
theorem tw_4_232 : Cond.instanceMethod yX8_init ∈ zWL := zWL_of (ztb_4 (i := 232) (by decide +kernel)) rfl
theorem tw_1_232 : Cond.methodLink "HailCellarLaw" 13 yX7_store ∈ zWL := zWL_of (ztb_1 (i := 232) (by decide +kernel)) rfl
theorem tw_1_235 : Cond.code yX7_store cX7_store 3 (some .int) ∈ zWL := zWL_of (ztb_1 (i := 235) rfl) rfl
theorem tw_1_234 : Cond.selects "HailCellar" yX7_store yX7_store ∈ zWL := zWL_of (ztb_1 (i := 234) (by decide +kernel)) rfl
theorem tw_1_233 : Cond.instanceMethod yX7_store ∈ zWL := zWL_of (ztb_1 (i := 233) (by decide +kernel)) rfl
theorem tw_5_75 : Cond.methodLink "HailCellarLaw" 17 yX8_store ∈ zWL := zWL_of (ztb_5 (i := 75) (by decide +kernel)) rfl
theorem tw_5_78 : Cond.code yX8_store cX8_store 3 (some .int) ∈ zWL := zWL_of (ztb_5 (i := 78) rfl) rfl
theorem tw_5_77 : Cond.selects "HailCellarModel" yX8_store yX8_store ∈ zWL := zWL_of (ztb_5 (i := 77) (by decide +kernel)) rfl
theorem tw_5_76 : Cond.instanceMethod yX8_store ∈ zWL := zWL_of (ztb_5 (i := 76) (by decide +kernel)) rfl
theorem tw_2_15 : Cond.methodLink "HailCellarLaw" 18 yX7_cellar ∈ zWL := zWL_of (ztb_2 (i := 15) (by decide +kernel)) rfl
theorem tw_2_18 : Cond.code yX7_cellar cX7_cellar 3 (some .int) ∈ zWL := zWL_of (ztb_2 (i := 18) rfl) rfl
theorem tw_2_17 : Cond.selects "HailCellar" yX7_cellar yX7_cellar ∈ zWL := zWL_of (ztb_2 (i := 17) (by decide +kernel)) rfl
theorem tw_2_16 : Cond.instanceMethod yX7_cellar ∈ zWL := zWL_of (ztb_2 (i := 16) (by decide +kernel)) rfl
theorem tw_5_91 : Cond.methodLink "HailCellarLaw" 22 yX8_cellar ∈ zWL := zWL_of (ztb_5 (i := 91) (by decide +kernel)) rfl
theorem tw_5_94 : Cond.code yX8_cellar cX8_cellar 4 (some .int) ∈ zWL := zWL_of (ztb_5 (i := 94) rfl) rfl
theorem tw_5_93 : Cond.selects "HailCellarModel" yX8_cellar yX8_cellar ∈ zWL := zWL_of (ztb_5 (i := 93) (by decide +kernel)) rfl
theorem tw_5_92 : Cond.instanceMethod yX8_cellar ∈ zWL := zWL_of (ztb_5 (i := 92) (by decide +kernel)) rfl
theorem tw_2_46 : Cond.methodLink "HailCellarLaw" 23 yX7_stones ∈ zWL := zWL_of (ztb_2 (i := 46) (by decide +kernel)) rfl
theorem tw_2_49 : Cond.code yX7_stones cX7_stones 4 (some .int) ∈ zWL := zWL_of (ztb_2 (i := 49) rfl) rfl
theorem tw_2_48 : Cond.selects "HailCellar" yX7_stones yX7_stones ∈ zWL := zWL_of (ztb_2 (i := 48) (by decide +kernel)) rfl
theorem tw_2_47 : Cond.instanceMethod yX7_stones ∈ zWL := zWL_of (ztb_2 (i := 47) (by decide +kernel)) rfl
theorem tw_5_100 : Cond.methodLink "HailCellarLaw" 27 yX8_stones ∈ zWL := zWL_of (ztb_5 (i := 100) (by decide +kernel)) rfl
theorem tw_5_103 : Cond.code yX8_stones cX8_stones 5 (some .int) ∈ zWL := zWL_of (ztb_5 (i := 103) rfl) rfl
theorem tw_5_102 : Cond.selects "HailCellarModel" yX8_stones yX8_stones ∈ zWL := zWL_of (ztb_5 (i := 102) (by decide +kernel)) rfl
theorem tw_5_101 : Cond.instanceMethod yX8_stones ∈ zWL := zWL_of (ztb_5 (i := 101) (by decide +kernel)) rfl
theorem tw_2_73 : Cond.methodLink "HailCellarLaw" 28 yX7_straw ∈ zWL := zWL_of (ztb_2 (i := 73) (by decide +kernel)) rfl
theorem tw_2_76 : Cond.code yX7_straw cX7_straw 4 (some .int) ∈ zWL := zWL_of (ztb_2 (i := 76) rfl) rfl
theorem tw_2_75 : Cond.selects "HailCellar" yX7_straw yX7_straw ∈ zWL := zWL_of (ztb_2 (i := 75) (by decide +kernel)) rfl
theorem tw_2_74 : Cond.instanceMethod yX7_straw ∈ zWL := zWL_of (ztb_2 (i := 74) (by decide +kernel)) rfl
theorem tw_5_109 : Cond.methodLink "HailCellarLaw" 31 yX8_straw ∈ zWL := zWL_of (ztb_5 (i := 109) (by decide +kernel)) rfl
theorem tw_5_112 : Cond.code yX8_straw cX8_straw 4 (some .int) ∈ zWL := zWL_of (ztb_5 (i := 112) rfl) rfl
theorem tw_5_111 : Cond.selects "HailCellarModel" yX8_straw yX8_straw ∈ zWL := zWL_of (ztb_5 (i := 111) (by decide +kernel)) rfl
theorem tw_5_110 : Cond.instanceMethod yX8_straw ∈ zWL := zWL_of (ztb_5 (i := 110) (by decide +kernel)) rfl
theorem tw_2_79 : Cond.methodLink "HailCellarLaw" 32 yX7_slinger ∈ zWL := zWL_of (ztb_2 (i := 79) (by decide +kernel)) rfl
theorem tw_2_82 : Cond.code yX7_slinger cX7_slinger 3 (some .int) ∈ zWL := zWL_of (ztb_2 (i := 82) rfl) rfl
theorem tw_2_81 : Cond.selects "HailCellar" yX7_slinger yX7_slinger ∈ zWL := zWL_of (ztb_2 (i := 81) (by decide +kernel)) rfl
theorem tw_2_80 : Cond.instanceMethod yX7_slinger ∈ zWL := zWL_of (ztb_2 (i := 80) (by decide +kernel)) rfl
theorem tw_5_113 : Cond.methodLink "HailCellarLaw" 35 yX8_slinger ∈ zWL := zWL_of (ztb_5 (i := 113) (by decide +kernel)) rfl
theorem tw_5_116 : Cond.code yX8_slinger cX8_slinger 4 (some .int) ∈ zWL := zWL_of (ztb_5 (i := 116) rfl) rfl
theorem tw_5_115 : Cond.selects "HailCellarModel" yX8_slinger yX8_slinger ∈ zWL := zWL_of (ztb_5 (i := 115) (by decide +kernel)) rfl
theorem tw_5_114 : Cond.instanceMethod yX8_slinger ∈ zWL := zWL_of (ztb_5 (i := 114) (by decide +kernel)) rfl
theorem tw_2_87 : Cond.methodLink "HailCellarLaw" 36 yX7_cloud ∈ zWL := zWL_of (ztb_2 (i := 87) (by decide +kernel)) rfl
theorem tw_2_90 : Cond.code yX7_cloud cX7_cloud 3 (some .int) ∈ zWL := zWL_of (ztb_2 (i := 90) rfl) rfl
theorem tw_2_89 : Cond.selects "HailCellar" yX7_cloud yX7_cloud ∈ zWL := zWL_of (ztb_2 (i := 89) (by decide +kernel)) rfl
theorem tw_2_88 : Cond.instanceMethod yX7_cloud ∈ zWL := zWL_of (ztb_2 (i := 88) (by decide +kernel)) rfl
theorem tw_5_117 : Cond.methodLink "HailCellarLaw" 39 yX8_cloud ∈ zWL := zWL_of (ztb_5 (i := 117) (by decide +kernel)) rfl
theorem tw_5_120 : Cond.code yX8_cloud cX8_cloud 4 (some .int) ∈ zWL := zWL_of (ztb_5 (i := 120) rfl) rfl
theorem tw_5_119 : Cond.selects "HailCellarModel" yX8_cloud yX8_cloud ∈ zWL := zWL_of (ztb_5 (i := 119) (by decide +kernel)) rfl
theorem tw_5_118 : Cond.instanceMethod yX8_cloud ∈ zWL := zWL_of (ztb_5 (i := 118) (by decide +kernel)) rfl
theorem tw_2_95 : Cond.methodLink "HailCellarLaw" 40 yX7_type ∈ zWL := zWL_of (ztb_2 (i := 95) (by decide +kernel)) rfl
theorem tw_2_98 : Cond.code yX7_type cX7_type 2 (some .int) ∈ zWL := zWL_of (ztb_2 (i := 98) rfl) rfl
theorem tw_2_97 : Cond.selects "HailCellar" yX7_type yX7_type ∈ zWL := zWL_of (ztb_2 (i := 97) (by decide +kernel)) rfl
theorem tw_2_96 : Cond.instanceMethod yX7_type ∈ zWL := zWL_of (ztb_2 (i := 96) (by decide +kernel)) rfl
theorem tw_5_123 : Cond.methodLink "HailCellarLaw" 43 yX8_type ∈ zWL := zWL_of (ztb_5 (i := 123) (by decide +kernel)) rfl
theorem tw_5_126 : Cond.code yX8_type cX8_type 2 (some .int) ∈ zWL := zWL_of (ztb_5 (i := 126) rfl) rfl
theorem tw_5_125 : Cond.selects "HailCellarModel" yX8_type yX8_type ∈ zWL := zWL_of (ztb_5 (i := 125) (by decide +kernel)) rfl
theorem tw_5_124 : Cond.instanceMethod yX8_type ∈ zWL := zWL_of (ztb_5 (i := 124) (by decide +kernel)) rfl
theorem tw_2_107 : Cond.methodLink "HailCellarLaw" 44 yX7_clear ∈ zWL := zWL_of (ztb_2 (i := 107) (by decide +kernel)) rfl
theorem tw_2_110 : Cond.code yX7_clear cX7_clear 1 (some .int) ∈ zWL := zWL_of (ztb_2 (i := 110) rfl) rfl
theorem tw_2_109 : Cond.selects "HailCellar" yX7_clear yX7_clear ∈ zWL := zWL_of (ztb_2 (i := 109) (by decide +kernel)) rfl
theorem tw_2_108 : Cond.instanceMethod yX7_clear ∈ zWL := zWL_of (ztb_2 (i := 108) (by decide +kernel)) rfl
theorem tw_5_128 : Cond.methodLink "HailCellarLaw" 48 yX8_clear ∈ zWL := zWL_of (ztb_5 (i := 128) (by decide +kernel)) rfl
theorem tw_5_131 : Cond.code yX8_clear cX8_clear 2 (some .int) ∈ zWL := zWL_of (ztb_5 (i := 131) rfl) rfl
theorem tw_5_130 : Cond.selects "HailCellarModel" yX8_clear yX8_clear ∈ zWL := zWL_of (ztb_5 (i := 130) (by decide +kernel)) rfl
theorem tw_5_129 : Cond.instanceMethod yX8_clear ∈ zWL := zWL_of (ztb_5 (i := 129) (by decide +kernel)) rfl
theorem tw_2_115 : Cond.methodLink "HailCellarLaw" 49 yX7_read ∈ zWL := zWL_of (ztb_2 (i := 115) (by decide +kernel)) rfl
theorem tw_2_118 : Cond.code yX7_read cX7_read 2 (some .int) ∈ zWL := zWL_of (ztb_2 (i := 118) rfl) rfl
theorem tw_2_117 : Cond.selects "HailCellar" yX7_read yX7_read ∈ zWL := zWL_of (ztb_2 (i := 117) (by decide +kernel)) rfl
theorem tw_2_116 : Cond.instanceMethod yX7_read ∈ zWL := zWL_of (ztb_2 (i := 116) (by decide +kernel)) rfl
theorem tw_5_132 : Cond.methodLink "HailCellarLaw" 52 yX8_read ∈ zWL := zWL_of (ztb_5 (i := 132) (by decide +kernel)) rfl
theorem tw_5_135 : Cond.code yX8_read cX8_read 3 (some .int) ∈ zWL := zWL_of (ztb_5 (i := 135) rfl) rfl
theorem tw_5_134 : Cond.selects "HailCellarModel" yX8_read yX8_read ∈ zWL := zWL_of (ztb_5 (i := 134) (by decide +kernel)) rfl
theorem tw_5_133 : Cond.instanceMethod yX8_read ∈ zWL := zWL_of (ztb_5 (i := 133) (by decide +kernel)) rfl
theorem tw_3_18 : Cond.methodLink "HailCellarLaw" 53 yX7_week ∈ zWL := zWL_of (ztb_3 (i := 18) (by decide +kernel)) rfl
theorem tw_3_21 : Cond.code yX7_week cX7_week 2 (some .int) ∈ zWL := zWL_of (ztb_3 (i := 21) rfl) rfl
theorem tw_3_20 : Cond.selects "HailCellar" yX7_week yX7_week ∈ zWL := zWL_of (ztb_3 (i := 20) (by decide +kernel)) rfl
theorem tw_3_19 : Cond.instanceMethod yX7_week ∈ zWL := zWL_of (ztb_3 (i := 19) (by decide +kernel)) rfl
theorem tw_5_197 : Cond.methodLink "HailCellarLaw" 56 yX8_week ∈ zWL := zWL_of (ztb_5 (i := 197) (by decide +kernel)) rfl
theorem tw_5_200 : Cond.code yX8_week cX8_week 3 (some .int) ∈ zWL := zWL_of (ztb_5 (i := 200) rfl) rfl
theorem tw_5_199 : Cond.selects "HailCellarModel" yX8_week yX8_week ∈ zWL := zWL_of (ztb_5 (i := 199) (by decide +kernel)) rfl
theorem tw_5_198 : Cond.instanceMethod yX8_week ∈ zWL := zWL_of (ztb_5 (i := 198) (by decide +kernel)) rfl
theorem tw_3_46 : Cond.methodLink "HailCellarLaw" 57 yX7_door ∈ zWL := zWL_of (ztb_3 (i := 46) (by decide +kernel)) rfl
theorem tw_3_49 : Cond.code yX7_door cX7_door 2 (some .int) ∈ zWL := zWL_of (ztb_3 (i := 49) rfl) rfl
theorem tw_3_48 : Cond.selects "HailCellar" yX7_door yX7_door ∈ zWL := zWL_of (ztb_3 (i := 48) (by decide +kernel)) rfl
theorem tw_3_47 : Cond.instanceMethod yX7_door ∈ zWL := zWL_of (ztb_3 (i := 47) (by decide +kernel)) rfl
theorem tw_5_216 : Cond.methodLink "HailCellarLaw" 60 yX8_door ∈ zWL := zWL_of (ztb_5 (i := 216) (by decide +kernel)) rfl
theorem tw_5_219 : Cond.code yX8_door cX8_door 2 (some .int) ∈ zWL := zWL_of (ztb_5 (i := 219) rfl) rfl
theorem tw_5_218 : Cond.selects "HailCellarModel" yX8_door yX8_door ∈ zWL := zWL_of (ztb_5 (i := 218) (by decide +kernel)) rfl
theorem tw_5_217 : Cond.instanceMethod yX8_door ∈ zWL := zWL_of (ztb_5 (i := 217) (by decide +kernel)) rfl
theorem tw_3_62 : Cond.methodLink "HailCellarLaw" 61 yX7_throwing ∈ zWL := zWL_of (ztb_3 (i := 62) (by decide +kernel)) rfl
theorem tw_3_65 : Cond.code yX7_throwing cX7_throwing 5 (some .int) ∈ zWL := zWL_of (ztb_3 (i := 65) rfl) rfl
theorem tw_3_64 : Cond.selects "HailCellar" yX7_throwing yX7_throwing ∈ zWL := zWL_of (ztb_3 (i := 64) (by decide +kernel)) rfl
theorem tw_3_63 : Cond.instanceMethod yX7_throwing ∈ zWL := zWL_of (ztb_3 (i := 63) (by decide +kernel)) rfl
theorem tw_5_227 : Cond.methodLink "HailCellarLaw" 65 yX8_throwing ∈ zWL := zWL_of (ztb_5 (i := 227) (by decide +kernel)) rfl
theorem tw_5_230 : Cond.code yX8_throwing cX8_throwing 6 (some .int) ∈ zWL := zWL_of (ztb_5 (i := 230) rfl) rfl
theorem tw_5_229 : Cond.selects "HailCellarModel" yX8_throwing yX8_throwing ∈ zWL := zWL_of (ztb_5 (i := 229) (by decide +kernel)) rfl
theorem tw_5_228 : Cond.instanceMethod yX8_throwing ∈ zWL := zWL_of (ztb_5 (i := 228) (by decide +kernel)) rfl
theorem tw_3_105 : Cond.methodLink "HailCellarLaw" 66 yX7_hour ∈ zWL := zWL_of (ztb_3 (i := 105) (by decide +kernel)) rfl
theorem tw_3_108 : Cond.code yX7_hour cX7_hour 1 (some .int) ∈ zWL := zWL_of (ztb_3 (i := 108) rfl) rfl
theorem tw_3_107 : Cond.selects "HailCellar" yX7_hour yX7_hour ∈ zWL := zWL_of (ztb_3 (i := 107) (by decide +kernel)) rfl
theorem tw_3_106 : Cond.instanceMethod yX7_hour ∈ zWL := zWL_of (ztb_3 (i := 106) (by decide +kernel)) rfl
theorem tw_6_27 : Cond.methodLink "HailCellarLaw" 69 yX8_hour ∈ zWL := zWL_of (ztb_6 (i := 27) (by decide +kernel)) rfl
theorem tw_6_30 : Cond.code yX8_hour cX8_hour 3 (some .int) ∈ zWL := zWL_of (ztb_6 (i := 30) rfl) rfl
theorem tw_6_29 : Cond.selects "HailCellarModel" yX8_hour yX8_hour ∈ zWL := zWL_of (ztb_6 (i := 29) (by decide +kernel)) rfl
theorem tw_6_28 : Cond.instanceMethod yX8_hour ∈ zWL := zWL_of (ztb_6 (i := 28) (by decide +kernel)) rfl
theorem tw_3_121 : Cond.methodLink "HailCellarLaw" 70 yX7_wind ∈ zWL := zWL_of (ztb_3 (i := 121) (by decide +kernel)) rfl
theorem tw_3_124 : Cond.code yX7_wind cX7_wind 3 (some .int) ∈ zWL := zWL_of (ztb_3 (i := 124) rfl) rfl
theorem tw_3_123 : Cond.selects "HailCellar" yX7_wind yX7_wind ∈ zWL := zWL_of (ztb_3 (i := 123) (by decide +kernel)) rfl
theorem tw_3_122 : Cond.instanceMethod yX7_wind ∈ zWL := zWL_of (ztb_3 (i := 122) (by decide +kernel)) rfl
theorem tw_6_35 : Cond.methodLink "HailCellarLaw" 73 yX8_wind ∈ zWL := zWL_of (ztb_6 (i := 35) (by decide +kernel)) rfl
theorem tw_6_38 : Cond.code yX8_wind cX8_wind 3 (some .int) ∈ zWL := zWL_of (ztb_6 (i := 38) rfl) rfl
theorem tw_6_37 : Cond.selects "HailCellarModel" yX8_wind yX8_wind ∈ zWL := zWL_of (ztb_6 (i := 37) (by decide +kernel)) rfl
theorem tw_6_36 : Cond.instanceMethod yX8_wind ∈ zWL := zWL_of (ztb_6 (i := 36) (by decide +kernel)) rfl
theorem tw_3_125 : Cond.methodLink "HailCellarLaw" 74 yX7_undo ∈ zWL := zWL_of (ztb_3 (i := 125) (by decide +kernel)) rfl
theorem tw_3_128 : Cond.code yX7_undo cX7_undo 1 (some .int) ∈ zWL := zWL_of (ztb_3 (i := 128) rfl) rfl
theorem tw_3_127 : Cond.selects "HailCellar" yX7_undo yX7_undo ∈ zWL := zWL_of (ztb_3 (i := 127) (by decide +kernel)) rfl
theorem tw_3_126 : Cond.instanceMethod yX7_undo ∈ zWL := zWL_of (ztb_3 (i := 126) (by decide +kernel)) rfl
theorem tw_6_39 : Cond.methodLink "HailCellarLaw" 77 yX8_undo ∈ zWL := zWL_of (ztb_6 (i := 39) (by decide +kernel)) rfl
theorem tw_6_42 : Cond.code yX8_undo cX8_undo 2 (some .int) ∈ zWL := zWL_of (ztb_6 (i := 42) rfl) rfl
theorem tw_6_41 : Cond.selects "HailCellarModel" yX8_undo yX8_undo ∈ zWL := zWL_of (ztb_6 (i := 41) (by decide +kernel)) rfl
theorem tw_6_40 : Cond.instanceMethod yX8_undo ∈ zWL := zWL_of (ztb_6 (i := 40) (by decide +kernel)) rfl
theorem tw_3_138 : Cond.methodLink "HailCellarLaw" 78 yX7_of ∈ zWL := zWL_of (ztb_3 (i := 138) (by decide +kernel)) rfl
theorem tw_3_141 : Cond.code yX7_of cX7_of 3 (some .int) ∈ zWL := zWL_of (ztb_3 (i := 141) rfl) rfl
theorem tw_3_140 : Cond.selects "HailCellar" yX7_of yX7_of ∈ zWL := zWL_of (ztb_3 (i := 140) (by decide +kernel)) rfl
theorem tw_3_139 : Cond.instanceMethod yX7_of ∈ zWL := zWL_of (ztb_3 (i := 139) (by decide +kernel)) rfl
theorem tw_6_43 : Cond.methodLink "HailCellarLaw" 81 yX8_of ∈ zWL := zWL_of (ztb_6 (i := 43) (by decide +kernel)) rfl
theorem tw_6_46 : Cond.code yX8_of cX8_of 3 (some .int) ∈ zWL := zWL_of (ztb_6 (i := 46) rfl) rfl
theorem tw_6_45 : Cond.selects "HailCellarModel" yX8_of yX8_of ∈ zWL := zWL_of (ztb_6 (i := 45) (by decide +kernel)) rfl
theorem tw_6_44 : Cond.instanceMethod yX8_of ∈ zWL := zWL_of (ztb_6 (i := 44) (by decide +kernel)) rfl
theorem tw_3_143 : Cond.methodLink "HailCellarLaw" 82 yX7_has ∈ zWL := zWL_of (ztb_3 (i := 143) (by decide +kernel)) rfl
theorem tw_3_146 : Cond.code yX7_has cX7_has 3 (some .int) ∈ zWL := zWL_of (ztb_3 (i := 146) rfl) rfl
theorem tw_3_145 : Cond.selects "HailCellar" yX7_has yX7_has ∈ zWL := zWL_of (ztb_3 (i := 145) (by decide +kernel)) rfl
theorem tw_3_144 : Cond.instanceMethod yX7_has ∈ zWL := zWL_of (ztb_3 (i := 144) (by decide +kernel)) rfl
theorem tw_6_48 : Cond.methodLink "HailCellarLaw" 85 yX8_has ∈ zWL := zWL_of (ztb_6 (i := 48) (by decide +kernel)) rfl
theorem tw_6_51 : Cond.code yX8_has cX8_has 3 (some .int) ∈ zWL := zWL_of (ztb_6 (i := 51) rfl) rfl
theorem tw_6_50 : Cond.selects "HailCellarModel" yX8_has yX8_has ∈ zWL := zWL_of (ztb_6 (i := 50) (by decide +kernel)) rfl
theorem tw_6_49 : Cond.instanceMethod yX8_has ∈ zWL := zWL_of (ztb_6 (i := 49) (by decide +kernel)) rfl
theorem tw_3_147 : Cond.methodLink "HailCellarLaw" 86 yX7_about ∈ zWL := zWL_of (ztb_3 (i := 147) (by decide +kernel)) rfl
theorem tw_3_150 : Cond.code yX7_about cX7_about 3 (some .int) ∈ zWL := zWL_of (ztb_3 (i := 150) rfl) rfl
theorem tw_3_149 : Cond.selects "HailCellar" yX7_about yX7_about ∈ zWL := zWL_of (ztb_3 (i := 149) (by decide +kernel)) rfl
theorem tw_3_148 : Cond.instanceMethod yX7_about ∈ zWL := zWL_of (ztb_3 (i := 148) (by decide +kernel)) rfl
theorem tw_6_52 : Cond.methodLink "HailCellarLaw" 89 yX8_about ∈ zWL := zWL_of (ztb_6 (i := 52) (by decide +kernel)) rfl
theorem tw_6_55 : Cond.code yX8_about cX8_about 3 (some .int) ∈ zWL := zWL_of (ztb_6 (i := 55) rfl) rfl
theorem tw_6_54 : Cond.selects "HailCellarModel" yX8_about yX8_about ∈ zWL := zWL_of (ztb_6 (i := 54) (by decide +kernel)) rfl
theorem tw_6_53 : Cond.instanceMethod yX8_about ∈ zWL := zWL_of (ztb_6 (i := 53) (by decide +kernel)) rfl
theorem tw_3_151 : Cond.methodLink "HailCellarLaw" 90 yX7_sky ∈ zWL := zWL_of (ztb_3 (i := 151) (by decide +kernel)) rfl
theorem tw_3_154 : Cond.code yX7_sky cX7_sky 3 (some .int) ∈ zWL := zWL_of (ztb_3 (i := 154) rfl) rfl
theorem tw_3_153 : Cond.selects "HailCellar" yX7_sky yX7_sky ∈ zWL := zWL_of (ztb_3 (i := 153) (by decide +kernel)) rfl
theorem tw_3_152 : Cond.instanceMethod yX7_sky ∈ zWL := zWL_of (ztb_3 (i := 152) (by decide +kernel)) rfl
theorem tw_6_56 : Cond.methodLink "HailCellarLaw" 93 yX8_sky ∈ zWL := zWL_of (ztb_6 (i := 56) (by decide +kernel)) rfl
theorem tw_6_59 : Cond.code yX8_sky cX8_sky 3 (some .int) ∈ zWL := zWL_of (ztb_6 (i := 59) rfl) rfl
theorem tw_6_58 : Cond.selects "HailCellarModel" yX8_sky yX8_sky ∈ zWL := zWL_of (ztb_6 (i := 58) (by decide +kernel)) rfl
theorem tw_6_57 : Cond.instanceMethod yX8_sky ∈ zWL := zWL_of (ztb_6 (i := 57) (by decide +kernel)) rfl
theorem tw_3_156 : Cond.methodLink "HailCellarLaw" 94 yX7_melts ∈ zWL := zWL_of (ztb_3 (i := 156) (by decide +kernel)) rfl
theorem tw_3_159 : Cond.code yX7_melts cX7_melts 3 (some .int) ∈ zWL := zWL_of (ztb_3 (i := 159) rfl) rfl
theorem tw_3_158 : Cond.selects "HailCellar" yX7_melts yX7_melts ∈ zWL := zWL_of (ztb_3 (i := 158) (by decide +kernel)) rfl
theorem tw_3_157 : Cond.instanceMethod yX7_melts ∈ zWL := zWL_of (ztb_3 (i := 157) (by decide +kernel)) rfl
theorem tw_6_60 : Cond.methodLink "HailCellarLaw" 97 yX8_melts ∈ zWL := zWL_of (ztb_6 (i := 60) (by decide +kernel)) rfl
theorem tw_6_63 : Cond.code yX8_melts cX8_melts 3 (some .int) ∈ zWL := zWL_of (ztb_6 (i := 63) rfl) rfl
theorem tw_6_62 : Cond.selects "HailCellarModel" yX8_melts yX8_melts ∈ zWL := zWL_of (ztb_6 (i := 62) (by decide +kernel)) rfl
theorem tw_6_61 : Cond.instanceMethod yX8_melts ∈ zWL := zWL_of (ztb_6 (i := 61) (by decide +kernel)) rfl
theorem tw_3_161 : Cond.methodLink "HailCellarLaw" 98 yX7_then ∈ zWL := zWL_of (ztb_3 (i := 161) (by decide +kernel)) rfl
theorem tw_3_164 : Cond.code yX7_then cX7_then 5 (some .int) ∈ zWL := zWL_of (ztb_3 (i := 164) rfl) rfl
theorem tw_3_163 : Cond.selects "HailCellar" yX7_then yX7_then ∈ zWL := zWL_of (ztb_3 (i := 163) (by decide +kernel)) rfl
theorem tw_3_162 : Cond.instanceMethod yX7_then ∈ zWL := zWL_of (ztb_3 (i := 162) (by decide +kernel)) rfl
theorem tw_6_65 : Cond.methodLink "HailCellarLaw" 101 yX8_then ∈ zWL := zWL_of (ztb_6 (i := 65) (by decide +kernel)) rfl
theorem tw_6_68 : Cond.code yX8_then cX8_then 7 (some .int) ∈ zWL := zWL_of (ztb_6 (i := 68) rfl) rfl
theorem tw_6_67 : Cond.selects "HailCellarModel" yX8_then yX8_then ∈ zWL := zWL_of (ztb_6 (i := 67) (by decide +kernel)) rfl
theorem tw_6_66 : Cond.instanceMethod yX8_then ∈ zWL := zWL_of (ztb_6 (i := 66) (by decide +kernel)) rfl
theorem tw_3_182 : Cond.methodLink "HailCellarLaw" 102 yX7_lasts ∈ zWL := zWL_of (ztb_3 (i := 182) (by decide +kernel)) rfl
theorem tw_3_185 : Cond.code yX7_lasts cX7_lasts 3 (some .int) ∈ zWL := zWL_of (ztb_3 (i := 185) rfl) rfl
theorem tw_3_184 : Cond.selects "HailCellar" yX7_lasts yX7_lasts ∈ zWL := zWL_of (ztb_3 (i := 184) (by decide +kernel)) rfl
theorem tw_3_183 : Cond.instanceMethod yX7_lasts ∈ zWL := zWL_of (ztb_3 (i := 183) (by decide +kernel)) rfl
theorem tw_6_78 : Cond.methodLink "HailCellarLaw" 105 yX8_lasts ∈ zWL := zWL_of (ztb_6 (i := 78) (by decide +kernel)) rfl
theorem tw_6_81 : Cond.code yX8_lasts cX8_lasts 4 (some .int) ∈ zWL := zWL_of (ztb_6 (i := 81) rfl) rfl
theorem tw_6_80 : Cond.selects "HailCellarModel" yX8_lasts yX8_lasts ∈ zWL := zWL_of (ztb_6 (i := 80) (by decide +kernel)) rfl
theorem tw_6_79 : Cond.instanceMethod yX8_lasts ∈ zWL := zWL_of (ztb_6 (i := 79) (by decide +kernel)) rfl
theorem tw_3_191 : Cond.methodLink "HailCellarLaw" 106 yX7_least ∈ zWL := zWL_of (ztb_3 (i := 191) (by decide +kernel)) rfl
theorem tw_3_194 : Cond.code yX7_least cX7_least 4 (some .int) ∈ zWL := zWL_of (ztb_3 (i := 194) rfl) rfl
theorem tw_3_193 : Cond.selects "HailCellar" yX7_least yX7_least ∈ zWL := zWL_of (ztb_3 (i := 193) (by decide +kernel)) rfl
theorem tw_3_192 : Cond.instanceMethod yX7_least ∈ zWL := zWL_of (ztb_3 (i := 192) (by decide +kernel)) rfl
theorem tw_6_82 : Cond.methodLink "HailCellarLaw" 109 yX8_least ∈ zWL := zWL_of (ztb_6 (i := 82) (by decide +kernel)) rfl
theorem tw_6_85 : Cond.code yX8_least cX8_least 6 (some .int) ∈ zWL := zWL_of (ztb_6 (i := 85) rfl) rfl
theorem tw_6_84 : Cond.selects "HailCellarModel" yX8_least yX8_least ∈ zWL := zWL_of (ztb_6 (i := 84) (by decide +kernel)) rfl
theorem tw_6_83 : Cond.instanceMethod yX8_least ∈ zWL := zWL_of (ztb_6 (i := 83) (by decide +kernel)) rfl
theorem tw_3_199 : Cond.methodLink "HailCellarLaw" 110 yX7_throwsOf ∈ zWL := zWL_of (ztb_3 (i := 199) (by decide +kernel)) rfl
theorem tw_3_202 : Cond.code yX7_throwsOf cX7_throwsOf 4 (some .int) ∈ zWL := zWL_of (ztb_3 (i := 202) rfl) rfl
theorem tw_3_201 : Cond.selects "HailCellar" yX7_throwsOf yX7_throwsOf ∈ zWL := zWL_of (ztb_3 (i := 201) (by decide +kernel)) rfl
theorem tw_3_200 : Cond.instanceMethod yX7_throwsOf ∈ zWL := zWL_of (ztb_3 (i := 200) (by decide +kernel)) rfl
theorem tw_6_86 : Cond.methodLink "HailCellarLaw" 113 yX8_throwsOf ∈ zWL := zWL_of (ztb_6 (i := 86) (by decide +kernel)) rfl
theorem tw_6_89 : Cond.code yX8_throwsOf cX8_throwsOf 4 (some .int) ∈ zWL := zWL_of (ztb_6 (i := 89) rfl) rfl
theorem tw_6_88 : Cond.selects "HailCellarModel" yX8_throwsOf yX8_throwsOf ∈ zWL := zWL_of (ztb_6 (i := 88) (by decide +kernel)) rfl
theorem tw_6_87 : Cond.instanceMethod yX8_throwsOf ∈ zWL := zWL_of (ztb_6 (i := 87) (by decide +kernel)) rfl
theorem tw_3_205 : Cond.methodLink "HailCellarLaw" 114 yX7_reach ∈ zWL := zWL_of (ztb_3 (i := 205) (by decide +kernel)) rfl
theorem tw_3_208 : Cond.code yX7_reach cX7_reach 3 (some .int) ∈ zWL := zWL_of (ztb_3 (i := 208) rfl) rfl
theorem tw_3_207 : Cond.selects "HailCellar" yX7_reach yX7_reach ∈ zWL := zWL_of (ztb_3 (i := 207) (by decide +kernel)) rfl
theorem tw_3_206 : Cond.instanceMethod yX7_reach ∈ zWL := zWL_of (ztb_3 (i := 206) (by decide +kernel)) rfl
theorem tw_6_90 : Cond.methodLink "HailCellarLaw" 117 yX8_reach ∈ zWL := zWL_of (ztb_6 (i := 90) (by decide +kernel)) rfl
theorem tw_6_93 : Cond.code yX8_reach cX8_reach 5 (some .int) ∈ zWL := zWL_of (ztb_6 (i := 93) rfl) rfl
theorem tw_6_92 : Cond.selects "HailCellarModel" yX8_reach yX8_reach ∈ zWL := zWL_of (ztb_6 (i := 92) (by decide +kernel)) rfl
theorem tw_6_91 : Cond.instanceMethod yX8_reach ∈ zWL := zWL_of (ztb_6 (i := 91) (by decide +kernel)) rfl
theorem tw_3_214 : Cond.methodLink "HailCellarLaw" 118 yX7_turn ∈ zWL := zWL_of (ztb_3 (i := 214) (by decide +kernel)) rfl
theorem tw_3_217 : Cond.code yX7_turn cX7_turn 6 (some .int) ∈ zWL := zWL_of (ztb_3 (i := 217) rfl) rfl
theorem tw_3_216 : Cond.selects "HailCellar" yX7_turn yX7_turn ∈ zWL := zWL_of (ztb_3 (i := 216) (by decide +kernel)) rfl
theorem tw_3_215 : Cond.instanceMethod yX7_turn ∈ zWL := zWL_of (ztb_3 (i := 215) (by decide +kernel)) rfl
theorem tw_6_94 : Cond.methodLink "HailCellarLaw" 121 yX8_turn ∈ zWL := zWL_of (ztb_6 (i := 94) (by decide +kernel)) rfl
theorem tw_6_97 : Cond.code yX8_turn cX8_turn 8 (some .int) ∈ zWL := zWL_of (ztb_6 (i := 97) rfl) rfl
theorem tw_6_96 : Cond.selects "HailCellarModel" yX8_turn yX8_turn ∈ zWL := zWL_of (ztb_6 (i := 96) (by decide +kernel)) rfl
theorem tw_6_95 : Cond.instanceMethod yX8_turn ∈ zWL := zWL_of (ztb_6 (i := 95) (by decide +kernel)) rfl
theorem tw_3_232 : Cond.methodLink "HailCellarLaw" 122 yX7_meet ∈ zWL := zWL_of (ztb_3 (i := 232) (by decide +kernel)) rfl
theorem tw_3_235 : Cond.code yX7_meet cX7_meet 4 (some .int) ∈ zWL := zWL_of (ztb_3 (i := 235) rfl) rfl
theorem tw_3_234 : Cond.selects "HailCellar" yX7_meet yX7_meet ∈ zWL := zWL_of (ztb_3 (i := 234) (by decide +kernel)) rfl
theorem tw_3_233 : Cond.instanceMethod yX7_meet ∈ zWL := zWL_of (ztb_3 (i := 233) (by decide +kernel)) rfl
theorem tw_6_102 : Cond.methodLink "HailCellarLaw" 125 yX8_meet ∈ zWL := zWL_of (ztb_6 (i := 102) (by decide +kernel)) rfl
theorem tw_6_105 : Cond.code yX8_meet cX8_meet 7 (some .int) ∈ zWL := zWL_of (ztb_6 (i := 105) rfl) rfl
theorem tw_6_104 : Cond.selects "HailCellarModel" yX8_meet yX8_meet ∈ zWL := zWL_of (ztb_6 (i := 104) (by decide +kernel)) rfl
theorem tw_6_103 : Cond.instanceMethod yX8_meet ∈ zWL := zWL_of (ztb_6 (i := 103) (by decide +kernel)) rfl
theorem tw_4_40 : Cond.methodLink "HailCellarLaw" 126 yX7_doors ∈ zWL := zWL_of (ztb_4 (i := 40) (by decide +kernel)) rfl
theorem tw_4_43 : Cond.code yX7_doors cX7_doors 4 (some .int) ∈ zWL := zWL_of (ztb_4 (i := 43) rfl) rfl
theorem tw_4_42 : Cond.selects "HailCellar" yX7_doors yX7_doors ∈ zWL := zWL_of (ztb_4 (i := 42) (by decide +kernel)) rfl
theorem tw_4_41 : Cond.instanceMethod yX7_doors ∈ zWL := zWL_of (ztb_4 (i := 41) (by decide +kernel)) rfl
theorem tw_6_122 : Cond.methodLink "HailCellarLaw" 129 yX8_doors ∈ zWL := zWL_of (ztb_6 (i := 122) (by decide +kernel)) rfl
theorem tw_6_125 : Cond.code yX8_doors cX8_doors 9 (some .int) ∈ zWL := zWL_of (ztb_6 (i := 125) rfl) rfl
theorem tw_6_124 : Cond.selects "HailCellarModel" yX8_doors yX8_doors ∈ zWL := zWL_of (ztb_6 (i := 124) (by decide +kernel)) rfl
theorem tw_6_123 : Cond.instanceMethod yX8_doors ∈ zWL := zWL_of (ztb_6 (i := 123) (by decide +kernel)) rfl
theorem tw_4_54 : Cond.methodLink "HailCellarLaw" 130 yX7_rings ∈ zWL := zWL_of (ztb_4 (i := 54) (by decide +kernel)) rfl
theorem tw_4_57 : Cond.code yX7_rings cX7_rings 5 (some .int) ∈ zWL := zWL_of (ztb_4 (i := 57) rfl) rfl
theorem tw_4_56 : Cond.selects "HailCellar" yX7_rings yX7_rings ∈ zWL := zWL_of (ztb_4 (i := 56) (by decide +kernel)) rfl
theorem tw_4_55 : Cond.instanceMethod yX7_rings ∈ zWL := zWL_of (ztb_4 (i := 55) (by decide +kernel)) rfl
theorem tw_6_130 : Cond.methodLink "HailCellarLaw" 133 yX8_rings ∈ zWL := zWL_of (ztb_6 (i := 130) (by decide +kernel)) rfl
theorem tw_6_133 : Cond.code yX8_rings cX8_rings 6 (some .int) ∈ zWL := zWL_of (ztb_6 (i := 133) rfl) rfl
theorem tw_6_132 : Cond.selects "HailCellarModel" yX8_rings yX8_rings ∈ zWL := zWL_of (ztb_6 (i := 132) (by decide +kernel)) rfl
theorem tw_6_131 : Cond.instanceMethod yX8_rings ∈ zWL := zWL_of (ztb_6 (i := 131) (by decide +kernel)) rfl
theorem tw_4_63 : Cond.methodLink "HailCellarLaw" 134 yX7_cooled ∈ zWL := zWL_of (ztb_4 (i := 63) (by decide +kernel)) rfl
theorem tw_4_66 : Cond.code yX7_cooled cX7_cooled 2 (some .int) ∈ zWL := zWL_of (ztb_4 (i := 66) rfl) rfl
theorem tw_4_65 : Cond.selects "HailCellar" yX7_cooled yX7_cooled ∈ zWL := zWL_of (ztb_4 (i := 65) (by decide +kernel)) rfl
theorem tw_4_64 : Cond.instanceMethod yX7_cooled ∈ zWL := zWL_of (ztb_4 (i := 64) (by decide +kernel)) rfl
theorem tw_6_134 : Cond.methodLink "HailCellarLaw" 137 yX8_cooled ∈ zWL := zWL_of (ztb_6 (i := 134) (by decide +kernel)) rfl
theorem tw_6_137 : Cond.code yX8_cooled cX8_cooled 2 (some .int) ∈ zWL := zWL_of (ztb_6 (i := 137) rfl) rfl
theorem tw_6_136 : Cond.selects "HailCellarModel" yX8_cooled yX8_cooled ∈ zWL := zWL_of (ztb_6 (i := 136) (by decide +kernel)) rfl
theorem tw_6_135 : Cond.instanceMethod yX8_cooled ∈ zWL := zWL_of (ztb_6 (i := 135) (by decide +kernel)) rfl
theorem tw_4_75 : Cond.methodLink "HailCellarLaw" 138 yX7_even ∈ zWL := zWL_of (ztb_4 (i := 75) (by decide +kernel)) rfl
theorem tw_4_78 : Cond.code yX7_even cX7_even 2 (some .int) ∈ zWL := zWL_of (ztb_4 (i := 78) rfl) rfl
theorem tw_4_77 : Cond.selects "HailCellar" yX7_even yX7_even ∈ zWL := zWL_of (ztb_4 (i := 77) (by decide +kernel)) rfl
theorem tw_4_76 : Cond.instanceMethod yX7_even ∈ zWL := zWL_of (ztb_4 (i := 76) (by decide +kernel)) rfl
theorem tw_6_142 : Cond.methodLink "HailCellarLaw" 141 yX8_even ∈ zWL := zWL_of (ztb_6 (i := 142) (by decide +kernel)) rfl
theorem tw_6_145 : Cond.code yX8_even cX8_even 4 (some .int) ∈ zWL := zWL_of (ztb_6 (i := 145) rfl) rfl
theorem tw_6_144 : Cond.selects "HailCellarModel" yX8_even yX8_even ∈ zWL := zWL_of (ztb_6 (i := 144) (by decide +kernel)) rfl
theorem tw_6_143 : Cond.instanceMethod yX8_even ∈ zWL := zWL_of (ztb_6 (i := 143) (by decide +kernel)) rfl
theorem tw_4_84 : Cond.methodLink "HailCellarLaw" 142 yX7_note ∈ zWL := zWL_of (ztb_4 (i := 84) (by decide +kernel)) rfl
theorem tw_4_87 : Cond.code yX7_note cX7_note 6 (some .int) ∈ zWL := zWL_of (ztb_4 (i := 87) rfl) rfl
theorem tw_4_86 : Cond.selects "HailCellar" yX7_note yX7_note ∈ zWL := zWL_of (ztb_4 (i := 86) (by decide +kernel)) rfl
theorem tw_4_85 : Cond.instanceMethod yX7_note ∈ zWL := zWL_of (ztb_4 (i := 85) (by decide +kernel)) rfl
theorem tw_6_146 : Cond.methodLink "HailCellarLaw" 146 yX8_note ∈ zWL := zWL_of (ztb_6 (i := 146) (by decide +kernel)) rfl
theorem tw_6_149 : Cond.code yX8_note cX8_note 6 (some .int) ∈ zWL := zWL_of (ztb_6 (i := 149) rfl) rfl
theorem tw_6_148 : Cond.selects "HailCellarModel" yX8_note yX8_note ∈ zWL := zWL_of (ztb_6 (i := 148) (by decide +kernel)) rfl
theorem tw_6_147 : Cond.instanceMethod yX8_note ∈ zWL := zWL_of (ztb_6 (i := 147) (by decide +kernel)) rfl
theorem tw_4_88 : Cond.methodLink "HailCellarLaw" 147 yX7_flew ∈ zWL := zWL_of (ztb_4 (i := 88) (by decide +kernel)) rfl
theorem tw_4_91 : Cond.code yX7_flew cX7_flew 6 (some .int) ∈ zWL := zWL_of (ztb_4 (i := 91) rfl) rfl
theorem tw_4_90 : Cond.selects "HailCellar" yX7_flew yX7_flew ∈ zWL := zWL_of (ztb_4 (i := 90) (by decide +kernel)) rfl
theorem tw_4_89 : Cond.instanceMethod yX7_flew ∈ zWL := zWL_of (ztb_4 (i := 89) (by decide +kernel)) rfl
theorem tw_6_154 : Cond.methodLink "HailCellarLaw" 150 yX8_flew ∈ zWL := zWL_of (ztb_6 (i := 154) (by decide +kernel)) rfl
theorem tw_6_157 : Cond.code yX8_flew cX8_flew 6 (some .int) ∈ zWL := zWL_of (ztb_6 (i := 157) rfl) rfl
theorem tw_6_156 : Cond.selects "HailCellarModel" yX8_flew yX8_flew ∈ zWL := zWL_of (ztb_6 (i := 156) (by decide +kernel)) rfl
theorem tw_6_155 : Cond.instanceMethod yX8_flew ∈ zWL := zWL_of (ztb_6 (i := 155) (by decide +kernel)) rfl
theorem tw_4_92 : Cond.methodLink "HailCellarLaw" 151 yX7_forget ∈ zWL := zWL_of (ztb_4 (i := 92) (by decide +kernel)) rfl
theorem tw_4_95 : Cond.code yX7_forget cX7_forget 2 (some .int) ∈ zWL := zWL_of (ztb_4 (i := 95) rfl) rfl
theorem tw_4_94 : Cond.selects "HailCellar" yX7_forget yX7_forget ∈ zWL := zWL_of (ztb_4 (i := 94) (by decide +kernel)) rfl
theorem tw_4_93 : Cond.instanceMethod yX7_forget ∈ zWL := zWL_of (ztb_4 (i := 93) (by decide +kernel)) rfl
theorem tw_6_159 : Cond.methodLink "HailCellarLaw" 154 yX8_forget ∈ zWL := zWL_of (ztb_6 (i := 159) (by decide +kernel)) rfl
theorem tw_6_162 : Cond.code yX8_forget cX8_forget 3 (some .int) ∈ zWL := zWL_of (ztb_6 (i := 162) rfl) rfl
theorem tw_6_161 : Cond.selects "HailCellarModel" yX8_forget yX8_forget ∈ zWL := zWL_of (ztb_6 (i := 161) (by decide +kernel)) rfl
theorem tw_6_160 : Cond.instanceMethod yX8_forget ∈ zWL := zWL_of (ztb_6 (i := 160) (by decide +kernel)) rfl
theorem tw_4_96 : Cond.methodLink "HailCellarLaw" 155 yX7_is ∈ zWL := zWL_of (ztb_4 (i := 96) (by decide +kernel)) rfl
theorem tw_4_99 : Cond.code yX7_is cX7_is 2 (some .int) ∈ zWL := zWL_of (ztb_4 (i := 99) rfl) rfl
theorem tw_4_98 : Cond.selects "HailCellar" yX7_is yX7_is ∈ zWL := zWL_of (ztb_4 (i := 98) (by decide +kernel)) rfl
theorem tw_4_97 : Cond.instanceMethod yX7_is ∈ zWL := zWL_of (ztb_4 (i := 97) (by decide +kernel)) rfl
theorem tw_6_164 : Cond.methodLink "HailCellarLaw" 158 yX8_is ∈ zWL := zWL_of (ztb_6 (i := 164) (by decide +kernel)) rfl
theorem tw_6_167 : Cond.code yX8_is cX8_is 2 (some .int) ∈ zWL := zWL_of (ztb_6 (i := 167) rfl) rfl
theorem tw_6_166 : Cond.selects "HailCellarModel" yX8_is yX8_is ∈ zWL := zWL_of (ztb_6 (i := 166) (by decide +kernel)) rfl
theorem tw_6_165 : Cond.instanceMethod yX8_is ∈ zWL := zWL_of (ztb_6 (i := 165) (by decide +kernel)) rfl
theorem tw_4_110 : Cond.methodLink "HailCellarLaw" 159 yX7_watch ∈ zWL := zWL_of (ztb_4 (i := 110) (by decide +kernel)) rfl
theorem tw_4_113 : Cond.code yX7_watch cX7_watch 2 (some .int) ∈ zWL := zWL_of (ztb_4 (i := 113) rfl) rfl
theorem tw_4_112 : Cond.selects "HailCellar" yX7_watch yX7_watch ∈ zWL := zWL_of (ztb_4 (i := 112) (by decide +kernel)) rfl
theorem tw_4_111 : Cond.instanceMethod yX7_watch ∈ zWL := zWL_of (ztb_4 (i := 111) (by decide +kernel)) rfl
theorem tw_6_172 : Cond.methodLink "HailCellarLaw" 162 yX8_watch ∈ zWL := zWL_of (ztb_6 (i := 172) (by decide +kernel)) rfl
theorem tw_6_175 : Cond.code yX8_watch cX8_watch 7 (some .int) ∈ zWL := zWL_of (ztb_6 (i := 175) rfl) rfl
theorem tw_6_174 : Cond.selects "HailCellarModel" yX8_watch yX8_watch ∈ zWL := zWL_of (ztb_6 (i := 174) (by decide +kernel)) rfl
theorem tw_6_173 : Cond.instanceMethod yX8_watch ∈ zWL := zWL_of (ztb_6 (i := 173) (by decide +kernel)) rfl
theorem tw_4_126 : Cond.methodLink "HailCellarLaw" 163 yX7_who ∈ zWL := zWL_of (ztb_4 (i := 126) (by decide +kernel)) rfl
theorem tw_4_129 : Cond.code yX7_who cX7_who 2 (some .int) ∈ zWL := zWL_of (ztb_4 (i := 129) rfl) rfl
theorem tw_4_128 : Cond.selects "HailCellar" yX7_who yX7_who ∈ zWL := zWL_of (ztb_4 (i := 128) (by decide +kernel)) rfl
theorem tw_4_127 : Cond.instanceMethod yX7_who ∈ zWL := zWL_of (ztb_4 (i := 127) (by decide +kernel)) rfl
theorem tw_6_183 : Cond.methodLink "HailCellarLaw" 166 yX8_who ∈ zWL := zWL_of (ztb_6 (i := 183) (by decide +kernel)) rfl
theorem tw_6_186 : Cond.code yX8_who cX8_who 2 (some .int) ∈ zWL := zWL_of (ztb_6 (i := 186) rfl) rfl
theorem tw_6_185 : Cond.selects "HailCellarModel" yX8_who yX8_who ∈ zWL := zWL_of (ztb_6 (i := 185) (by decide +kernel)) rfl
theorem tw_6_184 : Cond.instanceMethod yX8_who ∈ zWL := zWL_of (ztb_6 (i := 184) (by decide +kernel)) rfl
theorem tw_4_140 : Cond.methodLink "HailCellarLaw" 167 yX7_ask ∈ zWL := zWL_of (ztb_4 (i := 140) (by decide +kernel)) rfl
theorem tw_4_143 : Cond.code yX7_ask cX7_ask 2 (some .int) ∈ zWL := zWL_of (ztb_4 (i := 143) rfl) rfl
theorem tw_4_142 : Cond.selects "HailCellar" yX7_ask yX7_ask ∈ zWL := zWL_of (ztb_4 (i := 142) (by decide +kernel)) rfl
theorem tw_4_141 : Cond.instanceMethod yX7_ask ∈ zWL := zWL_of (ztb_4 (i := 141) (by decide +kernel)) rfl
theorem tw_6_191 : Cond.methodLink "HailCellarLaw" 170 yX8_ask ∈ zWL := zWL_of (ztb_6 (i := 191) (by decide +kernel)) rfl
theorem tw_6_194 : Cond.code yX8_ask cX8_ask 7 (some .int) ∈ zWL := zWL_of (ztb_6 (i := 194) rfl) rfl
theorem tw_6_193 : Cond.selects "HailCellarModel" yX8_ask yX8_ask ∈ zWL := zWL_of (ztb_6 (i := 193) (by decide +kernel)) rfl
theorem tw_6_192 : Cond.instanceMethod yX8_ask ∈ zWL := zWL_of (ztb_6 (i := 192) (by decide +kernel)) rfl
theorem tw_4_149 : Cond.methodLink "HailCellarLaw" 171 yX7_parishes ∈ zWL := zWL_of (ztb_4 (i := 149) (by decide +kernel)) rfl
theorem tw_4_152 : Cond.code yX7_parishes cX7_parishes 5 (some .int) ∈ zWL := zWL_of (ztb_4 (i := 152) rfl) rfl
theorem tw_4_151 : Cond.selects "HailCellar" yX7_parishes yX7_parishes ∈ zWL := zWL_of (ztb_4 (i := 151) (by decide +kernel)) rfl
theorem tw_4_150 : Cond.instanceMethod yX7_parishes ∈ zWL := zWL_of (ztb_4 (i := 150) (by decide +kernel)) rfl
theorem tw_6_195 : Cond.methodLink "HailCellarLaw" 174 yX8_parishes ∈ zWL := zWL_of (ztb_6 (i := 195) (by decide +kernel)) rfl
theorem tw_6_198 : Cond.code yX8_parishes cX8_parishes 17 (some .int) ∈ zWL := zWL_of (ztb_6 (i := 198) rfl) rfl
theorem tw_6_197 : Cond.selects "HailCellarModel" yX8_parishes yX8_parishes ∈ zWL := zWL_of (ztb_6 (i := 197) (by decide +kernel)) rfl
theorem tw_6_196 : Cond.instanceMethod yX8_parishes ∈ zWL := zWL_of (ztb_6 (i := 196) (by decide +kernel)) rfl
theorem tw_4_163 : Cond.methodLink "HailCellarLaw" 175 yX7_gusts ∈ zWL := zWL_of (ztb_4 (i := 163) (by decide +kernel)) rfl
theorem tw_4_166 : Cond.code yX7_gusts cX7_gusts 8 (some .int) ∈ zWL := zWL_of (ztb_4 (i := 166) rfl) rfl
theorem tw_4_165 : Cond.selects "HailCellar" yX7_gusts yX7_gusts ∈ zWL := zWL_of (ztb_4 (i := 165) (by decide +kernel)) rfl
theorem tw_4_164 : Cond.instanceMethod yX7_gusts ∈ zWL := zWL_of (ztb_4 (i := 164) (by decide +kernel)) rfl
theorem tw_6_199 : Cond.methodLink "HailCellarLaw" 178 yX8_gusts ∈ zWL := zWL_of (ztb_6 (i := 199) (by decide +kernel)) rfl
theorem tw_6_202 : Cond.code yX8_gusts cX8_gusts 11 (some .int) ∈ zWL := zWL_of (ztb_6 (i := 202) rfl) rfl
theorem tw_6_201 : Cond.selects "HailCellarModel" yX8_gusts yX8_gusts ∈ zWL := zWL_of (ztb_6 (i := 201) (by decide +kernel)) rfl
theorem tw_6_200 : Cond.instanceMethod yX8_gusts ∈ zWL := zWL_of (ztb_6 (i := 200) (by decide +kernel)) rfl
theorem tw_4_172 : Cond.methodLink "HailCellarLaw" 179 yX7_summers ∈ zWL := zWL_of (ztb_4 (i := 172) (by decide +kernel)) rfl
theorem tw_4_175 : Cond.code yX7_summers cX7_summers 3 (some .int) ∈ zWL := zWL_of (ztb_4 (i := 175) rfl) rfl
theorem tw_4_174 : Cond.selects "HailCellar" yX7_summers yX7_summers ∈ zWL := zWL_of (ztb_4 (i := 174) (by decide +kernel)) rfl
theorem tw_4_173 : Cond.instanceMethod yX7_summers ∈ zWL := zWL_of (ztb_4 (i := 173) (by decide +kernel)) rfl
theorem tw_6_207 : Cond.methodLink "HailCellarLaw" 182 yX8_summers ∈ zWL := zWL_of (ztb_6 (i := 207) (by decide +kernel)) rfl
theorem tw_6_210 : Cond.code yX8_summers cX8_summers 7 (some .int) ∈ zWL := zWL_of (ztb_6 (i := 210) rfl) rfl
theorem tw_6_209 : Cond.selects "HailCellarModel" yX8_summers yX8_summers ∈ zWL := zWL_of (ztb_6 (i := 209) (by decide +kernel)) rfl
theorem tw_6_208 : Cond.instanceMethod yX8_summers ∈ zWL := zWL_of (ztb_6 (i := 208) (by decide +kernel)) rfl
theorem tw_4_190 : Cond.methodLink "HailCellarLaw" 183 yX7_part ∈ zWL := zWL_of (ztb_4 (i := 190) (by decide +kernel)) rfl
theorem tw_4_193 : Cond.code yX7_part cX7_part 2 (some .long) ∈ zWL := zWL_of (ztb_4 (i := 193) rfl) rfl
theorem tw_4_192 : Cond.selects "HailCellar" yX7_part yX7_part ∈ zWL := zWL_of (ztb_4 (i := 192) (by decide +kernel)) rfl
theorem tw_4_191 : Cond.instanceMethod yX7_part ∈ zWL := zWL_of (ztb_4 (i := 191) (by decide +kernel)) rfl
theorem tw_6_216 : Cond.methodLink "HailCellarLaw" 187 yX8_part ∈ zWL := zWL_of (ztb_6 (i := 216) (by decide +kernel)) rfl
theorem tw_6_219 : Cond.code yX8_part cX8_part 2 (some .long) ∈ zWL := zWL_of (ztb_6 (i := 219) rfl) rfl
theorem tw_6_218 : Cond.selects "HailCellarModel" yX8_part yX8_part ∈ zWL := zWL_of (ztb_6 (i := 218) (by decide +kernel)) rfl
theorem tw_6_217 : Cond.instanceMethod yX8_part ∈ zWL := zWL_of (ztb_6 (i := 217) (by decide +kernel)) rfl
theorem tw_4_194 : Cond.methodLink "HailCellarLaw" 188 yX7_image ∈ zWL := zWL_of (ztb_4 (i := 194) (by decide +kernel)) rfl
theorem tw_4_197 : Cond.code yX7_image cX7_image 2 (some .int) ∈ zWL := zWL_of (ztb_4 (i := 197) rfl) rfl
theorem tw_4_196 : Cond.selects "HailCellar" yX7_image yX7_image ∈ zWL := zWL_of (ztb_4 (i := 196) (by decide +kernel)) rfl
theorem tw_4_195 : Cond.instanceMethod yX7_image ∈ zWL := zWL_of (ztb_4 (i := 195) (by decide +kernel)) rfl
theorem tw_6_220 : Cond.methodLink "HailCellarLaw" 191 yX8_image ∈ zWL := zWL_of (ztb_6 (i := 220) (by decide +kernel)) rfl
theorem tw_6_223 : Cond.code yX8_image cX8_image 3 (some .int) ∈ zWL := zWL_of (ztb_6 (i := 223) rfl) rfl
theorem tw_6_222 : Cond.selects "HailCellarModel" yX8_image yX8_image ∈ zWL := zWL_of (ztb_6 (i := 222) (by decide +kernel)) rfl
theorem tw_6_221 : Cond.instanceMethod yX8_image ∈ zWL := zWL_of (ztb_6 (i := 221) (by decide +kernel)) rfl
theorem tw_4_198 : Cond.methodLink "HailCellarLaw" 192 yX7_from ∈ zWL := zWL_of (ztb_4 (i := 198) (by decide +kernel)) rfl
theorem tw_4_201 : Cond.code yX7_from cX7_from 3 (some .int) ∈ zWL := zWL_of (ztb_4 (i := 201) rfl) rfl
theorem tw_4_200 : Cond.selects "HailCellar" yX7_from yX7_from ∈ zWL := zWL_of (ztb_4 (i := 200) (by decide +kernel)) rfl
theorem tw_4_199 : Cond.instanceMethod yX7_from ∈ zWL := zWL_of (ztb_4 (i := 199) (by decide +kernel)) rfl
theorem tw_6_228 : Cond.methodLink "HailCellarLaw" 195 yX8_from ∈ zWL := zWL_of (ztb_6 (i := 228) (by decide +kernel)) rfl
theorem tw_6_231 : Cond.code yX8_from cX8_from 3 (some .int) ∈ zWL := zWL_of (ztb_6 (i := 231) rfl) rfl
theorem tw_6_230 : Cond.selects "HailCellarModel" yX8_from yX8_from ∈ zWL := zWL_of (ztb_6 (i := 230) (by decide +kernel)) rfl
theorem tw_6_229 : Cond.instanceMethod yX8_from ∈ zWL := zWL_of (ztb_6 (i := 229) (by decide +kernel)) rfl
theorem tw_4_202 : Cond.methodLink "HailCellarLaw" 196 yX7_status ∈ zWL := zWL_of (ztb_4 (i := 202) (by decide +kernel)) rfl
theorem tw_4_205 : Cond.code yX7_status cX7_status 2 (some .int) ∈ zWL := zWL_of (ztb_4 (i := 205) rfl) rfl
theorem tw_4_204 : Cond.selects "HailCellar" yX7_status yX7_status ∈ zWL := zWL_of (ztb_4 (i := 204) (by decide +kernel)) rfl
theorem tw_4_203 : Cond.instanceMethod yX7_status ∈ zWL := zWL_of (ztb_4 (i := 203) (by decide +kernel)) rfl
theorem tw_6_232 : Cond.methodLink "HailCellarLaw" 199 yX8_status ∈ zWL := zWL_of (ztb_6 (i := 232) (by decide +kernel)) rfl
theorem tw_6_235 : Cond.code yX8_status cX8_status 2 (some .int) ∈ zWL := zWL_of (ztb_6 (i := 235) rfl) rfl
theorem tw_6_234 : Cond.selects "HailCellarModel" yX8_status yX8_status ∈ zWL := zWL_of (ztb_6 (i := 234) (by decide +kernel)) rfl
theorem tw_6_233 : Cond.instanceMethod yX8_status ∈ zWL := zWL_of (ztb_6 (i := 233) (by decide +kernel)) rfl
theorem tw_4_206 : Cond.methodLink "HailCellarLaw" 200 yX7_count ∈ zWL := zWL_of (ztb_4 (i := 206) (by decide +kernel)) rfl
theorem tw_4_209 : Cond.code yX7_count cX7_count 2 (some .int) ∈ zWL := zWL_of (ztb_4 (i := 209) rfl) rfl
theorem tw_4_208 : Cond.selects "HailCellar" yX7_count yX7_count ∈ zWL := zWL_of (ztb_4 (i := 208) (by decide +kernel)) rfl
theorem tw_4_207 : Cond.instanceMethod yX7_count ∈ zWL := zWL_of (ztb_4 (i := 207) (by decide +kernel)) rfl
theorem tw_6_236 : Cond.methodLink "HailCellarLaw" 203 yX8_count ∈ zWL := zWL_of (ztb_6 (i := 236) (by decide +kernel)) rfl
theorem tw_6_239 : Cond.code yX8_count cX8_count 2 (some .int) ∈ zWL := zWL_of (ztb_6 (i := 239) rfl) rfl
theorem tw_6_238 : Cond.selects "HailCellarModel" yX8_count yX8_count ∈ zWL := zWL_of (ztb_6 (i := 238) (by decide +kernel)) rfl
theorem tw_6_237 : Cond.instanceMethod yX8_count ∈ zWL := zWL_of (ztb_6 (i := 237) (by decide +kernel)) rfl
theorem tw_4_218 : Cond.methodLink "HailCellarLaw" 204 yX7_digest ∈ zWL := zWL_of (ztb_4 (i := 218) (by decide +kernel)) rfl
theorem tw_4_221 : Cond.code yX7_digest cX7_digest 4 (some .long) ∈ zWL := zWL_of (ztb_4 (i := 221) rfl) rfl
theorem tw_4_220 : Cond.selects "HailCellar" yX7_digest yX7_digest ∈ zWL := zWL_of (ztb_4 (i := 220) (by decide +kernel)) rfl
theorem tw_4_219 : Cond.instanceMethod yX7_digest ∈ zWL := zWL_of (ztb_4 (i := 219) (by decide +kernel)) rfl
theorem tw_7_9 : Cond.methodLink "HailCellarLaw" 208 yX8_digest ∈ zWL := zWL_of (ztb_7 (i := 9) (by decide +kernel)) rfl
theorem tw_7_12 : Cond.code yX8_digest cX8_digest 2 (some .long) ∈ zWL := zWL_of (ztb_7 (i := 12) rfl) rfl
theorem tw_7_11 : Cond.selects "HailCellarModel" yX8_digest yX8_digest ∈ zWL := zWL_of (ztb_7 (i := 11) (by decide +kernel)) rfl
theorem tw_7_10 : Cond.instanceMethod yX8_digest ∈ zWL := zWL_of (ztb_7 (i := 10) (by decide +kernel)) rfl
theorem tw_1_22 : Cond.instanceMethod Lib.objectInit ∈ zWL := zWL_of (ztb_1 (i := 22) (by decide +kernel)) rfl
theorem tw_1_57 : Cond.arrayClass .int ∈ zWL := zWL_of (ztb_1 (i := 57) (by decide +kernel)) rfl
theorem tw_5_74 : Cond.arrayClass .boolean ∈ zWL := zWL_of (ztb_5 (i := 74) (by decide +kernel)) rfl
theorem tw_1_37 : Cond.static Lib.Math.max.name ∈ zWL := zWL_of (ztb_1 (i := 37) (by decide +kernel)) rfl
theorem tw_2_67 : Cond.static Lib.Math.min.name ∈ zWL := zWL_of (ztb_2 (i := 67) (by decide +kernel)) rfl
theorem tw_1_4 : Cond.initialized "java/lang/Math" ∈ zWL := zWL_of (ztb_1 (i := 4) (by decide +kernel)) rfl
theorem tw_1_15 : Cond.initialized "java/lang/System" ∈ zWL := zWL_of (ztb_1 (i := 15) (by decide +kernel)) rfl
theorem tw_1_23 : Cond.code Lib.objectInit ⟨#[0xb1]⟩ 1 none ∈ zWL := zWL_of (ztb_1 (i := 23) rfl) rfl
theorem tw_1_38 : Cond.code Lib.Math.max.name Lib.Math.max.code 2 (some .int) ∈ zWL := zWL_of (ztb_1 (i := 38) rfl) rfl
theorem tw_2_68 : Cond.code Lib.Math.min.name Lib.Math.min.code 2 (some .int) ∈ zWL := zWL_of (ztb_2 (i := 68) rfl) rfl
theorem tw_3_15 : Cond.static ⟨"java/lang/System", "arraycopy", "(Ljava/lang/Object;ILjava/lang/Object;II)V"⟩ ∈ zWL := zWL_of (ztb_3 (i := 15) (by decide +kernel)) rfl
theorem tw_3_16 : Cond.native ⟨"java/lang/System", "arraycopy", "(Ljava/lang/Object;ILjava/lang/Object;II)V"⟩ ∈ zWL := zWL_of (ztb_3 (i := 16) (by decide +kernel)) rfl
