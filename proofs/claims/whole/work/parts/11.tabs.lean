def am_own : Nat → String := fun n => (["SoupCourt$Changes", "SoupCourt$Fires", "SoupCourt$Kitchen", "SoupCourt$Ladles", "SoupCourt$Law", "SoupCourt$Noses", "SoupCourt$Pot", "SoupCourt$Scene", "SoupCourt$Shelf", "SoupCourt$Tape", "SoupCourt", "SoupCourtModel", "SoupCourtLaw", "java/lang/Integer", "java/lang/Math", "java/util/Arrays"] : List String).getD n ""
def mX0_init : am_M := (0, yX0_init, cX0_init, 1, none)
def mX0_come : am_M := (0, yX0_come, cX0_come, 5, none)
def mX0_forgetFirst : am_M := (0, yX0_forgetFirst, cX0_forgetFirst, 1, none)
def mX1_init : am_M := (1, yX1_init, cX1_init, 1, none)
def mX1_leastTime : am_M := (1, yX1_leastTime, cX1_leastTime, 6, (some FieldType.int))
def mX1_layOn : am_M := (1, yX1_layOn, cX1_layOn, 5, none)
def mX2_init : am_M := (2, yX2_init, cX2_init, 2, none)
def mX2_mix : am_M := (2, yX2_mix, cX2_mix, 1, (some (FieldType.array FieldType.int)))
def mX2_tasteBehind : am_M := (2, yX2_tasteBehind, cX2_tasteBehind, 5, (some FieldType.int))
def mX2_firstOf : am_M := (2, yX2_firstOf, cX2_firstOf, 1, (some FieldType.int))
def mX2_lastOf : am_M := (2, yX2_lastOf, cX2_lastOf, 1, (some FieldType.int))
def mX2_bestMinutes : am_M := (2, yX2_bestMinutes, cX2_bestMinutes, 6, (some FieldType.int))
def mX2_nearestMix : am_M := (2, yX2_nearestMix, cX2_nearestMix, 10, (some FieldType.int))
def mX2_farBehind : am_M := (2, yX2_farBehind, cX2_farBehind, 5, (some FieldType.int))
def mX2_fittingMixes : am_M := (2, yX2_fittingMixes, cX2_fittingMixes, 11, (some FieldType.int))
def mX2_fits : am_M := (2, yX2_fits, cX2_fits, 3, (some FieldType.boolean))
def mX2_isMixOf : am_M := (2, yX2_isMixOf, cX2_isMixOf, 7, (some FieldType.boolean))
def mX2_digit : am_M := (2, yX2_digit, cX2_digit, 5, (some FieldType.int))
def mX2_playedOut : am_M := (2, yX2_playedOut, cX2_playedOut, 4, (some FieldType.int))
def mX2_played : am_M := (2, yX2_played, cX2_played, 11, (some FieldType.int))
def mX2_isDone : am_M := (2, yX2_isDone, cX2_isDone, 4, (some FieldType.boolean))
def mX2_drawnTerms : am_M := (2, yX2_drawnTerms, cX2_drawnTerms, 9, (some FieldType.int))
def mX3_init : am_M := (3, yX3_init, cX3_init, 1, none)
def mX3_isKind : am_M := (3, yX3_isKind, cX3_isKind, 1, (some FieldType.boolean))
def mX3_isUnder : am_M := (3, yX3_isUnder, cX3_isUnder, 4, (some FieldType.boolean))
def mX3_come : am_M := (3, yX3_come, cX3_come, 2, (some FieldType.int))
def mX3_isOne : am_M := (3, yX3_isOne, cX3_isOne, 2, (some FieldType.boolean))
def mX3_kindOf : am_M := (3, yX3_kindOf, cX3_kindOf, 2, (some FieldType.int))
def mX3_traced : am_M := (3, yX3_traced, cX3_traced, 1, (some FieldType.int))
def mX3_acted : am_M := (3, yX3_acted, cX3_acted, 4, (some FieldType.int))
def mX3_bodyFrom : am_M := (3, yX3_bodyFrom, cX3_bodyFrom, 5, (some FieldType.int))
def mX3_began : am_M := (3, yX3_began, cX3_began, 2, none)
def mX3_run : am_M := (3, yX3_run, cX3_run, 7, (some FieldType.int))
def mX4_init : am_M := (4, yX4_init, cX4_init, 1, none)
def mX4_becomes : am_M := (4, yX4_becomes, cX4_becomes, 2, none)
def mX4_grown : am_M := (4, yX4_grown, cX4_grown, 11, (some FieldType.int))
def mX4_workedOut : am_M := (4, yX4_workedOut, cX4_workedOut, 7, (some FieldType.int))
def mX4_joined : am_M := (4, yX4_joined, cX4_joined, 3, (some FieldType.int))
def mX5_init : am_M := (5, yX5_init, cX5_init, 1, none)
def mX5_come : am_M := (5, yX5_come, cX5_come, 2, (some FieldType.int))
def mX5_isOne : am_M := (5, yX5_isOne, cX5_isOne, 2, (some FieldType.boolean))
def mX5_tells : am_M := (5, yX5_tells, cX5_tells, 8, (some FieldType.boolean))
def mX5_fewest : am_M := (5, yX5_fewest, cX5_fewest, 5, (some FieldType.int))
def mX5_soupsOf : am_M := (5, yX5_soupsOf, cX5_soupsOf, 4, (some FieldType.int))
def mX5_pairUp : am_M := (5, yX5_pairUp, cX5_pairUp, 4, none)
def mX5_tellersOf : am_M := (5, yX5_tellersOf, cX5_tellersOf, 5, (some FieldType.int))
def mX5_tellAll : am_M := (5, yX5_tellAll, cX5_tellAll, 3, (some FieldType.boolean))
def mX6_init : am_M := (6, yX6_init, cX6_init, 1, none)
def mX6_putOn : am_M := (6, yX6_putOn, cX6_putOn, 2, none)
def mX6_begin : am_M := (6, yX6_begin, cX6_begin, 1, none)
def mX6_becomes : am_M := (6, yX6_becomes, cX6_becomes, 2, none)
def mX6_howMuch : am_M := (6, yX6_howMuch, cX6_howMuch, 3, (some FieldType.int))
def mX6_weigh : am_M := (6, yX6_weigh, cX6_weigh, 5, none)
def mX6_pass : am_M := (6, yX6_pass, cX6_pass, 6, none)
def mX6_behind : am_M := (6, yX6_behind, cX6_behind, 7, (some FieldType.int))
def mX6_farFrom : am_M := (6, yX6_farFrom, cX6_farFrom, 4, (some FieldType.int))
def mX6_sumOfTastes : am_M := (6, yX6_sumOfTastes, cX6_sumOfTastes, 5, (some FieldType.int))
def mX7_init : am_M := (7, yX7_init, cX7_init, 1, none)
def mX7_becomes : am_M := (7, yX7_becomes, cX7_becomes, 3, none)
def mX8_init : am_M := (8, yX8_init, cX8_init, 1, none)
def mX8_hold : am_M := (8, yX8_hold, cX8_hold, 2, none)
def mX8_holdRow : am_M := (8, yX8_holdRow, cX8_holdRow, 3, none)
def mX8_refusedAsRow : am_M := (8, yX8_refusedAsRow, cX8_refusedAsRow, 1, (some FieldType.int))
def mX8_refusedAsBytes : am_M := (8, yX8_refusedAsBytes, cX8_refusedAsBytes, 2, (some FieldType.int))
def mX8_hasPlace : am_M := (8, yX8_hasPlace, cX8_hasPlace, 2, (some FieldType.boolean))
def mX8_hasPlaces : am_M := (8, yX8_hasPlaces, cX8_hasPlaces, 3, (some FieldType.boolean))
def mX8_set : am_M := (8, yX8_set, cX8_set, 4, none)
def mX8_lowestBits : am_M := (8, yX8_lowestBits, cX8_lowestBits, 3, (some FieldType.long))
def mX8_byteAt : am_M := (8, yX8_byteAt, cX8_byteAt, 2, (some FieldType.int))
def mX8_giveMix : am_M := (8, yX8_giveMix, cX8_giveMix, 4, none)
def mX8_giveSoup : am_M := (8, yX8_giveSoup, cX8_giveSoup, 5, (some FieldType.boolean))
def mX9_init : am_M := (9, yX9_init, cX9_init, 1, none)
def mX9_take : am_M := (9, yX9_take, cX9_take, 2, (some FieldType.boolean))
def mX9_readText : am_M := (9, yX9_readText, cX9_readText, 3, (some FieldType.int))
def mX9_next : am_M := (9, yX9_next, cX9_next, 1, (some FieldType.int))
def mX9_make : am_M := (9, yX9_make, cX9_make, 2, none)
def mX9_readLine : am_M := (9, yX9_readLine, cX9_readLine, 2, (some FieldType.boolean))
def mX9_readE : am_M := (9, yX9_readE, cX9_readE, 4, (some FieldType.boolean))
def mX9_readA : am_M := (9, yX9_readA, cX9_readA, 4, (some FieldType.boolean))
def mX9_readB : am_M := (9, yX9_readB, cX9_readB, 3, (some FieldType.boolean))
def mX9_readS : am_M := (9, yX9_readS, cX9_readS, 5, (some FieldType.boolean))
def mX9_readP : am_M := (9, yX9_readP, cX9_readP, 5, (some FieldType.boolean))
def mX9_readO : am_M := (9, yX9_readO, cX9_readO, 4, (some FieldType.boolean))
def mX9_readInner : am_M := (9, yX9_readInner, cX9_readInner, 2, (some FieldType.boolean))
def mX9_readSigned : am_M := (9, yX9_readSigned, cX9_readSigned, 3, (some FieldType.boolean))
def mX9_readNumber : am_M := (9, yX9_readNumber, cX9_readNumber, 3, none)
def mX9_isDigit : am_M := (9, yX9_isDigit, cX9_isDigit, 1, (some FieldType.boolean))
def mX9_nameStep : am_M := (9, yX9_nameStep, cX9_nameStep, 1, (some FieldType.int))
def mX10_init : am_M := (10, yX10_init, cX10_init, 2, none)
def mX10_house : am_M := (10, yX10_house, cX10_house, 1, (some FieldType.int))
def mX10_nose : am_M := (10, yX10_nose, cX10_nose, 2, (some FieldType.int))
def mX10_things : am_M := (10, yX10_things, cX10_things, 5, (some FieldType.int))
def mX10_toldFrom : am_M := (10, yX10_toldFrom, cX10_toldFrom, 9, (some FieldType.int))
def mX10_mend : am_M := (10, yX10_mend, cX10_mend, 5, (some FieldType.int))
def mX10_of : am_M := (10, yX10_of, cX10_of, 3, (some FieldType.int))
def mX10_isTold : am_M := (10, yX10_isTold, cX10_isTold, 3, (some FieldType.boolean))
def mX10_told : am_M := (10, yX10_told, cX10_told, 3, (some FieldType.int))
def mX10_tell : am_M := (10, yX10_tell, cX10_tell, 4, none)
def mX10_feed : am_M := (10, yX10_feed, cX10_feed, 2, (some FieldType.int))
def mX10_law : am_M := (10, yX10_law, cX10_law, 2, (some FieldType.int))
def mX10_taste : am_M := (10, yX10_taste, cX10_taste, 5, (some FieldType.int))
def mX10_best : am_M := (10, yX10_best, cX10_best, 4, (some FieldType.int))
def mX10_nearest : am_M := (10, yX10_nearest, cX10_nearest, 5, (some FieldType.int))
def mX10_apart : am_M := (10, yX10_apart, cX10_apart, 6, (some FieldType.int))
def mX10_jury : am_M := (10, yX10_jury, cX10_jury, 5, (some FieldType.int))
def mX10_inHouse : am_M := (10, yX10_inHouse, cX10_inHouse, 6, (some FieldType.int))
def mX10_lent : am_M := (10, yX10_lent, cX10_lent, 4, (some FieldType.int))
def mX10_fewestLent : am_M := (10, yX10_fewestLent, cX10_fewestLent, 5, (some FieldType.int))
def mX10_hadByOthers : am_M := (10, yX10_hadByOthers, cX10_hadByOthers, 5, (some FieldType.int))
def mX10_whoCould : am_M := (10, yX10_whoCould, cX10_whoCould, 5, (some FieldType.int))
def mX10_hasMix : am_M := (10, yX10_hasMix, cX10_hasMix, 3, (some FieldType.boolean))
def mX10_fires : am_M := (10, yX10_fires, cX10_fires, 5, (some FieldType.int))
def mX10_byTurns : am_M := (10, yX10_byTurns, cX10_byTurns, 5, (some FieldType.int))
def mX10_drawn : am_M := (10, yX10_drawn, cX10_drawn, 7, (some FieldType.int))
def mX10_fact : am_M := (10, yX10_fact, cX10_fact, 9, (some FieldType.int))
def mX10_pot : am_M := (10, yX10_pot, cX10_pot, 5, (some FieldType.int))
def mX10_minute : am_M := (10, yX10_minute, cX10_minute, 1, (some FieldType.int))
def mX10_potOf : am_M := (10, yX10_potOf, cX10_potOf, 2, (some FieldType.int))
def mX10_spoon : am_M := (10, yX10_spoon, cX10_spoon, 5, (some FieldType.int))
def mX10_led : am_M := (10, yX10_led, cX10_led, 2, (some FieldType.int))
def mX10_image : am_M := (10, yX10_image, cX10_image, 1, (some FieldType.int))
def mX10_back : am_M := (10, yX10_back, cX10_back, 1, (some FieldType.int))
def mX10_undo : am_M := (10, yX10_undo, cX10_undo, 2, (some FieldType.int))
def mX10_redo : am_M := (10, yX10_redo, cX10_redo, 2, (some FieldType.int))
def mX10_body : am_M := (10, yX10_body, cX10_body, 2, (some FieldType.int))
def mX10_act : am_M := (10, yX10_act, cX10_act, 4, (some FieldType.int))
def mX10_trace : am_M := (10, yX10_trace, cX10_trace, 2, (some FieldType.int))
def mX10_keep : am_M := (10, yX10_keep, cX10_keep, 3, (some FieldType.int))
def mX10_row : am_M := (10, yX10_row, cX10_row, 4, (some FieldType.int))
def mX10_put : am_M := (10, yX10_put, cX10_put, 6, (some FieldType.int))
def mX10_element : am_M := (10, yX10_element, cX10_element, 3, (some FieldType.long))
def mX10_placeRefused : am_M := (10, yX10_placeRefused, cX10_placeRefused, 4, (some FieldType.int))
def mX10_shift : am_M := (10, yX10_shift, cX10_shift, 10, (some FieldType.int))
def mX10_taken : am_M := (10, yX10_taken, cX10_taken, 4, (some FieldType.int))
def mX10_count : am_M := (10, yX10_count, cX10_count, 2, (some FieldType.int))
def mX10_isHouse : am_M := (10, yX10_isHouse, cX10_isHouse, 2, (some FieldType.boolean))
def mX10_isThing : am_M := (10, yX10_isThing, cX10_isThing, 1, (some FieldType.boolean))
def mX10_isShelf : am_M := (10, yX10_isShelf, cX10_isShelf, 1, (some FieldType.boolean))
def mX10_areShelves : am_M := (10, yX10_areShelves, cX10_areShelves, 1, (some FieldType.boolean))
def mX10_isSearch : am_M := (10, yX10_isSearch, cX10_isSearch, 2, (some FieldType.boolean))
def mX10_larder : am_M := (10, yX10_larder, cX10_larder, 2, (some FieldType.int))
def mX10_strengthAt : am_M := (10, yX10_strengthAt, cX10_strengthAt, 2, (some FieldType.int))
def mX10_readyMix : am_M := (10, yX10_readyMix, cX10_readyMix, 3, (some FieldType.int))
def mX10_readySoup : am_M := (10, yX10_readySoup, cX10_readySoup, 3, (some FieldType.int))
def mX10_readyMixAndSoup : am_M := (10, yX10_readyMixAndSoup, cX10_readyMixAndSoup, 3, (some FieldType.int))
def mX11_init : am_M := (11, yX11_init, cX11_init, 1, none)
def mX11_isIn : am_M := (11, yX11_isIn, cX11_isIn, 3, (some FieldType.boolean))
def mX11_bound : am_M := (11, yX11_bound, cX11_bound, 3, (some FieldType.int))
def mX11_fresh : am_M := (11, yX11_fresh, cX11_fresh, 1, (some (FieldType.array FieldType.int)))
def mX11_isHouse : am_M := (11, yX11_isHouse, cX11_isHouse, 2, (some FieldType.boolean))
def mX11_isNose : am_M := (11, yX11_isNose, cX11_isNose, 2, (some FieldType.boolean))
def mX11_house : am_M := (11, yX11_house, cX11_house, 1, (some FieldType.int))
def mX11_nose : am_M := (11, yX11_nose, cX11_nose, 2, (some FieldType.int))
def mX11_place : am_M := (11, yX11_place, cX11_place, 5, (some FieldType.int))
def mX11_mend : am_M := (11, yX11_mend, cX11_mend, 7, (some FieldType.int))
def mX11_of : am_M := (11, yX11_of, cX11_of, 4, (some FieldType.int))
def mX11_undo : am_M := (11, yX11_undo, cX11_undo, 1, (some FieldType.int))
def mX11_redo : am_M := (11, yX11_redo, cX11_redo, 1, (some FieldType.int))
def mX11_has : am_M := (11, yX11_has, cX11_has, 3, (some FieldType.int))
def mX11_hold : am_M := (11, yX11_hold, cX11_hold, 4, none)
def mX11_feed : am_M := (11, yX11_feed, cX11_feed, 2, (some FieldType.int))
def mX11_isAt : am_M := (11, yX11_isAt, cX11_isAt, 2, (some FieldType.boolean))
def mX11_isDigit : am_M := (11, yX11_isDigit, cX11_isDigit, 1, (some FieldType.boolean))
def mX11_number : am_M := (11, yX11_number, cX11_number, 3, (some FieldType.int))
def mX11_opens : am_M := (11, yX11_opens, cX11_opens, 1, (some FieldType.boolean))
def mX11_one : am_M := (11, yX11_one, cX11_one, 4, (some FieldType.int))
def mX11_product : am_M := (11, yX11_product, cX11_product, 4, (some FieldType.int))
def mX11_total : am_M := (11, yX11_total, cX11_total, 4, (some FieldType.int))
def mX11_compared : am_M := (11, yX11_compared, cX11_compared, 5, (some FieldType.int))
def mX11_both : am_M := (11, yX11_both, cX11_both, 3, (some FieldType.int))
def mX11_any : am_M := (11, yX11_any, cX11_any, 3, (some FieldType.int))
def mX11_gives : am_M := (11, yX11_gives, cX11_gives, 6, (some FieldType.int))
def mX11_law : am_M := (11, yX11_law, cX11_law, 2, (some FieldType.int))
def mX11_grows : am_M := (11, yX11_grows, cX11_grows, 2, (some FieldType.int))
def mX11_inAll : am_M := (11, yX11_inAll, cX11_inAll, 4, (some FieldType.int))
def mX11_cook : am_M := (11, yX11_cook, cX11_cook, 5, none)
def mX11_begin : am_M := (11, yX11_begin, cX11_begin, 2, none)
def mX11_boil : am_M := (11, yX11_boil, cX11_boil, 3, none)
def mX11_ofTastes : am_M := (11, yX11_ofTastes, cX11_ofTastes, 4, (some FieldType.int))
def mX11_far : am_M := (11, yX11_far, cX11_far, 4, (some FieldType.int))
def mX11_isShelf : am_M := (11, yX11_isShelf, cX11_isShelf, 1, (some FieldType.boolean))
def mX11_bytesIn : am_M := (11, yX11_bytesIn, cX11_bytesIn, 2, (some FieldType.int))
def mX11_byteAt : am_M := (11, yX11_byteAt, cX11_byteAt, 3, (some FieldType.int))
def mX11_readMix : am_M := (11, yX11_readMix, cX11_readMix, 4, none)
def mX11_readSoup : am_M := (11, yX11_readSoup, cX11_readSoup, 5, (some FieldType.boolean))
def mX11_load : am_M := (11, yX11_load, cX11_load, 4, (some FieldType.int))
def mX11_things : am_M := (11, yX11_things, cX11_things, 11, (some FieldType.int))
def mX11_taste : am_M := (11, yX11_taste, cX11_taste, 5, (some FieldType.int))
def mX11_isTwo : am_M := (11, yX11_isTwo, cX11_isTwo, 1, (some FieldType.boolean))
def mX11_best : am_M := (11, yX11_best, cX11_best, 7, (some FieldType.int))
def mX11_isHn : am_M := (11, yX11_isHn, cX11_isHn, 1, (some FieldType.boolean))
def mX11_setMix : am_M := (11, yX11_setMix, cX11_setMix, 7, (some FieldType.boolean))
def mX11_nearest : am_M := (11, yX11_nearest, cX11_nearest, 11, (some FieldType.int))
def mX11_tells : am_M := (11, yX11_tells, cX11_tells, 8, (some FieldType.boolean))
def mX11_apart : am_M := (11, yX11_apart, cX11_apart, 5, (some FieldType.int))
def mX11_jury : am_M := (11, yX11_jury, cX11_jury, 6, (some FieldType.int))
def mX11_isTold : am_M := (11, yX11_isTold, cX11_isTold, 8, (some FieldType.boolean))
def mX11_inHouse : am_M := (11, yX11_inHouse, cX11_inHouse, 11, (some FieldType.int))
def mX11_lent : am_M := (11, yX11_lent, cX11_lent, 9, (some FieldType.int))
def mX11_isAble : am_M := (11, yX11_isAble, cX11_isAble, 4, (some FieldType.boolean))
def mX11_whoCould : am_M := (11, yX11_whoCould, cX11_whoCould, 5, (some FieldType.int))
def mX11_deal : am_M := (11, yX11_deal, cX11_deal, 7, none)
def mX11_fires : am_M := (11, yX11_fires, cX11_fires, 5, (some FieldType.int))
def mX11_turns : am_M := (11, yX11_turns, cX11_turns, 10, (some FieldType.int))
def mX11_byTurns : am_M := (11, yX11_byTurns, cX11_byTurns, 6, (some FieldType.int))
def mX11_drawn : am_M := (11, yX11_drawn, cX11_drawn, 10, (some FieldType.int))
def mX11_fact : am_M := (11, yX11_fact, cX11_fact, 7, (some FieldType.int))
def mX11_pot : am_M := (11, yX11_pot, cX11_pot, 5, (some FieldType.int))
def mX11_minute : am_M := (11, yX11_minute, cX11_minute, 1, (some FieldType.int))
def mX11_potOf : am_M := (11, yX11_potOf, cX11_potOf, 2, (some FieldType.int))
def mX11_spoon : am_M := (11, yX11_spoon, cX11_spoon, 5, (some FieldType.int))
def mX11_led : am_M := (11, yX11_led, cX11_led, 2, (some FieldType.int))
def mX11_image : am_M := (11, yX11_image, cX11_image, 2, (some FieldType.int))
def mX11_back : am_M := (11, yX11_back, cX11_back, 2, (some FieldType.int))
def mX11_body : am_M := (11, yX11_body, cX11_body, 2, (some FieldType.int))
def mX11_does : am_M := (11, yX11_does, cX11_does, 4, (some FieldType.int))
def mX11_byKind : am_M := (11, yX11_byKind, cX11_byKind, 8, (some FieldType.int))
def mX11_act : am_M := (11, yX11_act, cX11_act, 4, (some FieldType.int))
def mX11_trace : am_M := (11, yX11_trace, cX11_trace, 2, (some FieldType.int))
def mX11_keep : am_M := (11, yX11_keep, cX11_keep, 3, (some FieldType.int))
def mX11_row : am_M := (11, yX11_row, cX11_row, 5, (some FieldType.int))
def mX11_rowAt : am_M := (11, yX11_rowAt, cX11_rowAt, 3, (some FieldType.int))
def mX11_put : am_M := (11, yX11_put, cX11_put, 7, (some FieldType.int))
def mX11_element : am_M := (11, yX11_element, cX11_element, 3, (some FieldType.long))
def mX11_shift : am_M := (11, yX11_shift, cX11_shift, 7, (some FieldType.int))
def mX11_taken : am_M := (11, yX11_taken, cX11_taken, 5, (some FieldType.int))
def mX11_count : am_M := (11, yX11_count, cX11_count, 2, (some FieldType.int))
def mJ6_bitCount_0f7a4 : am_M := (13, yJ6_bitCount_0f7a4, cJ6_bitCount_0f7a4, 1, (some FieldType.int))
def mJ9_abs_0f7a4 : am_M := (14, yJ9_abs_0f7a4, cJ9_abs_0f7a4, 1, (some FieldType.int))
def mJ9_max_7cf53 : am_M := (14, yJ9_max_7cf53, cJ9_max_7cf53, 2, (some FieldType.int))
def mJ9_min_7cf53 : am_M := (14, yJ9_min_7cf53, cJ9_min_7cf53, 2, (some FieldType.int))
def mJ7_fill_d0a16 : am_M := (15, yJ7_fill_d0a16, cJ7_fill_d0a16, 5, none)
def mJ7_fill_53178 : am_M := (15, yJ7_fill_53178, cJ7_fill_53178, 4, none)
def mL_law : am_M := (12, yL_law, cL_law, 4, (some .boolean))
def am_Ms : List am_M := [mX0_init, mX0_come, mX0_forgetFirst, mX1_init, mX1_leastTime, mX1_layOn, mX2_init, mX2_mix, mX2_tasteBehind, mX2_firstOf, mX2_lastOf, mX2_bestMinutes, mX2_nearestMix, mX2_farBehind, mX2_fittingMixes, mX2_fits, mX2_isMixOf, mX2_digit, mX2_playedOut, mX2_played, mX2_isDone, mX2_drawnTerms, mX3_init, mX3_isKind, mX3_isUnder, mX3_come, mX3_isOne, mX3_kindOf, mX3_traced, mX3_acted, mX3_bodyFrom, mX3_began, mX3_run, mX4_init, mX4_becomes, mX4_grown, mX4_workedOut, mX4_joined, mX5_init, mX5_come, mX5_isOne, mX5_tells, mX5_fewest, mX5_soupsOf, mX5_pairUp, mX5_tellersOf, mX5_tellAll, mX6_init, mX6_putOn, mX6_begin, mX6_becomes, mX6_howMuch, mX6_weigh, mX6_pass, mX6_behind, mX6_farFrom, mX6_sumOfTastes, mX7_init, mX7_becomes, mX8_init, mX8_hold, mX8_holdRow, mX8_refusedAsRow, mX8_refusedAsBytes, mX8_hasPlace, mX8_hasPlaces, mX8_set, mX8_lowestBits, mX8_byteAt, mX8_giveMix, mX8_giveSoup, mX9_init, mX9_take, mX9_readText, mX9_next, mX9_make, mX9_readLine, mX9_readE, mX9_readA, mX9_readB, mX9_readS, mX9_readP, mX9_readO, mX9_readInner, mX9_readSigned, mX9_readNumber, mX9_isDigit, mX9_nameStep, mX10_init, mX10_house, mX10_nose, mX10_things, mX10_toldFrom, mX10_mend, mX10_of, mX10_isTold, mX10_told, mX10_tell, mX10_feed, mX10_law, mX10_taste, mX10_best, mX10_nearest, mX10_apart, mX10_jury, mX10_inHouse, mX10_lent, mX10_fewestLent, mX10_hadByOthers, mX10_whoCould, mX10_hasMix, mX10_fires, mX10_byTurns, mX10_drawn, mX10_fact, mX10_pot, mX10_minute, mX10_potOf, mX10_spoon, mX10_led, mX10_image, mX10_back, mX10_undo, mX10_redo, mX10_body, mX10_act, mX10_trace, mX10_keep, mX10_row, mX10_put, mX10_element, mX10_placeRefused, mX10_shift, mX10_taken, mX10_count, mX10_isHouse, mX10_isThing, mX10_isShelf, mX10_areShelves, mX10_isSearch, mX10_larder, mX10_strengthAt, mX10_readyMix, mX10_readySoup, mX10_readyMixAndSoup, mX11_init, mX11_isIn, mX11_bound, mX11_fresh, mX11_isHouse, mX11_isNose, mX11_house, mX11_nose, mX11_place, mX11_mend, mX11_of, mX11_undo, mX11_redo, mX11_has, mX11_hold, mX11_feed, mX11_isAt, mX11_isDigit, mX11_number, mX11_opens, mX11_one, mX11_product, mX11_total, mX11_compared, mX11_both, mX11_any, mX11_gives, mX11_law, mX11_grows, mX11_inAll, mX11_cook, mX11_begin, mX11_boil, mX11_ofTastes, mX11_far, mX11_isShelf, mX11_bytesIn, mX11_byteAt, mX11_readMix, mX11_readSoup, mX11_load, mX11_things, mX11_taste, mX11_isTwo, mX11_best, mX11_isHn, mX11_setMix, mX11_nearest, mX11_tells, mX11_apart, mX11_jury, mX11_isTold, mX11_inHouse, mX11_lent, mX11_isAble, mX11_whoCould, mX11_deal, mX11_fires, mX11_turns, mX11_byTurns, mX11_drawn, mX11_fact, mX11_pot, mX11_minute, mX11_potOf, mX11_spoon, mX11_led, mX11_image, mX11_back, mX11_body, mX11_does, mX11_byKind, mX11_act, mX11_trace, mX11_keep, mX11_row, mX11_rowAt, mX11_put, mX11_element, mX11_shift, mX11_taken, mX11_count, mJ6_bitCount_0f7a4, mJ9_abs_0f7a4, mJ9_max_7cf53, mJ9_min_7cf53, mJ7_fill_d0a16, mJ7_fill_53178]
def am_mt (i : Nat) : am_M := am_Ms.getD i mX0_init
theorem am_cd0 : tables_1_1[229]? = some (Cond.code mX0_init.2.1 mX0_init.2.2.1 mX0_init.2.2.2.1 mX0_init.2.2.2.2) := rfl
theorem am_cd1 : tables_1_2[189]? = some (Cond.code mX0_come.2.1 mX0_come.2.2.1 mX0_come.2.2.2.1 mX0_come.2.2.2.2) := rfl
theorem am_cd2 : tables_1_2[193]? = some (Cond.code mX0_forgetFirst.2.1 mX0_forgetFirst.2.2.1 mX0_forgetFirst.2.2.2.1 mX0_forgetFirst.2.2.2.2) := rfl
theorem am_cd3 : tables_1_1[179]? = some (Cond.code mX1_init.2.1 mX1_init.2.2.1 mX1_init.2.2.2.1 mX1_init.2.2.2.2) := rfl
theorem am_cd4 : tables_1_4[5]? = some (Cond.code mX1_leastTime.2.1 mX1_leastTime.2.2.1 mX1_leastTime.2.2.2.1 mX1_leastTime.2.2.2.2) := rfl
theorem am_cd5 : tables_1_4[12]? = some (Cond.code mX1_layOn.2.1 mX1_layOn.2.2.1 mX1_layOn.2.2.2.1 mX1_layOn.2.2.2.2) := rfl
theorem am_cd6 : tables_1_1[66]? = some (Cond.code mX2_init.2.1 mX2_init.2.2.1 mX2_init.2.2.2.1 mX2_init.2.2.2.2) := rfl
theorem am_cd7 : tables_1_3[47]? = some (Cond.code mX2_mix.2.1 mX2_mix.2.2.1 mX2_mix.2.2.2.1 mX2_mix.2.2.2.2) := rfl
theorem am_cd8 : tables_1_3[59]? = some (Cond.code mX2_tasteBehind.2.1 mX2_tasteBehind.2.2.1 mX2_tasteBehind.2.2.2.1 mX2_tasteBehind.2.2.2.2) := rfl
theorem am_cd9 : tables_1_3[68]? = some (Cond.code mX2_firstOf.2.1 mX2_firstOf.2.2.1 mX2_firstOf.2.2.2.1 mX2_firstOf.2.2.2.2) := rfl
theorem am_cd10 : tables_1_3[71]? = some (Cond.code mX2_lastOf.2.1 mX2_lastOf.2.2.1 mX2_lastOf.2.2.2.1 mX2_lastOf.2.2.2.2) := rfl
theorem am_cd11 : tables_1_3[119]? = some (Cond.code mX2_bestMinutes.2.1 mX2_bestMinutes.2.2.1 mX2_bestMinutes.2.2.2.1 mX2_bestMinutes.2.2.2.2) := rfl
theorem am_cd12 : tables_1_3[147]? = some (Cond.code mX2_nearestMix.2.1 mX2_nearestMix.2.2.1 mX2_nearestMix.2.2.2.1 mX2_nearestMix.2.2.2.2) := rfl
theorem am_cd13 : tables_1_3[160]? = some (Cond.code mX2_farBehind.2.1 mX2_farBehind.2.2.1 mX2_farBehind.2.2.2.1 mX2_farBehind.2.2.2.2) := rfl
theorem am_cd14 : tables_1_3[211]? = some (Cond.code mX2_fittingMixes.2.1 mX2_fittingMixes.2.2.1 mX2_fittingMixes.2.2.2.1 mX2_fittingMixes.2.2.2.2) := rfl
theorem am_cd15 : tables_1_3[215]? = some (Cond.code mX2_fits.2.1 mX2_fits.2.2.1 mX2_fits.2.2.2.1 mX2_fits.2.2.2.2) := rfl
theorem am_cd16 : tables_1_3[151]? = some (Cond.code mX2_isMixOf.2.1 mX2_isMixOf.2.2.1 mX2_isMixOf.2.2.2.1 mX2_isMixOf.2.2.2.2) := rfl
theorem am_cd17 : tables_1_3[155]? = some (Cond.code mX2_digit.2.1 mX2_digit.2.2.1 mX2_digit.2.2.2.1 mX2_digit.2.2.2.2) := rfl
theorem am_cd18 : tables_1_4[22]? = some (Cond.code mX2_playedOut.2.1 mX2_playedOut.2.2.1 mX2_playedOut.2.2.2.1 mX2_playedOut.2.2.2.2) := rfl
theorem am_cd19 : tables_1_4[32]? = some (Cond.code mX2_played.2.1 mX2_played.2.2.1 mX2_played.2.2.2.1 mX2_played.2.2.2.2) := rfl
theorem am_cd20 : tables_1_4[38]? = some (Cond.code mX2_isDone.2.1 mX2_isDone.2.2.1 mX2_isDone.2.2.2.1 mX2_isDone.2.2.2.2) := rfl
theorem am_cd21 : tables_1_4[50]? = some (Cond.code mX2_drawnTerms.2.1 mX2_drawnTerms.2.2.1 mX2_drawnTerms.2.2.2.1 mX2_drawnTerms.2.2.2.2) := rfl
theorem am_cd22 : tables_1_2[20]? = some (Cond.code mX3_init.2.1 mX3_init.2.2.1 mX3_init.2.2.2.1 mX3_init.2.2.2.2) := rfl
theorem am_cd23 : tables_1_4[116]? = some (Cond.code mX3_isKind.2.1 mX3_isKind.2.2.1 mX3_isKind.2.2.2.1 mX3_isKind.2.2.2.2) := rfl
theorem am_cd24 : tables_1_4[216]? = some (Cond.code mX3_isUnder.2.1 mX3_isUnder.2.2.1 mX3_isUnder.2.2.2.1 mX3_isUnder.2.2.2.2) := rfl
theorem am_cd25 : tables_1_4[122]? = some (Cond.code mX3_come.2.1 mX3_come.2.2.1 mX3_come.2.2.2.1 mX3_come.2.2.2.2) := rfl
theorem am_cd26 : tables_1_4[134]? = some (Cond.code mX3_isOne.2.1 mX3_isOne.2.2.1 mX3_isOne.2.2.2.1 mX3_isOne.2.2.2.2) := rfl
theorem am_cd27 : tables_1_4[213]? = some (Cond.code mX3_kindOf.2.1 mX3_kindOf.2.2.1 mX3_kindOf.2.2.2.1 mX3_kindOf.2.2.2.2) := rfl
theorem am_cd28 : tables_1_4[156]? = some (Cond.code mX3_traced.2.1 mX3_traced.2.2.1 mX3_traced.2.2.2.1 mX3_traced.2.2.2.2) := rfl
theorem am_cd29 : tables_1_4[130]? = some (Cond.code mX3_acted.2.1 mX3_acted.2.2.1 mX3_acted.2.2.2.1 mX3_acted.2.2.2.2) := rfl
theorem am_cd30 : tables_1_4[141]? = some (Cond.code mX3_bodyFrom.2.1 mX3_bodyFrom.2.2.1 mX3_bodyFrom.2.2.2.1 mX3_bodyFrom.2.2.2.2) := rfl
theorem am_cd31 : tables_1_4[148]? = some (Cond.code mX3_began.2.1 mX3_began.2.2.1 mX3_began.2.2.2.1 mX3_began.2.2.2.2) := rfl
theorem am_cd32 : tables_1_4[138]? = some (Cond.code mX3_run.2.1 mX3_run.2.2.1 mX3_run.2.2.2.1 mX3_run.2.2.2.2) := rfl
theorem am_cd33 : tables_1_1[72]? = some (Cond.code mX4_init.2.1 mX4_init.2.2.1 mX4_init.2.2.2.1 mX4_init.2.2.2.2) := rfl
theorem am_cd34 : tables_1_3[34]? = some (Cond.code mX4_becomes.2.1 mX4_becomes.2.2.1 mX4_becomes.2.2.2.1 mX4_becomes.2.2.2.2) := rfl
theorem am_cd35 : tables_1_3[79]? = some (Cond.code mX4_grown.2.1 mX4_grown.2.2.1 mX4_grown.2.2.2.1 mX4_grown.2.2.2.2) := rfl
theorem am_cd36 : tables_1_3[83]? = some (Cond.code mX4_workedOut.2.1 mX4_workedOut.2.2.1 mX4_workedOut.2.2.2.1 mX4_workedOut.2.2.2.2) := rfl
theorem am_cd37 : tables_1_3[86]? = some (Cond.code mX4_joined.2.1 mX4_joined.2.2.1 mX4_joined.2.2.2.1 mX4_joined.2.2.2.2) := rfl
theorem am_cd38 : tables_1_1[150]? = some (Cond.code mX5_init.2.1 mX5_init.2.2.1 mX5_init.2.2.2.1 mX5_init.2.2.2.2) := rfl
theorem am_cd39 : tables_1_2[124]? = some (Cond.code mX5_come.2.1 mX5_come.2.2.1 mX5_come.2.2.2.1 mX5_come.2.2.2.2) := rfl
theorem am_cd40 : tables_1_2[174]? = some (Cond.code mX5_isOne.2.1 mX5_isOne.2.2.1 mX5_isOne.2.2.2.1 mX5_isOne.2.2.2.2) := rfl
theorem am_cd41 : tables_1_3[169]? = some (Cond.code mX5_tells.2.1 mX5_tells.2.2.1 mX5_tells.2.2.2.1 mX5_tells.2.2.2.2) := rfl
theorem am_cd42 : tables_1_3[178]? = some (Cond.code mX5_fewest.2.1 mX5_fewest.2.2.1 mX5_fewest.2.2.2.1 mX5_fewest.2.2.2.2) := rfl
theorem am_cd43 : tables_1_3[182]? = some (Cond.code mX5_soupsOf.2.1 mX5_soupsOf.2.2.1 mX5_soupsOf.2.2.2.1 mX5_soupsOf.2.2.2.2) := rfl
theorem am_cd44 : tables_1_3[187]? = some (Cond.code mX5_pairUp.2.1 mX5_pairUp.2.2.1 mX5_pairUp.2.2.2.1 mX5_pairUp.2.2.2.2) := rfl
theorem am_cd45 : tables_1_3[191]? = some (Cond.code mX5_tellersOf.2.1 mX5_tellersOf.2.2.1 mX5_tellersOf.2.2.2.1 mX5_tellersOf.2.2.2.2) := rfl
theorem am_cd46 : tables_1_3[202]? = some (Cond.code mX5_tellAll.2.1 mX5_tellAll.2.2.1 mX5_tellAll.2.2.2.1 mX5_tellAll.2.2.2.2) := rfl
theorem am_cd47 : tables_1_1[97]? = some (Cond.code mX6_init.2.1 mX6_init.2.2.1 mX6_init.2.2.2.1 mX6_init.2.2.2.2) := rfl
theorem am_cd48 : tables_1_4[26]? = some (Cond.code mX6_putOn.2.1 mX6_putOn.2.2.1 mX6_putOn.2.2.2.1 mX6_putOn.2.2.2.2) := rfl
theorem am_cd49 : tables_1_3[123]? = some (Cond.code mX6_begin.2.1 mX6_begin.2.2.1 mX6_begin.2.2.2.1 mX6_begin.2.2.2.2) := rfl
theorem am_cd50 : tables_1_4[42]? = some (Cond.code mX6_becomes.2.1 mX6_becomes.2.2.1 mX6_becomes.2.2.2.1 mX6_becomes.2.2.2.2) := rfl
theorem am_cd51 : tables_1_4[68]? = some (Cond.code mX6_howMuch.2.1 mX6_howMuch.2.2.1 mX6_howMuch.2.2.2.1 mX6_howMuch.2.2.2.2) := rfl
theorem am_cd52 : tables_1_3[63]? = some (Cond.code mX6_weigh.2.1 mX6_weigh.2.2.1 mX6_weigh.2.2.2.1 mX6_weigh.2.2.2.2) := rfl
theorem am_cd53 : tables_1_3[134]? = some (Cond.code mX6_pass.2.1 mX6_pass.2.2.1 mX6_pass.2.2.2.1 mX6_pass.2.2.2.2) := rfl
theorem am_cd54 : tables_1_3[75]? = some (Cond.code mX6_behind.2.1 mX6_behind.2.2.1 mX6_behind.2.2.2.1 mX6_behind.2.2.2.2) := rfl
theorem am_cd55 : tables_1_3[127]? = some (Cond.code mX6_farFrom.2.1 mX6_farFrom.2.2.1 mX6_farFrom.2.2.2.1 mX6_farFrom.2.2.2.2) := rfl
theorem am_cd56 : tables_1_4[55]? = some (Cond.code mX6_sumOfTastes.2.1 mX6_sumOfTastes.2.2.1 mX6_sumOfTastes.2.2.2.1 mX6_sumOfTastes.2.2.2.2) := rfl
theorem am_cd57 : tables_1_1[204]? = some (Cond.code mX7_init.2.1 mX7_init.2.2.1 mX7_init.2.2.2.1 mX7_init.2.2.2.2) := rfl
theorem am_cd58 : tables_1_4[94]? = some (Cond.code mX7_becomes.2.1 mX7_becomes.2.2.1 mX7_becomes.2.2.2.1 mX7_becomes.2.2.2.2) := rfl
theorem am_cd59 : tables_1_2[49]? = some (Cond.code mX8_init.2.1 mX8_init.2.2.1 mX8_init.2.2.2.1 mX8_init.2.2.2.2) := rfl
theorem am_cd60 : tables_1_4[166]? = some (Cond.code mX8_hold.2.1 mX8_hold.2.2.1 mX8_hold.2.2.2.1 mX8_hold.2.2.2.2) := rfl
theorem am_cd61 : tables_1_4[174]? = some (Cond.code mX8_holdRow.2.1 mX8_holdRow.2.2.1 mX8_holdRow.2.2.2.1 mX8_holdRow.2.2.2.2) := rfl
theorem am_cd62 : tables_1_2[143]? = some (Cond.code mX8_refusedAsRow.2.1 mX8_refusedAsRow.2.2.1 mX8_refusedAsRow.2.2.2.1 mX8_refusedAsRow.2.2.2.2) := rfl
theorem am_cd63 : tables_1_2[139]? = some (Cond.code mX8_refusedAsBytes.2.1 mX8_refusedAsBytes.2.2.1 mX8_refusedAsBytes.2.2.2.1 mX8_refusedAsBytes.2.2.2.2) := rfl
theorem am_cd64 : tables_1_2[151]? = some (Cond.code mX8_hasPlace.2.1 mX8_hasPlace.2.2.1 mX8_hasPlace.2.2.2.1 mX8_hasPlace.2.2.2.2) := rfl
theorem am_cd65 : tables_1_3[115]? = some (Cond.code mX8_hasPlaces.2.1 mX8_hasPlaces.2.2.1 mX8_hasPlaces.2.2.2.1 mX8_hasPlaces.2.2.2.2) := rfl
theorem am_cd66 : tables_1_4[190]? = some (Cond.code mX8_set.2.1 mX8_set.2.2.1 mX8_set.2.2.2.1 mX8_set.2.2.2.2) := rfl
theorem am_cd67 : tables_1_4[194]? = some (Cond.code mX8_lowestBits.2.1 mX8_lowestBits.2.2.1 mX8_lowestBits.2.2.2.1 mX8_lowestBits.2.2.2.2) := rfl
theorem am_cd68 : tables_1_2[155]? = some (Cond.code mX8_byteAt.2.1 mX8_byteAt.2.2.1 mX8_byteAt.2.2.2.1 mX8_byteAt.2.2.2.2) := rfl
theorem am_cd69 : tables_1_3[51]? = some (Cond.code mX8_giveMix.2.1 mX8_giveMix.2.2.1 mX8_giveMix.2.2.2.1 mX8_giveMix.2.2.2.2) := rfl
theorem am_cd70 : tables_1_3[111]? = some (Cond.code mX8_giveSoup.2.1 mX8_giveSoup.2.2.1 mX8_giveSoup.2.2.2.1 mX8_giveSoup.2.2.2.2) := rfl
theorem am_cd71 : tables_1_1[29]? = some (Cond.code mX9_init.2.1 mX9_init.2.2.1 mX9_init.2.2.2.1 mX9_init.2.2.2.2) := rfl
theorem am_cd72 : tables_1_2[208]? = some (Cond.code mX9_take.2.1 mX9_take.2.2.1 mX9_take.2.2.2.1 mX9_take.2.2.2.2) := rfl
theorem am_cd73 : tables_1_2[216]? = some (Cond.code mX9_readText.2.1 mX9_readText.2.2.1 mX9_readText.2.2.2.1 mX9_readText.2.2.2.2) := rfl
theorem am_cd74 : tables_1_3[8]? = some (Cond.code mX9_next.2.1 mX9_next.2.2.1 mX9_next.2.2.2.1 mX9_next.2.2.2.2) := rfl
theorem am_cd75 : tables_1_3[19]? = some (Cond.code mX9_make.2.1 mX9_make.2.2.1 mX9_make.2.2.2.1 mX9_make.2.2.2.2) := rfl
theorem am_cd76 : tables_1_2[220]? = some (Cond.code mX9_readLine.2.1 mX9_readLine.2.2.1 mX9_readLine.2.2.2.1 mX9_readLine.2.2.2.2) := rfl
theorem am_cd77 : tables_1_2[224]? = some (Cond.code mX9_readE.2.1 mX9_readE.2.2.1 mX9_readE.2.2.2.1 mX9_readE.2.2.2.2) := rfl
theorem am_cd78 : tables_1_2[228]? = some (Cond.code mX9_readA.2.1 mX9_readA.2.2.1 mX9_readA.2.2.2.1 mX9_readA.2.2.2.2) := rfl
theorem am_cd79 : tables_1_2[232]? = some (Cond.code mX9_readB.2.1 mX9_readB.2.2.1 mX9_readB.2.2.2.1 mX9_readB.2.2.2.2) := rfl
theorem am_cd80 : tables_1_2[236]? = some (Cond.code mX9_readS.2.1 mX9_readS.2.2.1 mX9_readS.2.2.2.1 mX9_readS.2.2.2.2) := rfl
theorem am_cd81 : tables_1_3[0]? = some (Cond.code mX9_readP.2.1 mX9_readP.2.2.1 mX9_readP.2.2.2.1 mX9_readP.2.2.2.2) := rfl
theorem am_cd82 : tables_1_3[4]? = some (Cond.code mX9_readO.2.1 mX9_readO.2.2.1 mX9_readO.2.2.2.1 mX9_readO.2.2.2.2) := rfl
theorem am_cd83 : tables_1_3[26]? = some (Cond.code mX9_readInner.2.1 mX9_readInner.2.2.1 mX9_readInner.2.2.2.1 mX9_readInner.2.2.2.2) := rfl
theorem am_cd84 : tables_1_3[30]? = some (Cond.code mX9_readSigned.2.1 mX9_readSigned.2.2.1 mX9_readSigned.2.2.2.1 mX9_readSigned.2.2.2.2) := rfl
theorem am_cd85 : tables_1_3[15]? = some (Cond.code mX9_readNumber.2.1 mX9_readNumber.2.2.1 mX9_readNumber.2.2.2.1 mX9_readNumber.2.2.2.2) := rfl
theorem am_cd86 : tables_1_3[11]? = some (Cond.code mX9_isDigit.2.1 mX9_isDigit.2.2.1 mX9_isDigit.2.2.2.1 mX9_isDigit.2.2.2.2) := rfl
theorem am_cd87 : tables_1_3[22]? = some (Cond.code mX9_nameStep.2.1 mX9_nameStep.2.2.1 mX9_nameStep.2.2.2.1 mX9_nameStep.2.2.2.2) := rfl
theorem am_cd88 : tables_1_1[21]? = some (Cond.code mX10_init.2.1 mX10_init.2.2.1 mX10_init.2.2.2.1 mX10_init.2.2.2.2) := rfl
theorem am_cd89 : tables_1_2[112]? = some (Cond.code mX10_house.2.1 mX10_house.2.2.1 mX10_house.2.2.2.1 mX10_house.2.2.2.2) := rfl
theorem am_cd90 : tables_1_2[116]? = some (Cond.code mX10_nose.2.1 mX10_nose.2.2.1 mX10_nose.2.2.2.1 mX10_nose.2.2.2.2) := rfl
theorem am_cd91 : tables_1_2[128]? = some (Cond.code mX10_things.2.1 mX10_things.2.2.1 mX10_things.2.2.2.1 mX10_things.2.2.2.2) := rfl
theorem am_cd92 : tables_1_2[147]? = some (Cond.code mX10_toldFrom.2.1 mX10_toldFrom.2.2.1 mX10_toldFrom.2.2.2.1 mX10_toldFrom.2.2.2.2) := rfl
theorem am_cd93 : tables_1_2[166]? = some (Cond.code mX10_mend.2.1 mX10_mend.2.2.1 mX10_mend.2.2.2.1 mX10_mend.2.2.2.2) := rfl
theorem am_cd94 : tables_1_2[200]? = some (Cond.code mX10_of.2.1 mX10_of.2.2.1 mX10_of.2.2.2.1 mX10_of.2.2.2.2) := rfl
theorem am_cd95 : tables_1_2[170]? = some (Cond.code mX10_isTold.2.1 mX10_isTold.2.2.1 mX10_isTold.2.2.2.1 mX10_isTold.2.2.2.2) := rfl
theorem am_cd96 : tables_1_2[178]? = some (Cond.code mX10_told.2.1 mX10_told.2.2.1 mX10_told.2.2.2.1 mX10_told.2.2.2.2) := rfl
theorem am_cd97 : tables_1_2[185]? = some (Cond.code mX10_tell.2.1 mX10_tell.2.2.1 mX10_tell.2.2.2.1 mX10_tell.2.2.2.2) := rfl
theorem am_cd98 : tables_1_2[204]? = some (Cond.code mX10_feed.2.1 mX10_feed.2.2.1 mX10_feed.2.2.2.1 mX10_feed.2.2.2.2) := rfl
theorem am_cd99 : tables_1_2[212]? = some (Cond.code mX10_law.2.1 mX10_law.2.2.1 mX10_law.2.2.2.1 mX10_law.2.2.2.2) := rfl
theorem am_cd100 : tables_1_3[39]? = some (Cond.code mX10_taste.2.1 mX10_taste.2.2.1 mX10_taste.2.2.2.1 mX10_taste.2.2.2.2) := rfl
theorem am_cd101 : tables_1_3[96]? = some (Cond.code mX10_best.2.1 mX10_best.2.2.1 mX10_best.2.2.2.1 mX10_best.2.2.2.2) := rfl
theorem am_cd102 : tables_1_3[139]? = some (Cond.code mX10_nearest.2.1 mX10_nearest.2.2.1 mX10_nearest.2.2.2.1 mX10_nearest.2.2.2.2) := rfl
theorem am_cd103 : tables_1_3[165]? = some (Cond.code mX10_apart.2.1 mX10_apart.2.2.1 mX10_apart.2.2.2.1 mX10_apart.2.2.2.2) := rfl
theorem am_cd104 : tables_1_3[174]? = some (Cond.code mX10_jury.2.1 mX10_jury.2.2.1 mX10_jury.2.2.2.1 mX10_jury.2.2.2.2) := rfl
theorem am_cd105 : tables_1_3[207]? = some (Cond.code mX10_inHouse.2.1 mX10_inHouse.2.2.1 mX10_inHouse.2.2.2.1 mX10_inHouse.2.2.2.2) := rfl
theorem am_cd106 : tables_1_3[221]? = some (Cond.code mX10_lent.2.1 mX10_lent.2.2.1 mX10_lent.2.2.2.1 mX10_lent.2.2.2.2) := rfl
theorem am_cd107 : tables_1_3[225]? = some (Cond.code mX10_fewestLent.2.1 mX10_fewestLent.2.2.1 mX10_fewestLent.2.2.2.1 mX10_fewestLent.2.2.2.2) := rfl
theorem am_cd108 : tables_1_3[229]? = some (Cond.code mX10_hadByOthers.2.1 mX10_hadByOthers.2.2.1 mX10_hadByOthers.2.2.2.1 mX10_hadByOthers.2.2.2.2) := rfl
theorem am_cd109 : tables_1_3[233]? = some (Cond.code mX10_whoCould.2.1 mX10_whoCould.2.2.1 mX10_whoCould.2.2.2.1 mX10_whoCould.2.2.2.2) := rfl
theorem am_cd110 : tables_1_3[237]? = some (Cond.code mX10_hasMix.2.1 mX10_hasMix.2.2.1 mX10_hasMix.2.2.2.1 mX10_hasMix.2.2.2.2) := rfl
theorem am_cd111 : tables_1_4[1]? = some (Cond.code mX10_fires.2.1 mX10_fires.2.2.1 mX10_fires.2.2.2.1 mX10_fires.2.2.2.2) := rfl
theorem am_cd112 : tables_1_4[18]? = some (Cond.code mX10_byTurns.2.1 mX10_byTurns.2.2.1 mX10_byTurns.2.2.2.1 mX10_byTurns.2.2.2.2) := rfl
theorem am_cd113 : tables_1_4[46]? = some (Cond.code mX10_drawn.2.1 mX10_drawn.2.2.1 mX10_drawn.2.2.2.1 mX10_drawn.2.2.2.2) := rfl
theorem am_cd114 : tables_1_4[59]? = some (Cond.code mX10_fact.2.1 mX10_fact.2.2.1 mX10_fact.2.2.2.1 mX10_fact.2.2.2.2) := rfl
theorem am_cd115 : tables_1_4[63]? = some (Cond.code mX10_pot.2.1 mX10_pot.2.2.1 mX10_pot.2.2.2.1 mX10_pot.2.2.2.2) := rfl
theorem am_cd116 : tables_1_4[72]? = some (Cond.code mX10_minute.2.1 mX10_minute.2.2.1 mX10_minute.2.2.2.1 mX10_minute.2.2.2.2) := rfl
theorem am_cd117 : tables_1_4[78]? = some (Cond.code mX10_potOf.2.1 mX10_potOf.2.2.1 mX10_potOf.2.2.2.1 mX10_potOf.2.2.2.2) := rfl
theorem am_cd118 : tables_1_4[82]? = some (Cond.code mX10_spoon.2.1 mX10_spoon.2.2.1 mX10_spoon.2.2.2.1 mX10_spoon.2.2.2.2) := rfl
theorem am_cd119 : tables_1_4[86]? = some (Cond.code mX10_led.2.1 mX10_led.2.2.1 mX10_led.2.2.2.1 mX10_led.2.2.2.2) := rfl
theorem am_cd120 : tables_1_4[90]? = some (Cond.code mX10_image.2.1 mX10_image.2.2.1 mX10_image.2.2.2.1 mX10_image.2.2.2.2) := rfl
theorem am_cd121 : tables_1_4[101]? = some (Cond.code mX10_back.2.1 mX10_back.2.2.1 mX10_back.2.2.2.1 mX10_back.2.2.2.2) := rfl
theorem am_cd122 : tables_1_4[105]? = some (Cond.code mX10_undo.2.1 mX10_undo.2.2.1 mX10_undo.2.2.2.1 mX10_undo.2.2.2.2) := rfl
theorem am_cd123 : tables_1_4[109]? = some (Cond.code mX10_redo.2.1 mX10_redo.2.2.1 mX10_redo.2.2.2.1 mX10_redo.2.2.2.2) := rfl
theorem am_cd124 : tables_1_4[113]? = some (Cond.code mX10_body.2.1 mX10_body.2.2.1 mX10_body.2.2.2.1 mX10_body.2.2.2.2) := rfl
theorem am_cd125 : tables_1_4[126]? = some (Cond.code mX10_act.2.1 mX10_act.2.2.1 mX10_act.2.2.2.1 mX10_act.2.2.2.2) := rfl
theorem am_cd126 : tables_1_4[152]? = some (Cond.code mX10_trace.2.1 mX10_trace.2.2.1 mX10_trace.2.2.2.1 mX10_trace.2.2.2.2) := rfl
theorem am_cd127 : tables_1_4[161]? = some (Cond.code mX10_keep.2.1 mX10_keep.2.2.1 mX10_keep.2.2.2.1 mX10_keep.2.2.2.2) := rfl
theorem am_cd128 : tables_1_4[170]? = some (Cond.code mX10_row.2.1 mX10_row.2.2.1 mX10_row.2.2.2.1 mX10_row.2.2.2.2) := rfl
theorem am_cd129 : tables_1_4[181]? = some (Cond.code mX10_put.2.1 mX10_put.2.2.1 mX10_put.2.2.2.1 mX10_put.2.2.2.2) := rfl
theorem am_cd130 : tables_1_4[198]? = some (Cond.code mX10_element.2.1 mX10_element.2.2.1 mX10_element.2.2.2.1 mX10_element.2.2.2.2) := rfl
theorem am_cd131 : tables_1_4[185]? = some (Cond.code mX10_placeRefused.2.1 mX10_placeRefused.2.2.1 mX10_placeRefused.2.2.2.1 mX10_placeRefused.2.2.2.2) := rfl
theorem am_cd132 : tables_1_4[203]? = some (Cond.code mX10_shift.2.1 mX10_shift.2.2.1 mX10_shift.2.2.2.1 mX10_shift.2.2.2.2) := rfl
theorem am_cd133 : tables_1_4[209]? = some (Cond.code mX10_taken.2.1 mX10_taken.2.2.1 mX10_taken.2.2.2.1 mX10_taken.2.2.2.2) := rfl
theorem am_cd134 : tables_1_4[220]? = some (Cond.code mX10_count.2.1 mX10_count.2.2.1 mX10_count.2.2.2.1 mX10_count.2.2.2.2) := rfl
theorem am_cd135 : tables_1_2[135]? = some (Cond.code mX10_isHouse.2.1 mX10_isHouse.2.2.1 mX10_isHouse.2.2.2.1 mX10_isHouse.2.2.2.2) := rfl
theorem am_cd136 : tables_1_2[159]? = some (Cond.code mX10_isThing.2.1 mX10_isThing.2.2.1 mX10_isThing.2.2.2.1 mX10_isThing.2.2.2.2) := rfl
theorem am_cd137 : tables_1_2[131]? = some (Cond.code mX10_isShelf.2.1 mX10_isShelf.2.2.1 mX10_isShelf.2.2.2.1 mX10_isShelf.2.2.2.2) := rfl
theorem am_cd138 : tables_1_3[99]? = some (Cond.code mX10_areShelves.2.1 mX10_areShelves.2.2.1 mX10_areShelves.2.2.2.1 mX10_areShelves.2.2.2.2) := rfl
theorem am_cd139 : tables_1_3[143]? = some (Cond.code mX10_isSearch.2.1 mX10_isSearch.2.2.1 mX10_isSearch.2.2.2.1 mX10_isSearch.2.2.2.2) := rfl
theorem am_cd140 : tables_1_2[162]? = some (Cond.code mX10_larder.2.1 mX10_larder.2.2.1 mX10_larder.2.2.2.1 mX10_larder.2.2.2.2) := rfl
theorem am_cd141 : tables_1_2[181]? = some (Cond.code mX10_strengthAt.2.1 mX10_strengthAt.2.2.1 mX10_strengthAt.2.2.2.1 mX10_strengthAt.2.2.2.2) := rfl
theorem am_cd142 : tables_1_3[43]? = some (Cond.code mX10_readyMix.2.1 mX10_readyMix.2.2.1 mX10_readyMix.2.2.2.1 mX10_readyMix.2.2.2.2) := rfl
theorem am_cd143 : tables_1_3[107]? = some (Cond.code mX10_readySoup.2.1 mX10_readySoup.2.2.1 mX10_readySoup.2.2.2.1 mX10_readySoup.2.2.2.2) := rfl
theorem am_cd144 : tables_1_3[103]? = some (Cond.code mX10_readyMixAndSoup.2.1 mX10_readyMixAndSoup.2.2.1 mX10_readyMixAndSoup.2.2.2.1 mX10_readyMixAndSoup.2.2.2.2) := rfl
theorem am_cd145 : tables_1_4[225]? = some (Cond.code mX11_init.2.1 mX11_init.2.2.1 mX11_init.2.2.2.1 mX11_init.2.2.2.2) := rfl
theorem am_cd146 : tables_1_5[155]? = some (Cond.code mX11_isIn.2.1 mX11_isIn.2.2.1 mX11_isIn.2.2.2.1 mX11_isIn.2.2.2.2) := rfl
theorem am_cd147 : tables_1_6[54]? = some (Cond.code mX11_bound.2.1 mX11_bound.2.2.1 mX11_bound.2.2.2.1 mX11_bound.2.2.2.2) := rfl
theorem am_cd148 : tables_1_4[229]? = some (Cond.code mX11_fresh.2.1 mX11_fresh.2.2.1 mX11_fresh.2.2.2.1 mX11_fresh.2.2.2.2) := rfl
theorem am_cd149 : tables_1_5[167]? = some (Cond.code mX11_isHouse.2.1 mX11_isHouse.2.2.1 mX11_isHouse.2.2.2.1 mX11_isHouse.2.2.2.2) := rfl
theorem am_cd150 : tables_1_5[171]? = some (Cond.code mX11_isNose.2.1 mX11_isNose.2.2.1 mX11_isNose.2.2.2.1 mX11_isNose.2.2.2.2) := rfl
theorem am_cd151 : tables_1_5[148]? = some (Cond.code mX11_house.2.1 mX11_house.2.2.1 mX11_house.2.2.2.1 mX11_house.2.2.2.2) := rfl
theorem am_cd152 : tables_1_5[152]? = some (Cond.code mX11_nose.2.1 mX11_nose.2.2.1 mX11_nose.2.2.2.1 mX11_nose.2.2.2.2) := rfl
theorem am_cd153 : tables_1_5[163]? = some (Cond.code mX11_place.2.1 mX11_place.2.2.1 mX11_place.2.2.2.1 mX11_place.2.2.2.2) := rfl
theorem am_cd154 : tables_1_5[159]? = some (Cond.code mX11_mend.2.1 mX11_mend.2.2.1 mX11_mend.2.2.2.1 mX11_mend.2.2.2.2) := rfl
theorem am_cd155 : tables_1_5[175]? = some (Cond.code mX11_of.2.1 mX11_of.2.2.1 mX11_of.2.2.2.1 mX11_of.2.2.2.2) := rfl
theorem am_cd156 : tables_1_5[179]? = some (Cond.code mX11_undo.2.1 mX11_undo.2.2.1 mX11_undo.2.2.2.1 mX11_undo.2.2.2.2) := rfl
theorem am_cd157 : tables_1_5[183]? = some (Cond.code mX11_redo.2.1 mX11_redo.2.2.1 mX11_redo.2.2.2.1 mX11_redo.2.2.2.2) := rfl
theorem am_cd158 : tables_1_6[87]? = some (Cond.code mX11_has.2.1 mX11_has.2.2.1 mX11_has.2.2.2.1 mX11_has.2.2.2.2) := rfl
theorem am_cd159 : tables_1_6[11]? = some (Cond.code mX11_hold.2.1 mX11_hold.2.2.1 mX11_hold.2.2.2.1 mX11_hold.2.2.2.2) := rfl
theorem am_cd160 : tables_1_5[187]? = some (Cond.code mX11_feed.2.1 mX11_feed.2.2.1 mX11_feed.2.2.2.1 mX11_feed.2.2.2.2) := rfl
theorem am_cd161 : tables_1_5[231]? = some (Cond.code mX11_isAt.2.1 mX11_isAt.2.2.1 mX11_isAt.2.2.2.1 mX11_isAt.2.2.2.2) := rfl
theorem am_cd162 : tables_1_5[223]? = some (Cond.code mX11_isDigit.2.1 mX11_isDigit.2.2.1 mX11_isDigit.2.2.2.1 mX11_isDigit.2.2.2.2) := rfl
theorem am_cd163 : tables_1_5[227]? = some (Cond.code mX11_number.2.1 mX11_number.2.2.1 mX11_number.2.2.2.1 mX11_number.2.2.2.2) := rfl
theorem am_cd164 : tables_1_5[235]? = some (Cond.code mX11_opens.2.1 mX11_opens.2.2.1 mX11_opens.2.2.2.1 mX11_opens.2.2.2.2) := rfl
theorem am_cd165 : tables_1_5[219]? = some (Cond.code mX11_one.2.1 mX11_one.2.2.1 mX11_one.2.2.2.1 mX11_one.2.2.2.2) := rfl
theorem am_cd166 : tables_1_5[215]? = some (Cond.code mX11_product.2.1 mX11_product.2.2.1 mX11_product.2.2.2.1 mX11_product.2.2.2.2) := rfl
theorem am_cd167 : tables_1_5[211]? = some (Cond.code mX11_total.2.1 mX11_total.2.2.1 mX11_total.2.2.2.1 mX11_total.2.2.2.2) := rfl
theorem am_cd168 : tables_1_5[207]? = some (Cond.code mX11_compared.2.1 mX11_compared.2.2.1 mX11_compared.2.2.2.1 mX11_compared.2.2.2.2) := rfl
theorem am_cd169 : tables_1_5[203]? = some (Cond.code mX11_both.2.1 mX11_both.2.2.1 mX11_both.2.2.2.1 mX11_both.2.2.2.2) := rfl
theorem am_cd170 : tables_1_5[199]? = some (Cond.code mX11_any.2.1 mX11_any.2.2.1 mX11_any.2.2.2.1 mX11_any.2.2.2.2) := rfl
theorem am_cd171 : tables_1_5[195]? = some (Cond.code mX11_gives.2.1 mX11_gives.2.2.1 mX11_gives.2.2.2.1 mX11_gives.2.2.2.2) := rfl
theorem am_cd172 : tables_1_5[191]? = some (Cond.code mX11_law.2.1 mX11_law.2.2.1 mX11_law.2.2.2.1 mX11_law.2.2.2.2) := rfl
theorem am_cd173 : tables_1_6[51]? = some (Cond.code mX11_grows.2.1 mX11_grows.2.2.1 mX11_grows.2.2.2.1 mX11_grows.2.2.2.2) := rfl
theorem am_cd174 : tables_1_6[47]? = some (Cond.code mX11_inAll.2.1 mX11_inAll.2.2.1 mX11_inAll.2.2.2.1 mX11_inAll.2.2.2.2) := rfl
theorem am_cd175 : tables_1_6[43]? = some (Cond.code mX11_cook.2.1 mX11_cook.2.2.1 mX11_cook.2.2.2.1 mX11_cook.2.2.2.2) := rfl
theorem am_cd176 : tables_1_6[35]? = some (Cond.code mX11_begin.2.1 mX11_begin.2.2.1 mX11_begin.2.2.2.1 mX11_begin.2.2.2.2) := rfl
theorem am_cd177 : tables_1_6[39]? = some (Cond.code mX11_boil.2.1 mX11_boil.2.2.1 mX11_boil.2.2.2.1 mX11_boil.2.2.2.2) := rfl
theorem am_cd178 : tables_1_6[59]? = some (Cond.code mX11_ofTastes.2.1 mX11_ofTastes.2.2.1 mX11_ofTastes.2.2.2.1 mX11_ofTastes.2.2.2.2) := rfl
theorem am_cd179 : tables_1_6[70]? = some (Cond.code mX11_far.2.1 mX11_far.2.2.1 mX11_far.2.2.2.1 mX11_far.2.2.2.2) := rfl
theorem am_cd180 : tables_1_6[2]? = some (Cond.code mX11_isShelf.2.1 mX11_isShelf.2.2.1 mX11_isShelf.2.2.2.1 mX11_isShelf.2.2.2.2) := rfl
theorem am_cd181 : tables_1_6[23]? = some (Cond.code mX11_bytesIn.2.1 mX11_bytesIn.2.2.1 mX11_bytesIn.2.2.2.1 mX11_bytesIn.2.2.2.2) := rfl
theorem am_cd182 : tables_1_6[7]? = some (Cond.code mX11_byteAt.2.1 mX11_byteAt.2.2.1 mX11_byteAt.2.2.2.1 mX11_byteAt.2.2.2.2) := rfl
theorem am_cd183 : tables_1_6[27]? = some (Cond.code mX11_readMix.2.1 mX11_readMix.2.2.1 mX11_readMix.2.2.2.1 mX11_readMix.2.2.2.2) := rfl
theorem am_cd184 : tables_1_6[31]? = some (Cond.code mX11_readSoup.2.1 mX11_readSoup.2.2.1 mX11_readSoup.2.2.2.1 mX11_readSoup.2.2.2.2) := rfl
theorem am_cd185 : tables_1_6[19]? = some (Cond.code mX11_load.2.1 mX11_load.2.2.1 mX11_load.2.2.2.1 mX11_load.2.2.2.2) := rfl
theorem am_cd186 : tables_1_5[239]? = some (Cond.code mX11_things.2.1 mX11_things.2.2.1 mX11_things.2.2.2.1 mX11_things.2.2.2.2) := rfl
theorem am_cd187 : tables_1_6[15]? = some (Cond.code mX11_taste.2.1 mX11_taste.2.2.1 mX11_taste.2.2.2.1 mX11_taste.2.2.2.2) := rfl
theorem am_cd188 : tables_1_6[66]? = some (Cond.code mX11_isTwo.2.1 mX11_isTwo.2.2.1 mX11_isTwo.2.2.2.1 mX11_isTwo.2.2.2.2) := rfl
theorem am_cd189 : tables_1_6[63]? = some (Cond.code mX11_best.2.1 mX11_best.2.2.1 mX11_best.2.2.2.1 mX11_best.2.2.2.2) := rfl
theorem am_cd190 : tables_1_6[78]? = some (Cond.code mX11_isHn.2.1 mX11_isHn.2.2.1 mX11_isHn.2.2.2.1 mX11_isHn.2.2.2.2) := rfl
theorem am_cd191 : tables_1_6[83]? = some (Cond.code mX11_setMix.2.1 mX11_setMix.2.2.1 mX11_setMix.2.2.2.1 mX11_setMix.2.2.2.2) := rfl
theorem am_cd192 : tables_1_6[75]? = some (Cond.code mX11_nearest.2.1 mX11_nearest.2.2.1 mX11_nearest.2.2.2.1 mX11_nearest.2.2.2.2) := rfl
theorem am_cd193 : tables_1_6[95]? = some (Cond.code mX11_tells.2.1 mX11_tells.2.2.1 mX11_tells.2.2.2.1 mX11_tells.2.2.2.2) := rfl
theorem am_cd194 : tables_1_6[91]? = some (Cond.code mX11_apart.2.1 mX11_apart.2.2.1 mX11_apart.2.2.2.1 mX11_apart.2.2.2.2) := rfl
theorem am_cd195 : tables_1_6[99]? = some (Cond.code mX11_jury.2.1 mX11_jury.2.2.1 mX11_jury.2.2.2.1 mX11_jury.2.2.2.2) := rfl
theorem am_cd196 : tables_1_6[104]? = some (Cond.code mX11_isTold.2.1 mX11_isTold.2.2.1 mX11_isTold.2.2.2.1 mX11_isTold.2.2.2.2) := rfl
theorem am_cd197 : tables_1_6[108]? = some (Cond.code mX11_inHouse.2.1 mX11_inHouse.2.2.1 mX11_inHouse.2.2.2.1 mX11_inHouse.2.2.2.2) := rfl
theorem am_cd198 : tables_1_6[112]? = some (Cond.code mX11_lent.2.1 mX11_lent.2.2.1 mX11_lent.2.2.2.1 mX11_lent.2.2.2.2) := rfl
theorem am_cd199 : tables_1_6[120]? = some (Cond.code mX11_isAble.2.1 mX11_isAble.2.2.1 mX11_isAble.2.2.2.1 mX11_isAble.2.2.2.2) := rfl
theorem am_cd200 : tables_1_6[116]? = some (Cond.code mX11_whoCould.2.1 mX11_whoCould.2.2.1 mX11_whoCould.2.2.2.1 mX11_whoCould.2.2.2.2) := rfl
theorem am_cd201 : tables_1_6[128]? = some (Cond.code mX11_deal.2.1 mX11_deal.2.2.1 mX11_deal.2.2.2.1 mX11_deal.2.2.2.2) := rfl
theorem am_cd202 : tables_1_6[124]? = some (Cond.code mX11_fires.2.1 mX11_fires.2.2.1 mX11_fires.2.2.2.1 mX11_fires.2.2.2.2) := rfl
theorem am_cd203 : tables_1_6[136]? = some (Cond.code mX11_turns.2.1 mX11_turns.2.2.1 mX11_turns.2.2.2.1 mX11_turns.2.2.2.2) := rfl
theorem am_cd204 : tables_1_6[132]? = some (Cond.code mX11_byTurns.2.1 mX11_byTurns.2.2.1 mX11_byTurns.2.2.2.1 mX11_byTurns.2.2.2.2) := rfl
theorem am_cd205 : tables_1_6[140]? = some (Cond.code mX11_drawn.2.1 mX11_drawn.2.2.1 mX11_drawn.2.2.2.1 mX11_drawn.2.2.2.2) := rfl
theorem am_cd206 : tables_1_6[145]? = some (Cond.code mX11_fact.2.1 mX11_fact.2.2.1 mX11_fact.2.2.2.1 mX11_fact.2.2.2.2) := rfl
theorem am_cd207 : tables_1_6[149]? = some (Cond.code mX11_pot.2.1 mX11_pot.2.2.1 mX11_pot.2.2.2.1 mX11_pot.2.2.2.2) := rfl
theorem am_cd208 : tables_1_6[153]? = some (Cond.code mX11_minute.2.1 mX11_minute.2.2.1 mX11_minute.2.2.2.1 mX11_minute.2.2.2.2) := rfl
theorem am_cd209 : tables_1_6[157]? = some (Cond.code mX11_potOf.2.1 mX11_potOf.2.2.1 mX11_potOf.2.2.2.1 mX11_potOf.2.2.2.2) := rfl
theorem am_cd210 : tables_1_6[161]? = some (Cond.code mX11_spoon.2.1 mX11_spoon.2.2.1 mX11_spoon.2.2.2.1 mX11_spoon.2.2.2.2) := rfl
theorem am_cd211 : tables_1_6[165]? = some (Cond.code mX11_led.2.1 mX11_led.2.2.1 mX11_led.2.2.2.1 mX11_led.2.2.2.2) := rfl
theorem am_cd212 : tables_1_6[169]? = some (Cond.code mX11_image.2.1 mX11_image.2.2.1 mX11_image.2.2.2.1 mX11_image.2.2.2.2) := rfl
theorem am_cd213 : tables_1_6[173]? = some (Cond.code mX11_back.2.1 mX11_back.2.2.1 mX11_back.2.2.2.1 mX11_back.2.2.2.2) := rfl
theorem am_cd214 : tables_1_6[177]? = some (Cond.code mX11_body.2.1 mX11_body.2.2.1 mX11_body.2.2.2.1 mX11_body.2.2.2.2) := rfl
theorem am_cd215 : tables_1_6[185]? = some (Cond.code mX11_does.2.1 mX11_does.2.2.1 mX11_does.2.2.2.1 mX11_does.2.2.2.2) := rfl
theorem am_cd216 : tables_1_6[189]? = some (Cond.code mX11_byKind.2.1 mX11_byKind.2.2.1 mX11_byKind.2.2.2.1 mX11_byKind.2.2.2.2) := rfl
theorem am_cd217 : tables_1_6[181]? = some (Cond.code mX11_act.2.1 mX11_act.2.2.1 mX11_act.2.2.2.1 mX11_act.2.2.2.2) := rfl
theorem am_cd218 : tables_1_6[193]? = some (Cond.code mX11_trace.2.1 mX11_trace.2.2.1 mX11_trace.2.2.2.1 mX11_trace.2.2.2.2) := rfl
theorem am_cd219 : tables_1_6[197]? = some (Cond.code mX11_keep.2.1 mX11_keep.2.2.1 mX11_keep.2.2.2.1 mX11_keep.2.2.2.2) := rfl
theorem am_cd220 : tables_1_6[201]? = some (Cond.code mX11_row.2.1 mX11_row.2.2.1 mX11_row.2.2.2.1 mX11_row.2.2.2.2) := rfl
theorem am_cd221 : tables_1_6[209]? = some (Cond.code mX11_rowAt.2.1 mX11_rowAt.2.2.1 mX11_rowAt.2.2.2.1 mX11_rowAt.2.2.2.2) := rfl
theorem am_cd222 : tables_1_6[205]? = some (Cond.code mX11_put.2.1 mX11_put.2.2.1 mX11_put.2.2.2.1 mX11_put.2.2.2.2) := rfl
theorem am_cd223 : tables_1_6[213]? = some (Cond.code mX11_element.2.1 mX11_element.2.2.1 mX11_element.2.2.2.1 mX11_element.2.2.2.2) := rfl
theorem am_cd224 : tables_1_6[218]? = some (Cond.code mX11_shift.2.1 mX11_shift.2.2.1 mX11_shift.2.2.2.1 mX11_shift.2.2.2.2) := rfl
theorem am_cd225 : tables_1_6[222]? = some (Cond.code mX11_taken.2.1 mX11_taken.2.2.1 mX11_taken.2.2.2.1 mX11_taken.2.2.2.2) := rfl
theorem am_cd226 : tables_1_6[226]? = some (Cond.code mX11_count.2.1 mX11_count.2.2.1 mX11_count.2.2.2.1 mX11_count.2.2.2.2) := rfl
theorem am_cd227 : tables_1_3[195]? = some (Cond.code mJ6_bitCount_0f7a4.2.1 mJ6_bitCount_0f7a4.2.2.1 mJ6_bitCount_0f7a4.2.2.2.1 mJ6_bitCount_0f7a4.2.2.2.2) := rfl
theorem am_cd228 : tables_1_3[130]? = some (Cond.code mJ9_abs_0f7a4.2.1 mJ9_abs_0f7a4.2.2.1 mJ9_abs_0f7a4.2.2.2.1 mJ9_abs_0f7a4.2.2.2.2) := rfl
theorem am_cd229 : tables_1_3[92]? = some (Cond.code mJ9_max_7cf53.2.1 mJ9_max_7cf53.2.2.1 mJ9_max_7cf53.2.2.2.1 mJ9_max_7cf53.2.2.2.2) := rfl
theorem am_cd230 : tables_1_3[89]? = some (Cond.code mJ9_min_7cf53.2.1 mJ9_min_7cf53.2.2.1 mJ9_min_7cf53.2.2.2.1 mJ9_min_7cf53.2.2.2.2) := rfl
theorem am_cd231 : tables_1_4[177]? = some (Cond.code mJ7_fill_d0a16.2.1 mJ7_fill_d0a16.2.2.1 mJ7_fill_d0a16.2.2.2.1 mJ7_fill_d0a16.2.2.2.2) := rfl
theorem am_cd232 : tables_1_3[54]? = some (Cond.code mJ7_fill_53178.2.1 mJ7_fill_53178.2.2.1 mJ7_fill_53178.2.2.2.1 mJ7_fill_53178.2.2.2.2) := rfl
/-- fields: key (class, entry of its pool), class, slot, place of the word, by nest -/
def am_tF : List (Nat × (Nat × Nat × Nat × Bool)) := [(90009, (9, 0, 1031, false)), (90022, (9, 1, 1032, false)), (100149, (9, 1, 1033, true)), (90026, (9, 2, 1034, false)), (90013, (9, 3, 1035, false)), (40027, (9, 3, 1036, true)), (90029, (9, 4, 1037, false)), (90016, (9, 5, 1038, false)), (40034, (9, 5, 1039, true)), (90019, (9, 6, 1040, false)), (40035, (9, 6, 1041, true)), (40036, (9, 7, 1042, true)), (90032, (9, 7, 1043, false)), (40009, (4, 0, 1074, false)), (40015, (4, 1, 1075, false)), (40018, (4, 2, 1076, false)), (40040, (4, 3, 1077, false)), (40021, (4, 4, 1078, false)), (40024, (4, 5, 1079, false)), (60009, (6, 0, 1099, false)), (20040, (6, 0, 1100, true)), (60015, (6, 1, 1101, false)), (100272, (6, 1, 1102, true)), (60036, (6, 2, 1103, false)), (100269, (6, 2, 1104, true)), (60018, (6, 3, 1105, false)), (60040, (6, 4, 1106, false)), (20077, (6, 4, 1107, true)), (20012, (2, 0, 1120, false)), (100155, (2, 0, 1121, true)), (20018, (2, 1, 1122, false)), (100131, (2, 1, 1123, true)), (20022, (2, 2, 1124, false)), (100143, (2, 2, 1125, true)), (20026, (2, 3, 1126, false)), (100198, (2, 3, 1127, true)), (20032, (2, 4, 1128, false)), (20036, (2, 5, 1129, false)), (20111, (2, 6, 1130, false)), (50011, (5, 0, 1152, false)), (100137, (5, 0, 1153, true)), (50015, (5, 1, 1154, false)), (100140, (5, 1, 1155, true)), (50024, (5, 2, 1156, false)), (100365, (5, 2, 1157, true)), (50018, (5, 3, 1158, false)), (100191, (5, 3, 1159, true)), (50021, (5, 4, 1160, false)), (50057, (5, 5, 1161, false)), (10011, (1, 0, 1181, false)), (10024, (1, 1, 1182, false)), (10015, (1, 2, 1183, false)), (10018, (1, 3, 1184, false)), (10021, (1, 4, 1185, false)), (10044, (1, 5, 1186, false)), (70009, (7, 0, 1208, false)), (100107, (7, 0, 1209, true)), (70015, (7, 1, 1210, false)), (100242, (7, 1, 1211, true)), (70021, (7, 2, 1212, false)), (100245, (7, 2, 1213, true)), (70039, (7, 3, 1214, false)), (100255, (7, 3, 1215, true)), (9, (0, 0, 1231, false)), (100287, (0, 0, 1232, true)), (13, (0, 1, 1233, false)), (100290, (0, 1, 1234, true)), (16, (0, 2, 1235, false)), (100293, (0, 2, 1236, true)), (19, (0, 3, 1237, false)), (100299, (0, 3, 1238, true)), (22, (0, 4, 1239, false)), (100284, (0, 4, 2000, true)), (29, (0, 5, 2001, false)), (100296, (0, 5, 2002, true)), (30011, (3, 0, 2022, false)), (30025, (3, 1, 2023, false)), (100366, (3, 1, 2024, true)), (30015, (3, 2, 2025, false)), (100313, (3, 2, 2026, true)), (30032, (3, 3, 2027, false)), (100367, (3, 3, 2028, true)), (30041, (3, 4, 2029, false)), (30044, (3, 5, 2030, false)), (80015, (8, 0, 2051, false)), (100353, (8, 0, 2052, true)), (80019, (8, 1, 2053, false)), (100356, (8, 1, 2054, true)), (80022, (8, 2, 2055, false)), (100341, (8, 2, 2056, true)), (80025, (8, 3, 2057, false)), (80011, (8, 4, 2058, false)), (100332, (8, 4, 2059, true)), (100010, (10, 0, 2072, false)), (100019, (10, 1, 2073, false)), (100026, (10, 2, 2074, false)), (100033, (10, 3, 2075, false)), (100040, (10, 4, 2076, false)), (100044, (10, 5, 2077, false)), (100050, (10, 6, 2078, false)), (100057, (10, 7, 2079, false)), (100063, (10, 8, 2080, false)), (100068, (10, 9, 2081, false)), (100278, (10, 10, 2082, false)), (100281, (10, 11, 2083, false)), (110013, (11, 0, 4230, false)), (110121, (11, 1, 4231, false)), (110129, (11, 2, 4232, false)), (110017, (11, 3, 4233, false)), (110020, (11, 4, 4234, false)), (110023, (11, 5, 4235, false)), (110142, (11, 6, 4236, false)), (110145, (11, 7, 4237, false)), (110026, (11, 8, 4238, false)), (110148, (11, 9, 4239, false)), (110029, (11, 10, 5000, false)), (110199, (11, 11, 5001, false)), (110202, (11, 12, 5002, false)), (110032, (11, 13, 5003, false)), (110158, (11, 14, 5004, false)), (110155, (11, 15, 5005, false)), (110151, (11, 16, 5006, false)), (110165, (11, 17, 5007, false)), (110035, (11, 18, 5008, false)), (110038, (11, 19, 5009, false)), (110042, (11, 20, 5010, false)), (110045, (11, 21, 5011, false)), (110048, (11, 22, 5012, false)), (110051, (11, 23, 5013, false)), (110054, (11, 24, 5014, false)), (110057, (11, 25, 5015, false)), (110060, (11, 26, 5016, false)), (110064, (11, 27, 5017, false)), (110067, (11, 28, 5018, false)), (110070, (11, 29, 5019, false)), (110073, (11, 30, 5020, false)), (110076, (11, 31, 5021, false)), (110079, (11, 32, 5022, false)), (110290, (11, 33, 5023, false)), (110082, (11, 34, 5024, false)), (110300, (11, 35, 5025, false)), (110085, (11, 36, 5026, false)), (110304, (11, 37, 5027, false)), (110088, (11, 38, 5028, false)), (110091, (11, 39, 5029, false)), (110094, (11, 40, 5030, false)), (110097, (11, 41, 5031, false)), (110307, (11, 42, 5032, false)), (110310, (11, 43, 5033, false)), (110313, (11, 44, 5034, false)), (110100, (11, 45, 5035, false)), (110103, (11, 46, 5036, false)), (110106, (11, 47, 5037, false)), (110316, (11, 48, 5038, false)), (110109, (11, 49, 5039, false)), (110323, (11, 50, 5040, false))]
def am_tS : List (Nat × (UInt32 × Nat × Bool)) := [(100072, (1, 2117, false)), (100076, (2, 2119, false)), (20117, (3, 4033, false)), (30018, (4, 4117, false)), (30051, (5, 4143, false))]
def am_tC : List (Nat × (Nat × Nat × Nat × Nat)) := [(120007, (10, 1017, 1018, 1001)), (100007, (9, 1025, 1026, 1002)), (100016, (2, 1062, 1063, 1003)), (20009, (4, 1068, 1069, 1004)), (20029, (6, 1093, 1094, 1005)), (100023, (5, 1146, 1147, 1006)), (100030, (1, 1175, 1176, 1007)), (100037, (7, 1200, 1201, 1008)), (70018, (6, 1206, 1094, 1005)), (100047, (0, 1225, 1226, 1009)), (100054, (3, 2016, 2017, 1010)), (100061, (8, 2044, 2046, 1011)), (120010, (11, 4221, 4222, 1012))]
def am_tI : List (Nat × (Int32 × Nat)) := [(130265, (1431655765, 3196)), (130266, (858993459, 3197)), (130267, (252645135, 3198)), (20128, (1103515245, 4051)), (110273, (2147483647, 6079)), (110303, (1103515245, 6141))]
def am_tJ : List (Nat × (Int64 × Nat)) := [(100336, (-9223372036854775808, 4199)), (110241, (2, 6003)), (110334, (-9223372036854775808, 6214)), (120150, (4294967295, 6227))]
/-- calls: key; kind (0 virtual, 1 static, 2 constructor, 3 Object, 4 arraycopy), method, arguments, class of the receiver, by nest, places of its words -/
def am_tM0 : List (Nat × (Nat × Nat × Nat × Nat × Bool × List Nat)) := [(120009, (2, 88, 0, 10, false, [1019, 1001, 1020])),
  (100001, (3, 0, 0, 0, false, [1022, 1023, 1024])),
  (100009, (2, 71, 0, 9, true, [1027, 1002, 1028])),
  (90001, (3, 0, 0, 0, false, [1030, 1023, 1024])),
  (100018, (2, 6, 0, 2, false, [1064, 1003, 1065])),
  (20003, (3, 0, 0, 0, false, [1067, 1023, 1024])),
  (20011, (2, 33, 0, 4, true, [1070, 1004, 1071])),
  (40001, (3, 0, 0, 0, false, [1073, 1023, 1024])),
  (20031, (2, 47, 0, 6, true, [1095, 1005, 1096])),
  (60003, (3, 0, 0, 0, false, [1098, 1023, 1024])),
  (100025, (2, 38, 0, 5, true, [1148, 1006, 1149])),
  (50003, (3, 0, 0, 0, false, [1151, 1023, 1024])),
  (100032, (2, 3, 0, 1, true, [1177, 1007, 1178])),
  (10003, (3, 0, 0, 0, false, [1180, 1023, 1024])),
  (100039, (2, 57, 0, 7, true, [1202, 1008, 1203])),
  (70003, (3, 0, 0, 0, false, [1205, 1023, 1024])),
  (70020, (2, 47, 0, 6, true, [1207, 1005, 1096])),
  (100049, (2, 0, 0, 0, true, [1227, 1009, 1228])),
  (1, (3, 0, 0, 0, false, [1230, 1023, 1024])),
  (100056, (2, 22, 0, 3, true, [2018, 1010, 2019])),
  (30003, (3, 0, 0, 0, false, [2021, 1023, 1024])),
  (100067, (2, 59, 0, 8, true, [2047, 1011, 2048])),
  (80003, (3, 0, 0, 0, false, [2050, 1023, 1024])),
  (120013, (0, 89, 0, 10, false, [2109, 1001, 2110, 2111])),
  (120018, (0, 90, 1, 10, false, [2113, 1001, 2114, 2115])),
  (100079, (0, 39, 1, 5, false, [2121, 1006, 2122, 2123])),
  (120023, (0, 91, 3, 10, false, [2125, 1001, 2126, 2127])),
  (100083, (1, 137, 1, 0, false, [2129, 1001, 2130])),
  (100087, (0, 135, 1, 10, false, [2132, 1001, 2134, 0])),
  (100090, (0, 63, 0, 8, false, [2136, 1011, 2137, 2138])),
  (80034, (0, 62, 0, 8, false, [2140, 1011, 2141, 2142])),
  (100094, (0, 92, 4, 10, false, [2144, 1001, 2146, 1])),
  (100098, (0, 64, 1, 8, false, [2148, 1011, 2149, 2150])),
  (100101, (0, 68, 1, 8, false, [2152, 1011, 2153, 2154])),
  (80038, (0, 64, 1, 8, false, [2156, 1011, 2149, 2150])),
  (100104, (1, 136, 1, 0, false, [2157, 1001, 2158]))]
def am_tM1 : List (Nat × (Nat × Nat × Nat × Nat × Bool × List Nat)) := [(100110, (1, 140, 2, 0, false, [2160, 1001, 2161])),
  (120028, (0, 93, 3, 10, false, [2163, 1001, 2164, 2165])),
  (100114, (0, 95, 2, 10, false, [2167, 1001, 2169, 2])),
  (100128, (0, 40, 1, 5, false, [2171, 1006, 2172, 2173])),
  (100118, (0, 96, 2, 10, false, [2175, 1001, 2177, 3])),
  (100134, (1, 141, 2, 0, false, [2179, 1001, 2180])),
  (100121, (0, 97, 3, 10, false, [2182, 1001, 2184, 4])),
  (100125, (0, 1, 4, 0, false, [2186, 1009, 2187, 2188])),
  (26, (0, 2, 0, 0, false, [2190, 1009, 2192, 5])),
  (32, (4, 0, 0, 0, false, [2194, 2196, 2195, 1013])),
  (120032, (0, 94, 2, 10, false, [2197, 1001, 2198, 2199])),
  (120037, (0, 98, 1, 10, false, [2201, 1001, 2202, 2203])),
  (100146, (0, 72, 1, 9, false, [2205, 1002, 2206, 2207])),
  (120041, (0, 99, 0, 10, false, [2209, 1001, 2210, 2211])),
  (100152, (0, 73, 0, 9, false, [2213, 1002, 2214, 2215])),
  (90035, (0, 76, 0, 9, false, [2217, 1002, 2219, 6])),
  (90043, (0, 77, 1, 9, false, [2221, 1002, 2223, 7])),
  (90047, (0, 78, 1, 9, false, [2225, 1002, 2227, 8])),
  (90056, (0, 79, 1, 9, false, [2229, 1002, 2231, 9])),
  (90059, (0, 80, 1, 9, false, [2233, 1002, 2235, 10])),
  (90062, (0, 81, 1, 9, false, [2237, 1002, 2239, 11])),
  (90065, (0, 82, 1, 9, false, [3001, 1002, 3003, 12])),
  (90039, (0, 74, 0, 9, false, [3005, 1002, 3007, 13])),
  (90068, (1, 86, 1, 0, false, [3009, 1002, 3010])),
  (90071, (0, 85, 0, 9, false, [3012, 1002, 3014, 14])),
  (90052, (0, 75, 1, 9, false, [3016, 1002, 3018, 15])),
  (90074, (1, 87, 1, 0, false, [3020, 1002, 3021])),
  (90078, (0, 83, 1, 9, false, [3023, 1002, 3025, 16])),
  (90081, (0, 84, 2, 9, false, [3027, 1002, 3029, 17])),
  (100159, (0, 34, 1, 4, false, [3031, 1004, 3032, 3033])),
  (40028, (4, 0, 0, 0, false, [3035, 2196, 2195, 1013])),
  (120045, (0, 100, 3, 10, false, [3036, 1001, 3037, 3038])),
  (100165, (0, 142, 1, 10, false, [3040, 1001, 3042, 18])),
  (100220, (0, 7, 0, 2, false, [3044, 1003, 3045, 3046])),
  (100370, (0, 69, 1, 8, false, [3048, 1011, 3049, 3050])),
  (80046, (1, 232, 2, 0, false, [3052, 1014, 3053]))]
def am_tM2 : List (Nat × (Nat × Nat × Nat × Nat × Bool × List Nat)) := [(80049, (0, 68, 1, 8, false, [3055, 1011, 2153, 2154])),
  (100168, (0, 8, 2, 2, false, [3056, 1003, 3057, 3058])),
  (20043, (0, 52, 1, 6, false, [3060, 1005, 3061, 3062])),
  (60030, (1, 232, 2, 0, false, [3064, 1014, 3053])),
  (60043, (1, 141, 2, 0, true, [3065, 1001, 2180])),
  (20047, (1, 9, 1, 0, false, [3066, 1003, 3067])),
  (20051, (1, 10, 1, 0, false, [3069, 1003, 3070])),
  (20054, (0, 54, 4, 6, false, [3072, 1005, 3073, 3074])),
  (60047, (0, 35, 6, 4, false, [3076, 1004, 3077, 3078])),
  (40041, (0, 36, 2, 4, false, [3080, 1004, 3082, 19])),
  (40053, (1, 37, 3, 0, false, [3084, 1004, 3085])),
  (40045, (6, 0, 0, 0, false, [3087, 3089, 1015, 3088])),
  (40050, (5, 0, 0, 0, false, [3090, 3092, 1015, 3091])),
  (120049, (0, 101, 2, 10, false, [3093, 1001, 3094, 3095])),
  (100171, (1, 138, 1, 0, false, [3097, 1001, 3098])),
  (100174, (0, 144, 1, 10, false, [3100, 1001, 3102, 20])),
  (100184, (0, 143, 1, 10, false, [3104, 1001, 3106, 21])),
  (100194, (0, 70, 2, 8, false, [3108, 1011, 3109, 3110])),
  (80053, (0, 65, 2, 8, false, [3112, 1011, 3113, 3114])),
  (100177, (0, 11, 1, 2, false, [3116, 1003, 3117, 3118])),
  (20058, (0, 49, 0, 6, false, [3120, 1005, 3121, 3122])),
  (20061, (0, 55, 1, 6, false, [3124, 1005, 3125, 3126])),
  (60058, (7, 0, 0, 0, false, [3128, 3130, 1015, 3129])),
  (20065, (0, 53, 4, 6, false, [3131, 1005, 3132, 3133])),
  (60053, (6, 0, 0, 0, false, [3135, 3089, 1015, 3088])),
  (120053, (0, 102, 3, 10, false, [3136, 1001, 3137, 3138])),
  (100181, (0, 139, 1, 10, false, [3140, 1001, 3142, 22])),
  (100187, (0, 12, 4, 2, false, [3144, 1003, 3145, 3146])),
  (20069, (0, 16, 4, 2, false, [3148, 1003, 3150, 23])),
  (20099, (1, 232, 2, 0, false, [3152, 1014, 3053])),
  (20080, (1, 17, 3, 0, false, [3153, 1003, 3154])),
  (20105, (1, 140, 2, 0, true, [3156, 1001, 2161])),
  (20073, (0, 13, 2, 2, false, [3157, 1003, 3159, 24])),
  (20084, (7, 0, 0, 0, false, [3161, 3130, 1015, 3129])),
  (120057, (0, 103, 2, 10, false, [3162, 1001, 3163, 3164])),
  (100201, (0, 41, 5, 5, false, [3166, 1006, 3167, 3168]))]
def am_tM3 : List (Nat × (Nat × Nat × Nat × Nat × Bool × List Nat)) := [(50028, (7, 0, 0, 0, false, [3170, 3130, 1015, 3129])),
  (120061, (0, 104, 2, 10, false, [3171, 1001, 3172, 3173])),
  (100205, (0, 42, 1, 5, false, [3175, 1006, 3176, 3177])),
  (50034, (0, 43, 1, 5, false, [3179, 1006, 3181, 25])),
  (50051, (0, 70, 2, 8, false, [3183, 1011, 3109, 3110])),
  (50038, (0, 44, 1, 5, false, [3184, 1006, 3186, 26])),
  (50060, (0, 45, 2, 5, false, [3188, 1006, 3190, 27])),
  (50064, (0, 41, 5, 5, false, [3192, 1006, 3167, 3168])),
  (50042, (1, 227, 1, 0, false, [3193, 1016, 3194])),
  (50047, (0, 46, 1, 5, false, [3199, 1006, 3201, 28])),
  (100209, (1, 227, 1, 0, false, [3203, 1016, 3194])),
  (120065, (0, 105, 3, 10, false, [3204, 1001, 3205, 3206])),
  (100214, (0, 14, 4, 2, false, [3208, 1003, 3209, 3210])),
  (20089, (0, 15, 1, 2, false, [3212, 1003, 3214, 29])),
  (20093, (6, 0, 0, 0, false, [3216, 3089, 1015, 3088])),
  (20096, (5, 0, 0, 0, false, [3217, 3092, 1015, 3091])),
  (120069, (0, 106, 2, 10, false, [3218, 1001, 3219, 3220])),
  (100217, (0, 107, 1, 10, false, [3222, 1001, 3224, 30])),
  (100224, (0, 108, 2, 10, false, [3226, 1001, 3228, 31])),
  (120073, (0, 109, 1, 10, false, [3230, 1001, 3231, 3232])),
  (100227, (0, 110, 1, 10, false, [3234, 1001, 3236, 32])),
  (120077, (0, 111, 3, 10, false, [3238, 1001, 3239, 4000])),
  (100230, (0, 4, 3, 1, false, [4002, 1007, 4003, 4004])),
  (10028, (0, 64, 1, 8, false, [4006, 1011, 2149, 2150])),
  (10034, (0, 68, 1, 8, false, [4007, 1011, 2153, 2154])),
  (10038, (1, 232, 2, 0, false, [4008, 1014, 3053])),
  (10047, (0, 5, 3, 1, false, [4009, 1007, 4011, 33])),
  (10051, (4, 0, 0, 0, false, [4013, 2196, 2195, 1013])),
  (10057, (5, 0, 0, 0, false, [4014, 3092, 1015, 3091])),
  (120081, (0, 112, 3, 10, false, [4015, 1001, 4016, 4017])),
  (100234, (0, 18, 2, 2, false, [4019, 1003, 4020, 4021])),
  (20108, (0, 48, 1, 6, false, [4023, 1005, 4024, 4025])),
  (60021, (4, 0, 0, 0, false, [4027, 2196, 2195, 1013])),
  (60027, (0, 49, 0, 6, false, [4028, 1005, 3121, 3122])),
  (20114, (0, 19, 2, 2, false, [4029, 1003, 4031, 34])),
  (20120, (0, 20, 3, 2, false, [4035, 1003, 4037, 35]))]
def am_tM4 : List (Nat × (Nat × Nat × Nat × Nat × Bool × List Nat)) := [(20124, (0, 50, 1, 6, false, [4039, 1005, 4040, 4041])),
  (120085, (0, 113, 4, 10, false, [4043, 1001, 4044, 4045])),
  (100238, (0, 21, 4, 2, false, [4047, 1003, 4048, 4049])),
  (20129, (0, 56, 2, 6, false, [4052, 1005, 4053, 4054])),
  (120090, (0, 114, 2, 10, false, [4056, 1001, 4057, 4058])),
  (120094, (0, 115, 2, 10, false, [4060, 1001, 4061, 4062])),
  (100249, (0, 48, 1, 6, false, [4064, 1005, 4024, 4025])),
  (100259, (0, 51, 0, 6, false, [4065, 1005, 4066, 4067])),
  (120098, (0, 116, 0, 10, false, [4069, 1001, 4070, 4071])),
  (100262, (0, 52, 1, 6, false, [4073, 1005, 3061, 3062])),
  (100265, (0, 53, 4, 6, false, [4074, 1005, 3132, 3133])),
  (120102, (0, 117, 1, 10, false, [4075, 1001, 4076, 4077])),
  (120106, (0, 118, 2, 10, false, [4079, 1001, 4080, 4081])),
  (120110, (0, 119, 1, 10, false, [4083, 1001, 4084, 4085])),
  (120114, (0, 120, 0, 10, false, [4087, 1001, 4088, 4089])),
  (100275, (0, 58, 2, 7, false, [4091, 1008, 4092, 4093])),
  (70025, (1, 140, 2, 0, true, [4095, 1001, 2161])),
  (70029, (4, 0, 0, 0, false, [4096, 2196, 2195, 1013])),
  (70035, (0, 50, 1, 6, false, [4097, 1005, 4040, 4041])),
  (120118, (0, 121, 0, 10, false, [4098, 1001, 4099, 4100])),
  (120122, (0, 122, 0, 10, false, [4102, 1001, 4103, 4104])),
  (120126, (0, 123, 0, 10, false, [4106, 1001, 4107, 4108])),
  (120130, (0, 124, 1, 10, false, [4110, 1001, 4111, 4112])),
  (100302, (1, 23, 1, 0, false, [4114, 1010, 4115])),
  (100305, (0, 25, 1, 3, false, [4119, 1010, 4120, 4121])),
  (120134, (0, 125, 3, 10, false, [4123, 1001, 4124, 4125])),
  (100306, (0, 29, 3, 3, false, [4127, 1010, 4128, 4129])),
  (30029, (0, 26, 1, 3, false, [4131, 1010, 4132, 4133])),
  (30047, (0, 32, 4, 3, false, [4135, 1010, 4137, 36])),
  (30054, (1, 30, 2, 0, false, [4139, 1010, 4140])),
  (30021, (1, 23, 1, 0, false, [4142, 1010, 4115])),
  (30057, (0, 31, 1, 3, false, [4145, 1010, 4147, 37])),
  (120138, (0, 126, 1, 10, false, [4149, 1001, 4150, 4151])),
  (100310, (0, 28, 0, 3, false, [4153, 1010, 4154, 4155])),
  (30035, (6, 0, 0, 0, false, [4157, 3089, 1015, 3088])),
  (120142, (0, 127, 2, 10, false, [4158, 1001, 4159, 4160]))]
def am_tM5 : List (Nat × (Nat × Nat × Nat × Nat × Bool × List Nat)) := [(100316, (0, 26, 1, 3, false, [4162, 1010, 4132, 4133])),
  (100317, (0, 60, 1, 8, false, [4163, 1011, 4164, 4165])),
  (120146, (0, 128, 3, 10, false, [4167, 1001, 4168, 4169])),
  (100321, (0, 61, 2, 8, false, [4171, 1011, 4172, 4173])),
  (80028, (1, 231, 2, 0, false, [4175, 1014, 4176])),
  (120152, (0, 129, 3, 10, false, [4178, 1001, 4179, 4180])),
  (100325, (0, 131, 2, 10, false, [4182, 1001, 4184, 38])),
  (100338, (0, 62, 0, 8, false, [4186, 1011, 2141, 2142])),
  (100328, (0, 66, 2, 8, false, [4187, 1011, 4188, 4189])),
  (80042, (0, 67, 1, 8, false, [4191, 1011, 4193, 39])),
  (120157, (0, 130, 2, 10, false, [4195, 1001, 4196, 4197])),
  (120162, (0, 132, 5, 10, false, [4200, 1001, 4201, 4202])),
  (100344, (0, 65, 2, 8, false, [4204, 1011, 3113, 3114])),
  (100347, (4, 0, 0, 0, false, [4205, 2196, 2195, 1013])),
  (120167, (0, 133, 2, 10, false, [4206, 1001, 4207, 4208])),
  (100359, (0, 27, 1, 3, false, [4210, 1010, 4211, 4212])),
  (100362, (1, 24, 2, 0, false, [4214, 1010, 4215])),
  (120171, (0, 134, 1, 10, false, [4217, 1001, 4218, 4219])),
  (120012, (2, 145, 0, 11, false, [4223, 1012, 4224])),
  (110001, (3, 0, 0, 0, false, [4226, 1023, 1024])),
  (110007, (1, 148, 0, 0, false, [4227, 1012, 4228])),
  (120017, (0, 151, 0, 11, false, [5145, 1012, 5146, 5147])),
  (120022, (0, 152, 1, 11, false, [5149, 1012, 5150, 5151])),
  (110125, (1, 146, 3, 0, false, [5153, 1012, 5154])),
  (120031, (0, 154, 3, 11, false, [5156, 1012, 5157, 5158])),
  (110139, (0, 153, 2, 11, false, [5160, 1012, 5162, 40])),
  (110132, (0, 149, 1, 11, false, [5164, 1012, 5166, 41])),
  (110136, (0, 150, 1, 11, false, [5168, 1012, 5170, 42])),
  (120036, (0, 155, 2, 11, false, [5172, 1012, 5173, 5174])),
  (120125, (0, 156, 0, 11, false, [5176, 1012, 5177, 5178])),
  (120129, (0, 157, 0, 11, false, [5180, 1012, 5181, 5182])),
  (120040, (0, 160, 1, 11, false, [5184, 1012, 5185, 5186])),
  (120044, (0, 172, 0, 11, false, [5188, 1012, 5189, 5190])),
  (110196, (0, 171, 0, 11, false, [5192, 1012, 5194, 43])),
  (110181, (0, 170, 0, 11, false, [5196, 1012, 5198, 44])),
  (110193, (0, 169, 0, 11, false, [5200, 1012, 5202, 45]))]
def am_tM6 : List (Nat × (Nat × Nat × Nat × Nat × Bool × List Nat)) := [(110190, (0, 168, 0, 11, false, [5204, 1012, 5206, 46])),
  (110187, (0, 167, 0, 11, false, [5208, 1012, 5210, 47])),
  (110184, (0, 166, 0, 11, false, [5212, 1012, 5214, 48])),
  (110178, (0, 165, 0, 11, false, [5216, 1012, 5218, 49])),
  (110161, (0, 162, 0, 11, false, [5220, 1012, 5222, 50])),
  (110168, (0, 163, 0, 11, false, [5224, 1012, 5226, 51])),
  (110172, (0, 161, 1, 11, false, [5228, 1012, 5230, 52])),
  (110175, (0, 164, 0, 11, false, [5232, 1012, 5234, 53])),
  (120027, (0, 186, 3, 11, false, [5236, 1012, 5237, 5238])),
  (110238, (1, 180, 1, 0, false, [6000, 1012, 6001])),
  (110224, (0, 182, 2, 11, false, [6004, 1012, 6006, 54])),
  (110243, (0, 159, 3, 11, false, [6008, 1012, 6010, 55])),
  (120048, (0, 187, 3, 11, false, [6012, 1012, 6013, 6014])),
  (110247, (0, 185, 2, 11, false, [6016, 1012, 6018, 56])),
  (110227, (0, 181, 1, 11, false, [6020, 1012, 6022, 57])),
  (110230, (0, 183, 1, 11, false, [6024, 1012, 6026, 58])),
  (110234, (0, 184, 2, 11, false, [6028, 1012, 6030, 59])),
  (110249, (0, 176, 0, 11, false, [6032, 1012, 6034, 60])),
  (110252, (0, 177, 1, 11, false, [6036, 1012, 6038, 61])),
  (110216, (0, 175, 2, 11, false, [6040, 1012, 6042, 62])),
  (110205, (0, 174, 1, 11, false, [6044, 1012, 6046, 63])),
  (110209, (0, 173, 0, 11, false, [6048, 1012, 6050, 64])),
  (110212, (1, 147, 3, 0, false, [6052, 1012, 6053])),
  (110112, (6, 0, 0, 0, false, [6055, 3089, 1015, 3088])),
  (110118, (5, 0, 0, 0, false, [6056, 3092, 1015, 3091])),
  (110255, (1, 178, 2, 0, false, [6057, 1012, 6058])),
  (120052, (0, 189, 2, 11, false, [6060, 1012, 6061, 6062])),
  (110259, (1, 188, 1, 0, false, [6064, 1012, 6065])),
  (110262, (0, 179, 1, 11, false, [6067, 1012, 6069, 65])),
  (110220, (7, 0, 0, 0, false, [6071, 3130, 1015, 3129])),
  (120056, (0, 192, 3, 11, false, [6072, 1012, 6073, 6074])),
  (110268, (1, 190, 1, 0, false, [6076, 1012, 6077])),
  (110274, (0, 191, 3, 11, false, [6080, 1012, 6082, 66])),
  (110265, (0, 158, 2, 11, false, [6084, 1012, 6086, 67])),
  (120060, (0, 194, 2, 11, false, [6088, 1012, 6089, 6090])),
  (110277, (0, 193, 5, 11, false, [6092, 1012, 6094, 68]))]
def am_tM7 : List (Nat × (Nat × Nat × Nat × Nat × Bool × List Nat)) := [(120064, (0, 195, 2, 11, false, [6096, 1012, 6097, 6098])),
  (110281, (1, 227, 1, 0, false, [6100, 1016, 3194])),
  (110284, (0, 196, 2, 11, false, [6101, 1012, 6103, 69])),
  (120068, (0, 197, 3, 11, false, [6105, 1012, 6106, 6107])),
  (120072, (0, 198, 2, 11, false, [6109, 1012, 6110, 6111])),
  (120076, (0, 200, 1, 11, false, [6113, 1012, 6114, 6115])),
  (110287, (0, 199, 1, 11, false, [6117, 1012, 6119, 70])),
  (120080, (0, 202, 3, 11, false, [6121, 1012, 6122, 6123])),
  (110293, (0, 201, 5, 11, false, [6125, 1012, 6127, 71])),
  (120084, (0, 204, 3, 11, false, [6129, 1012, 6130, 6131])),
  (110297, (0, 203, 2, 11, false, [6133, 1012, 6135, 72])),
  (120089, (0, 205, 4, 11, false, [6137, 1012, 6138, 6139])),
  (120093, (0, 206, 2, 11, false, [6142, 1012, 6143, 6144])),
  (120097, (0, 207, 2, 11, false, [6146, 1012, 6147, 6148])),
  (120101, (0, 208, 0, 11, false, [6150, 1012, 6151, 6152])),
  (120105, (0, 209, 1, 11, false, [6154, 1012, 6155, 6156])),
  (120109, (0, 210, 2, 11, false, [6158, 1012, 6159, 6160])),
  (120113, (0, 211, 1, 11, false, [6162, 1012, 6163, 6164])),
  (120117, (0, 212, 0, 11, false, [6166, 1012, 6167, 6168])),
  (120121, (0, 213, 0, 11, false, [6170, 1012, 6171, 6172])),
  (120133, (0, 214, 1, 11, false, [6174, 1012, 6175, 6176])),
  (120137, (0, 217, 3, 11, false, [6178, 1012, 6179, 6180])),
  (110326, (0, 215, 3, 11, false, [6182, 1012, 6184, 73])),
  (110319, (0, 216, 4, 11, false, [6186, 1012, 6188, 74])),
  (120141, (0, 218, 1, 11, false, [6190, 1012, 6191, 6192])),
  (120145, (0, 219, 2, 11, false, [6194, 1012, 6195, 6196])),
  (120149, (0, 220, 3, 11, false, [6198, 1012, 6199, 6200])),
  (120156, (0, 222, 3, 11, false, [6202, 1012, 6203, 6204])),
  (110329, (0, 221, 2, 11, false, [6206, 1012, 6208, 75])),
  (120161, (0, 223, 2, 11, false, [6210, 1012, 6211, 6212])),
  (120166, (0, 224, 5, 11, false, [6215, 1012, 6216, 6217])),
  (120170, (0, 225, 2, 11, false, [6219, 1012, 6220, 6221])),
  (120174, (0, 226, 1, 11, false, [6223, 1012, 6224, 6225]))]
def am_tM : List (Nat × (Nat × Nat × Nat × Nat × Bool × List Nat)) := am_tM0 ++ (am_tM1 ++ (am_tM2 ++ (am_tM3 ++ (am_tM4 ++ (am_tM5 ++ (am_tM6 ++ (am_tM7)))))))
