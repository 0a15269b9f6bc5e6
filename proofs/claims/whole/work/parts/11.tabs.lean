def am_own : Nat → String := fun n => (["SoupCourt$Changes", "SoupCourt$Fires", "SoupCourt$Kitchen", "SoupCourt$Ladles", "SoupCourt$Law", "SoupCourt$Noses", "SoupCourt$Pot", "SoupCourt$Scene", "SoupCourt$Shelf", "SoupCourt$Tape", "SoupCourt", "SoupCourtModel", "SoupCourtLaw", "java/lang/Integer", "java/lang/Math", "java/util/Arrays"] : List String).getD n ""
def mX0_init : am_M := (0, yX0_init, cX0_init, 1, none)
def mX0_come : am_M := (0, yX0_come, cX0_come, 5, none)
def mX0_forgetFirst : am_M := (0, yX0_forgetFirst, cX0_forgetFirst, 1, none)
def mX1_init : am_M := (1, yX1_init, cX1_init, 1, none)
def mX1_leastTime : am_M := (1, yX1_leastTime, cX1_leastTime, 6, (some FieldType.int))
def mX1_layOn : am_M := (1, yX1_layOn, cX1_layOn, 5, none)
def mX2_init : am_M := (2, yX2_init, cX2_init, 2, none)
def mX2_mix : am_M := (2, yX2_mix, cX2_mix, 1, (some (FieldType.array FieldType.int)))
def mX2_tasteBehind : am_M := (2, yX2_tasteBehind, cX2_tasteBehind, 5, (some FieldType.int))
def mX2_firstOf : am_M := (2, yX2_firstOf, cX2_firstOf, 1, (some FieldType.int))
def mX2_lastOf : am_M := (2, yX2_lastOf, cX2_lastOf, 1, (some FieldType.int))
def mX2_bestMinutes : am_M := (2, yX2_bestMinutes, cX2_bestMinutes, 6, (some FieldType.int))
def mX2_nearestMix : am_M := (2, yX2_nearestMix, cX2_nearestMix, 10, (some FieldType.int))
def mX2_farBehind : am_M := (2, yX2_farBehind, cX2_farBehind, 5, (some FieldType.int))
def mX2_fittingMixes : am_M := (2, yX2_fittingMixes, cX2_fittingMixes, 11, (some FieldType.int))
def mX2_fits : am_M := (2, yX2_fits, cX2_fits, 3, (some FieldType.boolean))
def mX2_isMixOf : am_M := (2, yX2_isMixOf, cX2_isMixOf, 7, (some FieldType.boolean))
def mX2_digit : am_M := (2, yX2_digit, cX2_digit, 5, (some FieldType.int))
def mX2_playedOut : am_M := (2, yX2_playedOut, cX2_playedOut, 4, (some FieldType.int))
def mX2_played : am_M := (2, yX2_played, cX2_played, 11, (some FieldType.int))
def mX2_isDone : am_M := (2, yX2_isDone, cX2_isDone, 4, (some FieldType.boolean))
def mX2_drawnTerms : am_M := (2, yX2_drawnTerms, cX2_drawnTerms, 9, (some FieldType.int))
def mX3_init : am_M := (3, yX3_init, cX3_init, 1, none)
def mX3_isKind : am_M := (3, yX3_isKind, cX3_isKind, 1, (some FieldType.boolean))
def mX3_isUnder : am_M := (3, yX3_isUnder, cX3_isUnder, 4, (some FieldType.boolean))
def mX3_come : am_M := (3, yX3_come, cX3_come, 2, (some FieldType.int))
def mX3_isOne : am_M := (3, yX3_isOne, cX3_isOne, 2, (some FieldType.boolean))
def mX3_kindOf : am_M := (3, yX3_kindOf, cX3_kindOf, 2, (some FieldType.int))
def mX3_traced : am_M := (3, yX3_traced, cX3_traced, 1, (some FieldType.int))
def mX3_acted : am_M := (3, yX3_acted, cX3_acted, 4, (some FieldType.int))
def mX3_bodyFrom : am_M := (3, yX3_bodyFrom, cX3_bodyFrom, 5, (some FieldType.int))
def mX3_began : am_M := (3, yX3_began, cX3_began, 2, none)
def mX3_run : am_M := (3, yX3_run, cX3_run, 7, (some FieldType.int))
def mX4_init : am_M := (4, yX4_init, cX4_init, 1, none)
def mX4_becomes : am_M := (4, yX4_becomes, cX4_becomes, 2, none)
def mX4_grown : am_M := (4, yX4_grown, cX4_grown, 11, (some FieldType.int))
def mX4_workedOut : am_M := (4, yX4_workedOut, cX4_workedOut, 7, (some FieldType.int))
def mX4_joined : am_M := (4, yX4_joined, cX4_joined, 3, (some FieldType.int))
def mX5_init : am_M := (5, yX5_init, cX5_init, 1, none)
def mX5_come : am_M := (5, yX5_come, cX5_come, 2, (some FieldType.int))
def mX5_isOne : am_M := (5, yX5_isOne, cX5_isOne, 2, (some FieldType.boolean))
def mX5_tells : am_M := (5, yX5_tells, cX5_tells, 8, (some FieldType.boolean))
def mX5_fewest : am_M := (5, yX5_fewest, cX5_fewest, 5, (some FieldType.int))
def mX5_soupsOf : am_M := (5, yX5_soupsOf, cX5_soupsOf, 4, (some FieldType.int))
def mX5_pairUp : am_M := (5, yX5_pairUp, cX5_pairUp, 4, none)
def mX5_tellersOf : am_M := (5, yX5_tellersOf, cX5_tellersOf, 5, (some FieldType.int))
def mX5_tellAll : am_M := (5, yX5_tellAll, cX5_tellAll, 3, (some FieldType.boolean))
def mX6_init : am_M := (6, yX6_init, cX6_init, 1, none)
def mX6_putOn : am_M := (6, yX6_putOn, cX6_putOn, 2, none)
def mX6_begin : am_M := (6, yX6_begin, cX6_begin, 1, none)
def mX6_becomes : am_M := (6, yX6_becomes, cX6_becomes, 2, none)
def mX6_howMuch : am_M := (6, yX6_howMuch, cX6_howMuch, 3, (some FieldType.int))
def mX6_weigh : am_M := (6, yX6_weigh, cX6_weigh, 5, none)
def mX6_pass : am_M := (6, yX6_pass, cX6_pass, 3, none)
def mX6_passFor : am_M := (6, yX6_passFor, cX6_passFor, 6, none)
def mX6_behind : am_M := (6, yX6_behind, cX6_behind, 7, (some FieldType.int))
def mX6_farFrom : am_M := (6, yX6_farFrom, cX6_farFrom, 4, (some FieldType.int))
def mX6_sumOfTastes : am_M := (6, yX6_sumOfTastes, cX6_sumOfTastes, 5, (some FieldType.int))
def mX7_init : am_M := (7, yX7_init, cX7_init, 1, none)
def mX7_becomes : am_M := (7, yX7_becomes, cX7_becomes, 3, none)
def mX8_init : am_M := (8, yX8_init, cX8_init, 1, none)
def mX8_hold : am_M := (8, yX8_hold, cX8_hold, 2, none)
def mX8_holdRow : am_M := (8, yX8_holdRow, cX8_holdRow, 3, none)
def mX8_refusedAsRow : am_M := (8, yX8_refusedAsRow, cX8_refusedAsRow, 1, (some FieldType.int))
def mX8_refusedAsBytes : am_M := (8, yX8_refusedAsBytes, cX8_refusedAsBytes, 2, (some FieldType.int))
def mX8_hasPlace : am_M := (8, yX8_hasPlace, cX8_hasPlace, 2, (some FieldType.boolean))
def mX8_hasPlaces : am_M := (8, yX8_hasPlaces, cX8_hasPlaces, 3, (some FieldType.boolean))
def mX8_set : am_M := (8, yX8_set, cX8_set, 4, none)
def mX8_lowestBits : am_M := (8, yX8_lowestBits, cX8_lowestBits, 3, (some FieldType.long))
def mX8_byteAt : am_M := (8, yX8_byteAt, cX8_byteAt, 2, (some FieldType.int))
def mX8_giveMix : am_M := (8, yX8_giveMix, cX8_giveMix, 4, none)
def mX8_giveSoup : am_M := (8, yX8_giveSoup, cX8_giveSoup, 5, (some FieldType.boolean))
def mX9_init : am_M := (9, yX9_init, cX9_init, 1, none)
def mX9_take : am_M := (9, yX9_take, cX9_take, 2, (some FieldType.boolean))
def mX9_readText : am_M := (9, yX9_readText, cX9_readText, 3, (some FieldType.int))
def mX9_next : am_M := (9, yX9_next, cX9_next, 1, (some FieldType.int))
def mX9_make : am_M := (9, yX9_make, cX9_make, 2, none)
def mX9_readLine : am_M := (9, yX9_readLine, cX9_readLine, 2, (some FieldType.boolean))
def mX9_readE : am_M := (9, yX9_readE, cX9_readE, 4, (some FieldType.boolean))
def mX9_readA : am_M := (9, yX9_readA, cX9_readA, 4, (some FieldType.boolean))
def mX9_readB : am_M := (9, yX9_readB, cX9_readB, 3, (some FieldType.boolean))
def mX9_readS : am_M := (9, yX9_readS, cX9_readS, 5, (some FieldType.boolean))
def mX9_readP : am_M := (9, yX9_readP, cX9_readP, 5, (some FieldType.boolean))
def mX9_readO : am_M := (9, yX9_readO, cX9_readO, 4, (some FieldType.boolean))
def mX9_readInner : am_M := (9, yX9_readInner, cX9_readInner, 2, (some FieldType.boolean))
def mX9_readSigned : am_M := (9, yX9_readSigned, cX9_readSigned, 3, (some FieldType.boolean))
def mX9_readNumber : am_M := (9, yX9_readNumber, cX9_readNumber, 3, none)
def mX9_isDigit : am_M := (9, yX9_isDigit, cX9_isDigit, 1, (some FieldType.boolean))
def mX9_nameStep : am_M := (9, yX9_nameStep, cX9_nameStep, 1, (some FieldType.int))
def mX10_init : am_M := (10, yX10_init, cX10_init, 2, none)
def mX10_house : am_M := (10, yX10_house, cX10_house, 1, (some FieldType.int))
def mX10_nose : am_M := (10, yX10_nose, cX10_nose, 2, (some FieldType.int))
def mX10_things : am_M := (10, yX10_things, cX10_things, 5, (some FieldType.int))
def mX10_toldFrom : am_M := (10, yX10_toldFrom, cX10_toldFrom, 9, (some FieldType.int))
def mX10_mend : am_M := (10, yX10_mend, cX10_mend, 5, (some FieldType.int))
def mX10_of : am_M := (10, yX10_of, cX10_of, 3, (some FieldType.int))
def mX10_isTold : am_M := (10, yX10_isTold, cX10_isTold, 3, (some FieldType.boolean))
def mX10_told : am_M := (10, yX10_told, cX10_told, 3, (some FieldType.int))
def mX10_tell : am_M := (10, yX10_tell, cX10_tell, 4, none)
def mX10_feed : am_M := (10, yX10_feed, cX10_feed, 2, (some FieldType.int))
def mX10_law : am_M := (10, yX10_law, cX10_law, 2, (some FieldType.int))
def mX10_taste : am_M := (10, yX10_taste, cX10_taste, 5, (some FieldType.int))
def mX10_best : am_M := (10, yX10_best, cX10_best, 4, (some FieldType.int))
def mX10_nearest : am_M := (10, yX10_nearest, cX10_nearest, 5, (some FieldType.int))
def mX10_apart : am_M := (10, yX10_apart, cX10_apart, 6, (some FieldType.int))
def mX10_jury : am_M := (10, yX10_jury, cX10_jury, 5, (some FieldType.int))
def mX10_inHouse : am_M := (10, yX10_inHouse, cX10_inHouse, 6, (some FieldType.int))
def mX10_lent : am_M := (10, yX10_lent, cX10_lent, 4, (some FieldType.int))
def mX10_fewestLent : am_M := (10, yX10_fewestLent, cX10_fewestLent, 5, (some FieldType.int))
def mX10_hadByOthers : am_M := (10, yX10_hadByOthers, cX10_hadByOthers, 5, (some FieldType.int))
def mX10_whoCould : am_M := (10, yX10_whoCould, cX10_whoCould, 5, (some FieldType.int))
def mX10_hasMix : am_M := (10, yX10_hasMix, cX10_hasMix, 3, (some FieldType.boolean))
def mX10_fires : am_M := (10, yX10_fires, cX10_fires, 5, (some FieldType.int))
def mX10_byTurns : am_M := (10, yX10_byTurns, cX10_byTurns, 5, (some FieldType.int))
def mX10_drawn : am_M := (10, yX10_drawn, cX10_drawn, 7, (some FieldType.int))
def mX10_fact : am_M := (10, yX10_fact, cX10_fact, 9, (some FieldType.int))
def mX10_pot : am_M := (10, yX10_pot, cX10_pot, 5, (some FieldType.int))
def mX10_minute : am_M := (10, yX10_minute, cX10_minute, 1, (some FieldType.int))
def mX10_potOf : am_M := (10, yX10_potOf, cX10_potOf, 2, (some FieldType.int))
def mX10_spoon : am_M := (10, yX10_spoon, cX10_spoon, 5, (some FieldType.int))
def mX10_led : am_M := (10, yX10_led, cX10_led, 2, (some FieldType.int))
def mX10_image : am_M := (10, yX10_image, cX10_image, 1, (some FieldType.int))
def mX10_back : am_M := (10, yX10_back, cX10_back, 1, (some FieldType.int))
def mX10_undo : am_M := (10, yX10_undo, cX10_undo, 2, (some FieldType.int))
def mX10_redo : am_M := (10, yX10_redo, cX10_redo, 2, (some FieldType.int))
def mX10_body : am_M := (10, yX10_body, cX10_body, 2, (some FieldType.int))
def mX10_act : am_M := (10, yX10_act, cX10_act, 4, (some FieldType.int))
def mX10_trace : am_M := (10, yX10_trace, cX10_trace, 2, (some FieldType.int))
def mX10_keep : am_M := (10, yX10_keep, cX10_keep, 3, (some FieldType.int))
def mX10_row : am_M := (10, yX10_row, cX10_row, 4, (some FieldType.int))
def mX10_put : am_M := (10, yX10_put, cX10_put, 6, (some FieldType.int))
def mX10_element : am_M := (10, yX10_element, cX10_element, 3, (some FieldType.long))
def mX10_placeRefused : am_M := (10, yX10_placeRefused, cX10_placeRefused, 4, (some FieldType.int))
def mX10_shift : am_M := (10, yX10_shift, cX10_shift, 10, (some FieldType.int))
def mX10_taken : am_M := (10, yX10_taken, cX10_taken, 4, (some FieldType.int))
def mX10_count : am_M := (10, yX10_count, cX10_count, 2, (some FieldType.int))
def mX10_isHouse : am_M := (10, yX10_isHouse, cX10_isHouse, 2, (some FieldType.boolean))
def mX10_isThing : am_M := (10, yX10_isThing, cX10_isThing, 1, (some FieldType.boolean))
def mX10_isShelf : am_M := (10, yX10_isShelf, cX10_isShelf, 1, (some FieldType.boolean))
def mX10_areShelves : am_M := (10, yX10_areShelves, cX10_areShelves, 1, (some FieldType.boolean))
def mX10_isSearch : am_M := (10, yX10_isSearch, cX10_isSearch, 2, (some FieldType.boolean))
def mX10_larder : am_M := (10, yX10_larder, cX10_larder, 2, (some FieldType.int))
def mX10_strengthAt : am_M := (10, yX10_strengthAt, cX10_strengthAt, 2, (some FieldType.int))
def mX10_readyMix : am_M := (10, yX10_readyMix, cX10_readyMix, 3, (some FieldType.int))
def mX10_readySoup : am_M := (10, yX10_readySoup, cX10_readySoup, 3, (some FieldType.int))
def mX10_readyMixAndSoup : am_M := (10, yX10_readyMixAndSoup, cX10_readyMixAndSoup, 3, (some FieldType.int))
def mX11_init : am_M := (11, yX11_init, cX11_init, 1, none)
def mX11_isIn : am_M := (11, yX11_isIn, cX11_isIn, 3, (some FieldType.boolean))
def mX11_bound : am_M := (11, yX11_bound, cX11_bound, 3, (some FieldType.int))
def mX11_fresh : am_M := (11, yX11_fresh, cX11_fresh, 1, (some (FieldType.array FieldType.int)))
def mX11_isHouse : am_M := (11, yX11_isHouse, cX11_isHouse, 2, (some FieldType.boolean))
def mX11_isNose : am_M := (11, yX11_isNose, cX11_isNose, 2, (some FieldType.boolean))
def mX11_house : am_M := (11, yX11_house, cX11_house, 1, (some FieldType.int))
def mX11_nose : am_M := (11, yX11_nose, cX11_nose, 2, (some FieldType.int))
def mX11_place : am_M := (11, yX11_place, cX11_place, 5, (some FieldType.int))
def mX11_mend : am_M := (11, yX11_mend, cX11_mend, 7, (some FieldType.int))
def mX11_of : am_M := (11, yX11_of, cX11_of, 4, (some FieldType.int))
def mX11_undo : am_M := (11, yX11_undo, cX11_undo, 1, (some FieldType.int))
def mX11_redo : am_M := (11, yX11_redo, cX11_redo, 1, (some FieldType.int))
def mX11_has : am_M := (11, yX11_has, cX11_has, 3, (some FieldType.int))
def mX11_hold : am_M := (11, yX11_hold, cX11_hold, 4, none)
def mX11_feed : am_M := (11, yX11_feed, cX11_feed, 2, (some FieldType.int))
def mX11_isAt : am_M := (11, yX11_isAt, cX11_isAt, 2, (some FieldType.boolean))
def mX11_isDigit : am_M := (11, yX11_isDigit, cX11_isDigit, 1, (some FieldType.boolean))
def mX11_number : am_M := (11, yX11_number, cX11_number, 3, (some FieldType.int))
def mX11_opens : am_M := (11, yX11_opens, cX11_opens, 1, (some FieldType.boolean))
def mX11_one : am_M := (11, yX11_one, cX11_one, 4, (some FieldType.int))
def mX11_product : am_M := (11, yX11_product, cX11_product, 4, (some FieldType.int))
def mX11_total : am_M := (11, yX11_total, cX11_total, 4, (some FieldType.int))
def mX11_compared : am_M := (11, yX11_compared, cX11_compared, 5, (some FieldType.int))
def mX11_both : am_M := (11, yX11_both, cX11_both, 3, (some FieldType.int))
def mX11_any : am_M := (11, yX11_any, cX11_any, 3, (some FieldType.int))
def mX11_gives : am_M := (11, yX11_gives, cX11_gives, 6, (some FieldType.int))
def mX11_law : am_M := (11, yX11_law, cX11_law, 2, (some FieldType.int))
def mX11_grows : am_M := (11, yX11_grows, cX11_grows, 2, (some FieldType.int))
def mX11_inAll : am_M := (11, yX11_inAll, cX11_inAll, 4, (some FieldType.int))
def mX11_cook : am_M := (11, yX11_cook, cX11_cook, 5, none)
def mX11_begin : am_M := (11, yX11_begin, cX11_begin, 2, none)
def mX11_boil : am_M := (11, yX11_boil, cX11_boil, 3, none)
def mX11_ofTastes : am_M := (11, yX11_ofTastes, cX11_ofTastes, 4, (some FieldType.int))
def mX11_far : am_M := (11, yX11_far, cX11_far, 4, (some FieldType.int))
def mX11_isShelf : am_M := (11, yX11_isShelf, cX11_isShelf, 1, (some FieldType.boolean))
def mX11_bytesIn : am_M := (11, yX11_bytesIn, cX11_bytesIn, 2, (some FieldType.int))
def mX11_byteAt : am_M := (11, yX11_byteAt, cX11_byteAt, 3, (some FieldType.int))
def mX11_readMix : am_M := (11, yX11_readMix, cX11_readMix, 4, none)
def mX11_readSoup : am_M := (11, yX11_readSoup, cX11_readSoup, 5, (some FieldType.boolean))
def mX11_load : am_M := (11, yX11_load, cX11_load, 4, (some FieldType.int))
def mX11_things : am_M := (11, yX11_things, cX11_things, 11, (some FieldType.int))
def mX11_taste : am_M := (11, yX11_taste, cX11_taste, 5, (some FieldType.int))
def mX11_isTwo : am_M := (11, yX11_isTwo, cX11_isTwo, 1, (some FieldType.boolean))
def mX11_best : am_M := (11, yX11_best, cX11_best, 7, (some FieldType.int))
def mX11_isHn : am_M := (11, yX11_isHn, cX11_isHn, 1, (some FieldType.boolean))
def mX11_setMix : am_M := (11, yX11_setMix, cX11_setMix, 7, (some FieldType.boolean))
def mX11_nearest : am_M := (11, yX11_nearest, cX11_nearest, 11, (some FieldType.int))
def mX11_tells : am_M := (11, yX11_tells, cX11_tells, 8, (some FieldType.boolean))
def mX11_apart : am_M := (11, yX11_apart, cX11_apart, 5, (some FieldType.int))
def mX11_jury : am_M := (11, yX11_jury, cX11_jury, 6, (some FieldType.int))
def mX11_isTold : am_M := (11, yX11_isTold, cX11_isTold, 8, (some FieldType.boolean))
def mX11_inHouse : am_M := (11, yX11_inHouse, cX11_inHouse, 11, (some FieldType.int))
def mX11_lent : am_M := (11, yX11_lent, cX11_lent, 9, (some FieldType.int))
def mX11_isAble : am_M := (11, yX11_isAble, cX11_isAble, 4, (some FieldType.boolean))
def mX11_whoCould : am_M := (11, yX11_whoCould, cX11_whoCould, 5, (some FieldType.int))
def mX11_deal : am_M := (11, yX11_deal, cX11_deal, 7, none)
def mX11_fires : am_M := (11, yX11_fires, cX11_fires, 5, (some FieldType.int))
def mX11_turns : am_M := (11, yX11_turns, cX11_turns, 10, (some FieldType.int))
def mX11_byTurns : am_M := (11, yX11_byTurns, cX11_byTurns, 6, (some FieldType.int))
def mX11_drawn : am_M := (11, yX11_drawn, cX11_drawn, 10, (some FieldType.int))
def mX11_fact : am_M := (11, yX11_fact, cX11_fact, 7, (some FieldType.int))
def mX11_pot : am_M := (11, yX11_pot, cX11_pot, 5, (some FieldType.int))
def mX11_minute : am_M := (11, yX11_minute, cX11_minute, 1, (some FieldType.int))
def mX11_potOf : am_M := (11, yX11_potOf, cX11_potOf, 2, (some FieldType.int))
def mX11_spoon : am_M := (11, yX11_spoon, cX11_spoon, 5, (some FieldType.int))
def mX11_led : am_M := (11, yX11_led, cX11_led, 2, (some FieldType.int))
def mX11_image : am_M := (11, yX11_image, cX11_image, 2, (some FieldType.int))
def mX11_back : am_M := (11, yX11_back, cX11_back, 2, (some FieldType.int))
def mX11_body : am_M := (11, yX11_body, cX11_body, 2, (some FieldType.int))
def mX11_does : am_M := (11, yX11_does, cX11_does, 4, (some FieldType.int))
def mX11_byKind : am_M := (11, yX11_byKind, cX11_byKind, 8, (some FieldType.int))
def mX11_act : am_M := (11, yX11_act, cX11_act, 4, (some FieldType.int))
def mX11_trace : am_M := (11, yX11_trace, cX11_trace, 2, (some FieldType.int))
def mX11_keep : am_M := (11, yX11_keep, cX11_keep, 3, (some FieldType.int))
def mX11_row : am_M := (11, yX11_row, cX11_row, 5, (some FieldType.int))
def mX11_rowAt : am_M := (11, yX11_rowAt, cX11_rowAt, 3, (some FieldType.int))
def mX11_put : am_M := (11, yX11_put, cX11_put, 7, (some FieldType.int))
def mX11_element : am_M := (11, yX11_element, cX11_element, 3, (some FieldType.long))
def mX11_shift : am_M := (11, yX11_shift, cX11_shift, 7, (some FieldType.int))
def mX11_taken : am_M := (11, yX11_taken, cX11_taken, 5, (some FieldType.int))
def mX11_count : am_M := (11, yX11_count, cX11_count, 2, (some FieldType.int))
def mJ6_bitCount_0f7a4 : am_M := (13, yJ6_bitCount_0f7a4, cJ6_bitCount_0f7a4, 1, (some FieldType.int))
def mJ9_abs_0f7a4 : am_M := (14, yJ9_abs_0f7a4, cJ9_abs_0f7a4, 1, (some FieldType.int))
def mJ9_max_7cf53 : am_M := (14, yJ9_max_7cf53, cJ9_max_7cf53, 2, (some FieldType.int))
def mJ9_min_7cf53 : am_M := (14, yJ9_min_7cf53, cJ9_min_7cf53, 2, (some FieldType.int))
def mJ7_fill_d0a16 : am_M := (15, yJ7_fill_d0a16, cJ7_fill_d0a16, 5, none)
def mJ7_fill_53178 : am_M := (15, yJ7_fill_53178, cJ7_fill_53178, 4, none)
def mL_law : am_M := (12, yL_law, cL_law, 4, (some .boolean))
/-- fields: key (class, entry of its pool), class, slot, place of the word, by nest -/
def am_tF : List (Nat × (Nat × Nat × Nat × Bool)) := [(90009, (9, 0, 107, false)), (90022, (9, 1, 108, false)), (100149, (9, 1, 109, true)), (90026, (9, 2, 110, false)), (90013, (9, 3, 111, false)), (40027, (9, 3, 112, true)), (90029, (9, 4, 113, false)), (90016, (9, 5, 114, false)), (40034, (9, 5, 115, true)), (90019, (9, 6, 116, false)), (40035, (9, 6, 117, true)), (40036, (9, 7, 118, true)), (90032, (9, 7, 119, false)), (40009, (4, 0, 150, false)), (40015, (4, 1, 151, false)), (40018, (4, 2, 152, false)), (40040, (4, 3, 153, false)), (40021, (4, 4, 154, false)), (40024, (4, 5, 155, false)), (60009, (6, 0, 175, false)), (20040, (6, 0, 176, true)), (60015, (6, 1, 177, false)), (100272, (6, 1, 178, true)), (60036, (6, 2, 179, false)), (100269, (6, 2, 180, true)), (60018, (6, 3, 181, false)), (60040, (6, 4, 182, false)), (20077, (6, 4, 183, true)), (20012, (2, 0, 196, false)), (100155, (2, 0, 197, true)), (20018, (2, 1, 198, false)), (100131, (2, 1, 199, true)), (20022, (2, 2, 200, false)), (100143, (2, 2, 201, true)), (20026, (2, 3, 202, false)), (100198, (2, 3, 203, true)), (20032, (2, 4, 204, false)), (20036, (2, 5, 205, false)), (20111, (2, 6, 206, false)), (50011, (5, 0, 228, false)), (100137, (5, 0, 229, true)), (50015, (5, 1, 230, false)), (100140, (5, 1, 231, true)), (50024, (5, 2, 232, false)), (100365, (5, 2, 233, true)), (50018, (5, 3, 234, false)), (100191, (5, 3, 235, true)), (50021, (5, 4, 236, false)), (50057, (5, 5, 237, false)), (10011, (1, 0, 257, false)), (10024, (1, 1, 258, false)), (10015, (1, 2, 259, false)), (10018, (1, 3, 260, false)), (10021, (1, 4, 261, false)), (10044, (1, 5, 262, false)), (70009, (7, 0, 284, false)), (100107, (7, 0, 285, true)), (70015, (7, 1, 286, false)), (100242, (7, 1, 287, true)), (70021, (7, 2, 288, false)), (100245, (7, 2, 289, true)), (70039, (7, 3, 290, false)), (100255, (7, 3, 291, true)), (9, (0, 0, 307, false)), (100287, (0, 0, 308, true)), (13, (0, 1, 309, false)), (100290, (0, 1, 310, true)), (16, (0, 2, 311, false)), (100293, (0, 2, 312, true)), (19, (0, 3, 313, false)), (100299, (0, 3, 314, true)), (22, (0, 4, 315, false)), (100284, (0, 4, 316, true)), (29, (0, 5, 317, false)), (100296, (0, 5, 318, true)), (30011, (3, 0, 338, false)), (30025, (3, 1, 339, false)), (100366, (3, 1, 340, true)), (30015, (3, 2, 341, false)), (100313, (3, 2, 342, true)), (30032, (3, 3, 343, false)), (100367, (3, 3, 344, true)), (30041, (3, 4, 345, false)), (30044, (3, 5, 346, false)), (80015, (8, 0, 367, false)), (100353, (8, 0, 368, true)), (80019, (8, 1, 369, false)), (100356, (8, 1, 370, true)), (80022, (8, 2, 371, false)), (100341, (8, 2, 372, true)), (80025, (8, 3, 373, false)), (80011, (8, 4, 374, false)), (100332, (8, 4, 375, true)), (100010, (10, 0, 388, false)), (100019, (10, 1, 389, false)), (100026, (10, 2, 390, false)), (100033, (10, 3, 391, false)), (100040, (10, 4, 392, false)), (100044, (10, 5, 393, false)), (100050, (10, 6, 394, false)), (100057, (10, 7, 395, false)), (100063, (10, 8, 396, false)), (100068, (10, 9, 397, false)), (100278, (10, 10, 398, false)), (100281, (10, 11, 399, false)), (110013, (11, 0, 1031, false)), (110121, (11, 1, 1032, false)), (110129, (11, 2, 1033, false)), (110017, (11, 3, 1034, false)), (110020, (11, 4, 1035, false)), (110023, (11, 5, 1036, false)), (110142, (11, 6, 1037, false)), (110145, (11, 7, 1038, false)), (110026, (11, 8, 1039, false)), (110148, (11, 9, 1040, false)), (110029, (11, 10, 1041, false)), (110199, (11, 11, 1042, false)), (110202, (11, 12, 1043, false)), (110032, (11, 13, 1044, false)), (110158, (11, 14, 1045, false)), (110155, (11, 15, 1046, false)), (110151, (11, 16, 1047, false)), (110165, (11, 17, 1048, false)), (110035, (11, 18, 1049, false)), (110038, (11, 19, 1050, false)), (110042, (11, 20, 1051, false)), (110045, (11, 21, 1052, false)), (110048, (11, 22, 1053, false)), (110051, (11, 23, 1054, false)), (110054, (11, 24, 1055, false)), (110057, (11, 25, 1056, false)), (110060, (11, 26, 1057, false)), (110064, (11, 27, 1058, false)), (110067, (11, 28, 1059, false)), (110070, (11, 29, 1060, false)), (110073, (11, 30, 1061, false)), (110076, (11, 31, 1062, false)), (110079, (11, 32, 1063, false)), (110290, (11, 33, 1064, false)), (110082, (11, 34, 1065, false)), (110300, (11, 35, 1066, false)), (110085, (11, 36, 1067, false)), (110304, (11, 37, 1068, false)), (110088, (11, 38, 1069, false)), (110091, (11, 39, 1070, false)), (110094, (11, 40, 1071, false)), (110097, (11, 41, 1072, false)), (110307, (11, 42, 1073, false)), (110310, (11, 43, 1074, false)), (110313, (11, 44, 1075, false)), (110100, (11, 45, 1076, false)), (110103, (11, 46, 1077, false)), (110106, (11, 47, 1078, false)), (110316, (11, 48, 1079, false)), (110109, (11, 49, 1080, false)), (110323, (11, 50, 1081, false))]
def am_tS : List (Nat × (UInt32 × Nat × Bool)) := [(100072, (1, 433, false)), (100076, (2, 435, false)), (20117, (3, 833, false)), (30018, (4, 918, false)), (30051, (5, 944, false))]
def am_tC : List (Nat × (Nat × Nat × Nat × Nat)) := [(120007, (10, 93, 94, 77)), (100007, (9, 101, 102, 78)), (100016, (2, 138, 139, 79)), (20009, (4, 144, 145, 80)), (20029, (6, 169, 170, 81)), (100023, (5, 222, 223, 82)), (100030, (1, 251, 252, 83)), (100037, (7, 276, 277, 84)), (70018, (6, 282, 170, 81)), (100047, (0, 301, 302, 85)), (100054, (3, 332, 333, 86)), (100061, (8, 360, 362, 87)), (120010, (11, 1022, 1023, 88))]
def am_tI : List (Nat × (Int32 × Nat)) := [(130265, (1431655765, 756)), (130266, (858993459, 757)), (130267, (252645135, 758)), (20128, (1103515245, 851)), (110273, (2147483647, 1360)), (110303, (1103515245, 1422))]
def am_tJ : List (Nat × (Int64 × Nat)) := [(100336, (-9223372036854775808, 1000)), (110241, (2, 1284)), (110334, (-9223372036854775808, 1495)), (120150, (4294967295, 1508))]
/-- calls: key; kind (0 virtual, 1 static, 2 constructor, 3 Object, 4 arraycopy), method, arguments, class of the receiver, by nest, places of its words -/
def am_tM : List (Nat × (Nat × am_M × Nat × Nat × Bool × List Nat)) := [(120009, (2, mX10_init, 0, 10, false, [95, 97, 77, 96])),
  (100001, (3, mX0_init, 0, 0, false, [98, 99, 100])),
  (100009, (2, mX9_init, 0, 9, true, [103, 105, 78, 104])),
  (90001, (3, mX0_init, 0, 0, false, [106, 99, 100])),
  (100018, (2, mX2_init, 0, 2, false, [140, 142, 79, 141])),
  (20003, (3, mX0_init, 0, 0, false, [143, 99, 100])),
  (20011, (2, mX4_init, 0, 4, true, [146, 148, 80, 147])),
  (40001, (3, mX0_init, 0, 0, false, [149, 99, 100])),
  (20031, (2, mX6_init, 0, 6, true, [171, 173, 81, 172])),
  (60003, (3, mX0_init, 0, 0, false, [174, 99, 100])),
  (100025, (2, mX5_init, 0, 5, true, [224, 226, 82, 225])),
  (50003, (3, mX0_init, 0, 0, false, [227, 99, 100])),
  (100032, (2, mX1_init, 0, 1, true, [253, 255, 83, 254])),
  (10003, (3, mX0_init, 0, 0, false, [256, 99, 100])),
  (100039, (2, mX7_init, 0, 7, true, [278, 280, 84, 279])),
  (70003, (3, mX0_init, 0, 0, false, [281, 99, 100])),
  (70020, (2, mX6_init, 0, 6, true, [283, 173, 81, 172])),
  (100049, (2, mX0_init, 0, 0, true, [303, 305, 85, 304])),
  (1, (3, mX0_init, 0, 0, false, [306, 99, 100])),
  (100056, (2, mX3_init, 0, 3, true, [334, 336, 86, 335])),
  (30003, (3, mX0_init, 0, 0, false, [337, 99, 100])),
  (100067, (2, mX8_init, 0, 8, true, [363, 365, 87, 364])),
  (80003, (3, mX0_init, 0, 0, false, [366, 99, 100])),
  (120013, (0, mX10_house, 0, 10, false, [425, 428, 77, 426, 427])),
  (120018, (0, mX10_nose, 1, 10, false, [429, 432, 77, 430, 431])),
  (100079, (0, mX5_come, 1, 5, false, [437, 440, 82, 438, 439])),
  (120023, (0, mX10_things, 3, 10, false, [441, 444, 77, 442, 443])),
  (100083, (1, mX10_isShelf, 1, 0, false, [445, 447, 77, 446])),
  (100087, (0, mX10_isHouse, 1, 10, false, [448, 451, 77, 450, 0])),
  (100090, (0, mX8_refusedAsBytes, 0, 8, false, [452, 455, 87, 453, 454])),
  (80034, (0, mX8_refusedAsRow, 0, 8, false, [456, 459, 87, 457, 458])),
  (100094, (0, mX10_toldFrom, 4, 10, false, [460, 463, 77, 462, 1])),
  (100098, (0, mX8_hasPlace, 1, 8, false, [464, 467, 87, 465, 466])),
  (100101, (0, mX8_byteAt, 1, 8, false, [468, 471, 87, 469, 470])),
  (80038, (0, mX8_hasPlace, 1, 8, false, [472, 467, 87, 465, 466])),
  (100104, (1, mX10_isThing, 1, 0, false, [473, 475, 77, 474])),
  (100110, (1, mX10_larder, 2, 0, false, [476, 478, 77, 477])),
  (120028, (0, mX10_mend, 3, 10, false, [479, 482, 77, 480, 481])),
  (100114, (0, mX10_isTold, 2, 10, false, [483, 486, 77, 485, 2])),
  (100128, (0, mX5_isOne, 1, 5, false, [487, 490, 82, 488, 489])),
  (100118, (0, mX10_told, 2, 10, false, [491, 494, 77, 493, 3])),
  (100134, (1, mX10_strengthAt, 2, 0, false, [495, 497, 77, 496])),
  (100121, (0, mX10_tell, 3, 10, false, [498, 501, 77, 500, 4])),
  (100125, (0, mX0_come, 4, 0, false, [502, 505, 85, 503, 504])),
  (26, (0, mX0_forgetFirst, 0, 0, false, [506, 509, 85, 508, 5])),
  (32, (4, mX0_init, 0, 0, false, [510, 512, 511, 89])),
  (120032, (0, mX10_of, 2, 10, false, [513, 516, 77, 514, 515])),
  (120037, (0, mX10_feed, 1, 10, false, [517, 520, 77, 518, 519])),
  (100146, (0, mX9_take, 1, 9, false, [521, 524, 78, 522, 523])),
  (120041, (0, mX10_law, 0, 10, false, [525, 528, 77, 526, 527])),
  (100152, (0, mX9_readText, 0, 9, false, [529, 532, 78, 530, 531])),
  (90035, (0, mX9_readLine, 0, 9, false, [533, 536, 78, 535, 6])),
  (90043, (0, mX9_readE, 1, 9, false, [537, 540, 78, 539, 7])),
  (90047, (0, mX9_readA, 1, 9, false, [541, 544, 78, 543, 8])),
  (90056, (0, mX9_readB, 1, 9, false, [545, 548, 78, 547, 9])),
  (90059, (0, mX9_readS, 1, 9, false, [549, 552, 78, 551, 10])),
  (90062, (0, mX9_readP, 1, 9, false, [553, 556, 78, 555, 11])),
  (90065, (0, mX9_readO, 1, 9, false, [557, 560, 78, 559, 12])),
  (90039, (0, mX9_next, 0, 9, false, [561, 564, 78, 563, 13])),
  (90068, (1, mX9_isDigit, 1, 0, false, [565, 567, 78, 566])),
  (90071, (0, mX9_readNumber, 0, 9, false, [568, 571, 78, 570, 14])),
  (90052, (0, mX9_make, 1, 9, false, [572, 575, 78, 574, 15])),
  (90074, (1, mX9_nameStep, 1, 0, false, [576, 578, 78, 577])),
  (90078, (0, mX9_readInner, 1, 9, false, [579, 582, 78, 581, 16])),
  (90081, (0, mX9_readSigned, 2, 9, false, [583, 586, 78, 585, 17])),
  (100159, (0, mX4_becomes, 1, 4, false, [587, 590, 80, 588, 589])),
  (40028, (4, mX0_init, 0, 0, false, [591, 512, 511, 89])),
  (120045, (0, mX10_taste, 3, 10, false, [592, 595, 77, 593, 594])),
  (100165, (0, mX10_readyMix, 1, 10, false, [596, 599, 77, 598, 18])),
  (100220, (0, mX2_mix, 0, 2, false, [600, 603, 79, 601, 602])),
  (100370, (0, mX8_giveMix, 1, 8, false, [604, 607, 87, 605, 606])),
  (80046, (1, mJ7_fill_53178, 2, 0, false, [608, 610, 90, 609])),
  (80049, (0, mX8_byteAt, 1, 8, false, [611, 471, 87, 469, 470])),
  (100168, (0, mX2_tasteBehind, 2, 2, false, [612, 615, 79, 613, 614])),
  (20043, (0, mX6_weigh, 1, 6, false, [616, 619, 81, 617, 618])),
  (60030, (1, mJ7_fill_53178, 2, 0, false, [620, 610, 90, 609])),
  (60043, (1, mX10_strengthAt, 2, 0, true, [621, 497, 77, 496])),
  (20047, (1, mX2_firstOf, 1, 0, false, [622, 624, 79, 623])),
  (20051, (1, mX2_lastOf, 1, 0, false, [625, 627, 79, 626])),
  (20054, (0, mX6_behind, 4, 6, false, [628, 631, 81, 629, 630])),
  (60051, (0, mX4_grown, 6, 4, false, [632, 635, 80, 633, 634])),
  (40041, (0, mX4_workedOut, 2, 4, false, [636, 639, 80, 638, 19])),
  (40053, (1, mX4_joined, 3, 0, false, [640, 642, 80, 641])),
  (40045, (1, mJ9_min_7cf53, 2, 0, false, [643, 645, 91, 644])),
  (40050, (1, mJ9_max_7cf53, 2, 0, false, [646, 648, 91, 647])),
  (120049, (0, mX10_best, 2, 10, false, [649, 652, 77, 650, 651])),
  (100171, (1, mX10_areShelves, 1, 0, false, [653, 655, 77, 654])),
  (100174, (0, mX10_readyMixAndSoup, 1, 10, false, [656, 659, 77, 658, 20])),
  (100184, (0, mX10_readySoup, 1, 10, false, [660, 663, 77, 662, 21])),
  (100194, (0, mX8_giveSoup, 2, 8, false, [664, 667, 87, 665, 666])),
  (80053, (0, mX8_hasPlaces, 2, 8, false, [668, 671, 87, 669, 670])),
  (100177, (0, mX2_bestMinutes, 1, 2, false, [672, 675, 79, 673, 674])),
  (20058, (0, mX6_begin, 0, 6, false, [676, 679, 81, 677, 678])),
  (20061, (0, mX6_farFrom, 1, 6, false, [680, 683, 81, 681, 682])),
  (60062, (1, mJ9_abs_0f7a4, 1, 0, false, [684, 686, 91, 685])),
  (20065, (0, mX6_pass, 2, 6, false, [687, 690, 81, 688, 689])),
  (60047, (0, mX6_passFor, 4, 6, false, [691, 694, 81, 692, 693])),
  (60057, (1, mJ9_min_7cf53, 2, 0, false, [695, 645, 91, 644])),
  (120053, (0, mX10_nearest, 3, 10, false, [696, 699, 77, 697, 698])),
  (100181, (0, mX10_isSearch, 1, 10, false, [700, 703, 77, 702, 22])),
  (100187, (0, mX2_nearestMix, 4, 2, false, [704, 707, 79, 705, 706])),
  (20069, (0, mX2_isMixOf, 4, 2, false, [708, 711, 79, 710, 23])),
  (20099, (1, mJ7_fill_53178, 2, 0, false, [712, 610, 90, 609])),
  (20080, (1, mX2_digit, 3, 0, false, [713, 715, 79, 714])),
  (20105, (1, mX10_larder, 2, 0, true, [716, 478, 77, 477])),
  (20073, (0, mX2_farBehind, 2, 2, false, [717, 720, 79, 719, 24])),
  (20084, (1, mJ9_abs_0f7a4, 1, 0, false, [721, 686, 91, 685])),
  (120057, (0, mX10_apart, 2, 10, false, [722, 725, 77, 723, 724])),
  (100201, (0, mX5_tells, 5, 5, false, [726, 729, 82, 727, 728])),
  (50028, (1, mJ9_abs_0f7a4, 1, 0, false, [730, 686, 91, 685])),
  (120061, (0, mX10_jury, 2, 10, false, [731, 734, 77, 732, 733])),
  (100205, (0, mX5_fewest, 1, 5, false, [735, 738, 82, 736, 737])),
  (50034, (0, mX5_soupsOf, 1, 5, false, [739, 742, 82, 741, 25])),
  (50051, (0, mX8_giveSoup, 2, 8, false, [743, 667, 87, 665, 666])),
  (50038, (0, mX5_pairUp, 1, 5, false, [744, 747, 82, 746, 26])),
  (50060, (0, mX5_tellersOf, 2, 5, false, [748, 751, 82, 750, 27])),
  (50064, (0, mX5_tells, 5, 5, false, [752, 729, 82, 727, 728])),
  (50042, (1, mJ6_bitCount_0f7a4, 1, 0, false, [753, 755, 92, 754])),
  (50047, (0, mX5_tellAll, 1, 5, false, [759, 762, 82, 761, 28])),
  (100209, (1, mJ6_bitCount_0f7a4, 1, 0, false, [763, 755, 92, 754])),
  (120065, (0, mX10_inHouse, 3, 10, false, [764, 767, 77, 765, 766])),
  (100214, (0, mX2_fittingMixes, 4, 2, false, [768, 771, 79, 769, 770])),
  (20089, (0, mX2_fits, 1, 2, false, [772, 775, 79, 774, 29])),
  (20093, (1, mJ9_min_7cf53, 2, 0, false, [776, 645, 91, 644])),
  (20096, (1, mJ9_max_7cf53, 2, 0, false, [777, 648, 91, 647])),
  (120069, (0, mX10_lent, 2, 10, false, [778, 781, 77, 779, 780])),
  (100217, (0, mX10_fewestLent, 1, 10, false, [782, 785, 77, 784, 30])),
  (100224, (0, mX10_hadByOthers, 2, 10, false, [786, 789, 77, 788, 31])),
  (120073, (0, mX10_whoCould, 1, 10, false, [790, 793, 77, 791, 792])),
  (100227, (0, mX10_hasMix, 1, 10, false, [794, 797, 77, 796, 32])),
  (120077, (0, mX10_fires, 3, 10, false, [798, 801, 77, 799, 800])),
  (100230, (0, mX1_leastTime, 3, 1, false, [802, 805, 83, 803, 804])),
  (10028, (0, mX8_hasPlace, 1, 8, false, [806, 467, 87, 465, 466])),
  (10034, (0, mX8_byteAt, 1, 8, false, [807, 471, 87, 469, 470])),
  (10038, (1, mJ7_fill_53178, 2, 0, false, [808, 610, 90, 609])),
  (10047, (0, mX1_layOn, 3, 1, false, [809, 812, 83, 811, 33])),
  (10051, (4, mX0_init, 0, 0, false, [813, 512, 511, 89])),
  (10057, (1, mJ9_max_7cf53, 2, 0, false, [814, 648, 91, 647])),
  (120081, (0, mX10_byTurns, 3, 10, false, [815, 818, 77, 816, 817])),
  (100234, (0, mX2_playedOut, 2, 2, false, [819, 822, 79, 820, 821])),
  (20108, (0, mX6_putOn, 1, 6, false, [823, 826, 81, 824, 825])),
  (60021, (4, mX0_init, 0, 0, false, [827, 512, 511, 89])),
  (60027, (0, mX6_begin, 0, 6, false, [828, 679, 81, 677, 678])),
  (20114, (0, mX2_played, 2, 2, false, [829, 832, 79, 831, 34])),
  (20120, (0, mX2_isDone, 3, 2, false, [835, 838, 79, 837, 35])),
  (20124, (0, mX6_becomes, 1, 6, false, [839, 842, 81, 840, 841])),
  (120085, (0, mX10_drawn, 4, 10, false, [843, 846, 77, 844, 845])),
  (100238, (0, mX2_drawnTerms, 4, 2, false, [847, 850, 79, 848, 849])),
  (20129, (0, mX6_passFor, 4, 6, false, [852, 694, 81, 692, 693])),
  (20133, (0, mX6_sumOfTastes, 2, 6, false, [853, 856, 81, 854, 855])),
  (120090, (0, mX10_fact, 2, 10, false, [857, 860, 77, 858, 859])),
  (120094, (0, mX10_pot, 2, 10, false, [861, 864, 77, 862, 863])),
  (100249, (0, mX6_putOn, 1, 6, false, [865, 826, 81, 824, 825])),
  (100259, (0, mX6_howMuch, 0, 6, false, [866, 869, 81, 867, 868])),
  (120098, (0, mX10_minute, 0, 10, false, [870, 873, 77, 871, 872])),
  (100262, (0, mX6_weigh, 1, 6, false, [874, 619, 81, 617, 618])),
  (100265, (0, mX6_pass, 2, 6, false, [875, 690, 81, 688, 689])),
  (120102, (0, mX10_potOf, 1, 10, false, [876, 879, 77, 877, 878])),
  (120106, (0, mX10_spoon, 2, 10, false, [880, 883, 77, 881, 882])),
  (120110, (0, mX10_led, 1, 10, false, [884, 887, 77, 885, 886])),
  (120114, (0, mX10_image, 0, 10, false, [888, 891, 77, 889, 890])),
  (100275, (0, mX7_becomes, 2, 7, false, [892, 895, 84, 893, 894])),
  (70025, (1, mX10_larder, 2, 0, true, [896, 478, 77, 477])),
  (70029, (4, mX0_init, 0, 0, false, [897, 512, 511, 89])),
  (70035, (0, mX6_becomes, 1, 6, false, [898, 842, 81, 840, 841])),
  (120118, (0, mX10_back, 0, 10, false, [899, 902, 77, 900, 901])),
  (120122, (0, mX10_undo, 0, 10, false, [903, 906, 77, 904, 905])),
  (120126, (0, mX10_redo, 0, 10, false, [907, 910, 77, 908, 909])),
  (120130, (0, mX10_body, 1, 10, false, [911, 914, 77, 912, 913])),
  (100302, (1, mX3_isKind, 1, 0, false, [915, 917, 86, 916])),
  (100305, (0, mX3_come, 1, 3, false, [920, 923, 86, 921, 922])),
  (120134, (0, mX10_act, 3, 10, false, [924, 927, 77, 925, 926])),
  (100306, (0, mX3_acted, 3, 3, false, [928, 931, 86, 929, 930])),
  (30029, (0, mX3_isOne, 1, 3, false, [932, 935, 86, 933, 934])),
  (30047, (0, mX3_run, 4, 3, false, [936, 939, 86, 938, 36])),
  (30054, (1, mX3_bodyFrom, 2, 0, false, [940, 942, 86, 941])),
  (30021, (1, mX3_isKind, 1, 0, false, [943, 917, 86, 916])),
  (30057, (0, mX3_began, 1, 3, false, [946, 949, 86, 948, 37])),
  (120138, (0, mX10_trace, 1, 10, false, [950, 953, 77, 951, 952])),
  (100310, (0, mX3_traced, 0, 3, false, [954, 957, 86, 955, 956])),
  (30035, (1, mJ9_min_7cf53, 2, 0, false, [958, 645, 91, 644])),
  (120142, (0, mX10_keep, 2, 10, false, [959, 962, 77, 960, 961])),
  (100316, (0, mX3_isOne, 1, 3, false, [963, 935, 86, 933, 934])),
  (100317, (0, mX8_hold, 1, 8, false, [964, 967, 87, 965, 966])),
  (120146, (0, mX10_row, 3, 10, false, [968, 971, 77, 969, 970])),
  (100321, (0, mX8_holdRow, 2, 8, false, [972, 975, 87, 973, 974])),
  (80028, (1, mJ7_fill_d0a16, 2, 0, false, [976, 978, 90, 977])),
  (120152, (0, mX10_put, 3, 10, false, [979, 982, 77, 980, 981])),
  (100325, (0, mX10_placeRefused, 2, 10, false, [983, 986, 77, 985, 38])),
  (100338, (0, mX8_refusedAsRow, 0, 8, false, [987, 459, 87, 457, 458])),
  (100328, (0, mX8_set, 2, 8, false, [988, 991, 87, 989, 990])),
  (80042, (0, mX8_lowestBits, 1, 8, false, [992, 995, 87, 994, 39])),
  (120157, (0, mX10_element, 2, 10, false, [996, 999, 77, 997, 998])),
  (120162, (0, mX10_shift, 5, 10, false, [1001, 1004, 77, 1002, 1003])),
  (100344, (0, mX8_hasPlaces, 2, 8, false, [1005, 671, 87, 669, 670])),
  (100347, (4, mX0_init, 0, 0, false, [1006, 512, 511, 89])),
  (120167, (0, mX10_taken, 2, 10, false, [1007, 1010, 77, 1008, 1009])),
  (100359, (0, mX3_kindOf, 1, 3, false, [1011, 1014, 86, 1012, 1013])),
  (100362, (1, mX3_isUnder, 2, 0, false, [1015, 1017, 86, 1016])),
  (120171, (0, mX10_count, 1, 10, false, [1018, 1021, 77, 1019, 1020])),
  (120012, (2, mX11_init, 0, 11, false, [1024, 1026, 88, 1025])),
  (110001, (3, mX0_init, 0, 0, false, [1027, 99, 100])),
  (110007, (1, mX11_fresh, 0, 0, false, [1028, 1030, 88, 1029])),
  (120017, (0, mX11_house, 0, 11, false, [1186, 1189, 88, 1187, 1188])),
  (120022, (0, mX11_nose, 1, 11, false, [1190, 1193, 88, 1191, 1192])),
  (110125, (1, mX11_isIn, 3, 0, false, [1194, 1196, 88, 1195])),
  (120031, (0, mX11_mend, 3, 11, false, [1197, 1200, 88, 1198, 1199])),
  (110139, (0, mX11_place, 2, 11, false, [1201, 1204, 88, 1203, 40])),
  (110132, (0, mX11_isHouse, 1, 11, false, [1205, 1208, 88, 1207, 41])),
  (110136, (0, mX11_isNose, 1, 11, false, [1209, 1212, 88, 1211, 42])),
  (120036, (0, mX11_of, 2, 11, false, [1213, 1216, 88, 1214, 1215])),
  (120125, (0, mX11_undo, 0, 11, false, [1217, 1220, 88, 1218, 1219])),
  (120129, (0, mX11_redo, 0, 11, false, [1221, 1224, 88, 1222, 1223])),
  (120040, (0, mX11_feed, 1, 11, false, [1225, 1228, 88, 1226, 1227])),
  (120044, (0, mX11_law, 0, 11, false, [1229, 1232, 88, 1230, 1231])),
  (110196, (0, mX11_gives, 0, 11, false, [1233, 1236, 88, 1235, 43])),
  (110181, (0, mX11_any, 0, 11, false, [1237, 1240, 88, 1239, 44])),
  (110193, (0, mX11_both, 0, 11, false, [1241, 1244, 88, 1243, 45])),
  (110190, (0, mX11_compared, 0, 11, false, [1245, 1248, 88, 1247, 46])),
  (110187, (0, mX11_total, 0, 11, false, [1249, 1252, 88, 1251, 47])),
  (110184, (0, mX11_product, 0, 11, false, [1253, 1256, 88, 1255, 48])),
  (110178, (0, mX11_one, 0, 11, false, [1257, 1260, 88, 1259, 49])),
  (110161, (0, mX11_isDigit, 0, 11, false, [1261, 1264, 88, 1263, 50])),
  (110168, (0, mX11_number, 0, 11, false, [1265, 1268, 88, 1267, 51])),
  (110172, (0, mX11_isAt, 1, 11, false, [1269, 1272, 88, 1271, 52])),
  (110175, (0, mX11_opens, 0, 11, false, [1273, 1276, 88, 1275, 53])),
  (120027, (0, mX11_things, 3, 11, false, [1277, 1280, 88, 1278, 1279])),
  (110238, (1, mX11_isShelf, 1, 0, false, [1281, 1283, 88, 1282])),
  (110224, (0, mX11_byteAt, 2, 11, false, [1285, 1288, 88, 1287, 54])),
  (110243, (0, mX11_hold, 3, 11, false, [1289, 1292, 88, 1291, 55])),
  (120048, (0, mX11_taste, 3, 11, false, [1293, 1296, 88, 1294, 1295])),
  (110247, (0, mX11_load, 2, 11, false, [1297, 1300, 88, 1299, 56])),
  (110227, (0, mX11_bytesIn, 1, 11, false, [1301, 1304, 88, 1303, 57])),
  (110230, (0, mX11_readMix, 1, 11, false, [1305, 1308, 88, 1307, 58])),
  (110234, (0, mX11_readSoup, 2, 11, false, [1309, 1312, 88, 1311, 59])),
  (110249, (0, mX11_begin, 0, 11, false, [1313, 1316, 88, 1315, 60])),
  (110252, (0, mX11_boil, 1, 11, false, [1317, 1320, 88, 1319, 61])),
  (110216, (0, mX11_cook, 2, 11, false, [1321, 1324, 88, 1323, 62])),
  (110205, (0, mX11_inAll, 1, 11, false, [1325, 1328, 88, 1327, 63])),
  (110209, (0, mX11_grows, 0, 11, false, [1329, 1332, 88, 1331, 64])),
  (110212, (1, mX11_bound, 3, 0, false, [1333, 1335, 88, 1334])),
  (110112, (1, mJ9_min_7cf53, 2, 0, false, [1336, 645, 91, 644])),
  (110118, (1, mJ9_max_7cf53, 2, 0, false, [1337, 648, 91, 647])),
  (110255, (1, mX11_ofTastes, 2, 0, false, [1338, 1340, 88, 1339])),
  (120052, (0, mX11_best, 2, 11, false, [1341, 1344, 88, 1342, 1343])),
  (110259, (1, mX11_isTwo, 1, 0, false, [1345, 1347, 88, 1346])),
  (110262, (0, mX11_far, 1, 11, false, [1348, 1351, 88, 1350, 65])),
  (110220, (1, mJ9_abs_0f7a4, 1, 0, false, [1352, 686, 91, 685])),
  (120056, (0, mX11_nearest, 3, 11, false, [1353, 1356, 88, 1354, 1355])),
  (110268, (1, mX11_isHn, 1, 0, false, [1357, 1359, 88, 1358])),
  (110274, (0, mX11_setMix, 3, 11, false, [1361, 1364, 88, 1363, 66])),
  (110265, (0, mX11_has, 2, 11, false, [1365, 1368, 88, 1367, 67])),
  (120060, (0, mX11_apart, 2, 11, false, [1369, 1372, 88, 1370, 1371])),
  (110277, (0, mX11_tells, 5, 11, false, [1373, 1376, 88, 1375, 68])),
  (120064, (0, mX11_jury, 2, 11, false, [1377, 1380, 88, 1378, 1379])),
  (110281, (1, mJ6_bitCount_0f7a4, 1, 0, false, [1381, 755, 92, 754])),
  (110284, (0, mX11_isTold, 2, 11, false, [1382, 1385, 88, 1384, 69])),
  (120068, (0, mX11_inHouse, 3, 11, false, [1386, 1389, 88, 1387, 1388])),
  (120072, (0, mX11_lent, 2, 11, false, [1390, 1393, 88, 1391, 1392])),
  (120076, (0, mX11_whoCould, 1, 11, false, [1394, 1397, 88, 1395, 1396])),
  (110287, (0, mX11_isAble, 1, 11, false, [1398, 1401, 88, 1400, 70])),
  (120080, (0, mX11_fires, 3, 11, false, [1402, 1405, 88, 1403, 1404])),
  (110293, (0, mX11_deal, 5, 11, false, [1406, 1409, 88, 1408, 71])),
  (120084, (0, mX11_byTurns, 3, 11, false, [1410, 1413, 88, 1411, 1412])),
  (110297, (0, mX11_turns, 2, 11, false, [1414, 1417, 88, 1416, 72])),
  (120089, (0, mX11_drawn, 4, 11, false, [1418, 1421, 88, 1419, 1420])),
  (120093, (0, mX11_fact, 2, 11, false, [1423, 1426, 88, 1424, 1425])),
  (120097, (0, mX11_pot, 2, 11, false, [1427, 1430, 88, 1428, 1429])),
  (120101, (0, mX11_minute, 0, 11, false, [1431, 1434, 88, 1432, 1433])),
  (120105, (0, mX11_potOf, 1, 11, false, [1435, 1438, 88, 1436, 1437])),
  (120109, (0, mX11_spoon, 2, 11, false, [1439, 1442, 88, 1440, 1441])),
  (120113, (0, mX11_led, 1, 11, false, [1443, 1446, 88, 1444, 1445])),
  (120117, (0, mX11_image, 0, 11, false, [1447, 1450, 88, 1448, 1449])),
  (120121, (0, mX11_back, 0, 11, false, [1451, 1454, 88, 1452, 1453])),
  (120133, (0, mX11_body, 1, 11, false, [1455, 1458, 88, 1456, 1457])),
  (120137, (0, mX11_act, 3, 11, false, [1459, 1462, 88, 1460, 1461])),
  (110326, (0, mX11_does, 3, 11, false, [1463, 1466, 88, 1465, 73])),
  (110319, (0, mX11_byKind, 4, 11, false, [1467, 1470, 88, 1469, 74])),
  (120141, (0, mX11_trace, 1, 11, false, [1471, 1474, 88, 1472, 1473])),
  (120145, (0, mX11_keep, 2, 11, false, [1475, 1478, 88, 1476, 1477])),
  (120149, (0, mX11_row, 3, 11, false, [1479, 1482, 88, 1480, 1481])),
  (120156, (0, mX11_put, 3, 11, false, [1483, 1486, 88, 1484, 1485])),
  (110329, (0, mX11_rowAt, 2, 11, false, [1487, 1490, 88, 1489, 75])),
  (120161, (0, mX11_element, 2, 11, false, [1491, 1494, 88, 1492, 1493])),
  (120166, (0, mX11_shift, 5, 11, false, [1496, 1499, 88, 1497, 1498])),
  (120170, (0, mX11_taken, 2, 11, false, [1500, 1503, 88, 1501, 1502])),
  (120174, (0, mX11_count, 1, 11, false, [1504, 1507, 88, 1505, 1506]))]
