set_option maxRecDepth 100000 in
theorem cw_X0_init : flk 142 lw_tbl = some (.code (mn m_X0_init) (mb m_X0_init) (mx m_X0_init) (mt m_X0_init)) := rfl
set_option maxRecDepth 100000 in
theorem cw_X0_take : flk 517 lw_tbl = some (.code (mn m_X0_take) (mb m_X0_take) (mx m_X0_take) (mt m_X0_take)) := rfl
set_option maxRecDepth 100000 in
theorem cw_X0_takeCrew : flk 340 lw_tbl = some (.code (mn m_X0_takeCrew) (mb m_X0_takeCrew) (mx m_X0_takeCrew) (mt m_X0_takeCrew)) := rfl
set_option maxRecDepth 100000 in
theorem cw_X0_takeRates : flk 351 lw_tbl = some (.code (mn m_X0_takeRates) (mb m_X0_takeRates) (mx m_X0_takeRates) (mt m_X0_takeRates)) := rfl
set_option maxRecDepth 100000 in
theorem cw_X0_takeRudder : flk 359 lw_tbl = some (.code (mn m_X0_takeRudder) (mb m_X0_takeRudder) (mx m_X0_takeRudder) (mt m_X0_takeRudder)) := rfl
set_option maxRecDepth 100000 in
theorem cw_X1_init : flk 98 lw_tbl = some (.code (mn m_X1_init) (mb m_X1_init) (mx m_X1_init) (mt m_X1_init)) := rfl
set_option maxRecDepth 100000 in
theorem cw_X1_append : flk 409 lw_tbl = some (.code (mn m_X1_append) (mb m_X1_append) (mx m_X1_append) (mt m_X1_append)) := rfl
set_option maxRecDepth 100000 in
theorem cw_X2_init : flk 123 lw_tbl = some (.code (mn m_X2_init) (mb m_X2_init) (mx m_X2_init) (mt m_X2_init)) := rfl
set_option maxRecDepth 100000 in
theorem cw_X2_append : flk 565 lw_tbl = some (.code (mn m_X2_append) (mb m_X2_append) (mx m_X2_append) (mt m_X2_append)) := rfl
set_option maxRecDepth 100000 in
theorem cw_X2_agreeWith : flk 577 lw_tbl = some (.code (mn m_X2_agreeWith) (mb m_X2_agreeWith) (mx m_X2_agreeWith) (mt m_X2_agreeWith)) := rfl
set_option maxRecDepth 100000 in
theorem cw_X3_init : flk 264 lw_tbl = some (.code (mn m_X3_init) (mb m_X3_init) (mx m_X3_init) (mt m_X3_init)) := rfl
set_option maxRecDepth 100000 in
theorem cw_X3_begin : flk 626 lw_tbl = some (.code (mn m_X3_begin) (mb m_X3_begin) (mx m_X3_begin) (mt m_X3_begin)) := rfl
set_option maxRecDepth 100000 in
theorem cw_X3_findingOf : flk 639 lw_tbl = some (.code (mn m_X3_findingOf) (mb m_X3_findingOf) (mx m_X3_findingOf) (mt m_X3_findingOf)) := rfl
set_option maxRecDepth 100000 in
theorem cw_X3_hasRange : flk 657 lw_tbl = some (.code (mn m_X3_hasRange) (mb m_X3_hasRange) (mx m_X3_hasRange) (mt m_X3_hasRange)) := rfl
set_option maxRecDepth 100000 in
theorem cw_X3_keep : flk 644 lw_tbl = some (.code (mn m_X3_keep) (mb m_X3_keep) (mx m_X3_keep) (mt m_X3_keep)) := rfl
set_option maxRecDepth 100000 in
theorem cw_X4_init : flk 248 lw_tbl = some (.code (mn m_X4_init) (mb m_X4_init) (mx m_X4_init) (mt m_X4_init)) := rfl
set_option maxRecDepth 100000 in
theorem cw_X4_crewFault : flk 344 lw_tbl = some (.code (mn m_X4_crewFault) (mb m_X4_crewFault) (mx m_X4_crewFault) (mt m_X4_crewFault)) := rfl
set_option maxRecDepth 100000 in
theorem cw_X4_fitsCrew : flk 347 lw_tbl = some (.code (mn m_X4_fitsCrew) (mb m_X4_fitsCrew) (mx m_X4_fitsCrew) (mt m_X4_fitsCrew)) := rfl
set_option maxRecDepth 100000 in
theorem cw_X4_signFault : flk 355 lw_tbl = some (.code (mn m_X4_signFault) (mb m_X4_signFault) (mx m_X4_signFault) (mt m_X4_signFault)) := rfl
set_option maxRecDepth 100000 in
theorem cw_X5_init : flk 187 lw_tbl = some (.code (mn m_X5_init) (mb m_X5_init) (mx m_X5_init) (mt m_X5_init)) := rfl
set_option maxRecDepth 100000 in
theorem cw_X5_row : flk 434 lw_tbl = some (.code (mn m_X5_row) (mb m_X5_row) (mx m_X5_row) (mt m_X5_row)) := rfl
set_option maxRecDepth 100000 in
theorem cw_X5_takeEvents : flk 438 lw_tbl = some (.code (mn m_X5_takeEvents) (mb m_X5_takeEvents) (mx m_X5_takeEvents) (mt m_X5_takeEvents)) := rfl
set_option maxRecDepth 100000 in
theorem cw_X5_takeRowers : flk 443 lw_tbl = some (.code (mn m_X5_takeRowers) (mb m_X5_takeRowers) (mx m_X5_takeRowers) (mt m_X5_takeRowers)) := rfl
set_option maxRecDepth 100000 in
theorem cw_X5_pullAll : flk 447 lw_tbl = some (.code (mn m_X5_pullAll) (mb m_X5_pullAll) (mx m_X5_pullAll) (mt m_X5_pullAll)) := rfl
set_option maxRecDepth 100000 in
theorem cw_X5_placeBehind : flk 451 lw_tbl = some (.code (mn m_X5_placeBehind) (mb m_X5_placeBehind) (mx m_X5_placeBehind) (mt m_X5_placeBehind)) := rfl
set_option maxRecDepth 100000 in
theorem cw_X5_metresIn : flk 455 lw_tbl = some (.code (mn m_X5_metresIn) (mb m_X5_metresIn) (mx m_X5_metresIn) (mt m_X5_metresIn)) := rfl
set_option maxRecDepth 100000 in
theorem cw_X5_minutesAground : flk 475 lw_tbl = some (.code (mn m_X5_minutesAground) (mb m_X5_minutesAground) (mx m_X5_minutesAground) (mt m_X5_minutesAground)) := rfl
set_option maxRecDepth 100000 in
theorem cw_X5_firstAground : flk 479 lw_tbl = some (.code (mn m_X5_firstAground) (mb m_X5_firstAground) (mx m_X5_firstAground) (mt m_X5_firstAground)) := rfl
set_option maxRecDepth 100000 in
theorem cw_X5_lastStray : flk 487 lw_tbl = some (.code (mn m_X5_lastStray) (mb m_X5_lastStray) (mx m_X5_lastStray) (mt m_X5_lastStray)) := rfl
set_option maxRecDepth 100000 in
theorem cw_X5_farthestStray : flk 494 lw_tbl = some (.code (mn m_X5_farthestStray) (mb m_X5_farthestStray) (mx m_X5_farthestStray) (mt m_X5_farthestStray)) := rfl
set_option maxRecDepth 100000 in
theorem cw_X6_init : flk 88 lw_tbl = some (.code (mn m_X6_init) (mb m_X6_init) (mx m_X6_init) (mt m_X6_init)) := rfl
set_option maxRecDepth 100000 in
theorem cw_X6_type : flk 329 lw_tbl = some (.code (mn m_X6_type) (mb m_X6_type) (mx m_X6_type) (mt m_X6_type)) := rfl
set_option maxRecDepth 100000 in
theorem cw_X6_wipe : flk 367 lw_tbl = some (.code (mn m_X6_wipe) (mb m_X6_wipe) (mx m_X6_wipe) (mt m_X6_wipe)) := rfl
set_option maxRecDepth 100000 in
theorem cw_X6_undo : flk 371 lw_tbl = some (.code (mn m_X6_undo) (mb m_X6_undo) (mx m_X6_undo) (mt m_X6_undo)) := rfl
set_option maxRecDepth 100000 in
theorem cw_X6_fault : flk 375 lw_tbl = some (.code (mn m_X6_fault) (mb m_X6_fault) (mx m_X6_fault) (mt m_X6_fault)) := rfl
set_option maxRecDepth 100000 in
theorem cw_X6_rower : flk 381 lw_tbl = some (.code (mn m_X6_rower) (mb m_X6_rower) (mx m_X6_rower) (mt m_X6_rower)) := rfl
set_option maxRecDepth 100000 in
theorem cw_X6_call : flk 389 lw_tbl = some (.code (mn m_X6_call) (mb m_X6_call) (mx m_X6_call) (mt m_X6_call)) := rfl
set_option maxRecDepth 100000 in
theorem cw_X6_river : flk 393 lw_tbl = some (.code (mn m_X6_river) (mb m_X6_river) (mx m_X6_river) (mt m_X6_river)) := rfl
set_option maxRecDepth 100000 in
theorem cw_X6_tellStream : flk 397 lw_tbl = some (.code (mn m_X6_tellStream) (mb m_X6_tellStream) (mx m_X6_tellStream) (mt m_X6_tellStream)) := rfl
set_option maxRecDepth 100000 in
theorem cw_X6_tellHome : flk 401 lw_tbl = some (.code (mn m_X6_tellHome) (mb m_X6_tellHome) (mx m_X6_tellHome) (mt m_X6_tellHome)) := rfl
set_option maxRecDepth 100000 in
theorem cw_X6_event : flk 405 lw_tbl = some (.code (mn m_X6_event) (mb m_X6_event) (mx m_X6_event) (mt m_X6_event)) := rfl
set_option maxRecDepth 100000 in
theorem cw_X6_back : flk 413 lw_tbl = some (.code (mn m_X6_back) (mb m_X6_back) (mx m_X6_back) (mt m_X6_back)) := rfl
set_option maxRecDepth 100000 in
theorem cw_X6_read : flk 417 lw_tbl = some (.code (mn m_X6_read) (mb m_X6_read) (mx m_X6_read) (mt m_X6_read)) := rfl
set_option maxRecDepth 100000 in
theorem cw_X6_at : flk 426 lw_tbl = some (.code (mn m_X6_at) (mb m_X6_at) (mx m_X6_at) (mt m_X6_at)) := rfl
set_option maxRecDepth 100000 in
theorem cw_X6_pulls : flk 459 lw_tbl = some (.code (mn m_X6_pulls) (mb m_X6_pulls) (mx m_X6_pulls) (mt m_X6_pulls)) := rfl
set_option maxRecDepth 100000 in
theorem cw_X6_done : flk 463 lw_tbl = some (.code (mn m_X6_done) (mb m_X6_done) (mx m_X6_done) (mt m_X6_done)) := rfl
set_option maxRecDepth 100000 in
theorem cw_X6_there : flk 467 lw_tbl = some (.code (mn m_X6_there) (mb m_X6_there) (mx m_X6_there) (mt m_X6_there)) := rfl
set_option maxRecDepth 100000 in
theorem cw_X6_grounded : flk 471 lw_tbl = some (.code (mn m_X6_grounded) (mb m_X6_grounded) (mx m_X6_grounded) (mt m_X6_grounded)) := rfl
set_option maxRecDepth 100000 in
theorem cw_X6_stray : flk 483 lw_tbl = some (.code (mn m_X6_stray) (mb m_X6_stray) (mx m_X6_stray) (mt m_X6_stray)) := rfl
set_option maxRecDepth 100000 in
theorem cw_X6_best : flk 501 lw_tbl = some (.code (mn m_X6_best) (mb m_X6_best) (mx m_X6_best) (mt m_X6_best)) := rfl
set_option maxRecDepth 100000 in
theorem cw_X6_idle : flk 505 lw_tbl = some (.code (mn m_X6_idle) (mb m_X6_idle) (mx m_X6_idle) (mt m_X6_idle)) := rfl
set_option maxRecDepth 100000 in
theorem cw_X6_swap : flk 509 lw_tbl = some (.code (mn m_X6_swap) (mb m_X6_swap) (mx m_X6_swap) (mt m_X6_swap)) := rfl
set_option maxRecDepth 100000 in
theorem cw_X6_metresSwapped : flk 513 lw_tbl = some (.code (mn m_X6_metresSwapped) (mb m_X6_metresSwapped) (mx m_X6_metresSwapped) (mt m_X6_metresSwapped)) := rfl
set_option maxRecDepth 100000 in
theorem cw_X6_steer : flk 528 lw_tbl = some (.code (mn m_X6_steer) (mb m_X6_steer) (mx m_X6_steer) (mt m_X6_steer)) := rfl
set_option maxRecDepth 100000 in
theorem cw_X6_stroke : flk 532 lw_tbl = some (.code (mn m_X6_stroke) (mb m_X6_stroke) (mx m_X6_stroke) (mt m_X6_stroke)) := rfl
set_option maxRecDepth 100000 in
theorem cw_X6_spare : flk 536 lw_tbl = some (.code (mn m_X6_spare) (mb m_X6_spare) (mx m_X6_spare) (mt m_X6_spare)) := rfl
set_option maxRecDepth 100000 in
theorem cw_X6_sparedEvents : flk 540 lw_tbl = some (.code (mn m_X6_sparedEvents) (mb m_X6_sparedEvents) (mx m_X6_sparedEvents) (mt m_X6_sparedEvents)) := rfl
set_option maxRecDepth 100000 in
theorem cw_X6_ithBit : flk 554 lw_tbl = some (.code (mn m_X6_ithBit) (mb m_X6_ithBit) (mx m_X6_ithBit) (mt m_X6_ithBit)) := rfl
set_option maxRecDepth 100000 in
theorem cw_X6_seen : flk 561 lw_tbl = some (.code (mn m_X6_seen) (mb m_X6_seen) (mx m_X6_seen) (mt m_X6_seen)) := rfl
set_option maxRecDepth 100000 in
theorem cw_X6_forget : flk 569 lw_tbl = some (.code (mn m_X6_forget) (mb m_X6_forget) (mx m_X6_forget) (mt m_X6_forget)) := rfl
set_option maxRecDepth 100000 in
theorem cw_X6_never : flk 573 lw_tbl = some (.code (mn m_X6_never) (mb m_X6_never) (mx m_X6_never) (mt m_X6_never)) := rfl
set_option maxRecDepth 100000 in
theorem cw_X6_was : flk 581 lw_tbl = some (.code (mn m_X6_was) (mb m_X6_was) (mx m_X6_was) (mt m_X6_was)) := rfl
set_option maxRecDepth 100000 in
theorem cw_X6_possiblePowers : flk 585 lw_tbl = some (.code (mn m_X6_possiblePowers) (mb m_X6_possiblePowers) (mx m_X6_possiblePowers) (mt m_X6_possiblePowers)) := rfl
set_option maxRecDepth 100000 in
theorem cw_X6_possibleSorts : flk 590 lw_tbl = some (.code (mn m_X6_possibleSorts) (mb m_X6_possibleSorts) (mx m_X6_possibleSorts) (mt m_X6_possibleSorts)) := rfl
set_option maxRecDepth 100000 in
theorem cw_X6_ask : flk 594 lw_tbl = some (.code (mn m_X6_ask) (mb m_X6_ask) (mx m_X6_ask) (mt m_X6_ask)) := rfl
set_option maxRecDepth 100000 in
theorem cw_X6_mostAtOnePlace : flk 598 lw_tbl = some (.code (mn m_X6_mostAtOnePlace) (mb m_X6_mostAtOnePlace) (mx m_X6_mostAtOnePlace) (mt m_X6_mostAtOnePlace)) := rfl
set_option maxRecDepth 100000 in
theorem cw_X6_chance : flk 603 lw_tbl = some (.code (mn m_X6_chance) (mb m_X6_chance) (mx m_X6_chance) (mt m_X6_chance)) := rfl
set_option maxRecDepth 100000 in
theorem cw_X6_weightOf : flk 608 lw_tbl = some (.code (mn m_X6_weightOf) (mb m_X6_weightOf) (mx m_X6_weightOf) (mt m_X6_weightOf)) := rfl
set_option maxRecDepth 100000 in
theorem cw_X6_isAgroundBy : flk 612 lw_tbl = some (.code (mn m_X6_isAgroundBy) (mb m_X6_isAgroundBy) (mx m_X6_isAgroundBy) (mt m_X6_isAgroundBy)) := rfl
set_option maxRecDepth 100000 in
theorem cw_X6_years : flk 617 lw_tbl = some (.code (mn m_X6_years) (mb m_X6_years) (mx m_X6_years) (mt m_X6_years)) := rfl
set_option maxRecDepth 100000 in
theorem cw_X6_sheet : flk 622 lw_tbl = some (.code (mn m_X6_sheet) (mb m_X6_sheet) (mx m_X6_sheet) (mt m_X6_sheet)) := rfl
set_option maxRecDepth 100000 in
theorem cw_X6_lose : flk 631 lw_tbl = some (.code (mn m_X6_lose) (mb m_X6_lose) (mx m_X6_lose) (mt m_X6_lose)) := rfl
set_option maxRecDepth 100000 in
theorem cw_X6_put : flk 635 lw_tbl = some (.code (mn m_X6_put) (mb m_X6_put) (mx m_X6_put) (mt m_X6_put)) := rfl
set_option maxRecDepth 100000 in
theorem cw_X6_get : flk 648 lw_tbl = some (.code (mn m_X6_get) (mb m_X6_get) (mx m_X6_get) (mt m_X6_get)) := rfl
set_option maxRecDepth 100000 in
theorem cw_X6_copy : flk 653 lw_tbl = some (.code (mn m_X6_copy) (mb m_X6_copy) (mx m_X6_copy) (mt m_X6_copy)) := rfl
set_option maxRecDepth 100000 in
theorem cw_X6_write : flk 661 lw_tbl = some (.code (mn m_X6_write) (mb m_X6_write) (mx m_X6_write) (mt m_X6_write)) := rfl
set_option maxRecDepth 100000 in
theorem cw_X6_count : flk 668 lw_tbl = some (.code (mn m_X6_count) (mb m_X6_count) (mx m_X6_count) (mt m_X6_count)) := rfl
set_option maxRecDepth 100000 in
theorem cw_X6_digest : flk 673 lw_tbl = some (.code (mn m_X6_digest) (mb m_X6_digest) (mx m_X6_digest) (mt m_X6_digest)) := rfl
set_option maxRecDepth 100000 in
theorem cw_X6_addMinutes : flk 680 lw_tbl = some (.code (mn m_X6_addMinutes) (mb m_X6_addMinutes) (mx m_X6_addMinutes) (mt m_X6_addMinutes)) := rfl
set_option maxRecDepth 100000 in
theorem cw_X6_addRower : flk 686 lw_tbl = some (.code (mn m_X6_addRower) (mb m_X6_addRower) (mx m_X6_addRower) (mt m_X6_addRower)) := rfl
set_option maxRecDepth 100000 in
theorem cw_X6_addPlans : flk 695 lw_tbl = some (.code (mn m_X6_addPlans) (mb m_X6_addPlans) (mx m_X6_addPlans) (mt m_X6_addPlans)) := rfl
set_option maxRecDepth 100000 in
theorem cw_X6_addWhole : flk 702 lw_tbl = some (.code (mn m_X6_addWhole) (mb m_X6_addWhole) (mx m_X6_addWhole) (mt m_X6_addWhole)) := rfl
set_option maxRecDepth 100000 in
theorem cw_X6_isBelow : flk 332 lw_tbl = some (.code (mn m_X6_isBelow) (mb m_X6_isBelow) (mx m_X6_isBelow) (mt m_X6_isBelow)) := rfl
set_option maxRecDepth 100000 in
theorem cw_X6_hasBit : flk 557 lw_tbl = some (.code (mn m_X6_hasBit) (mb m_X6_hasBit) (mx m_X6_hasBit) (mt m_X6_hasBit)) := rfl
set_option maxRecDepth 100000 in
theorem cw_X6_isRower : flk 385 lw_tbl = some (.code (mn m_X6_isRower) (mb m_X6_isRower) (mx m_X6_isRower) (mt m_X6_isRower)) := rfl
set_option maxRecDepth 100000 in
theorem cw_X6_find : flk 421 lw_tbl = some (.code (mn m_X6_find) (mb m_X6_find) (mx m_X6_find) (mt m_X6_find)) := rfl
set_option maxRecDepth 100000 in
theorem cw_X6_markChanged : flk 363 lw_tbl = some (.code (mn m_X6_markChanged) (mb m_X6_markChanged) (mx m_X6_markChanged) (mt m_X6_markChanged)) := rfl
set_option maxRecDepth 100000 in
theorem cw_X6_retell : flk 336 lw_tbl = some (.code (mn m_X6_retell) (mb m_X6_retell) (mx m_X6_retell) (mt m_X6_retell)) := rfl
set_option maxRecDepth 100000 in
theorem cw_X6_toldTrip : flk 430 lw_tbl = some (.code (mn m_X6_toldTrip) (mb m_X6_toldTrip) (mx m_X6_toldTrip) (mt m_X6_toldTrip)) := rfl
set_option maxRecDepth 100000 in
theorem cw_X6_rowOther : flk 524 lw_tbl = some (.code (mn m_X6_rowOther) (mb m_X6_rowOther) (mx m_X6_rowOther) (mt m_X6_rowOther)) := rfl
set_option maxRecDepth 100000 in
theorem cw_X6_firstAgroundWith : flk 544 lw_tbl = some (.code (mn m_X6_firstAgroundWith) (mb m_X6_firstAgroundWith) (mx m_X6_firstAgroundWith) (mt m_X6_firstAgroundWith)) := rfl
set_option maxRecDepth 100000 in
theorem cw_X7_init : flk 716 lw_tbl = some (.code (mn m_X7_init) (mb m_X7_init) (mx m_X7_init) (mt m_X7_init)) := rfl
set_option maxRecDepth 100000 in
theorem cw_X7_in : flk 870 lw_tbl = some (.code (mn m_X7_in) (mb m_X7_in) (mx m_X7_in) (mt m_X7_in)) := rfl
set_option maxRecDepth 100000 in
theorem cw_X7_isIn : flk 1000 lw_tbl = some (.code (mn m_X7_isIn) (mb m_X7_isIn) (mx m_X7_isIn) (mt m_X7_isIn)) := rfl
set_option maxRecDepth 100000 in
theorem cw_X7_no : flk 1162 lw_tbl = some (.code (mn m_X7_no) (mb m_X7_no) (mx m_X7_no) (mt m_X7_no)) := rfl
set_option maxRecDepth 100000 in
theorem cw_X7_lowest : flk 1159 lw_tbl = some (.code (mn m_X7_lowest) (mb m_X7_lowest) (mx m_X7_lowest) (mt m_X7_lowest)) := rfl
set_option maxRecDepth 100000 in
theorem cw_X7_isText : flk 867 lw_tbl = some (.code (mn m_X7_isText) (mb m_X7_isText) (mx m_X7_isText) (mt m_X7_isText)) := rfl
set_option maxRecDepth 100000 in
theorem cw_X7_isMinute : flk 935 lw_tbl = some (.code (mn m_X7_isMinute) (mb m_X7_isMinute) (mx m_X7_isMinute) (mt m_X7_isMinute)) := rfl
set_option maxRecDepth 100000 in
theorem cw_X7_isTwo : flk 924 lw_tbl = some (.code (mn m_X7_isTwo) (mb m_X7_isTwo) (mx m_X7_isTwo) (mt m_X7_isTwo)) := rfl
set_option maxRecDepth 100000 in
theorem cw_X7_isThree : flk 950 lw_tbl = some (.code (mn m_X7_isThree) (mb m_X7_isThree) (mx m_X7_isThree) (mt m_X7_isThree)) := rfl
set_option maxRecDepth 100000 in
theorem cw_X7_isEight : flk 953 lw_tbl = some (.code (mn m_X7_isEight) (mb m_X7_isEight) (mx m_X7_isEight) (mt m_X7_isEight)) := rfl
set_option maxRecDepth 100000 in
theorem cw_X7_type : flk 864 lw_tbl = some (.code (mn m_X7_type) (mb m_X7_type) (mx m_X7_type) (mt m_X7_type)) := rfl
set_option maxRecDepth 100000 in
theorem cw_X7_wipe : flk 874 lw_tbl = some (.code (mn m_X7_wipe) (mb m_X7_wipe) (mx m_X7_wipe) (mt m_X7_wipe)) := rfl
set_option maxRecDepth 100000 in
theorem cw_X7_undo : flk 878 lw_tbl = some (.code (mn m_X7_undo) (mb m_X7_undo) (mx m_X7_undo) (mt m_X7_undo)) := rfl
set_option maxRecDepth 100000 in
theorem cw_X7_byteAt : flk 898 lw_tbl = some (.code (mn m_X7_byteAt) (mb m_X7_byteAt) (mx m_X7_byteAt) (mt m_X7_byteAt)) := rfl
set_option maxRecDepth 100000 in
theorem cw_X7_readsRower : flk 894 lw_tbl = some (.code (mn m_X7_readsRower) (mb m_X7_readsRower) (mx m_X7_readsRower) (mt m_X7_readsRower)) := rfl
set_option maxRecDepth 100000 in
theorem cw_X7_readsCrew : flk 890 lw_tbl = some (.code (mn m_X7_readsCrew) (mb m_X7_readsCrew) (mx m_X7_readsCrew) (mt m_X7_readsCrew)) := rfl
set_option maxRecDepth 100000 in
theorem cw_X7_readsRates : flk 902 lw_tbl = some (.code (mn m_X7_readsRates) (mb m_X7_readsRates) (mx m_X7_readsRates) (mt m_X7_readsRates)) := rfl
set_option maxRecDepth 100000 in
theorem cw_X7_rudderBy : flk 909 lw_tbl = some (.code (mn m_X7_rudderBy) (mb m_X7_rudderBy) (mx m_X7_rudderBy) (mt m_X7_rudderBy)) := rfl
set_option maxRecDepth 100000 in
theorem cw_X7_readsRudder : flk 906 lw_tbl = some (.code (mn m_X7_readsRudder) (mb m_X7_readsRudder) (mx m_X7_readsRudder) (mt m_X7_readsRudder)) := rfl
set_option maxRecDepth 100000 in
theorem cw_X7_faultOf : flk 886 lw_tbl = some (.code (mn m_X7_faultOf) (mb m_X7_faultOf) (mx m_X7_faultOf) (mt m_X7_faultOf)) := rfl
set_option maxRecDepth 100000 in
theorem cw_X7_reads : flk 921 lw_tbl = some (.code (mn m_X7_reads) (mb m_X7_reads) (mx m_X7_reads) (mt m_X7_reads)) := rfl
set_option maxRecDepth 100000 in
theorem cw_X7_fault : flk 882 lw_tbl = some (.code (mn m_X7_fault) (mb m_X7_fault) (mx m_X7_fault) (mt m_X7_fault)) := rfl
set_option maxRecDepth 100000 in
theorem cw_X7_isRower : flk 917 lw_tbl = some (.code (mn m_X7_isRower) (mb m_X7_isRower) (mx m_X7_isRower) (mt m_X7_isRower)) := rfl
set_option maxRecDepth 100000 in
theorem cw_X7_rowerOf : flk 928 lw_tbl = some (.code (mn m_X7_rowerOf) (mb m_X7_rowerOf) (mx m_X7_rowerOf) (mt m_X7_rowerOf)) := rfl
set_option maxRecDepth 100000 in
theorem cw_X7_rower : flk 913 lw_tbl = some (.code (mn m_X7_rower) (mb m_X7_rower) (mx m_X7_rower) (mt m_X7_rower)) := rfl
set_option maxRecDepth 100000 in
theorem cw_X7_callOf : flk 939 lw_tbl = some (.code (mn m_X7_callOf) (mb m_X7_callOf) (mx m_X7_callOf) (mt m_X7_callOf)) := rfl
set_option maxRecDepth 100000 in
theorem cw_X7_call : flk 932 lw_tbl = some (.code (mn m_X7_call) (mb m_X7_call) (mx m_X7_call) (mt m_X7_call)) := rfl
set_option maxRecDepth 100000 in
theorem cw_X7_river : flk 943 lw_tbl = some (.code (mn m_X7_river) (mb m_X7_river) (mx m_X7_river) (mt m_X7_river)) := rfl
set_option maxRecDepth 100000 in
theorem cw_X7_event : flk 947 lw_tbl = some (.code (mn m_X7_event) (mb m_X7_event) (mx m_X7_event) (mt m_X7_event)) := rfl
set_option maxRecDepth 100000 in
theorem cw_X7_back : flk 957 lw_tbl = some (.code (mn m_X7_back) (mb m_X7_back) (mx m_X7_back) (mt m_X7_back)) := rfl
set_option maxRecDepth 100000 in
theorem cw_X7_read : flk 961 lw_tbl = some (.code (mn m_X7_read) (mb m_X7_read) (mx m_X7_read) (mt m_X7_read)) := rfl
set_option maxRecDepth 100000 in
theorem cw_X7_asTold : flk 985 lw_tbl = some (.code (mn m_X7_asTold) (mb m_X7_asTold) (mx m_X7_asTold) (mt m_X7_asTold)) := rfl
set_option maxRecDepth 100000 in
theorem cw_X7_befalls : flk 997 lw_tbl = some (.code (mn m_X7_befalls) (mb m_X7_befalls) (mx m_X7_befalls) (mt m_X7_befalls)) := rfl
set_option maxRecDepth 100000 in
theorem cw_X7_pullsOne : flk 1008 lw_tbl = some (.code (mn m_X7_pullsOne) (mb m_X7_pullsOne) (mx m_X7_pullsOne) (mt m_X7_pullsOne)) := rfl
set_option maxRecDepth 100000 in
theorem cw_X7_goes : flk 1004 lw_tbl = some (.code (mn m_X7_goes) (mb m_X7_goes) (mx m_X7_goes) (mt m_X7_goes)) := rfl
set_option maxRecDepth 100000 in
theorem cw_X7_goesBy : flk 993 lw_tbl = some (.code (mn m_X7_goesBy) (mb m_X7_goesBy) (mx m_X7_goesBy) (mt m_X7_goesBy)) := rfl
set_option maxRecDepth 100000 in
theorem cw_X7_runs : flk 989 lw_tbl = some (.code (mn m_X7_runs) (mb m_X7_runs) (mx m_X7_runs) (mt m_X7_runs)) := rfl
set_option maxRecDepth 100000 in
theorem cw_X7_runsTold : flk 981 lw_tbl = some (.code (mn m_X7_runsTold) (mb m_X7_runsTold) (mx m_X7_runsTold) (mt m_X7_runsTold)) := rfl
set_option maxRecDepth 100000 in
theorem cw_X7_atOf : flk 977 lw_tbl = some (.code (mn m_X7_atOf) (mb m_X7_atOf) (mx m_X7_atOf) (mt m_X7_atOf)) := rfl
set_option maxRecDepth 100000 in
theorem cw_X7_at : flk 973 lw_tbl = some (.code (mn m_X7_at) (mb m_X7_at) (mx m_X7_at) (mt m_X7_at)) := rfl
set_option maxRecDepth 100000 in
theorem cw_X7_pullsOf : flk 1016 lw_tbl = some (.code (mn m_X7_pullsOf) (mb m_X7_pullsOf) (mx m_X7_pullsOf) (mt m_X7_pullsOf)) := rfl
set_option maxRecDepth 100000 in
theorem cw_X7_pulls : flk 1012 lw_tbl = some (.code (mn m_X7_pulls) (mb m_X7_pulls) (mx m_X7_pulls) (mt m_X7_pulls)) := rfl
set_option maxRecDepth 100000 in
theorem cw_X7_doneOf : flk 1024 lw_tbl = some (.code (mn m_X7_doneOf) (mb m_X7_doneOf) (mx m_X7_doneOf) (mt m_X7_doneOf)) := rfl
set_option maxRecDepth 100000 in
theorem cw_X7_done : flk 1020 lw_tbl = some (.code (mn m_X7_done) (mb m_X7_done) (mx m_X7_done) (mt m_X7_done)) := rfl
set_option maxRecDepth 100000 in
theorem cw_X7_thereOf : flk 1032 lw_tbl = some (.code (mn m_X7_thereOf) (mb m_X7_thereOf) (mx m_X7_thereOf) (mt m_X7_thereOf)) := rfl
set_option maxRecDepth 100000 in
theorem cw_X7_there : flk 1028 lw_tbl = some (.code (mn m_X7_there) (mb m_X7_there) (mx m_X7_there) (mt m_X7_there)) := rfl
set_option maxRecDepth 100000 in
theorem cw_X7_groundedOf : flk 1040 lw_tbl = some (.code (mn m_X7_groundedOf) (mb m_X7_groundedOf) (mx m_X7_groundedOf) (mt m_X7_groundedOf)) := rfl
set_option maxRecDepth 100000 in
theorem cw_X7_grounded : flk 1036 lw_tbl = some (.code (mn m_X7_grounded) (mb m_X7_grounded) (mx m_X7_grounded) (mt m_X7_grounded)) := rfl
set_option maxRecDepth 100000 in
theorem cw_X7_strayNow : flk 1052 lw_tbl = some (.code (mn m_X7_strayNow) (mb m_X7_strayNow) (mx m_X7_strayNow) (mt m_X7_strayNow)) := rfl
set_option maxRecDepth 100000 in
theorem cw_X7_strayOf : flk 1048 lw_tbl = some (.code (mn m_X7_strayOf) (mb m_X7_strayOf) (mx m_X7_strayOf) (mt m_X7_strayOf)) := rfl
set_option maxRecDepth 100000 in
theorem cw_X7_stray : flk 1044 lw_tbl = some (.code (mn m_X7_stray) (mb m_X7_stray) (mx m_X7_stray) (mt m_X7_stray)) := rfl
set_option maxRecDepth 100000 in
theorem cw_X7_bestOf : flk 1060 lw_tbl = some (.code (mn m_X7_bestOf) (mb m_X7_bestOf) (mx m_X7_bestOf) (mt m_X7_bestOf)) := rfl
set_option maxRecDepth 100000 in
theorem cw_X7_best : flk 1056 lw_tbl = some (.code (mn m_X7_best) (mb m_X7_best) (mx m_X7_best) (mt m_X7_best)) := rfl
set_option maxRecDepth 100000 in
theorem cw_X7_idleOf : flk 1068 lw_tbl = some (.code (mn m_X7_idleOf) (mb m_X7_idleOf) (mx m_X7_idleOf) (mt m_X7_idleOf)) := rfl
set_option maxRecDepth 100000 in
theorem cw_X7_idle : flk 1064 lw_tbl = some (.code (mn m_X7_idle) (mb m_X7_idle) (mx m_X7_idle) (mt m_X7_idle)) := rfl
set_option maxRecDepth 100000 in
theorem cw_X7_swapOf : flk 1076 lw_tbl = some (.code (mn m_X7_swapOf) (mb m_X7_swapOf) (mx m_X7_swapOf) (mt m_X7_swapOf)) := rfl
set_option maxRecDepth 100000 in
theorem cw_X7_swap : flk 1072 lw_tbl = some (.code (mn m_X7_swap) (mb m_X7_swap) (mx m_X7_swap) (mt m_X7_swap)) := rfl
set_option maxRecDepth 100000 in
theorem cw_X7_steerOf : flk 1084 lw_tbl = some (.code (mn m_X7_steerOf) (mb m_X7_steerOf) (mx m_X7_steerOf) (mt m_X7_steerOf)) := rfl
set_option maxRecDepth 100000 in
theorem cw_X7_steer : flk 1080 lw_tbl = some (.code (mn m_X7_steer) (mb m_X7_steer) (mx m_X7_steer) (mt m_X7_steer)) := rfl
set_option maxRecDepth 100000 in
theorem cw_X7_strokeOf : flk 1092 lw_tbl = some (.code (mn m_X7_strokeOf) (mb m_X7_strokeOf) (mx m_X7_strokeOf) (mt m_X7_strokeOf)) := rfl
set_option maxRecDepth 100000 in
theorem cw_X7_stroke : flk 1088 lw_tbl = some (.code (mn m_X7_stroke) (mb m_X7_stroke) (mx m_X7_stroke) (mt m_X7_stroke)) := rfl
set_option maxRecDepth 100000 in
theorem cw_X7_isSpared : flk 1104 lw_tbl = some (.code (mn m_X7_isSpared) (mb m_X7_isSpared) (mx m_X7_isSpared) (mt m_X7_isSpared)) := rfl
set_option maxRecDepth 100000 in
theorem cw_X7_spareBy : flk 1100 lw_tbl = some (.code (mn m_X7_spareBy) (mb m_X7_spareBy) (mx m_X7_spareBy) (mt m_X7_spareBy)) := rfl
set_option maxRecDepth 100000 in
theorem cw_X7_ofRow : flk 1108 lw_tbl = some (.code (mn m_X7_ofRow) (mb m_X7_ofRow) (mx m_X7_ofRow) (mt m_X7_ofRow)) := rfl
set_option maxRecDepth 100000 in
theorem cw_X7_spare : flk 1096 lw_tbl = some (.code (mn m_X7_spare) (mb m_X7_spare) (mx m_X7_spare) (mt m_X7_spare)) := rfl
set_option maxRecDepth 100000 in
theorem cw_X7_seen : flk 1112 lw_tbl = some (.code (mn m_X7_seen) (mb m_X7_seen) (mx m_X7_seen) (mt m_X7_seen)) := rfl
set_option maxRecDepth 100000 in
theorem cw_X7_forget : flk 1116 lw_tbl = some (.code (mn m_X7_forget) (mb m_X7_forget) (mx m_X7_forget) (mt m_X7_forget)) := rfl
set_option maxRecDepth 100000 in
theorem cw_X7_isSeen : flk 1128 lw_tbl = some (.code (mn m_X7_isSeen) (mb m_X7_isSeen) (mx m_X7_isSeen) (mt m_X7_isSeen)) := rfl
set_option maxRecDepth 100000 in
theorem cw_X7_neverNow : flk 1124 lw_tbl = some (.code (mn m_X7_neverNow) (mb m_X7_neverNow) (mx m_X7_neverNow) (mt m_X7_neverNow)) := rfl
set_option maxRecDepth 100000 in
theorem cw_X7_never : flk 1120 lw_tbl = some (.code (mn m_X7_never) (mb m_X7_never) (mx m_X7_never) (mt m_X7_never)) := rfl
set_option maxRecDepth 100000 in
theorem cw_X7_powersBy : flk 1136 lw_tbl = some (.code (mn m_X7_powersBy) (mb m_X7_powersBy) (mx m_X7_powersBy) (mt m_X7_powersBy)) := rfl
set_option maxRecDepth 100000 in
theorem cw_X7_sortsBy : flk 1140 lw_tbl = some (.code (mn m_X7_sortsBy) (mb m_X7_sortsBy) (mx m_X7_sortsBy) (mt m_X7_sortsBy)) := rfl
set_option maxRecDepth 100000 in
theorem cw_X7_was : flk 1132 lw_tbl = some (.code (mn m_X7_was) (mb m_X7_was) (mx m_X7_was) (mt m_X7_was)) := rfl
set_option maxRecDepth 100000 in
theorem cw_X7_askOf : flk 1148 lw_tbl = some (.code (mn m_X7_askOf) (mb m_X7_askOf) (mx m_X7_askOf) (mt m_X7_askOf)) := rfl
set_option maxRecDepth 100000 in
theorem cw_X7_ask : flk 1144 lw_tbl = some (.code (mn m_X7_ask) (mb m_X7_ask) (mx m_X7_ask) (mt m_X7_ask)) := rfl
set_option maxRecDepth 100000 in
theorem cw_X7_chanceOf : flk 1156 lw_tbl = some (.code (mn m_X7_chanceOf) (mb m_X7_chanceOf) (mx m_X7_chanceOf) (mt m_X7_chanceOf)) := rfl
set_option maxRecDepth 100000 in
theorem cw_X7_chance : flk 1152 lw_tbl = some (.code (mn m_X7_chance) (mb m_X7_chance) (mx m_X7_chance) (mt m_X7_chance)) := rfl
set_option maxRecDepth 100000 in
theorem cw_X7_yearsOf : flk 1171 lw_tbl = some (.code (mn m_X7_yearsOf) (mb m_X7_yearsOf) (mx m_X7_yearsOf) (mt m_X7_yearsOf)) := rfl
set_option maxRecDepth 100000 in
theorem cw_X7_years : flk 1167 lw_tbl = some (.code (mn m_X7_years) (mb m_X7_years) (mx m_X7_years) (mt m_X7_years)) := rfl
set_option maxRecDepth 100000 in
theorem cw_X7_meets : flk 968 lw_tbl = some (.code (mn m_X7_meets) (mb m_X7_meets) (mx m_X7_meets) (mt m_X7_meets)) := rfl
set_option maxRecDepth 100000 in
theorem cw_X7_isSheet : flk 964 lw_tbl = some (.code (mn m_X7_isSheet) (mb m_X7_isSheet) (mx m_X7_isSheet) (mt m_X7_isSheet)) := rfl
set_option maxRecDepth 100000 in
theorem cw_X7_sheet : flk 1176 lw_tbl = some (.code (mn m_X7_sheet) (mb m_X7_sheet) (mx m_X7_sheet) (mt m_X7_sheet)) := rfl
set_option maxRecDepth 100000 in
theorem cw_X7_lose : flk 1180 lw_tbl = some (.code (mn m_X7_lose) (mb m_X7_lose) (mx m_X7_lose) (mt m_X7_lose)) := rfl
set_option maxRecDepth 100000 in
theorem cw_X7_lacks : flk 1188 lw_tbl = some (.code (mn m_X7_lacks) (mb m_X7_lacks) (mx m_X7_lacks) (mt m_X7_lacks)) := rfl
set_option maxRecDepth 100000 in
theorem cw_X7_keep : flk 1192 lw_tbl = some (.code (mn m_X7_keep) (mb m_X7_keep) (mx m_X7_keep) (mt m_X7_keep)) := rfl
set_option maxRecDepth 100000 in
theorem cw_X7_put : flk 1184 lw_tbl = some (.code (mn m_X7_put) (mb m_X7_put) (mx m_X7_put) (mt m_X7_put)) := rfl
set_option maxRecDepth 100000 in
theorem cw_X7_get : flk 1196 lw_tbl = some (.code (mn m_X7_get) (mb m_X7_get) (mx m_X7_get) (mt m_X7_get)) := rfl
set_option maxRecDepth 100000 in
theorem cw_X7_copy : flk 1201 lw_tbl = some (.code (mn m_X7_copy) (mb m_X7_copy) (mx m_X7_copy) (mt m_X7_copy)) := rfl
set_option maxRecDepth 100000 in
theorem cw_X7_write : flk 1205 lw_tbl = some (.code (mn m_X7_write) (mb m_X7_write) (mx m_X7_write) (mt m_X7_write)) := rfl
set_option maxRecDepth 100000 in
theorem cw_X7_tellOf : flk 1213 lw_tbl = some (.code (mn m_X7_tellOf) (mb m_X7_tellOf) (mx m_X7_tellOf) (mt m_X7_tellOf)) := rfl
set_option maxRecDepth 100000 in
theorem cw_X7_count : flk 1209 lw_tbl = some (.code (mn m_X7_count) (mb m_X7_count) (mx m_X7_count) (mt m_X7_count)) := rfl
set_option maxRecDepth 100000 in
theorem cw_X7_minuteDigest : flk 1224 lw_tbl = some (.code (mn m_X7_minuteDigest) (mb m_X7_minuteDigest) (mx m_X7_minuteDigest) (mt m_X7_minuteDigest)) := rfl
set_option maxRecDepth 100000 in
theorem cw_X7_rowerDigest : flk 1228 lw_tbl = some (.code (mn m_X7_rowerDigest) (mb m_X7_rowerDigest) (mx m_X7_rowerDigest) (mt m_X7_rowerDigest)) := rfl
set_option maxRecDepth 100000 in
theorem cw_X7_planDigest : flk 1232 lw_tbl = some (.code (mn m_X7_planDigest) (mb m_X7_planDigest) (mx m_X7_planDigest) (mt m_X7_planDigest)) := rfl
set_option maxRecDepth 100000 in
theorem cw_X7_digest : flk 1217 lw_tbl = some (.code (mn m_X7_digest) (mb m_X7_digest) (mx m_X7_digest) (mt m_X7_digest)) := rfl
set_option maxRecDepth 100000 in
theorem cw_J6_bitCount_0f7a4 : flk 548 lw_tbl = some (.code (mn m_J6_bitCount_0f7a4) (mb m_J6_bitCount_0f7a4) (mx m_J6_bitCount_0f7a4) (mt m_J6_bitCount_0f7a4)) := rfl
set_option maxRecDepth 100000 in
theorem cw_J7_fill_53178 : flk 146 lw_tbl = some (.code (mn m_J7_fill_53178) (mb m_J7_fill_53178) (mx m_J7_fill_53178) (mt m_J7_fill_53178)) := rfl
