set_option maxRecDepth 100000 in
theorem cw_X0_init : lw_tbl[142]? = some (.code (mn m_X0_init) (mb m_X0_init) (mx m_X0_init) (mt m_X0_init)) := rfl
set_option maxRecDepth 100000 in
theorem cw_X0_take : lw_tbl[517]? = some (.code (mn m_X0_take) (mb m_X0_take) (mx m_X0_take) (mt m_X0_take)) := rfl
set_option maxRecDepth 100000 in
theorem cw_X0_takeCrew : lw_tbl[340]? = some (.code (mn m_X0_takeCrew) (mb m_X0_takeCrew) (mx m_X0_takeCrew) (mt m_X0_takeCrew)) := rfl
set_option maxRecDepth 100000 in
theorem cw_X0_takeRates : lw_tbl[351]? = some (.code (mn m_X0_takeRates) (mb m_X0_takeRates) (mx m_X0_takeRates) (mt m_X0_takeRates)) := rfl
set_option maxRecDepth 100000 in
theorem cw_X0_takeRudder : lw_tbl[359]? = some (.code (mn m_X0_takeRudder) (mb m_X0_takeRudder) (mx m_X0_takeRudder) (mt m_X0_takeRudder)) := rfl
set_option maxRecDepth 100000 in
theorem cw_X1_init : lw_tbl[98]? = some (.code (mn m_X1_init) (mb m_X1_init) (mx m_X1_init) (mt m_X1_init)) := rfl
set_option maxRecDepth 100000 in
theorem cw_X1_append : lw_tbl[409]? = some (.code (mn m_X1_append) (mb m_X1_append) (mx m_X1_append) (mt m_X1_append)) := rfl
set_option maxRecDepth 100000 in
theorem cw_X2_init : lw_tbl[123]? = some (.code (mn m_X2_init) (mb m_X2_init) (mx m_X2_init) (mt m_X2_init)) := rfl
set_option maxRecDepth 100000 in
theorem cw_X2_append : lw_tbl[565]? = some (.code (mn m_X2_append) (mb m_X2_append) (mx m_X2_append) (mt m_X2_append)) := rfl
set_option maxRecDepth 100000 in
theorem cw_X2_agreeWith : lw_tbl[577]? = some (.code (mn m_X2_agreeWith) (mb m_X2_agreeWith) (mx m_X2_agreeWith) (mt m_X2_agreeWith)) := rfl
set_option maxRecDepth 100000 in
theorem cw_X3_init : lw_tbl[264]? = some (.code (mn m_X3_init) (mb m_X3_init) (mx m_X3_init) (mt m_X3_init)) := rfl
set_option maxRecDepth 100000 in
theorem cw_X3_begin : lw_tbl[626]? = some (.code (mn m_X3_begin) (mb m_X3_begin) (mx m_X3_begin) (mt m_X3_begin)) := rfl
set_option maxRecDepth 100000 in
theorem cw_X3_findingOf : lw_tbl[639]? = some (.code (mn m_X3_findingOf) (mb m_X3_findingOf) (mx m_X3_findingOf) (mt m_X3_findingOf)) := rfl
set_option maxRecDepth 100000 in
theorem cw_X3_hasRange : lw_tbl[657]? = some (.code (mn m_X3_hasRange) (mb m_X3_hasRange) (mx m_X3_hasRange) (mt m_X3_hasRange)) := rfl
set_option maxRecDepth 100000 in
theorem cw_X3_keep : lw_tbl[644]? = some (.code (mn m_X3_keep) (mb m_X3_keep) (mx m_X3_keep) (mt m_X3_keep)) := rfl
set_option maxRecDepth 100000 in
theorem cw_X4_init : lw_tbl[248]? = some (.code (mn m_X4_init) (mb m_X4_init) (mx m_X4_init) (mt m_X4_init)) := rfl
set_option maxRecDepth 100000 in
theorem cw_X4_crewFault : lw_tbl[344]? = some (.code (mn m_X4_crewFault) (mb m_X4_crewFault) (mx m_X4_crewFault) (mt m_X4_crewFault)) := rfl
set_option maxRecDepth 100000 in
theorem cw_X4_fitsCrew : lw_tbl[347]? = some (.code (mn m_X4_fitsCrew) (mb m_X4_fitsCrew) (mx m_X4_fitsCrew) (mt m_X4_fitsCrew)) := rfl
set_option maxRecDepth 100000 in
theorem cw_X4_signFault : lw_tbl[355]? = some (.code (mn m_X4_signFault) (mb m_X4_signFault) (mx m_X4_signFault) (mt m_X4_signFault)) := rfl
set_option maxRecDepth 100000 in
theorem cw_X5_init : lw_tbl[187]? = some (.code (mn m_X5_init) (mb m_X5_init) (mx m_X5_init) (mt m_X5_init)) := rfl
set_option maxRecDepth 100000 in
theorem cw_X5_row : lw_tbl[434]? = some (.code (mn m_X5_row) (mb m_X5_row) (mx m_X5_row) (mt m_X5_row)) := rfl
set_option maxRecDepth 100000 in
theorem cw_X5_takeEvents : lw_tbl[438]? = some (.code (mn m_X5_takeEvents) (mb m_X5_takeEvents) (mx m_X5_takeEvents) (mt m_X5_takeEvents)) := rfl
set_option maxRecDepth 100000 in
theorem cw_X5_takeRowers : lw_tbl[443]? = some (.code (mn m_X5_takeRowers) (mb m_X5_takeRowers) (mx m_X5_takeRowers) (mt m_X5_takeRowers)) := rfl
set_option maxRecDepth 100000 in
theorem cw_X5_pullAll : lw_tbl[447]? = some (.code (mn m_X5_pullAll) (mb m_X5_pullAll) (mx m_X5_pullAll) (mt m_X5_pullAll)) := rfl
set_option maxRecDepth 100000 in
theorem cw_X5_placeBehind : lw_tbl[451]? = some (.code (mn m_X5_placeBehind) (mb m_X5_placeBehind) (mx m_X5_placeBehind) (mt m_X5_placeBehind)) := rfl
set_option maxRecDepth 100000 in
theorem cw_X5_metresIn : lw_tbl[455]? = some (.code (mn m_X5_metresIn) (mb m_X5_metresIn) (mx m_X5_metresIn) (mt m_X5_metresIn)) := rfl
set_option maxRecDepth 100000 in
theorem cw_X5_minutesAground : lw_tbl[475]? = some (.code (mn m_X5_minutesAground) (mb m_X5_minutesAground) (mx m_X5_minutesAground) (mt m_X5_minutesAground)) := rfl
set_option maxRecDepth 100000 in
theorem cw_X5_firstAground : lw_tbl[479]? = some (.code (mn m_X5_firstAground) (mb m_X5_firstAground) (mx m_X5_firstAground) (mt m_X5_firstAground)) := rfl
set_option maxRecDepth 100000 in
theorem cw_X5_lastStray : lw_tbl[487]? = some (.code (mn m_X5_lastStray) (mb m_X5_lastStray) (mx m_X5_lastStray) (mt m_X5_lastStray)) := rfl
set_option maxRecDepth 100000 in
theorem cw_X5_farthestStray : lw_tbl[494]? = some (.code (mn m_X5_farthestStray) (mb m_X5_farthestStray) (mx m_X5_farthestStray) (mt m_X5_farthestStray)) := rfl
set_option maxRecDepth 100000 in
theorem cw_X6_init : lw_tbl[88]? = some (.code (mn m_X6_init) (mb m_X6_init) (mx m_X6_init) (mt m_X6_init)) := rfl
set_option maxRecDepth 100000 in
theorem cw_X6_type : lw_tbl[329]? = some (.code (mn m_X6_type) (mb m_X6_type) (mx m_X6_type) (mt m_X6_type)) := rfl
set_option maxRecDepth 100000 in
theorem cw_X6_wipe : lw_tbl[367]? = some (.code (mn m_X6_wipe) (mb m_X6_wipe) (mx m_X6_wipe) (mt m_X6_wipe)) := rfl
set_option maxRecDepth 100000 in
theorem cw_X6_undo : lw_tbl[371]? = some (.code (mn m_X6_undo) (mb m_X6_undo) (mx m_X6_undo) (mt m_X6_undo)) := rfl
set_option maxRecDepth 100000 in
theorem cw_X6_fault : lw_tbl[375]? = some (.code (mn m_X6_fault) (mb m_X6_fault) (mx m_X6_fault) (mt m_X6_fault)) := rfl
set_option maxRecDepth 100000 in
theorem cw_X6_rower : lw_tbl[381]? = some (.code (mn m_X6_rower) (mb m_X6_rower) (mx m_X6_rower) (mt m_X6_rower)) := rfl
set_option maxRecDepth 100000 in
theorem cw_X6_call : lw_tbl[389]? = some (.code (mn m_X6_call) (mb m_X6_call) (mx m_X6_call) (mt m_X6_call)) := rfl
set_option maxRecDepth 100000 in
theorem cw_X6_river : lw_tbl[393]? = some (.code (mn m_X6_river) (mb m_X6_river) (mx m_X6_river) (mt m_X6_river)) := rfl
set_option maxRecDepth 100000 in
theorem cw_X6_tellStream : lw_tbl[397]? = some (.code (mn m_X6_tellStream) (mb m_X6_tellStream) (mx m_X6_tellStream) (mt m_X6_tellStream)) := rfl
set_option maxRecDepth 100000 in
theorem cw_X6_tellHome : lw_tbl[401]? = some (.code (mn m_X6_tellHome) (mb m_X6_tellHome) (mx m_X6_tellHome) (mt m_X6_tellHome)) := rfl
set_option maxRecDepth 100000 in
theorem cw_X6_event : lw_tbl[405]? = some (.code (mn m_X6_event) (mb m_X6_event) (mx m_X6_event) (mt m_X6_event)) := rfl
set_option maxRecDepth 100000 in
theorem cw_X6_back : lw_tbl[413]? = some (.code (mn m_X6_back) (mb m_X6_back) (mx m_X6_back) (mt m_X6_back)) := rfl
set_option maxRecDepth 100000 in
theorem cw_X6_read : lw_tbl[417]? = some (.code (mn m_X6_read) (mb m_X6_read) (mx m_X6_read) (mt m_X6_read)) := rfl
set_option maxRecDepth 100000 in
theorem cw_X6_at : lw_tbl[426]? = some (.code (mn m_X6_at) (mb m_X6_at) (mx m_X6_at) (mt m_X6_at)) := rfl
set_option maxRecDepth 100000 in
theorem cw_X6_pulls : lw_tbl[459]? = some (.code (mn m_X6_pulls) (mb m_X6_pulls) (mx m_X6_pulls) (mt m_X6_pulls)) := rfl
set_option maxRecDepth 100000 in
theorem cw_X6_done : lw_tbl[463]? = some (.code (mn m_X6_done) (mb m_X6_done) (mx m_X6_done) (mt m_X6_done)) := rfl
set_option maxRecDepth 100000 in
theorem cw_X6_there : lw_tbl[467]? = some (.code (mn m_X6_there) (mb m_X6_there) (mx m_X6_there) (mt m_X6_there)) := rfl
set_option maxRecDepth 100000 in
theorem cw_X6_grounded : lw_tbl[471]? = some (.code (mn m_X6_grounded) (mb m_X6_grounded) (mx m_X6_grounded) (mt m_X6_grounded)) := rfl
set_option maxRecDepth 100000 in
theorem cw_X6_stray : lw_tbl[483]? = some (.code (mn m_X6_stray) (mb m_X6_stray) (mx m_X6_stray) (mt m_X6_stray)) := rfl
set_option maxRecDepth 100000 in
theorem cw_X6_best : lw_tbl[501]? = some (.code (mn m_X6_best) (mb m_X6_best) (mx m_X6_best) (mt m_X6_best)) := rfl
set_option maxRecDepth 100000 in
theorem cw_X6_idle : lw_tbl[505]? = some (.code (mn m_X6_idle) (mb m_X6_idle) (mx m_X6_idle) (mt m_X6_idle)) := rfl
set_option maxRecDepth 100000 in
theorem cw_X6_swap : lw_tbl[509]? = some (.code (mn m_X6_swap) (mb m_X6_swap) (mx m_X6_swap) (mt m_X6_swap)) := rfl
set_option maxRecDepth 100000 in
theorem cw_X6_metresSwapped : lw_tbl[513]? = some (.code (mn m_X6_metresSwapped) (mb m_X6_metresSwapped) (mx m_X6_metresSwapped) (mt m_X6_metresSwapped)) := rfl
set_option maxRecDepth 100000 in
theorem cw_X6_steer : lw_tbl[528]? = some (.code (mn m_X6_steer) (mb m_X6_steer) (mx m_X6_steer) (mt m_X6_steer)) := rfl
set_option maxRecDepth 100000 in
theorem cw_X6_stroke : lw_tbl[532]? = some (.code (mn m_X6_stroke) (mb m_X6_stroke) (mx m_X6_stroke) (mt m_X6_stroke)) := rfl
set_option maxRecDepth 100000 in
theorem cw_X6_spare : lw_tbl[536]? = some (.code (mn m_X6_spare) (mb m_X6_spare) (mx m_X6_spare) (mt m_X6_spare)) := rfl
set_option maxRecDepth 100000 in
theorem cw_X6_sparedEvents : lw_tbl[540]? = some (.code (mn m_X6_sparedEvents) (mb m_X6_sparedEvents) (mx m_X6_sparedEvents) (mt m_X6_sparedEvents)) := rfl
set_option maxRecDepth 100000 in
theorem cw_X6_ithBit : lw_tbl[554]? = some (.code (mn m_X6_ithBit) (mb m_X6_ithBit) (mx m_X6_ithBit) (mt m_X6_ithBit)) := rfl
set_option maxRecDepth 100000 in
theorem cw_X6_seen : lw_tbl[561]? = some (.code (mn m_X6_seen) (mb m_X6_seen) (mx m_X6_seen) (mt m_X6_seen)) := rfl
set_option maxRecDepth 100000 in
theorem cw_X6_forget : lw_tbl[569]? = some (.code (mn m_X6_forget) (mb m_X6_forget) (mx m_X6_forget) (mt m_X6_forget)) := rfl
set_option maxRecDepth 100000 in
theorem cw_X6_never : lw_tbl[573]? = some (.code (mn m_X6_never) (mb m_X6_never) (mx m_X6_never) (mt m_X6_never)) := rfl
set_option maxRecDepth 100000 in
theorem cw_X6_was : lw_tbl[581]? = some (.code (mn m_X6_was) (mb m_X6_was) (mx m_X6_was) (mt m_X6_was)) := rfl
set_option maxRecDepth 100000 in
theorem cw_X6_possiblePowers : lw_tbl[585]? = some (.code (mn m_X6_possiblePowers) (mb m_X6_possiblePowers) (mx m_X6_possiblePowers) (mt m_X6_possiblePowers)) := rfl
set_option maxRecDepth 100000 in
theorem cw_X6_possibleSorts : lw_tbl[590]? = some (.code (mn m_X6_possibleSorts) (mb m_X6_possibleSorts) (mx m_X6_possibleSorts) (mt m_X6_possibleSorts)) := rfl
set_option maxRecDepth 100000 in
theorem cw_X6_ask : lw_tbl[594]? = some (.code (mn m_X6_ask) (mb m_X6_ask) (mx m_X6_ask) (mt m_X6_ask)) := rfl
set_option maxRecDepth 100000 in
theorem cw_X6_mostAtOnePlace : lw_tbl[598]? = some (.code (mn m_X6_mostAtOnePlace) (mb m_X6_mostAtOnePlace) (mx m_X6_mostAtOnePlace) (mt m_X6_mostAtOnePlace)) := rfl
set_option maxRecDepth 100000 in
theorem cw_X6_chance : lw_tbl[603]? = some (.code (mn m_X6_chance) (mb m_X6_chance) (mx m_X6_chance) (mt m_X6_chance)) := rfl
set_option maxRecDepth 100000 in
theorem cw_X6_weightOf : lw_tbl[608]? = some (.code (mn m_X6_weightOf) (mb m_X6_weightOf) (mx m_X6_weightOf) (mt m_X6_weightOf)) := rfl
set_option maxRecDepth 100000 in
theorem cw_X6_isAgroundBy : lw_tbl[612]? = some (.code (mn m_X6_isAgroundBy) (mb m_X6_isAgroundBy) (mx m_X6_isAgroundBy) (mt m_X6_isAgroundBy)) := rfl
set_option maxRecDepth 100000 in
theorem cw_X6_years : lw_tbl[617]? = some (.code (mn m_X6_years) (mb m_X6_years) (mx m_X6_years) (mt m_X6_years)) := rfl
set_option maxRecDepth 100000 in
theorem cw_X6_sheet : lw_tbl[622]? = some (.code (mn m_X6_sheet) (mb m_X6_sheet) (mx m_X6_sheet) (mt m_X6_sheet)) := rfl
set_option maxRecDepth 100000 in
theorem cw_X6_lose : lw_tbl[631]? = some (.code (mn m_X6_lose) (mb m_X6_lose) (mx m_X6_lose) (mt m_X6_lose)) := rfl
set_option maxRecDepth 100000 in
theorem cw_X6_put : lw_tbl[635]? = some (.code (mn m_X6_put) (mb m_X6_put) (mx m_X6_put) (mt m_X6_put)) := rfl
set_option maxRecDepth 100000 in
theorem cw_X6_get : lw_tbl[648]? = some (.code (mn m_X6_get) (mb m_X6_get) (mx m_X6_get) (mt m_X6_get)) := rfl
set_option maxRecDepth 100000 in
theorem cw_X6_copy : lw_tbl[653]? = some (.code (mn m_X6_copy) (mb m_X6_copy) (mx m_X6_copy) (mt m_X6_copy)) := rfl
set_option maxRecDepth 100000 in
theorem cw_X6_write : lw_tbl[661]? = some (.code (mn m_X6_write) (mb m_X6_write) (mx m_X6_write) (mt m_X6_write)) := rfl
set_option maxRecDepth 100000 in
theorem cw_X6_count : lw_tbl[668]? = some (.code (mn m_X6_count) (mb m_X6_count) (mx m_X6_count) (mt m_X6_count)) := rfl
set_option maxRecDepth 100000 in
theorem cw_X6_digest : lw_tbl[673]? = some (.code (mn m_X6_digest) (mb m_X6_digest) (mx m_X6_digest) (mt m_X6_digest)) := rfl
set_option maxRecDepth 100000 in
theorem cw_X6_addMinutes : lw_tbl[680]? = some (.code (mn m_X6_addMinutes) (mb m_X6_addMinutes) (mx m_X6_addMinutes) (mt m_X6_addMinutes)) := rfl
set_option maxRecDepth 100000 in
theorem cw_X6_addRower : lw_tbl[686]? = some (.code (mn m_X6_addRower) (mb m_X6_addRower) (mx m_X6_addRower) (mt m_X6_addRower)) := rfl
set_option maxRecDepth 100000 in
theorem cw_X6_addPlans : lw_tbl[695]? = some (.code (mn m_X6_addPlans) (mb m_X6_addPlans) (mx m_X6_addPlans) (mt m_X6_addPlans)) := rfl
set_option maxRecDepth 100000 in
theorem cw_X6_addWhole : lw_tbl[702]? = some (.code (mn m_X6_addWhole) (mb m_X6_addWhole) (mx m_X6_addWhole) (mt m_X6_addWhole)) := rfl
set_option maxRecDepth 100000 in
theorem cw_X6_isBelow : lw_tbl[332]? = some (.code (mn m_X6_isBelow) (mb m_X6_isBelow) (mx m_X6_isBelow) (mt m_X6_isBelow)) := rfl
set_option maxRecDepth 100000 in
theorem cw_X6_hasBit : lw_tbl[557]? = some (.code (mn m_X6_hasBit) (mb m_X6_hasBit) (mx m_X6_hasBit) (mt m_X6_hasBit)) := rfl
set_option maxRecDepth 100000 in
theorem cw_X6_isRower : lw_tbl[385]? = some (.code (mn m_X6_isRower) (mb m_X6_isRower) (mx m_X6_isRower) (mt m_X6_isRower)) := rfl
set_option maxRecDepth 100000 in
theorem cw_X6_find : lw_tbl[421]? = some (.code (mn m_X6_find) (mb m_X6_find) (mx m_X6_find) (mt m_X6_find)) := rfl
set_option maxRecDepth 100000 in
theorem cw_X6_markChanged : lw_tbl[363]? = some (.code (mn m_X6_markChanged) (mb m_X6_markChanged) (mx m_X6_markChanged) (mt m_X6_markChanged)) := rfl
set_option maxRecDepth 100000 in
theorem cw_X6_retell : lw_tbl[336]? = some (.code (mn m_X6_retell) (mb m_X6_retell) (mx m_X6_retell) (mt m_X6_retell)) := rfl
set_option maxRecDepth 100000 in
theorem cw_X6_toldTrip : lw_tbl[430]? = some (.code (mn m_X6_toldTrip) (mb m_X6_toldTrip) (mx m_X6_toldTrip) (mt m_X6_toldTrip)) := rfl
set_option maxRecDepth 100000 in
theorem cw_X6_rowOther : lw_tbl[524]? = some (.code (mn m_X6_rowOther) (mb m_X6_rowOther) (mx m_X6_rowOther) (mt m_X6_rowOther)) := rfl
set_option maxRecDepth 100000 in
theorem cw_X6_firstAgroundWith : lw_tbl[544]? = some (.code (mn m_X6_firstAgroundWith) (mb m_X6_firstAgroundWith) (mx m_X6_firstAgroundWith) (mt m_X6_firstAgroundWith)) := rfl
set_option maxRecDepth 100000 in
theorem cw_X7_init : lw_tbl[716]? = some (.code (mn m_X7_init) (mb m_X7_init) (mx m_X7_init) (mt m_X7_init)) := rfl
set_option maxRecDepth 100000 in
theorem cw_X7_in : lw_tbl[870]? = some (.code (mn m_X7_in) (mb m_X7_in) (mx m_X7_in) (mt m_X7_in)) := rfl
set_option maxRecDepth 100000 in
theorem cw_X7_isIn : lw_tbl[1000]? = some (.code (mn m_X7_isIn) (mb m_X7_isIn) (mx m_X7_isIn) (mt m_X7_isIn)) := rfl
set_option maxRecDepth 100000 in
theorem cw_X7_no : lw_tbl[1162]? = some (.code (mn m_X7_no) (mb m_X7_no) (mx m_X7_no) (mt m_X7_no)) := rfl
set_option maxRecDepth 100000 in
theorem cw_X7_lowest : lw_tbl[1159]? = some (.code (mn m_X7_lowest) (mb m_X7_lowest) (mx m_X7_lowest) (mt m_X7_lowest)) := rfl
set_option maxRecDepth 100000 in
theorem cw_X7_isText : lw_tbl[867]? = some (.code (mn m_X7_isText) (mb m_X7_isText) (mx m_X7_isText) (mt m_X7_isText)) := rfl
set_option maxRecDepth 100000 in
theorem cw_X7_isMinute : lw_tbl[935]? = some (.code (mn m_X7_isMinute) (mb m_X7_isMinute) (mx m_X7_isMinute) (mt m_X7_isMinute)) := rfl
set_option maxRecDepth 100000 in
theorem cw_X7_isTwo : lw_tbl[924]? = some (.code (mn m_X7_isTwo) (mb m_X7_isTwo) (mx m_X7_isTwo) (mt m_X7_isTwo)) := rfl
set_option maxRecDepth 100000 in
theorem cw_X7_isThree : lw_tbl[950]? = some (.code (mn m_X7_isThree) (mb m_X7_isThree) (mx m_X7_isThree) (mt m_X7_isThree)) := rfl
set_option maxRecDepth 100000 in
theorem cw_X7_isEight : lw_tbl[953]? = some (.code (mn m_X7_isEight) (mb m_X7_isEight) (mx m_X7_isEight) (mt m_X7_isEight)) := rfl
set_option maxRecDepth 100000 in
theorem cw_X7_type : lw_tbl[864]? = some (.code (mn m_X7_type) (mb m_X7_type) (mx m_X7_type) (mt m_X7_type)) := rfl
set_option maxRecDepth 100000 in
theorem cw_X7_wipe : lw_tbl[874]? = some (.code (mn m_X7_wipe) (mb m_X7_wipe) (mx m_X7_wipe) (mt m_X7_wipe)) := rfl
set_option maxRecDepth 100000 in
theorem cw_X7_undo : lw_tbl[878]? = some (.code (mn m_X7_undo) (mb m_X7_undo) (mx m_X7_undo) (mt m_X7_undo)) := rfl
set_option maxRecDepth 100000 in
theorem cw_X7_byteAt : lw_tbl[898]? = some (.code (mn m_X7_byteAt) (mb m_X7_byteAt) (mx m_X7_byteAt) (mt m_X7_byteAt)) := rfl
set_option maxRecDepth 100000 in
theorem cw_X7_readsRower : lw_tbl[894]? = some (.code (mn m_X7_readsRower) (mb m_X7_readsRower) (mx m_X7_readsRower) (mt m_X7_readsRower)) := rfl
set_option maxRecDepth 100000 in
theorem cw_X7_readsCrew : lw_tbl[890]? = some (.code (mn m_X7_readsCrew) (mb m_X7_readsCrew) (mx m_X7_readsCrew) (mt m_X7_readsCrew)) := rfl
set_option maxRecDepth 100000 in
theorem cw_X7_readsRates : lw_tbl[902]? = some (.code (mn m_X7_readsRates) (mb m_X7_readsRates) (mx m_X7_readsRates) (mt m_X7_readsRates)) := rfl
set_option maxRecDepth 100000 in
theorem cw_X7_rudderBy : lw_tbl[909]? = some (.code (mn m_X7_rudderBy) (mb m_X7_rudderBy) (mx m_X7_rudderBy) (mt m_X7_rudderBy)) := rfl
set_option maxRecDepth 100000 in
theorem cw_X7_readsRudder : lw_tbl[906]? = some (.code (mn m_X7_readsRudder) (mb m_X7_readsRudder) (mx m_X7_readsRudder) (mt m_X7_readsRudder)) := rfl
set_option maxRecDepth 100000 in
theorem cw_X7_faultOf : lw_tbl[886]? = some (.code (mn m_X7_faultOf) (mb m_X7_faultOf) (mx m_X7_faultOf) (mt m_X7_faultOf)) := rfl
set_option maxRecDepth 100000 in
theorem cw_X7_reads : lw_tbl[921]? = some (.code (mn m_X7_reads) (mb m_X7_reads) (mx m_X7_reads) (mt m_X7_reads)) := rfl
set_option maxRecDepth 100000 in
theorem cw_X7_fault : lw_tbl[882]? = some (.code (mn m_X7_fault) (mb m_X7_fault) (mx m_X7_fault) (mt m_X7_fault)) := rfl
set_option maxRecDepth 100000 in
theorem cw_X7_isRower : lw_tbl[917]? = some (.code (mn m_X7_isRower) (mb m_X7_isRower) (mx m_X7_isRower) (mt m_X7_isRower)) := rfl
set_option maxRecDepth 100000 in
theorem cw_X7_rowerOf : lw_tbl[928]? = some (.code (mn m_X7_rowerOf) (mb m_X7_rowerOf) (mx m_X7_rowerOf) (mt m_X7_rowerOf)) := rfl
set_option maxRecDepth 100000 in
theorem cw_X7_rower : lw_tbl[913]? = some (.code (mn m_X7_rower) (mb m_X7_rower) (mx m_X7_rower) (mt m_X7_rower)) := rfl
set_option maxRecDepth 100000 in
theorem cw_X7_callOf : lw_tbl[939]? = some (.code (mn m_X7_callOf) (mb m_X7_callOf) (mx m_X7_callOf) (mt m_X7_callOf)) := rfl
set_option maxRecDepth 100000 in
theorem cw_X7_call : lw_tbl[932]? = some (.code (mn m_X7_call) (mb m_X7_call) (mx m_X7_call) (mt m_X7_call)) := rfl
set_option maxRecDepth 100000 in
theorem cw_X7_river : lw_tbl[943]? = some (.code (mn m_X7_river) (mb m_X7_river) (mx m_X7_river) (mt m_X7_river)) := rfl
set_option maxRecDepth 100000 in
theorem cw_X7_event : lw_tbl[947]? = some (.code (mn m_X7_event) (mb m_X7_event) (mx m_X7_event) (mt m_X7_event)) := rfl
set_option maxRecDepth 100000 in
theorem cw_X7_back : lw_tbl[957]? = some (.code (mn m_X7_back) (mb m_X7_back) (mx m_X7_back) (mt m_X7_back)) := rfl
set_option maxRecDepth 100000 in
theorem cw_X7_read : lw_tbl[961]? = some (.code (mn m_X7_read) (mb m_X7_read) (mx m_X7_read) (mt m_X7_read)) := rfl
set_option maxRecDepth 100000 in
theorem cw_X7_asTold : lw_tbl[985]? = some (.code (mn m_X7_asTold) (mb m_X7_asTold) (mx m_X7_asTold) (mt m_X7_asTold)) := rfl
set_option maxRecDepth 100000 in
theorem cw_X7_befalls : lw_tbl[997]? = some (.code (mn m_X7_befalls) (mb m_X7_befalls) (mx m_X7_befalls) (mt m_X7_befalls)) := rfl
set_option maxRecDepth 100000 in
theorem cw_X7_pullsOne : lw_tbl[1008]? = some (.code (mn m_X7_pullsOne) (mb m_X7_pullsOne) (mx m_X7_pullsOne) (mt m_X7_pullsOne)) := rfl
set_option maxRecDepth 100000 in
theorem cw_X7_goes : lw_tbl[1004]? = some (.code (mn m_X7_goes) (mb m_X7_goes) (mx m_X7_goes) (mt m_X7_goes)) := rfl
set_option maxRecDepth 100000 in
theorem cw_X7_goesBy : lw_tbl[993]? = some (.code (mn m_X7_goesBy) (mb m_X7_goesBy) (mx m_X7_goesBy) (mt m_X7_goesBy)) := rfl
set_option maxRecDepth 100000 in
theorem cw_X7_runs : lw_tbl[989]? = some (.code (mn m_X7_runs) (mb m_X7_runs) (mx m_X7_runs) (mt m_X7_runs)) := rfl
set_option maxRecDepth 100000 in
theorem cw_X7_runsTold : lw_tbl[981]? = some (.code (mn m_X7_runsTold) (mb m_X7_runsTold) (mx m_X7_runsTold) (mt m_X7_runsTold)) := rfl
set_option maxRecDepth 100000 in
theorem cw_X7_atOf : lw_tbl[977]? = some (.code (mn m_X7_atOf) (mb m_X7_atOf) (mx m_X7_atOf) (mt m_X7_atOf)) := rfl
set_option maxRecDepth 100000 in
theorem cw_X7_at : lw_tbl[973]? = some (.code (mn m_X7_at) (mb m_X7_at) (mx m_X7_at) (mt m_X7_at)) := rfl
set_option maxRecDepth 100000 in
theorem cw_X7_pullsOf : lw_tbl[1016]? = some (.code (mn m_X7_pullsOf) (mb m_X7_pullsOf) (mx m_X7_pullsOf) (mt m_X7_pullsOf)) := rfl
set_option maxRecDepth 100000 in
theorem cw_X7_pulls : lw_tbl[1012]? = some (.code (mn m_X7_pulls) (mb m_X7_pulls) (mx m_X7_pulls) (mt m_X7_pulls)) := rfl
set_option maxRecDepth 100000 in
theorem cw_X7_doneOf : lw_tbl[1024]? = some (.code (mn m_X7_doneOf) (mb m_X7_doneOf) (mx m_X7_doneOf) (mt m_X7_doneOf)) := rfl
set_option maxRecDepth 100000 in
theorem cw_X7_done : lw_tbl[1020]? = some (.code (mn m_X7_done) (mb m_X7_done) (mx m_X7_done) (mt m_X7_done)) := rfl
set_option maxRecDepth 100000 in
theorem cw_X7_thereOf : lw_tbl[1032]? = some (.code (mn m_X7_thereOf) (mb m_X7_thereOf) (mx m_X7_thereOf) (mt m_X7_thereOf)) := rfl
set_option maxRecDepth 100000 in
theorem cw_X7_there : lw_tbl[1028]? = some (.code (mn m_X7_there) (mb m_X7_there) (mx m_X7_there) (mt m_X7_there)) := rfl
set_option maxRecDepth 100000 in
theorem cw_X7_groundedOf : lw_tbl[1040]? = some (.code (mn m_X7_groundedOf) (mb m_X7_groundedOf) (mx m_X7_groundedOf) (mt m_X7_groundedOf)) := rfl
set_option maxRecDepth 100000 in
theorem cw_X7_grounded : lw_tbl[1036]? = some (.code (mn m_X7_grounded) (mb m_X7_grounded) (mx m_X7_grounded) (mt m_X7_grounded)) := rfl
set_option maxRecDepth 100000 in
theorem cw_X7_strayNow : lw_tbl[1052]? = some (.code (mn m_X7_strayNow) (mb m_X7_strayNow) (mx m_X7_strayNow) (mt m_X7_strayNow)) := rfl
set_option maxRecDepth 100000 in
theorem cw_X7_strayOf : lw_tbl[1048]? = some (.code (mn m_X7_strayOf) (mb m_X7_strayOf) (mx m_X7_strayOf) (mt m_X7_strayOf)) := rfl
set_option maxRecDepth 100000 in
theorem cw_X7_stray : lw_tbl[1044]? = some (.code (mn m_X7_stray) (mb m_X7_stray) (mx m_X7_stray) (mt m_X7_stray)) := rfl
set_option maxRecDepth 100000 in
theorem cw_X7_bestOf : lw_tbl[1060]? = some (.code (mn m_X7_bestOf) (mb m_X7_bestOf) (mx m_X7_bestOf) (mt m_X7_bestOf)) := rfl
set_option maxRecDepth 100000 in
theorem cw_X7_best : lw_tbl[1056]? = some (.code (mn m_X7_best) (mb m_X7_best) (mx m_X7_best) (mt m_X7_best)) := rfl
set_option maxRecDepth 100000 in
theorem cw_X7_idleOf : lw_tbl[1068]? = some (.code (mn m_X7_idleOf) (mb m_X7_idleOf) (mx m_X7_idleOf) (mt m_X7_idleOf)) := rfl
set_option maxRecDepth 100000 in
theorem cw_X7_idle : lw_tbl[1064]? = some (.code (mn m_X7_idle) (mb m_X7_idle) (mx m_X7_idle) (mt m_X7_idle)) := rfl
set_option maxRecDepth 100000 in
theorem cw_X7_swapOf : lw_tbl[1076]? = some (.code (mn m_X7_swapOf) (mb m_X7_swapOf) (mx m_X7_swapOf) (mt m_X7_swapOf)) := rfl
set_option maxRecDepth 100000 in
theorem cw_X7_swap : lw_tbl[1072]? = some (.code (mn m_X7_swap) (mb m_X7_swap) (mx m_X7_swap) (mt m_X7_swap)) := rfl
set_option maxRecDepth 100000 in
theorem cw_X7_steerOf : lw_tbl[1084]? = some (.code (mn m_X7_steerOf) (mb m_X7_steerOf) (mx m_X7_steerOf) (mt m_X7_steerOf)) := rfl
set_option maxRecDepth 100000 in
theorem cw_X7_steer : lw_tbl[1080]? = some (.code (mn m_X7_steer) (mb m_X7_steer) (mx m_X7_steer) (mt m_X7_steer)) := rfl
set_option maxRecDepth 100000 in
theorem cw_X7_strokeOf : lw_tbl[1092]? = some (.code (mn m_X7_strokeOf) (mb m_X7_strokeOf) (mx m_X7_strokeOf) (mt m_X7_strokeOf)) := rfl
set_option maxRecDepth 100000 in
theorem cw_X7_stroke : lw_tbl[1088]? = some (.code (mn m_X7_stroke) (mb m_X7_stroke) (mx m_X7_stroke) (mt m_X7_stroke)) := rfl
set_option maxRecDepth 100000 in
theorem cw_X7_isSpared : lw_tbl[1104]? = some (.code (mn m_X7_isSpared) (mb m_X7_isSpared) (mx m_X7_isSpared) (mt m_X7_isSpared)) := rfl
set_option maxRecDepth 100000 in
theorem cw_X7_spareBy : lw_tbl[1100]? = some (.code (mn m_X7_spareBy) (mb m_X7_spareBy) (mx m_X7_spareBy) (mt m_X7_spareBy)) := rfl
set_option maxRecDepth 100000 in
theorem cw_X7_ofRow : lw_tbl[1108]? = some (.code (mn m_X7_ofRow) (mb m_X7_ofRow) (mx m_X7_ofRow) (mt m_X7_ofRow)) := rfl
set_option maxRecDepth 100000 in
theorem cw_X7_spare : lw_tbl[1096]? = some (.code (mn m_X7_spare) (mb m_X7_spare) (mx m_X7_spare) (mt m_X7_spare)) := rfl
set_option maxRecDepth 100000 in
theorem cw_X7_seen : lw_tbl[1112]? = some (.code (mn m_X7_seen) (mb m_X7_seen) (mx m_X7_seen) (mt m_X7_seen)) := rfl
set_option maxRecDepth 100000 in
theorem cw_X7_forget : lw_tbl[1116]? = some (.code (mn m_X7_forget) (mb m_X7_forget) (mx m_X7_forget) (mt m_X7_forget)) := rfl
set_option maxRecDepth 100000 in
theorem cw_X7_isSeen : lw_tbl[1128]? = some (.code (mn m_X7_isSeen) (mb m_X7_isSeen) (mx m_X7_isSeen) (mt m_X7_isSeen)) := rfl
set_option maxRecDepth 100000 in
theorem cw_X7_neverNow : lw_tbl[1124]? = some (.code (mn m_X7_neverNow) (mb m_X7_neverNow) (mx m_X7_neverNow) (mt m_X7_neverNow)) := rfl
set_option maxRecDepth 100000 in
theorem cw_X7_never : lw_tbl[1120]? = some (.code (mn m_X7_never) (mb m_X7_never) (mx m_X7_never) (mt m_X7_never)) := rfl
set_option maxRecDepth 100000 in
theorem cw_X7_powersBy : lw_tbl[1136]? = some (.code (mn m_X7_powersBy) (mb m_X7_powersBy) (mx m_X7_powersBy) (mt m_X7_powersBy)) := rfl
set_option maxRecDepth 100000 in
theorem cw_X7_sortsBy : lw_tbl[1140]? = some (.code (mn m_X7_sortsBy) (mb m_X7_sortsBy) (mx m_X7_sortsBy) (mt m_X7_sortsBy)) := rfl
set_option maxRecDepth 100000 in
theorem cw_X7_was : lw_tbl[1132]? = some (.code (mn m_X7_was) (mb m_X7_was) (mx m_X7_was) (mt m_X7_was)) := rfl
set_option maxRecDepth 100000 in
theorem cw_X7_askOf : lw_tbl[1148]? = some (.code (mn m_X7_askOf) (mb m_X7_askOf) (mx m_X7_askOf) (mt m_X7_askOf)) := rfl
set_option maxRecDepth 100000 in
theorem cw_X7_ask : lw_tbl[1144]? = some (.code (mn m_X7_ask) (mb m_X7_ask) (mx m_X7_ask) (mt m_X7_ask)) := rfl
set_option maxRecDepth 100000 in
theorem cw_X7_chanceOf : lw_tbl[1156]? = some (.code (mn m_X7_chanceOf) (mb m_X7_chanceOf) (mx m_X7_chanceOf) (mt m_X7_chanceOf)) := rfl
set_option maxRecDepth 100000 in
theorem cw_X7_chance : lw_tbl[1152]? = some (.code (mn m_X7_chance) (mb m_X7_chance) (mx m_X7_chance) (mt m_X7_chance)) := rfl
set_option maxRecDepth 100000 in
theorem cw_X7_yearsOf : lw_tbl[1171]? = some (.code (mn m_X7_yearsOf) (mb m_X7_yearsOf) (mx m_X7_yearsOf) (mt m_X7_yearsOf)) := rfl
set_option maxRecDepth 100000 in
theorem cw_X7_years : lw_tbl[1167]? = some (.code (mn m_X7_years) (mb m_X7_years) (mx m_X7_years) (mt m_X7_years)) := rfl
set_option maxRecDepth 100000 in
theorem cw_X7_meets : lw_tbl[968]? = some (.code (mn m_X7_meets) (mb m_X7_meets) (mx m_X7_meets) (mt m_X7_meets)) := rfl
set_option maxRecDepth 100000 in
theorem cw_X7_isSheet : lw_tbl[964]? = some (.code (mn m_X7_isSheet) (mb m_X7_isSheet) (mx m_X7_isSheet) (mt m_X7_isSheet)) := rfl
set_option maxRecDepth 100000 in
theorem cw_X7_sheet : lw_tbl[1176]? = some (.code (mn m_X7_sheet) (mb m_X7_sheet) (mx m_X7_sheet) (mt m_X7_sheet)) := rfl
set_option maxRecDepth 100000 in
theorem cw_X7_lose : lw_tbl[1180]? = some (.code (mn m_X7_lose) (mb m_X7_lose) (mx m_X7_lose) (mt m_X7_lose)) := rfl
set_option maxRecDepth 100000 in
theorem cw_X7_lacks : lw_tbl[1188]? = some (.code (mn m_X7_lacks) (mb m_X7_lacks) (mx m_X7_lacks) (mt m_X7_lacks)) := rfl
set_option maxRecDepth 100000 in
theorem cw_X7_keep : lw_tbl[1192]? = some (.code (mn m_X7_keep) (mb m_X7_keep) (mx m_X7_keep) (mt m_X7_keep)) := rfl
set_option maxRecDepth 100000 in
theorem cw_X7_put : lw_tbl[1184]? = some (.code (mn m_X7_put) (mb m_X7_put) (mx m_X7_put) (mt m_X7_put)) := rfl
set_option maxRecDepth 100000 in
theorem cw_X7_get : lw_tbl[1196]? = some (.code (mn m_X7_get) (mb m_X7_get) (mx m_X7_get) (mt m_X7_get)) := rfl
set_option maxRecDepth 100000 in
theorem cw_X7_copy : lw_tbl[1201]? = some (.code (mn m_X7_copy) (mb m_X7_copy) (mx m_X7_copy) (mt m_X7_copy)) := rfl
set_option maxRecDepth 100000 in
theorem cw_X7_write : lw_tbl[1205]? = some (.code (mn m_X7_write) (mb m_X7_write) (mx m_X7_write) (mt m_X7_write)) := rfl
set_option maxRecDepth 100000 in
theorem cw_X7_tellOf : lw_tbl[1213]? = some (.code (mn m_X7_tellOf) (mb m_X7_tellOf) (mx m_X7_tellOf) (mt m_X7_tellOf)) := rfl
set_option maxRecDepth 100000 in
theorem cw_X7_count : lw_tbl[1209]? = some (.code (mn m_X7_count) (mb m_X7_count) (mx m_X7_count) (mt m_X7_count)) := rfl
set_option maxRecDepth 100000 in
theorem cw_X7_minuteDigest : lw_tbl[1224]? = some (.code (mn m_X7_minuteDigest) (mb m_X7_minuteDigest) (mx m_X7_minuteDigest) (mt m_X7_minuteDigest)) := rfl
set_option maxRecDepth 100000 in
theorem cw_X7_rowerDigest : lw_tbl[1228]? = some (.code (mn m_X7_rowerDigest) (mb m_X7_rowerDigest) (mx m_X7_rowerDigest) (mt m_X7_rowerDigest)) := rfl
set_option maxRecDepth 100000 in
theorem cw_X7_planDigest : lw_tbl[1232]? = some (.code (mn m_X7_planDigest) (mb m_X7_planDigest) (mx m_X7_planDigest) (mt m_X7_planDigest)) := rfl
set_option maxRecDepth 100000 in
theorem cw_X7_digest : lw_tbl[1217]? = some (.code (mn m_X7_digest) (mb m_X7_digest) (mx m_X7_digest) (mt m_X7_digest)) := rfl
set_option maxRecDepth 100000 in
theorem cw_J6_bitCount_0f7a4 : lw_tbl[548]? = some (.code (mn m_J6_bitCount_0f7a4) (mb m_J6_bitCount_0f7a4) (mx m_J6_bitCount_0f7a4) (mt m_J6_bitCount_0f7a4)) := rfl
set_option maxRecDepth 100000 in
theorem cw_J7_fill_53178 : lw_tbl[146]? = some (.code (mn m_J7_fill_53178) (mb m_J7_fill_53178) (mx m_J7_fill_53178) (mt m_J7_fill_53178)) := rfl
