set_option maxRecDepth 100000 in
theorem ca_X6_init : c_all m_tab m_X6_init = true := by decide +kernel
set_option maxRecDepth 100000 in
theorem ca_X6_type : c_all m_tab m_X6_type = true := by decide +kernel
set_option maxRecDepth 100000 in
theorem ca_X6_wipe : c_all m_tab m_X6_wipe = true := by decide +kernel
set_option maxRecDepth 100000 in
theorem ca_X6_undo : c_all m_tab m_X6_undo = true := by decide +kernel
set_option maxRecDepth 100000 in
theorem ca_X6_fault : c_all m_tab m_X6_fault = true := by decide +kernel
set_option maxRecDepth 100000 in
theorem ca_X6_rower : c_all m_tab m_X6_rower = true := by decide +kernel
set_option maxRecDepth 100000 in
theorem ca_X6_call : c_all m_tab m_X6_call = true := by decide +kernel
set_option maxRecDepth 100000 in
theorem ca_X6_river : c_all m_tab m_X6_river = true := by decide +kernel
set_option maxRecDepth 100000 in
theorem ca_X6_tellStream : c_all m_tab m_X6_tellStream = true := by decide +kernel
set_option maxRecDepth 100000 in
theorem ca_X6_tellHome : c_all m_tab m_X6_tellHome = true := by decide +kernel
set_option maxRecDepth 100000 in
theorem ca_X6_event : c_all m_tab m_X6_event = true := by decide +kernel
set_option maxRecDepth 100000 in
theorem ca_X6_back : c_all m_tab m_X6_back = true := by decide +kernel
set_option maxRecDepth 100000 in
theorem ca_X6_read : c_all m_tab m_X6_read = true := by decide +kernel
set_option maxRecDepth 100000 in
theorem ca_X6_at : c_all m_tab m_X6_at = true := by decide +kernel
set_option maxRecDepth 100000 in
theorem ca_X6_pulls : c_all m_tab m_X6_pulls = true := by decide +kernel
set_option maxRecDepth 100000 in
theorem ca_X6_done : c_all m_tab m_X6_done = true := by decide +kernel
set_option maxRecDepth 100000 in
theorem ca_X6_there : c_all m_tab m_X6_there = true := by decide +kernel
set_option maxRecDepth 100000 in
theorem ca_X6_grounded : c_all m_tab m_X6_grounded = true := by decide +kernel
set_option maxRecDepth 100000 in
theorem ca_X6_stray : c_all m_tab m_X6_stray = true := by decide +kernel
set_option maxRecDepth 100000 in
theorem ca_X6_best : c_all m_tab m_X6_best = true := by decide +kernel
set_option maxRecDepth 100000 in
theorem ca_X6_idle : c_all m_tab m_X6_idle = true := by decide +kernel
set_option maxRecDepth 100000 in
theorem ca_X6_swap : c_all m_tab m_X6_swap = true := by decide +kernel
set_option maxRecDepth 100000 in
theorem ca_X6_metresSwapped : c_all m_tab m_X6_metresSwapped = true := by decide +kernel
set_option maxRecDepth 100000 in
theorem ca_X6_steer : c_all m_tab m_X6_steer = true := by decide +kernel
set_option maxRecDepth 100000 in
theorem ca_X6_stroke : c_all m_tab m_X6_stroke = true := by decide +kernel
set_option maxRecDepth 100000 in
theorem ca_X6_spare : c_all m_tab m_X6_spare = true := by decide +kernel
set_option maxRecDepth 100000 in
theorem ca_X6_sparedEvents : c_all m_tab m_X6_sparedEvents = true := by decide +kernel
set_option maxRecDepth 100000 in
theorem ca_X6_ithBit : c_all m_tab m_X6_ithBit = true := by decide +kernel
set_option maxRecDepth 100000 in
theorem ca_X6_seen : c_all m_tab m_X6_seen = true := by decide +kernel
set_option maxRecDepth 100000 in
theorem ca_X6_forget : c_all m_tab m_X6_forget = true := by decide +kernel
set_option maxRecDepth 100000 in
theorem ca_X6_never : c_all m_tab m_X6_never = true := by decide +kernel
set_option maxRecDepth 100000 in
theorem ca_X6_was : c_all m_tab m_X6_was = true := by decide +kernel
set_option maxRecDepth 100000 in
theorem ca_X6_possiblePowers : c_all m_tab m_X6_possiblePowers = true := by decide +kernel
set_option maxRecDepth 100000 in
theorem ca_X6_possibleSorts : c_all m_tab m_X6_possibleSorts = true := by decide +kernel
set_option maxRecDepth 100000 in
theorem ca_X6_ask : c_all m_tab m_X6_ask = true := by decide +kernel
set_option maxRecDepth 100000 in
theorem ca_X6_mostAtOnePlace : c_all m_tab m_X6_mostAtOnePlace = true := by decide +kernel
set_option maxRecDepth 100000 in
theorem ca_X6_chance : c_all m_tab m_X6_chance = true := by decide +kernel
set_option maxRecDepth 100000 in
theorem ca_X6_weightOf : c_all m_tab m_X6_weightOf = true := by decide +kernel
set_option maxRecDepth 100000 in
theorem ca_X6_isAgroundBy : c_all m_tab m_X6_isAgroundBy = true := by decide +kernel
set_option maxRecDepth 100000 in
theorem ca_X6_years : c_all m_tab m_X6_years = true := by decide +kernel
set_option maxRecDepth 100000 in
theorem ca_X6_sheet : c_all m_tab m_X6_sheet = true := by decide +kernel
set_option maxRecDepth 100000 in
theorem ca_X6_lose : c_all m_tab m_X6_lose = true := by decide +kernel
set_option maxRecDepth 100000 in
theorem ca_X6_put : c_all m_tab m_X6_put = true := by decide +kernel
set_option maxRecDepth 100000 in
theorem ca_X6_get : c_all m_tab m_X6_get = true := by decide +kernel
set_option maxRecDepth 100000 in
theorem ca_X6_copy : c_all m_tab m_X6_copy = true := by decide +kernel
set_option maxRecDepth 100000 in
theorem ca_X6_write : c_all m_tab m_X6_write = true := by decide +kernel
set_option maxRecDepth 100000 in
theorem ca_X6_count : c_all m_tab m_X6_count = true := by decide +kernel
set_option maxRecDepth 100000 in
theorem ca_X6_digest : c_all m_tab m_X6_digest = true := by decide +kernel
set_option maxRecDepth 100000 in
theorem ca_X6_addMinutes : c_all m_tab m_X6_addMinutes = true := by decide +kernel
set_option maxRecDepth 100000 in
theorem ca_X6_addRower : c_all m_tab m_X6_addRower = true := by decide +kernel
set_option maxRecDepth 100000 in
theorem ca_X6_addPlans : c_all m_tab m_X6_addPlans = true := by decide +kernel
set_option maxRecDepth 100000 in
theorem ca_X6_addWhole : c_all m_tab m_X6_addWhole = true := by decide +kernel
set_option maxRecDepth 100000 in
theorem ca_X6_isBelow : c_all m_tab m_X6_isBelow = true := by decide +kernel
set_option maxRecDepth 100000 in
theorem ca_X6_hasBit : c_all m_tab m_X6_hasBit = true := by decide +kernel
set_option maxRecDepth 100000 in
theorem ca_X6_isRower : c_all m_tab m_X6_isRower = true := by decide +kernel
set_option maxRecDepth 100000 in
theorem ca_X6_find : c_all m_tab m_X6_find = true := by decide +kernel
set_option maxRecDepth 100000 in
theorem ca_X6_markChanged : c_all m_tab m_X6_markChanged = true := by decide +kernel
set_option maxRecDepth 100000 in
theorem ca_X6_retell : c_all m_tab m_X6_retell = true := by decide +kernel
set_option maxRecDepth 100000 in
theorem ca_X6_toldTrip : c_all m_tab m_X6_toldTrip = true := by decide +kernel
set_option maxRecDepth 100000 in
theorem ca_X6_rowOther : c_all m_tab m_X6_rowOther = true := by decide +kernel
set_option maxRecDepth 100000 in
theorem ca_X6_firstAgroundWith : c_all m_tab m_X6_firstAgroundWith = true := by decide +kernel
