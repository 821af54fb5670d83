set_option maxRecDepth 100000 in
theorem ca_X7_init : c_all m_tab m_X7_init = true := by decide +kernel
set_option maxRecDepth 100000 in
theorem ca_X7_in : c_all m_tab m_X7_in = true := by decide +kernel
set_option maxRecDepth 100000 in
theorem ca_X7_isIn : c_all m_tab m_X7_isIn = true := by decide +kernel
set_option maxRecDepth 100000 in
theorem ca_X7_no : c_all m_tab m_X7_no = true := by decide +kernel
set_option maxRecDepth 100000 in
theorem ca_X7_lowest : c_all m_tab m_X7_lowest = true := by decide +kernel
set_option maxRecDepth 100000 in
theorem ca_X7_isText : c_all m_tab m_X7_isText = true := by decide +kernel
set_option maxRecDepth 100000 in
theorem ca_X7_isMinute : c_all m_tab m_X7_isMinute = true := by decide +kernel
set_option maxRecDepth 100000 in
theorem ca_X7_isTwo : c_all m_tab m_X7_isTwo = true := by decide +kernel
set_option maxRecDepth 100000 in
theorem ca_X7_isThree : c_all m_tab m_X7_isThree = true := by decide +kernel
set_option maxRecDepth 100000 in
theorem ca_X7_isEight : c_all m_tab m_X7_isEight = true := by decide +kernel
set_option maxRecDepth 100000 in
theorem ca_X7_type : c_all m_tab m_X7_type = true := by decide +kernel
set_option maxRecDepth 100000 in
theorem ca_X7_wipe : c_all m_tab m_X7_wipe = true := by decide +kernel
set_option maxRecDepth 100000 in
theorem ca_X7_undo : c_all m_tab m_X7_undo = true := by decide +kernel
set_option maxRecDepth 100000 in
theorem ca_X7_byteAt : c_all m_tab m_X7_byteAt = true := by decide +kernel
set_option maxRecDepth 100000 in
theorem ca_X7_readsRower : c_all m_tab m_X7_readsRower = true := by decide +kernel
set_option maxRecDepth 100000 in
theorem ca_X7_readsCrew : c_all m_tab m_X7_readsCrew = true := by decide +kernel
set_option maxRecDepth 100000 in
theorem ca_X7_readsRates : c_all m_tab m_X7_readsRates = true := by decide +kernel
set_option maxRecDepth 100000 in
theorem ca_X7_rudderBy : c_all m_tab m_X7_rudderBy = true := by decide +kernel
set_option maxRecDepth 100000 in
theorem ca_X7_readsRudder : c_all m_tab m_X7_readsRudder = true := by decide +kernel
set_option maxRecDepth 100000 in
theorem ca_X7_faultOf : c_all m_tab m_X7_faultOf = true := by decide +kernel
set_option maxRecDepth 100000 in
theorem ca_X7_reads : c_all m_tab m_X7_reads = true := by decide +kernel
set_option maxRecDepth 100000 in
theorem ca_X7_fault : c_all m_tab m_X7_fault = true := by decide +kernel
set_option maxRecDepth 100000 in
theorem ca_X7_isRower : c_all m_tab m_X7_isRower = true := by decide +kernel
set_option maxRecDepth 100000 in
theorem ca_X7_rowerOf : c_all m_tab m_X7_rowerOf = true := by decide +kernel
set_option maxRecDepth 100000 in
theorem ca_X7_rower : c_all m_tab m_X7_rower = true := by decide +kernel
set_option maxRecDepth 100000 in
theorem ca_X7_callOf : c_all m_tab m_X7_callOf = true := by decide +kernel
set_option maxRecDepth 100000 in
theorem ca_X7_call : c_all m_tab m_X7_call = true := by decide +kernel
set_option maxRecDepth 100000 in
theorem ca_X7_river : c_all m_tab m_X7_river = true := by decide +kernel
set_option maxRecDepth 100000 in
theorem ca_X7_event : c_all m_tab m_X7_event = true := by decide +kernel
set_option maxRecDepth 100000 in
theorem ca_X7_back : c_all m_tab m_X7_back = true := by decide +kernel
set_option maxRecDepth 100000 in
theorem ca_X7_read : c_all m_tab m_X7_read = true := by decide +kernel
set_option maxRecDepth 100000 in
theorem ca_X7_asTold : c_all m_tab m_X7_asTold = true := by decide +kernel
set_option maxRecDepth 100000 in
theorem ca_X7_befalls : c_all m_tab m_X7_befalls = true := by decide +kernel
set_option maxRecDepth 100000 in
theorem ca_X7_pullsOne : c_all m_tab m_X7_pullsOne = true := by decide +kernel
set_option maxRecDepth 100000 in
theorem ca_X7_goes : c_all m_tab m_X7_goes = true := by decide +kernel
set_option maxRecDepth 100000 in
theorem ca_X7_goesBy : c_all m_tab m_X7_goesBy = true := by decide +kernel
set_option maxRecDepth 100000 in
theorem ca_X7_runs : c_all m_tab m_X7_runs = true := by decide +kernel
set_option maxRecDepth 100000 in
theorem ca_X7_runsTold : c_all m_tab m_X7_runsTold = true := by decide +kernel
set_option maxRecDepth 100000 in
theorem ca_X7_atOf : c_all m_tab m_X7_atOf = true := by decide +kernel
set_option maxRecDepth 100000 in
theorem ca_X7_at : c_all m_tab m_X7_at = true := by decide +kernel
set_option maxRecDepth 100000 in
theorem ca_X7_pullsOf : c_all m_tab m_X7_pullsOf = true := by decide +kernel
set_option maxRecDepth 100000 in
theorem ca_X7_pulls : c_all m_tab m_X7_pulls = true := by decide +kernel
set_option maxRecDepth 100000 in
theorem ca_X7_doneOf : c_all m_tab m_X7_doneOf = true := by decide +kernel
set_option maxRecDepth 100000 in
theorem ca_X7_done : c_all m_tab m_X7_done = true := by decide +kernel
set_option maxRecDepth 100000 in
theorem ca_X7_thereOf : c_all m_tab m_X7_thereOf = true := by decide +kernel
set_option maxRecDepth 100000 in
theorem ca_X7_there : c_all m_tab m_X7_there = true := by decide +kernel
set_option maxRecDepth 100000 in
theorem ca_X7_groundedOf : c_all m_tab m_X7_groundedOf = true := by decide +kernel
