set_option maxRecDepth 100000 in
theorem ca_X0_init : c_all m_tab m_X0_init = true := by decide +kernel
set_option maxRecDepth 100000 in
theorem ca_X0_take : c_all m_tab m_X0_take = true := by decide +kernel
set_option maxRecDepth 100000 in
theorem ca_X0_takeCrew : c_all m_tab m_X0_takeCrew = true := by decide +kernel
set_option maxRecDepth 100000 in
theorem ca_X0_takeRates : c_all m_tab m_X0_takeRates = true := by decide +kernel
set_option maxRecDepth 100000 in
theorem ca_X0_takeRudder : c_all m_tab m_X0_takeRudder = true := by decide +kernel
set_option maxRecDepth 100000 in
theorem ca_X1_init : c_all m_tab m_X1_init = true := by decide +kernel
set_option maxRecDepth 100000 in
theorem ca_X1_append : c_all m_tab m_X1_append = true := by decide +kernel
set_option maxRecDepth 100000 in
theorem ca_X2_init : c_all m_tab m_X2_init = true := by decide +kernel
set_option maxRecDepth 100000 in
theorem ca_X2_append : c_all m_tab m_X2_append = true := by decide +kernel
set_option maxRecDepth 100000 in
theorem ca_X2_agreeWith : c_all m_tab m_X2_agreeWith = true := by decide +kernel
set_option maxRecDepth 100000 in
theorem ca_X3_init : c_all m_tab m_X3_init = true := by decide +kernel
set_option maxRecDepth 100000 in
theorem ca_X3_begin : c_all m_tab m_X3_begin = true := by decide +kernel
set_option maxRecDepth 100000 in
theorem ca_X3_findingOf : c_all m_tab m_X3_findingOf = true := by decide +kernel
set_option maxRecDepth 100000 in
theorem ca_X3_hasRange : c_all m_tab m_X3_hasRange = true := by decide +kernel
set_option maxRecDepth 100000 in
theorem ca_X3_keep : c_all m_tab m_X3_keep = true := by decide +kernel
set_option maxRecDepth 100000 in
theorem ca_X4_init : c_all m_tab m_X4_init = true := by decide +kernel
set_option maxRecDepth 100000 in
theorem ca_X4_crewFault : c_all m_tab m_X4_crewFault = true := by decide +kernel
set_option maxRecDepth 100000 in
theorem ca_X4_fitsCrew : c_all m_tab m_X4_fitsCrew = true := by decide +kernel
set_option maxRecDepth 100000 in
theorem ca_X4_signFault : c_all m_tab m_X4_signFault = true := by decide +kernel
set_option maxRecDepth 100000 in
theorem ca_X5_init : c_all m_tab m_X5_init = true := by decide +kernel
set_option maxRecDepth 100000 in
theorem ca_X5_row : c_all m_tab m_X5_row = true := by decide +kernel
set_option maxRecDepth 100000 in
theorem ca_X5_takeEvents : c_all m_tab m_X5_takeEvents = true := by decide +kernel
set_option maxRecDepth 100000 in
theorem ca_X5_takeRowers : c_all m_tab m_X5_takeRowers = true := by decide +kernel
set_option maxRecDepth 100000 in
theorem ca_X5_pullAll : c_all m_tab m_X5_pullAll = true := by decide +kernel
set_option maxRecDepth 100000 in
theorem ca_X5_placeBehind : c_all m_tab m_X5_placeBehind = true := by decide +kernel
set_option maxRecDepth 100000 in
theorem ca_X5_metresIn : c_all m_tab m_X5_metresIn = true := by decide +kernel
set_option maxRecDepth 100000 in
theorem ca_X5_minutesAground : c_all m_tab m_X5_minutesAground = true := by decide +kernel
set_option maxRecDepth 100000 in
theorem ca_X5_firstAground : c_all m_tab m_X5_firstAground = true := by decide +kernel
set_option maxRecDepth 100000 in
theorem ca_X5_lastStray : c_all m_tab m_X5_lastStray = true := by decide +kernel
set_option maxRecDepth 100000 in
theorem ca_X5_farthestStray : c_all m_tab m_X5_farthestStray = true := by decide +kernel
set_option maxRecDepth 100000 in
theorem ca_J6_bitCount_0f7a4 : c_all m_tab m_J6_bitCount_0f7a4 = true := by decide +kernel
set_option maxRecDepth 100000 in
theorem ca_J7_fill_53178 : c_all m_tab m_J7_fill_53178 = true := by decide +kernel
