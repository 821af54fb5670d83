set_option maxRecDepth 100000 in
theorem cl_0 : c_sg m_tab m_L_law 0 60 = true := by decide +kernel
set_option maxRecDepth 100000 in
theorem cl_60 : c_sg m_tab m_L_law 60 60 = true := by decide +kernel
set_option maxRecDepth 100000 in
theorem cl_120 : c_sg m_tab m_L_law 120 60 = true := by decide +kernel
set_option maxRecDepth 100000 in
theorem cl_180 : c_sg m_tab m_L_law 180 60 = true := by decide +kernel
set_option maxRecDepth 100000 in
theorem cl_240 : c_sg m_tab m_L_law 240 60 = true := by decide +kernel
set_option maxRecDepth 100000 in
theorem cl_300 : c_sg m_tab m_L_law 300 60 = true := by decide +kernel
set_option maxRecDepth 100000 in
theorem cl_360 : c_sg m_tab m_L_law 360 60 = true := by decide +kernel
