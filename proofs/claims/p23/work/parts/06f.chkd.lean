set_option maxRecDepth 100000 in
theorem cl_420 : c_sg m_tab m_L_law 420 60 = true := by decide +kernel
set_option maxRecDepth 100000 in
theorem cl_480 : c_sg m_tab m_L_law 480 60 = true := by decide +kernel
set_option maxRecDepth 100000 in
theorem cl_540 : c_sg m_tab m_L_law 540 60 = true := by decide +kernel
set_option maxRecDepth 100000 in
theorem cl_600 : c_sg m_tab m_L_law 600 60 = true := by decide +kernel
set_option maxRecDepth 100000 in
theorem cl_660 : c_sg m_tab m_L_law 660 60 = true := by decide +kernel
set_option maxRecDepth 100000 in
theorem cl_720 : c_sg m_tab m_L_law 720 60 = true := by decide +kernel
set_option maxRecDepth 100000 in
theorem cl_780 : c_sg m_tab m_L_law 780 60 = true := by decide +kernel
set_option maxRecDepth 100000 in
theorem cl_840 : c_sg m_tab m_L_law 840 60 = true := by decide +kernel
