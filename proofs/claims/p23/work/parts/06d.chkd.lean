set_option maxRecDepth 100000 in
theorem ca_X7_grounded : c_all m_tab m_X7_grounded = true := by decide +kernel
set_option maxRecDepth 100000 in
theorem ca_X7_strayNow : c_all m_tab m_X7_strayNow = true := by decide +kernel
set_option maxRecDepth 100000 in
theorem ca_X7_strayOf : c_all m_tab m_X7_strayOf = true := by decide +kernel
set_option maxRecDepth 100000 in
theorem ca_X7_stray : c_all m_tab m_X7_stray = true := by decide +kernel
set_option maxRecDepth 100000 in
theorem ca_X7_bestOf : c_all m_tab m_X7_bestOf = true := by decide +kernel
set_option maxRecDepth 100000 in
theorem ca_X7_best : c_all m_tab m_X7_best = true := by decide +kernel
set_option maxRecDepth 100000 in
theorem ca_X7_idleOf : c_all m_tab m_X7_idleOf = true := by decide +kernel
set_option maxRecDepth 100000 in
theorem ca_X7_idle : c_all m_tab m_X7_idle = true := by decide +kernel
set_option maxRecDepth 100000 in
theorem ca_X7_swapOf : c_all m_tab m_X7_swapOf = true := by decide +kernel
set_option maxRecDepth 100000 in
theorem ca_X7_swap : c_all m_tab m_X7_swap = true := by decide +kernel
set_option maxRecDepth 100000 in
theorem ca_X7_steerOf : c_all m_tab m_X7_steerOf = true := by decide +kernel
set_option maxRecDepth 100000 in
theorem ca_X7_steer : c_all m_tab m_X7_steer = true := by decide +kernel
set_option maxRecDepth 100000 in
theorem ca_X7_strokeOf : c_all m_tab m_X7_strokeOf = true := by decide +kernel
set_option maxRecDepth 100000 in
theorem ca_X7_stroke : c_all m_tab m_X7_stroke = true := by decide +kernel
set_option maxRecDepth 100000 in
theorem ca_X7_isSpared : c_all m_tab m_X7_isSpared = true := by decide +kernel
set_option maxRecDepth 100000 in
theorem ca_X7_spareBy : c_all m_tab m_X7_spareBy = true := by decide +kernel
set_option maxRecDepth 100000 in
theorem ca_X7_ofRow : c_all m_tab m_X7_ofRow = true := by decide +kernel
set_option maxRecDepth 100000 in
theorem ca_X7_spare : c_all m_tab m_X7_spare = true := by decide +kernel
set_option maxRecDepth 100000 in
theorem ca_X7_seen : c_all m_tab m_X7_seen = true := by decide +kernel
set_option maxRecDepth 100000 in
theorem ca_X7_forget : c_all m_tab m_X7_forget = true := by decide +kernel
set_option maxRecDepth 100000 in
theorem ca_X7_isSeen : c_all m_tab m_X7_isSeen = true := by decide +kernel
set_option maxRecDepth 100000 in
theorem ca_X7_neverNow : c_all m_tab m_X7_neverNow = true := by decide +kernel
set_option maxRecDepth 100000 in
theorem ca_X7_never : c_all m_tab m_X7_never = true := by decide +kernel
set_option maxRecDepth 100000 in
theorem ca_X7_powersBy : c_all m_tab m_X7_powersBy = true := by decide +kernel
set_option maxRecDepth 100000 in
theorem ca_X7_sortsBy : c_all m_tab m_X7_sortsBy = true := by decide +kernel
set_option maxRecDepth 100000 in
theorem ca_X7_was : c_all m_tab m_X7_was = true := by decide +kernel
set_option maxRecDepth 100000 in
theorem ca_X7_askOf : c_all m_tab m_X7_askOf = true := by decide +kernel
set_option maxRecDepth 100000 in
theorem ca_X7_ask : c_all m_tab m_X7_ask = true := by decide +kernel
set_option maxRecDepth 100000 in
theorem ca_X7_chanceOf : c_all m_tab m_X7_chanceOf = true := by decide +kernel
set_option maxRecDepth 100000 in
theorem ca_X7_chance : c_all m_tab m_X7_chance = true := by decide +kernel
set_option maxRecDepth 100000 in
theorem ca_X7_yearsOf : c_all m_tab m_X7_yearsOf = true := by decide +kernel
set_option maxRecDepth 100000 in
theorem ca_X7_years : c_all m_tab m_X7_years = true := by decide +kernel
set_option maxRecDepth 100000 in
theorem ca_X7_meets : c_all m_tab m_X7_meets = true := by decide +kernel
set_option maxRecDepth 100000 in
theorem ca_X7_isSheet : c_all m_tab m_X7_isSheet = true := by decide +kernel
set_option maxRecDepth 100000 in
theorem ca_X7_sheet : c_all m_tab m_X7_sheet = true := by decide +kernel
set_option maxRecDepth 100000 in
theorem ca_X7_lose : c_all m_tab m_X7_lose = true := by decide +kernel
set_option maxRecDepth 100000 in
theorem ca_X7_lacks : c_all m_tab m_X7_lacks = true := by decide +kernel
set_option maxRecDepth 100000 in
theorem ca_X7_keep : c_all m_tab m_X7_keep = true := by decide +kernel
set_option maxRecDepth 100000 in
theorem ca_X7_put : c_all m_tab m_X7_put = true := by decide +kernel
set_option maxRecDepth 100000 in
theorem ca_X7_get : c_all m_tab m_X7_get = true := by decide +kernel
set_option maxRecDepth 100000 in
theorem ca_X7_copy : c_all m_tab m_X7_copy = true := by decide +kernel
set_option maxRecDepth 100000 in
theorem ca_X7_write : c_all m_tab m_X7_write = true := by decide +kernel
set_option maxRecDepth 100000 in
theorem ca_X7_tellOf : c_all m_tab m_X7_tellOf = true := by decide +kernel
set_option maxRecDepth 100000 in
theorem ca_X7_count : c_all m_tab m_X7_count = true := by decide +kernel
set_option maxRecDepth 100000 in
theorem ca_X7_minuteDigest : c_all m_tab m_X7_minuteDigest = true := by decide +kernel
set_option maxRecDepth 100000 in
theorem ca_X7_rowerDigest : c_all m_tab m_X7_rowerDigest = true := by decide +kernel
set_option maxRecDepth 100000 in
theorem ca_X7_planDigest : c_all m_tab m_X7_planDigest = true := by decide +kernel
set_option maxRecDepth 100000 in
theorem ca_X7_digest : c_all m_tab m_X7_digest = true := by decide +kernel
