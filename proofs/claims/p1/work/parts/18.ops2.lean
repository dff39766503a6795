/-! CALLS ON FRESH OBJECTS -/
set_option maxRecDepth 1000000 in
theorem g_r258 : a_run g_P 106 2419 20000 (g_T 258) = true := by decide +kernel
set_option maxRecDepth 1000000 in
theorem g_r307 : a_run g_P 106 2419 20000 (g_T 307) = true := by decide +kernel
set_option maxRecDepth 1000000 in
theorem g_r406 : a_run g_P 106 2419 20000 (g_T 406) = true := by decide +kernel
set_option maxRecDepth 1000000 in
theorem g_r495 : a_run g_P 106 2419 20000 (g_T 495) = true := by decide +kernel
set_option maxRecDepth 1000000 in
theorem g_r604 : a_run g_P 106 2419 20000 (g_T 604) = true := by decide +kernel
set_option maxRecDepth 1000000 in
theorem g_r703 : a_run g_P 106 2419 20000 (g_T 703) = true := by decide +kernel
set_option maxRecDepth 1000000 in
theorem g_r782 : a_run g_P 106 2419 20000 (g_T 782) = true := by decide +kernel
set_option maxRecDepth 1000000 in
theorem g_r881 : a_run g_P 106 2419 20000 (g_T 881) = true := by decide +kernel
set_option maxRecDepth 1000000 in
theorem g_r950 : a_run g_P 106 2419 20000 (g_T 950) = true := by decide +kernel
set_option maxRecDepth 1000000 in
theorem g_r1077 : a_run g_P 106 2419 20000 (g_T 1077) = true := by decide +kernel
set_option maxRecDepth 1000000 in
theorem g_r1146 : a_run g_P 106 2419 20000 (g_T 1146) = true := by decide +kernel
set_option maxRecDepth 1000000 in
theorem g_r1245 : a_run g_P 106 2419 20000 (g_T 1245) = true := by decide +kernel
set_option maxRecDepth 1000000 in
theorem g_r1420 : a_run g_P 106 2419 20000 (g_T 1420) = true := by decide +kernel
