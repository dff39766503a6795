/-! CALLS ON FRESH OBJECTS -/
set_option maxRecDepth 1000000 in
theorem g_r212 : a_run g_P 106 2419 20000 (g_T 212) = true := by decide +kernel
set_option maxRecDepth 1000000 in
theorem g_r271 : a_run g_P 106 2419 20000 (g_T 271) = true := by decide +kernel
set_option maxRecDepth 1000000 in
theorem g_r340 : a_run g_P 106 2419 20000 (g_T 340) = true := by decide +kernel
set_option maxRecDepth 1000000 in
theorem g_r429 : a_run g_P 106 2419 20000 (g_T 429) = true := by decide +kernel
set_option maxRecDepth 1000000 in
theorem g_r538 : a_run g_P 106 2419 20000 (g_T 538) = true := by decide +kernel
set_option maxRecDepth 1000000 in
theorem g_r637 : a_run g_P 106 2419 20000 (g_T 637) = true := by decide +kernel
set_option maxRecDepth 1000000 in
theorem g_r726 : a_run g_P 106 2419 20000 (g_T 726) = true := by decide +kernel
set_option maxRecDepth 1000000 in
theorem g_r805 : a_run g_P 106 2419 20000 (g_T 805) = true := by decide +kernel
set_option maxRecDepth 1000000 in
theorem g_r914 : a_run g_P 106 2419 20000 (g_T 914) = true := by decide +kernel
set_option maxRecDepth 1000000 in
theorem g_r984 : a_run g_P 106 2419 20000 (g_T 984) = true := by decide +kernel
set_option maxRecDepth 1000000 in
theorem g_r1100 : a_run g_P 106 2419 20000 (g_T 1100) = true := by decide +kernel
set_option maxRecDepth 1000000 in
theorem g_r1179 : a_run g_P 106 2419 20000 (g_T 1179) = true := by decide +kernel
set_option maxRecDepth 1000000 in
theorem g_r1311 : a_run g_P 106 2419 20000 (g_T 1311) = true := by decide +kernel
set_option maxRecDepth 1000000 in
theorem g_r1443 : a_run g_P 106 2419 20000 (g_T 1443) = true := by decide +kernel
