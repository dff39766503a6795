/-! CALLS ON FRESH OBJECTS -/
set_option maxRecDepth 1000000 in
theorem g_r235 : a_run g_P 106 2419 20000 (g_T 235) = true := by decide +kernel
set_option maxRecDepth 1000000 in
theorem g_r284 : a_run g_P 106 2419 20000 (g_T 284) = true := by decide +kernel
set_option maxRecDepth 1000000 in
theorem g_r373 : a_run g_P 106 2419 20000 (g_T 373) = true := by decide +kernel
set_option maxRecDepth 1000000 in
theorem g_r462 : a_run g_P 106 2419 20000 (g_T 462) = true := by decide +kernel
set_option maxRecDepth 1000000 in
theorem g_r571 : a_run g_P 106 2419 20000 (g_T 571) = true := by decide +kernel
set_option maxRecDepth 1000000 in
theorem g_r680 : a_run g_P 106 2419 20000 (g_T 680) = true := by decide +kernel
set_option maxRecDepth 1000000 in
theorem g_r759 : a_run g_P 106 2419 20000 (g_T 759) = true := by decide +kernel
set_option maxRecDepth 1000000 in
theorem g_r838 : a_run g_P 106 2419 20000 (g_T 838) = true := by decide +kernel
set_option maxRecDepth 1000000 in
theorem g_r927 : a_run g_P 106 2419 20000 (g_T 927) = true := by decide +kernel
set_option maxRecDepth 1000000 in
theorem g_r1028 : a_run g_P 106 2419 20000 (g_T 1028) = true := by decide +kernel
set_option maxRecDepth 1000000 in
theorem g_r1123 : a_run g_P 106 2419 20000 (g_T 1123) = true := by decide +kernel
set_option maxRecDepth 1000000 in
theorem g_r1222 : a_run g_P 106 2419 20000 (g_T 1222) = true := by decide +kernel
set_option maxRecDepth 1000000 in
theorem g_r1407 : a_run g_P 106 2419 20000 (g_T 1407) = true := by decide +kernel
