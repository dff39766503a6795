set_option maxRecDepth 100000 in
theorem g_v225_9 : ∀ pc, pc < 1080 → e_chk cL_law g_t225 pc = true := e_rng2 (n := 120) rfl g_v225_8 (by decide +kernel)
set_option maxRecDepth 100000 in
theorem g_v225_10 : ∀ pc, pc < 1200 → e_chk cL_law g_t225 pc = true := e_rng2 (n := 120) rfl g_v225_9 (by decide +kernel)
set_option maxRecDepth 100000 in
theorem g_v225_11 : ∀ pc, pc < 1320 → e_chk cL_law g_t225 pc = true := e_rng2 (n := 120) rfl g_v225_10 (by decide +kernel)
set_option maxRecDepth 100000 in
theorem g_v225_12 : ∀ pc, pc < 1440 → e_chk cL_law g_t225 pc = true := e_rng2 (n := 120) rfl g_v225_11 (by decide +kernel)
