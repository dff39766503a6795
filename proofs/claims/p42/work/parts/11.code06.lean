set_option maxRecDepth 100000 in
theorem g_v225_5 : ∀ pc, pc < 600 → e_chk cL_law g_t225 pc = true := e_rng2 (n := 120) rfl g_v225_4 (by decide +kernel)
set_option maxRecDepth 100000 in
theorem g_v225_6 : ∀ pc, pc < 720 → e_chk cL_law g_t225 pc = true := e_rng2 (n := 120) rfl g_v225_5 (by decide +kernel)
set_option maxRecDepth 100000 in
theorem g_v225_7 : ∀ pc, pc < 840 → e_chk cL_law g_t225 pc = true := e_rng2 (n := 120) rfl g_v225_6 (by decide +kernel)
set_option maxRecDepth 100000 in
theorem g_v225_8 : ∀ pc, pc < 960 → e_chk cL_law g_t225 pc = true := e_rng2 (n := 120) rfl g_v225_7 (by decide +kernel)
