/-! A CALL ON FRESH OBJECTS, CUT INTO ITS WAYS -/
set_option maxRecDepth 1000000 in
theorem g_b1268_s : (a_bf g_P 106 2419 55 [g_T 1268]).isSome = true := by decide +kernel
set_option maxRecDepth 1000000 in
theorem g_b1268_l : Nat.ble ((a_bf g_P 106 2419 55 [g_T 1268]).getD []).length 32 = true := by decide +kernel
set_option maxRecDepth 1000000 in
theorem g_b1268_0 : a_run g_P 106 2419 20000 (((a_bf g_P 106 2419 55 [g_T 1268]).getD []).getD 0 (g_T 1443)) = true := by decide +kernel
set_option maxRecDepth 1000000 in
theorem g_b1268_1 : a_run g_P 106 2419 20000 (((a_bf g_P 106 2419 55 [g_T 1268]).getD []).getD 1 (g_T 1443)) = true := by decide +kernel
set_option maxRecDepth 1000000 in
theorem g_b1268_2 : a_run g_P 106 2419 20000 (((a_bf g_P 106 2419 55 [g_T 1268]).getD []).getD 2 (g_T 1443)) = true := by decide +kernel
set_option maxRecDepth 1000000 in
theorem g_b1268_3 : a_run g_P 106 2419 20000 (((a_bf g_P 106 2419 55 [g_T 1268]).getD []).getD 3 (g_T 1443)) = true := by decide +kernel
set_option maxRecDepth 1000000 in
theorem g_b1268_4 : a_run g_P 106 2419 20000 (((a_bf g_P 106 2419 55 [g_T 1268]).getD []).getD 4 (g_T 1443)) = true := by decide +kernel
set_option maxRecDepth 1000000 in
theorem g_b1268_5 : a_run g_P 106 2419 20000 (((a_bf g_P 106 2419 55 [g_T 1268]).getD []).getD 5 (g_T 1443)) = true := by decide +kernel
set_option maxRecDepth 1000000 in
theorem g_b1268_6 : a_run g_P 106 2419 20000 (((a_bf g_P 106 2419 55 [g_T 1268]).getD []).getD 6 (g_T 1443)) = true := by decide +kernel
set_option maxRecDepth 1000000 in
theorem g_b1268_7 : a_run g_P 106 2419 20000 (((a_bf g_P 106 2419 55 [g_T 1268]).getD []).getD 7 (g_T 1443)) = true := by decide +kernel
set_option maxRecDepth 1000000 in
theorem g_b1268_8 : a_run g_P 106 2419 20000 (((a_bf g_P 106 2419 55 [g_T 1268]).getD []).getD 8 (g_T 1443)) = true := by decide +kernel
set_option maxRecDepth 1000000 in
theorem g_b1268_9 : a_run g_P 106 2419 20000 (((a_bf g_P 106 2419 55 [g_T 1268]).getD []).getD 9 (g_T 1443)) = true := by decide +kernel
set_option maxRecDepth 1000000 in
theorem g_b1268_10 : a_run g_P 106 2419 20000 (((a_bf g_P 106 2419 55 [g_T 1268]).getD []).getD 10 (g_T 1443)) = true := by decide +kernel
set_option maxRecDepth 1000000 in
theorem g_b1268_11 : a_run g_P 106 2419 20000 (((a_bf g_P 106 2419 55 [g_T 1268]).getD []).getD 11 (g_T 1443)) = true := by decide +kernel
set_option maxRecDepth 1000000 in
theorem g_b1268_12 : a_run g_P 106 2419 20000 (((a_bf g_P 106 2419 55 [g_T 1268]).getD []).getD 12 (g_T 1443)) = true := by decide +kernel
set_option maxRecDepth 1000000 in
theorem g_b1268_13 : a_run g_P 106 2419 20000 (((a_bf g_P 106 2419 55 [g_T 1268]).getD []).getD 13 (g_T 1443)) = true := by decide +kernel
set_option maxRecDepth 1000000 in
theorem g_b1268_14 : a_run g_P 106 2419 20000 (((a_bf g_P 106 2419 55 [g_T 1268]).getD []).getD 14 (g_T 1443)) = true := by decide +kernel
set_option maxRecDepth 1000000 in
theorem g_b1268_15 : a_run g_P 106 2419 20000 (((a_bf g_P 106 2419 55 [g_T 1268]).getD []).getD 15 (g_T 1443)) = true := by decide +kernel
set_option maxRecDepth 1000000 in
theorem g_b1268_16 : a_run g_P 106 2419 20000 (((a_bf g_P 106 2419 55 [g_T 1268]).getD []).getD 16 (g_T 1443)) = true := by decide +kernel
set_option maxRecDepth 1000000 in
theorem g_b1268_17 : a_run g_P 106 2419 20000 (((a_bf g_P 106 2419 55 [g_T 1268]).getD []).getD 17 (g_T 1443)) = true := by decide +kernel
set_option maxRecDepth 1000000 in
theorem g_b1268_18 : a_run g_P 106 2419 20000 (((a_bf g_P 106 2419 55 [g_T 1268]).getD []).getD 18 (g_T 1443)) = true := by decide +kernel
set_option maxRecDepth 1000000 in
theorem g_b1268_19 : a_run g_P 106 2419 20000 (((a_bf g_P 106 2419 55 [g_T 1268]).getD []).getD 19 (g_T 1443)) = true := by decide +kernel
set_option maxRecDepth 1000000 in
theorem g_b1268_20 : a_run g_P 106 2419 20000 (((a_bf g_P 106 2419 55 [g_T 1268]).getD []).getD 20 (g_T 1443)) = true := by decide +kernel
set_option maxRecDepth 1000000 in
theorem g_b1268_21 : a_run g_P 106 2419 20000 (((a_bf g_P 106 2419 55 [g_T 1268]).getD []).getD 21 (g_T 1443)) = true := by decide +kernel
set_option maxRecDepth 1000000 in
theorem g_b1268_22 : a_run g_P 106 2419 20000 (((a_bf g_P 106 2419 55 [g_T 1268]).getD []).getD 22 (g_T 1443)) = true := by decide +kernel
set_option maxRecDepth 1000000 in
theorem g_b1268_23 : a_run g_P 106 2419 20000 (((a_bf g_P 106 2419 55 [g_T 1268]).getD []).getD 23 (g_T 1443)) = true := by decide +kernel
set_option maxRecDepth 1000000 in
theorem g_b1268_24 : a_run g_P 106 2419 20000 (((a_bf g_P 106 2419 55 [g_T 1268]).getD []).getD 24 (g_T 1443)) = true := by decide +kernel
set_option maxRecDepth 1000000 in
theorem g_b1268_25 : a_run g_P 106 2419 20000 (((a_bf g_P 106 2419 55 [g_T 1268]).getD []).getD 25 (g_T 1443)) = true := by decide +kernel
set_option maxRecDepth 1000000 in
theorem g_b1268_26 : a_run g_P 106 2419 20000 (((a_bf g_P 106 2419 55 [g_T 1268]).getD []).getD 26 (g_T 1443)) = true := by decide +kernel
set_option maxRecDepth 1000000 in
theorem g_b1268_27 : a_run g_P 106 2419 20000 (((a_bf g_P 106 2419 55 [g_T 1268]).getD []).getD 27 (g_T 1443)) = true := by decide +kernel
set_option maxRecDepth 1000000 in
theorem g_b1268_28 : a_run g_P 106 2419 20000 (((a_bf g_P 106 2419 55 [g_T 1268]).getD []).getD 28 (g_T 1443)) = true := by decide +kernel
set_option maxRecDepth 1000000 in
theorem g_b1268_29 : a_run g_P 106 2419 20000 (((a_bf g_P 106 2419 55 [g_T 1268]).getD []).getD 29 (g_T 1443)) = true := by decide +kernel
set_option maxRecDepth 1000000 in
theorem g_b1268_30 : a_run g_P 106 2419 20000 (((a_bf g_P 106 2419 55 [g_T 1268]).getD []).getD 30 (g_T 1443)) = true := by decide +kernel
set_option maxRecDepth 1000000 in
theorem g_b1268_31 : a_run g_P 106 2419 20000 (((a_bf g_P 106 2419 55 [g_T 1268]).getD []).getD 31 (g_T 1443)) = true := by decide +kernel
theorem g_b1268_a (ρ : Nat → Int32) : ∀ i, i < 32 → a_good g_P 106 2419 ρ (((a_bf g_P 106 2419 55 [g_T 1268]).getD []).getD i (g_T 1443))
  | 0, _ => a_good_run ρ g_b1268_0
  | 1, _ => a_good_run ρ g_b1268_1
  | 2, _ => a_good_run ρ g_b1268_2
  | 3, _ => a_good_run ρ g_b1268_3
  | 4, _ => a_good_run ρ g_b1268_4
  | 5, _ => a_good_run ρ g_b1268_5
  | 6, _ => a_good_run ρ g_b1268_6
  | 7, _ => a_good_run ρ g_b1268_7
  | 8, _ => a_good_run ρ g_b1268_8
  | 9, _ => a_good_run ρ g_b1268_9
  | 10, _ => a_good_run ρ g_b1268_10
  | 11, _ => a_good_run ρ g_b1268_11
  | 12, _ => a_good_run ρ g_b1268_12
  | 13, _ => a_good_run ρ g_b1268_13
  | 14, _ => a_good_run ρ g_b1268_14
  | 15, _ => a_good_run ρ g_b1268_15
  | 16, _ => a_good_run ρ g_b1268_16
  | 17, _ => a_good_run ρ g_b1268_17
  | 18, _ => a_good_run ρ g_b1268_18
  | 19, _ => a_good_run ρ g_b1268_19
  | 20, _ => a_good_run ρ g_b1268_20
  | 21, _ => a_good_run ρ g_b1268_21
  | 22, _ => a_good_run ρ g_b1268_22
  | 23, _ => a_good_run ρ g_b1268_23
  | 24, _ => a_good_run ρ g_b1268_24
  | 25, _ => a_good_run ρ g_b1268_25
  | 26, _ => a_good_run ρ g_b1268_26
  | 27, _ => a_good_run ρ g_b1268_27
  | 28, _ => a_good_run ρ g_b1268_28
  | 29, _ => a_good_run ρ g_b1268_29
  | 30, _ => a_good_run ρ g_b1268_30
  | 31, _ => a_good_run ρ g_b1268_31
  | i + 32, h => absurd h (by omega)
theorem g_g1268 (ρ : Nat → Int32) : a_good g_P 106 2419 ρ (g_T 1268) := a_good_at (n := 55) (l := [g_T 1268]) (d := g_T 1443) 32 g_b1268_s g_b1268_l (g_b1268_a ρ) _ (List.mem_singleton.mpr rfl)
