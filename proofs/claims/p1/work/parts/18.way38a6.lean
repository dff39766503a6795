/-! ONE WAY OF A CALL, CUT ONCE MORE -/
set_option maxRecDepth 1000000 in
theorem g_b1354_6_s : (a_bf g_P 106 2419 40 [(((a_bf g_P 106 2419 60 [g_T 1354]).getD []).getD 6 (g_T 1443))]).isSome = true := by decide +kernel
set_option maxRecDepth 1000000 in
theorem g_b1354_6_l : Nat.ble ((a_bf g_P 106 2419 40 [(((a_bf g_P 106 2419 60 [g_T 1354]).getD []).getD 6 (g_T 1443))]).getD []).length 32 = true := by decide +kernel
set_option maxRecDepth 1000000 in
theorem g_b1354_6_0 : a_run g_P 106 2419 20000 (((a_bf g_P 106 2419 40 [(((a_bf g_P 106 2419 60 [g_T 1354]).getD []).getD 6 (g_T 1443))]).getD []).getD 0 (g_T 1443)) = true := by decide +kernel
set_option maxRecDepth 1000000 in
theorem g_b1354_6_1 : a_run g_P 106 2419 20000 (((a_bf g_P 106 2419 40 [(((a_bf g_P 106 2419 60 [g_T 1354]).getD []).getD 6 (g_T 1443))]).getD []).getD 1 (g_T 1443)) = true := by decide +kernel
set_option maxRecDepth 1000000 in
theorem g_b1354_6_2 : a_run g_P 106 2419 20000 (((a_bf g_P 106 2419 40 [(((a_bf g_P 106 2419 60 [g_T 1354]).getD []).getD 6 (g_T 1443))]).getD []).getD 2 (g_T 1443)) = true := by decide +kernel
set_option maxRecDepth 1000000 in
theorem g_b1354_6_3 : a_run g_P 106 2419 20000 (((a_bf g_P 106 2419 40 [(((a_bf g_P 106 2419 60 [g_T 1354]).getD []).getD 6 (g_T 1443))]).getD []).getD 3 (g_T 1443)) = true := by decide +kernel
set_option maxRecDepth 1000000 in
theorem g_b1354_6_4 : a_run g_P 106 2419 20000 (((a_bf g_P 106 2419 40 [(((a_bf g_P 106 2419 60 [g_T 1354]).getD []).getD 6 (g_T 1443))]).getD []).getD 4 (g_T 1443)) = true := by decide +kernel
set_option maxRecDepth 1000000 in
theorem g_b1354_6_5 : a_run g_P 106 2419 20000 (((a_bf g_P 106 2419 40 [(((a_bf g_P 106 2419 60 [g_T 1354]).getD []).getD 6 (g_T 1443))]).getD []).getD 5 (g_T 1443)) = true := by decide +kernel
set_option maxRecDepth 1000000 in
theorem g_b1354_6_6 : a_run g_P 106 2419 20000 (((a_bf g_P 106 2419 40 [(((a_bf g_P 106 2419 60 [g_T 1354]).getD []).getD 6 (g_T 1443))]).getD []).getD 6 (g_T 1443)) = true := by decide +kernel
set_option maxRecDepth 1000000 in
theorem g_b1354_6_7 : a_run g_P 106 2419 20000 (((a_bf g_P 106 2419 40 [(((a_bf g_P 106 2419 60 [g_T 1354]).getD []).getD 6 (g_T 1443))]).getD []).getD 7 (g_T 1443)) = true := by decide +kernel
set_option maxRecDepth 1000000 in
theorem g_b1354_6_8 : a_run g_P 106 2419 20000 (((a_bf g_P 106 2419 40 [(((a_bf g_P 106 2419 60 [g_T 1354]).getD []).getD 6 (g_T 1443))]).getD []).getD 8 (g_T 1443)) = true := by decide +kernel
set_option maxRecDepth 1000000 in
theorem g_b1354_6_9 : a_run g_P 106 2419 20000 (((a_bf g_P 106 2419 40 [(((a_bf g_P 106 2419 60 [g_T 1354]).getD []).getD 6 (g_T 1443))]).getD []).getD 9 (g_T 1443)) = true := by decide +kernel
set_option maxRecDepth 1000000 in
theorem g_b1354_6_10 : a_run g_P 106 2419 20000 (((a_bf g_P 106 2419 40 [(((a_bf g_P 106 2419 60 [g_T 1354]).getD []).getD 6 (g_T 1443))]).getD []).getD 10 (g_T 1443)) = true := by decide +kernel
set_option maxRecDepth 1000000 in
theorem g_b1354_6_11 : a_run g_P 106 2419 20000 (((a_bf g_P 106 2419 40 [(((a_bf g_P 106 2419 60 [g_T 1354]).getD []).getD 6 (g_T 1443))]).getD []).getD 11 (g_T 1443)) = true := by decide +kernel
set_option maxRecDepth 1000000 in
theorem g_b1354_6_12 : a_run g_P 106 2419 20000 (((a_bf g_P 106 2419 40 [(((a_bf g_P 106 2419 60 [g_T 1354]).getD []).getD 6 (g_T 1443))]).getD []).getD 12 (g_T 1443)) = true := by decide +kernel
set_option maxRecDepth 1000000 in
theorem g_b1354_6_13 : a_run g_P 106 2419 20000 (((a_bf g_P 106 2419 40 [(((a_bf g_P 106 2419 60 [g_T 1354]).getD []).getD 6 (g_T 1443))]).getD []).getD 13 (g_T 1443)) = true := by decide +kernel
set_option maxRecDepth 1000000 in
theorem g_b1354_6_14 : a_run g_P 106 2419 20000 (((a_bf g_P 106 2419 40 [(((a_bf g_P 106 2419 60 [g_T 1354]).getD []).getD 6 (g_T 1443))]).getD []).getD 14 (g_T 1443)) = true := by decide +kernel
set_option maxRecDepth 1000000 in
theorem g_b1354_6_15 : a_run g_P 106 2419 20000 (((a_bf g_P 106 2419 40 [(((a_bf g_P 106 2419 60 [g_T 1354]).getD []).getD 6 (g_T 1443))]).getD []).getD 15 (g_T 1443)) = true := by decide +kernel
set_option maxRecDepth 1000000 in
theorem g_b1354_6_16 : a_run g_P 106 2419 20000 (((a_bf g_P 106 2419 40 [(((a_bf g_P 106 2419 60 [g_T 1354]).getD []).getD 6 (g_T 1443))]).getD []).getD 16 (g_T 1443)) = true := by decide +kernel
set_option maxRecDepth 1000000 in
theorem g_b1354_6_17 : a_run g_P 106 2419 20000 (((a_bf g_P 106 2419 40 [(((a_bf g_P 106 2419 60 [g_T 1354]).getD []).getD 6 (g_T 1443))]).getD []).getD 17 (g_T 1443)) = true := by decide +kernel
set_option maxRecDepth 1000000 in
theorem g_b1354_6_18 : a_run g_P 106 2419 20000 (((a_bf g_P 106 2419 40 [(((a_bf g_P 106 2419 60 [g_T 1354]).getD []).getD 6 (g_T 1443))]).getD []).getD 18 (g_T 1443)) = true := by decide +kernel
set_option maxRecDepth 1000000 in
theorem g_b1354_6_19 : a_run g_P 106 2419 20000 (((a_bf g_P 106 2419 40 [(((a_bf g_P 106 2419 60 [g_T 1354]).getD []).getD 6 (g_T 1443))]).getD []).getD 19 (g_T 1443)) = true := by decide +kernel
set_option maxRecDepth 1000000 in
theorem g_b1354_6_20 : a_run g_P 106 2419 20000 (((a_bf g_P 106 2419 40 [(((a_bf g_P 106 2419 60 [g_T 1354]).getD []).getD 6 (g_T 1443))]).getD []).getD 20 (g_T 1443)) = true := by decide +kernel
set_option maxRecDepth 1000000 in
theorem g_b1354_6_21 : a_run g_P 106 2419 20000 (((a_bf g_P 106 2419 40 [(((a_bf g_P 106 2419 60 [g_T 1354]).getD []).getD 6 (g_T 1443))]).getD []).getD 21 (g_T 1443)) = true := by decide +kernel
set_option maxRecDepth 1000000 in
theorem g_b1354_6_22 : a_run g_P 106 2419 20000 (((a_bf g_P 106 2419 40 [(((a_bf g_P 106 2419 60 [g_T 1354]).getD []).getD 6 (g_T 1443))]).getD []).getD 22 (g_T 1443)) = true := by decide +kernel
set_option maxRecDepth 1000000 in
theorem g_b1354_6_23 : a_run g_P 106 2419 20000 (((a_bf g_P 106 2419 40 [(((a_bf g_P 106 2419 60 [g_T 1354]).getD []).getD 6 (g_T 1443))]).getD []).getD 23 (g_T 1443)) = true := by decide +kernel
set_option maxRecDepth 1000000 in
theorem g_b1354_6_24 : a_run g_P 106 2419 20000 (((a_bf g_P 106 2419 40 [(((a_bf g_P 106 2419 60 [g_T 1354]).getD []).getD 6 (g_T 1443))]).getD []).getD 24 (g_T 1443)) = true := by decide +kernel
set_option maxRecDepth 1000000 in
theorem g_b1354_6_25 : a_run g_P 106 2419 20000 (((a_bf g_P 106 2419 40 [(((a_bf g_P 106 2419 60 [g_T 1354]).getD []).getD 6 (g_T 1443))]).getD []).getD 25 (g_T 1443)) = true := by decide +kernel
set_option maxRecDepth 1000000 in
theorem g_b1354_6_26 : a_run g_P 106 2419 20000 (((a_bf g_P 106 2419 40 [(((a_bf g_P 106 2419 60 [g_T 1354]).getD []).getD 6 (g_T 1443))]).getD []).getD 26 (g_T 1443)) = true := by decide +kernel
set_option maxRecDepth 1000000 in
theorem g_b1354_6_27 : a_run g_P 106 2419 20000 (((a_bf g_P 106 2419 40 [(((a_bf g_P 106 2419 60 [g_T 1354]).getD []).getD 6 (g_T 1443))]).getD []).getD 27 (g_T 1443)) = true := by decide +kernel
set_option maxRecDepth 1000000 in
theorem g_b1354_6_28 : a_run g_P 106 2419 20000 (((a_bf g_P 106 2419 40 [(((a_bf g_P 106 2419 60 [g_T 1354]).getD []).getD 6 (g_T 1443))]).getD []).getD 28 (g_T 1443)) = true := by decide +kernel
set_option maxRecDepth 1000000 in
theorem g_b1354_6_29 : a_run g_P 106 2419 20000 (((a_bf g_P 106 2419 40 [(((a_bf g_P 106 2419 60 [g_T 1354]).getD []).getD 6 (g_T 1443))]).getD []).getD 29 (g_T 1443)) = true := by decide +kernel
set_option maxRecDepth 1000000 in
theorem g_b1354_6_30 : a_run g_P 106 2419 20000 (((a_bf g_P 106 2419 40 [(((a_bf g_P 106 2419 60 [g_T 1354]).getD []).getD 6 (g_T 1443))]).getD []).getD 30 (g_T 1443)) = true := by decide +kernel
set_option maxRecDepth 1000000 in
theorem g_b1354_6_31 : a_run g_P 106 2419 20000 (((a_bf g_P 106 2419 40 [(((a_bf g_P 106 2419 60 [g_T 1354]).getD []).getD 6 (g_T 1443))]).getD []).getD 31 (g_T 1443)) = true := by decide +kernel
theorem g_b1354_6_a (ρ : Nat → Int32) : ∀ i, i < 32 → a_good g_P 106 2419 ρ (((a_bf g_P 106 2419 40 [(((a_bf g_P 106 2419 60 [g_T 1354]).getD []).getD 6 (g_T 1443))]).getD []).getD i (g_T 1443))
  | 0, _ => a_good_run ρ g_b1354_6_0
  | 1, _ => a_good_run ρ g_b1354_6_1
  | 2, _ => a_good_run ρ g_b1354_6_2
  | 3, _ => a_good_run ρ g_b1354_6_3
  | 4, _ => a_good_run ρ g_b1354_6_4
  | 5, _ => a_good_run ρ g_b1354_6_5
  | 6, _ => a_good_run ρ g_b1354_6_6
  | 7, _ => a_good_run ρ g_b1354_6_7
  | 8, _ => a_good_run ρ g_b1354_6_8
  | 9, _ => a_good_run ρ g_b1354_6_9
  | 10, _ => a_good_run ρ g_b1354_6_10
  | 11, _ => a_good_run ρ g_b1354_6_11
  | 12, _ => a_good_run ρ g_b1354_6_12
  | 13, _ => a_good_run ρ g_b1354_6_13
  | 14, _ => a_good_run ρ g_b1354_6_14
  | 15, _ => a_good_run ρ g_b1354_6_15
  | 16, _ => a_good_run ρ g_b1354_6_16
  | 17, _ => a_good_run ρ g_b1354_6_17
  | 18, _ => a_good_run ρ g_b1354_6_18
  | 19, _ => a_good_run ρ g_b1354_6_19
  | 20, _ => a_good_run ρ g_b1354_6_20
  | 21, _ => a_good_run ρ g_b1354_6_21
  | 22, _ => a_good_run ρ g_b1354_6_22
  | 23, _ => a_good_run ρ g_b1354_6_23
  | 24, _ => a_good_run ρ g_b1354_6_24
  | 25, _ => a_good_run ρ g_b1354_6_25
  | 26, _ => a_good_run ρ g_b1354_6_26
  | 27, _ => a_good_run ρ g_b1354_6_27
  | 28, _ => a_good_run ρ g_b1354_6_28
  | 29, _ => a_good_run ρ g_b1354_6_29
  | 30, _ => a_good_run ρ g_b1354_6_30
  | 31, _ => a_good_run ρ g_b1354_6_31
  | i + 32, h => absurd h (by omega)
theorem g_b1354_6g (ρ : Nat → Int32) : a_good g_P 106 2419 ρ (((a_bf g_P 106 2419 60 [g_T 1354]).getD []).getD 6 (g_T 1443)) := a_good_at (n := 40) (l := [(((a_bf g_P 106 2419 60 [g_T 1354]).getD []).getD 6 (g_T 1443))]) (d := g_T 1443) 32 g_b1354_6_s g_b1354_6_l (g_b1354_6_a ρ) _ (List.mem_singleton.mpr rfl)
