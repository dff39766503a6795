/-! A CALL ON FRESH OBJECTS, CUT INTO ITS WAYS -/
set_option maxRecDepth 1000000 in
theorem g_b1354_s : (a_bf g_P 106 2419 60 [g_T 1354]).isSome = true := by decide +kernel
set_option maxRecDepth 1000000 in
theorem g_b1354_l : Nat.ble ((a_bf g_P 106 2419 60 [g_T 1354]).getD []).length 48 = true := by decide +kernel
set_option maxRecDepth 1000000 in
theorem g_b1354_0 : a_run g_P 106 2419 20000 (((a_bf g_P 106 2419 60 [g_T 1354]).getD []).getD 0 (g_T 1443)) = true := by decide +kernel
set_option maxRecDepth 1000000 in
theorem g_b1354_1 : a_run g_P 106 2419 20000 (((a_bf g_P 106 2419 60 [g_T 1354]).getD []).getD 1 (g_T 1443)) = true := by decide +kernel
set_option maxRecDepth 1000000 in
theorem g_b1354_2 : a_run g_P 106 2419 20000 (((a_bf g_P 106 2419 60 [g_T 1354]).getD []).getD 2 (g_T 1443)) = true := by decide +kernel
set_option maxRecDepth 1000000 in
theorem g_b1354_3 : a_run g_P 106 2419 20000 (((a_bf g_P 106 2419 60 [g_T 1354]).getD []).getD 3 (g_T 1443)) = true := by decide +kernel
set_option maxRecDepth 1000000 in
theorem g_b1354_4 : a_run g_P 106 2419 20000 (((a_bf g_P 106 2419 60 [g_T 1354]).getD []).getD 4 (g_T 1443)) = true := by decide +kernel
set_option maxRecDepth 1000000 in
theorem g_b1354_5 : a_run g_P 106 2419 20000 (((a_bf g_P 106 2419 60 [g_T 1354]).getD []).getD 5 (g_T 1443)) = true := by decide +kernel
set_option maxRecDepth 1000000 in
theorem g_b1354_7 : a_run g_P 106 2419 20000 (((a_bf g_P 106 2419 60 [g_T 1354]).getD []).getD 7 (g_T 1443)) = true := by decide +kernel
set_option maxRecDepth 1000000 in
theorem g_b1354_8 : a_run g_P 106 2419 20000 (((a_bf g_P 106 2419 60 [g_T 1354]).getD []).getD 8 (g_T 1443)) = true := by decide +kernel
set_option maxRecDepth 1000000 in
theorem g_b1354_9 : a_run g_P 106 2419 20000 (((a_bf g_P 106 2419 60 [g_T 1354]).getD []).getD 9 (g_T 1443)) = true := by decide +kernel
set_option maxRecDepth 1000000 in
theorem g_b1354_10 : a_run g_P 106 2419 20000 (((a_bf g_P 106 2419 60 [g_T 1354]).getD []).getD 10 (g_T 1443)) = true := by decide +kernel
set_option maxRecDepth 1000000 in
theorem g_b1354_11 : a_run g_P 106 2419 20000 (((a_bf g_P 106 2419 60 [g_T 1354]).getD []).getD 11 (g_T 1443)) = true := by decide +kernel
set_option maxRecDepth 1000000 in
theorem g_b1354_12 : a_run g_P 106 2419 20000 (((a_bf g_P 106 2419 60 [g_T 1354]).getD []).getD 12 (g_T 1443)) = true := by decide +kernel
set_option maxRecDepth 1000000 in
theorem g_b1354_13 : a_run g_P 106 2419 20000 (((a_bf g_P 106 2419 60 [g_T 1354]).getD []).getD 13 (g_T 1443)) = true := by decide +kernel
set_option maxRecDepth 1000000 in
theorem g_b1354_14 : a_run g_P 106 2419 20000 (((a_bf g_P 106 2419 60 [g_T 1354]).getD []).getD 14 (g_T 1443)) = true := by decide +kernel
set_option maxRecDepth 1000000 in
theorem g_b1354_15 : a_run g_P 106 2419 20000 (((a_bf g_P 106 2419 60 [g_T 1354]).getD []).getD 15 (g_T 1443)) = true := by decide +kernel
set_option maxRecDepth 1000000 in
theorem g_b1354_16 : a_run g_P 106 2419 20000 (((a_bf g_P 106 2419 60 [g_T 1354]).getD []).getD 16 (g_T 1443)) = true := by decide +kernel
set_option maxRecDepth 1000000 in
theorem g_b1354_17 : a_run g_P 106 2419 20000 (((a_bf g_P 106 2419 60 [g_T 1354]).getD []).getD 17 (g_T 1443)) = true := by decide +kernel
set_option maxRecDepth 1000000 in
theorem g_b1354_18 : a_run g_P 106 2419 20000 (((a_bf g_P 106 2419 60 [g_T 1354]).getD []).getD 18 (g_T 1443)) = true := by decide +kernel
set_option maxRecDepth 1000000 in
theorem g_b1354_19 : a_run g_P 106 2419 20000 (((a_bf g_P 106 2419 60 [g_T 1354]).getD []).getD 19 (g_T 1443)) = true := by decide +kernel
set_option maxRecDepth 1000000 in
theorem g_b1354_20 : a_run g_P 106 2419 20000 (((a_bf g_P 106 2419 60 [g_T 1354]).getD []).getD 20 (g_T 1443)) = true := by decide +kernel
set_option maxRecDepth 1000000 in
theorem g_b1354_21 : a_run g_P 106 2419 20000 (((a_bf g_P 106 2419 60 [g_T 1354]).getD []).getD 21 (g_T 1443)) = true := by decide +kernel
set_option maxRecDepth 1000000 in
theorem g_b1354_22 : a_run g_P 106 2419 20000 (((a_bf g_P 106 2419 60 [g_T 1354]).getD []).getD 22 (g_T 1443)) = true := by decide +kernel
set_option maxRecDepth 1000000 in
theorem g_b1354_23 : a_run g_P 106 2419 20000 (((a_bf g_P 106 2419 60 [g_T 1354]).getD []).getD 23 (g_T 1443)) = true := by decide +kernel
set_option maxRecDepth 1000000 in
theorem g_b1354_24 : a_run g_P 106 2419 20000 (((a_bf g_P 106 2419 60 [g_T 1354]).getD []).getD 24 (g_T 1443)) = true := by decide +kernel
set_option maxRecDepth 1000000 in
theorem g_b1354_25 : a_run g_P 106 2419 20000 (((a_bf g_P 106 2419 60 [g_T 1354]).getD []).getD 25 (g_T 1443)) = true := by decide +kernel
set_option maxRecDepth 1000000 in
theorem g_b1354_26 : a_run g_P 106 2419 20000 (((a_bf g_P 106 2419 60 [g_T 1354]).getD []).getD 26 (g_T 1443)) = true := by decide +kernel
set_option maxRecDepth 1000000 in
theorem g_b1354_27 : a_run g_P 106 2419 20000 (((a_bf g_P 106 2419 60 [g_T 1354]).getD []).getD 27 (g_T 1443)) = true := by decide +kernel
set_option maxRecDepth 1000000 in
theorem g_b1354_28 : a_run g_P 106 2419 20000 (((a_bf g_P 106 2419 60 [g_T 1354]).getD []).getD 28 (g_T 1443)) = true := by decide +kernel
set_option maxRecDepth 1000000 in
theorem g_b1354_29 : a_run g_P 106 2419 20000 (((a_bf g_P 106 2419 60 [g_T 1354]).getD []).getD 29 (g_T 1443)) = true := by decide +kernel
set_option maxRecDepth 1000000 in
theorem g_b1354_30 : a_run g_P 106 2419 20000 (((a_bf g_P 106 2419 60 [g_T 1354]).getD []).getD 30 (g_T 1443)) = true := by decide +kernel
set_option maxRecDepth 1000000 in
theorem g_b1354_31 : a_run g_P 106 2419 20000 (((a_bf g_P 106 2419 60 [g_T 1354]).getD []).getD 31 (g_T 1443)) = true := by decide +kernel
set_option maxRecDepth 1000000 in
theorem g_b1354_32 : a_run g_P 106 2419 20000 (((a_bf g_P 106 2419 60 [g_T 1354]).getD []).getD 32 (g_T 1443)) = true := by decide +kernel
set_option maxRecDepth 1000000 in
theorem g_b1354_33 : a_run g_P 106 2419 20000 (((a_bf g_P 106 2419 60 [g_T 1354]).getD []).getD 33 (g_T 1443)) = true := by decide +kernel
set_option maxRecDepth 1000000 in
theorem g_b1354_34 : a_run g_P 106 2419 20000 (((a_bf g_P 106 2419 60 [g_T 1354]).getD []).getD 34 (g_T 1443)) = true := by decide +kernel
set_option maxRecDepth 1000000 in
theorem g_b1354_35 : a_run g_P 106 2419 20000 (((a_bf g_P 106 2419 60 [g_T 1354]).getD []).getD 35 (g_T 1443)) = true := by decide +kernel
set_option maxRecDepth 1000000 in
theorem g_b1354_36 : a_run g_P 106 2419 20000 (((a_bf g_P 106 2419 60 [g_T 1354]).getD []).getD 36 (g_T 1443)) = true := by decide +kernel
set_option maxRecDepth 1000000 in
theorem g_b1354_37 : a_run g_P 106 2419 20000 (((a_bf g_P 106 2419 60 [g_T 1354]).getD []).getD 37 (g_T 1443)) = true := by decide +kernel
set_option maxRecDepth 1000000 in
theorem g_b1354_38 : a_run g_P 106 2419 20000 (((a_bf g_P 106 2419 60 [g_T 1354]).getD []).getD 38 (g_T 1443)) = true := by decide +kernel
set_option maxRecDepth 1000000 in
theorem g_b1354_39 : a_run g_P 106 2419 20000 (((a_bf g_P 106 2419 60 [g_T 1354]).getD []).getD 39 (g_T 1443)) = true := by decide +kernel
set_option maxRecDepth 1000000 in
theorem g_b1354_40 : a_run g_P 106 2419 20000 (((a_bf g_P 106 2419 60 [g_T 1354]).getD []).getD 40 (g_T 1443)) = true := by decide +kernel
set_option maxRecDepth 1000000 in
theorem g_b1354_41 : a_run g_P 106 2419 20000 (((a_bf g_P 106 2419 60 [g_T 1354]).getD []).getD 41 (g_T 1443)) = true := by decide +kernel
set_option maxRecDepth 1000000 in
theorem g_b1354_42 : a_run g_P 106 2419 20000 (((a_bf g_P 106 2419 60 [g_T 1354]).getD []).getD 42 (g_T 1443)) = true := by decide +kernel
set_option maxRecDepth 1000000 in
theorem g_b1354_43 : a_run g_P 106 2419 20000 (((a_bf g_P 106 2419 60 [g_T 1354]).getD []).getD 43 (g_T 1443)) = true := by decide +kernel
set_option maxRecDepth 1000000 in
theorem g_b1354_44 : a_run g_P 106 2419 20000 (((a_bf g_P 106 2419 60 [g_T 1354]).getD []).getD 44 (g_T 1443)) = true := by decide +kernel
set_option maxRecDepth 1000000 in
theorem g_b1354_45 : a_run g_P 106 2419 20000 (((a_bf g_P 106 2419 60 [g_T 1354]).getD []).getD 45 (g_T 1443)) = true := by decide +kernel
set_option maxRecDepth 1000000 in
theorem g_b1354_46 : a_run g_P 106 2419 20000 (((a_bf g_P 106 2419 60 [g_T 1354]).getD []).getD 46 (g_T 1443)) = true := by decide +kernel
set_option maxRecDepth 1000000 in
theorem g_b1354_47 : a_run g_P 106 2419 20000 (((a_bf g_P 106 2419 60 [g_T 1354]).getD []).getD 47 (g_T 1443)) = true := by decide +kernel
theorem g_b1354_a (ρ : Nat → Int32) : ∀ i, i < 48 → a_good g_P 106 2419 ρ (((a_bf g_P 106 2419 60 [g_T 1354]).getD []).getD i (g_T 1443))
  | 0, _ => a_good_run ρ g_b1354_0
  | 1, _ => a_good_run ρ g_b1354_1
  | 2, _ => a_good_run ρ g_b1354_2
  | 3, _ => a_good_run ρ g_b1354_3
  | 4, _ => a_good_run ρ g_b1354_4
  | 5, _ => a_good_run ρ g_b1354_5
  | 6, _ => g_b1354_6g ρ
  | 7, _ => a_good_run ρ g_b1354_7
  | 8, _ => a_good_run ρ g_b1354_8
  | 9, _ => a_good_run ρ g_b1354_9
  | 10, _ => a_good_run ρ g_b1354_10
  | 11, _ => a_good_run ρ g_b1354_11
  | 12, _ => a_good_run ρ g_b1354_12
  | 13, _ => a_good_run ρ g_b1354_13
  | 14, _ => a_good_run ρ g_b1354_14
  | 15, _ => a_good_run ρ g_b1354_15
  | 16, _ => a_good_run ρ g_b1354_16
  | 17, _ => a_good_run ρ g_b1354_17
  | 18, _ => a_good_run ρ g_b1354_18
  | 19, _ => a_good_run ρ g_b1354_19
  | 20, _ => a_good_run ρ g_b1354_20
  | 21, _ => a_good_run ρ g_b1354_21
  | 22, _ => a_good_run ρ g_b1354_22
  | 23, _ => a_good_run ρ g_b1354_23
  | 24, _ => a_good_run ρ g_b1354_24
  | 25, _ => a_good_run ρ g_b1354_25
  | 26, _ => a_good_run ρ g_b1354_26
  | 27, _ => a_good_run ρ g_b1354_27
  | 28, _ => a_good_run ρ g_b1354_28
  | 29, _ => a_good_run ρ g_b1354_29
  | 30, _ => a_good_run ρ g_b1354_30
  | 31, _ => a_good_run ρ g_b1354_31
  | 32, _ => a_good_run ρ g_b1354_32
  | 33, _ => a_good_run ρ g_b1354_33
  | 34, _ => a_good_run ρ g_b1354_34
  | 35, _ => a_good_run ρ g_b1354_35
  | 36, _ => a_good_run ρ g_b1354_36
  | 37, _ => a_good_run ρ g_b1354_37
  | 38, _ => a_good_run ρ g_b1354_38
  | 39, _ => a_good_run ρ g_b1354_39
  | 40, _ => a_good_run ρ g_b1354_40
  | 41, _ => a_good_run ρ g_b1354_41
  | 42, _ => a_good_run ρ g_b1354_42
  | 43, _ => a_good_run ρ g_b1354_43
  | 44, _ => a_good_run ρ g_b1354_44
  | 45, _ => a_good_run ρ g_b1354_45
  | 46, _ => a_good_run ρ g_b1354_46
  | 47, _ => a_good_run ρ g_b1354_47
  | i + 48, h => absurd h (by omega)
theorem g_g1354 (ρ : Nat → Int32) : a_good g_P 106 2419 ρ (g_T 1354) := a_good_at (n := 60) (l := [g_T 1354]) (d := g_T 1443) 48 g_b1354_s g_b1354_l (g_b1354_a ρ) _ (List.mem_singleton.mpr rfl)
