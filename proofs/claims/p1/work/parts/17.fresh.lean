/-! THE LAW ON FRESH OBJECTS, TO ITS SWITCH -/
def d_V : DecidableEq a_V := inferInstance
def d_lV : DecidableEq (List a_V) := letI := d_V; inferInstance
def d_BA : DecidableEq (Bool × List a_V) := letI := d_lV; inferInstance
def d_NA : DecidableEq (Nat × List a_V) := letI := d_lV; inferInstance
def d_C : DecidableEq a_C := letI := d_BA; letI := d_NA; inferInstance
def d_lC : DecidableEq (List a_C) := letI := d_C; inferInstance
def d_NV : DecidableEq (Nat × a_V) := letI := d_V; inferInstance
def d_lN : DecidableEq (List (Nat × a_V)) := letI := d_NV; inferInstance
def d_Fr : DecidableEq a_Fr := letI := d_lN; letI := d_lV; letI : DecidableEq (List (Nat × a_V) × List a_V) := inferInstance; inferInstance
def d_lF : DecidableEq (List a_Fr) := letI := d_Fr; inferInstance
def d_E : DecidableEq a_E := inferInstance
def d_S : DecidableEq a_S := letI := d_lF; letI := d_Fr; letI := d_lC; letI := d_E; letI : DecidableEq (a_Fr × List a_Fr) := inferInstance; letI : DecidableEq (List a_C × a_Fr × List a_Fr) := inferInstance; inferInstance
def d_lS : DecidableEq (List a_S) := letI := d_S; inferInstance
def d_oS : DecidableEq (Option (List a_S)) := letI := d_lS; inferInstance
def g_any : Int × Int := (-2147483648, 2147483647)
def g_E : a_E := [g_any, g_any, g_any, g_any, g_any]
def g_scr (n : Nat) : a_C := .inl (false, (List.range n).map (fun i => .inr (0, i, 0, 0)))
def g_S (n : Nat) : a_S := (g_E, [g_scr n], (g_law, 0, [(0, .inl (.ref 0))], []), [])
def g_cells : List a_C := [
  .inr (9, [.inl (.ref 2), .inl (.ref 15), .inl (.ref 28), .inl (.ref 41), .inl (.ref 54), .inl (.ref 55), .inl (.ref 71), .inl (.ref 74), .inl (.ref 77), .inl (.ref 82), .inl (.ref 85), .inl (.ref 89), .inl (.int 0)]),
  .inr (0, [.inl (.ref 3), .inl (.ref 4), .inl (.ref 5), .inl (.ref 8), .inl (.ref 11), .inl (.ref 12), .inl (.ref 13), .inl (.ref 14), .inl (.int 0), .inl (.int 0), .inl (.int 0)]),
  .inl (false, [.inl (.int 0), .inl (.int 0), .inl (.int 0), .inl (.int 0), .inl (.int 0), .inl (.int 0)]),
  .inl (false, [.inl (.int 0), .inl (.int 0), .inl (.int 0), .inl (.int 0), .inl (.int 0), .inl (.int 0)]),
  .inr (4, [.inl (.ref 6), .inl (.ref 7), .inl (.int 0)]),
  .inl (false, [.inl (.int 0), .inl (.int 0), .inl (.int 0)]),
  .inl (false, [.inl (.int 0), .inl (.int 0), .inl (.int 0)]),
  .inr (4, [.inl (.ref 9), .inl (.ref 10), .inl (.int 0)]),
  .inl (false, [.inl (.int 0), .inl (.int 0), .inl (.int 0)]),
  .inl (false, [.inl (.int 0), .inl (.int 0), .inl (.int 0)]),
  .inl (false, [.inl (.int 0), .inl (.int 0), .inl (.int 0)]),
  .inl (false, [.inl (.int 0), .inl (.int 0), .inl (.int 0)]),
  .inl (false, [.inl (.int 0), .inl (.int 0), .inl (.int 0)]),
  .inl (false, [.inl (.int 0), .inl (.int 0), .inl (.int 0), .inl (.int 0), .inl (.int 0), .inl (.int 0), .inl (.int 0), .inl (.int 0)]),
  .inr (0, [.inl (.ref 16), .inl (.ref 17), .inl (.ref 18), .inl (.ref 21), .inl (.ref 24), .inl (.ref 25), .inl (.ref 26), .inl (.ref 27), .inl (.int 0), .inl (.int 0), .inl (.int 0)]),
  .inl (false, [.inl (.int 0), .inl (.int 0), .inl (.int 0), .inl (.int 0), .inl (.int 0), .inl (.int 0)]),
  .inl (false, [.inl (.int 0), .inl (.int 0), .inl (.int 0), .inl (.int 0), .inl (.int 0), .inl (.int 0)]),
  .inr (4, [.inl (.ref 19), .inl (.ref 20), .inl (.int 0)]),
  .inl (false, [.inl (.int 0), .inl (.int 0), .inl (.int 0)]),
  .inl (false, [.inl (.int 0), .inl (.int 0), .inl (.int 0)]),
  .inr (4, [.inl (.ref 22), .inl (.ref 23), .inl (.int 0)]),
  .inl (false, [.inl (.int 0), .inl (.int 0), .inl (.int 0)]),
  .inl (false, [.inl (.int 0), .inl (.int 0), .inl (.int 0)]),
  .inl (false, [.inl (.int 0), .inl (.int 0), .inl (.int 0)]),
  .inl (false, [.inl (.int 0), .inl (.int 0), .inl (.int 0)]),
  .inl (false, [.inl (.int 0), .inl (.int 0), .inl (.int 0)]),
  .inl (false, [.inl (.int 0), .inl (.int 0), .inl (.int 0), .inl (.int 0), .inl (.int 0), .inl (.int 0), .inl (.int 0), .inl (.int 0)]),
  .inr (0, [.inl (.ref 29), .inl (.ref 30), .inl (.ref 31), .inl (.ref 34), .inl (.ref 37), .inl (.ref 38), .inl (.ref 39), .inl (.ref 40), .inl (.int 0), .inl (.int 0), .inl (.int 0)]),
  .inl (false, [.inl (.int 0), .inl (.int 0), .inl (.int 0), .inl (.int 0), .inl (.int 0), .inl (.int 0)]),
  .inl (false, [.inl (.int 0), .inl (.int 0), .inl (.int 0), .inl (.int 0), .inl (.int 0), .inl (.int 0)]),
  .inr (4, [.inl (.ref 32), .inl (.ref 33), .inl (.int 0)]),
  .inl (false, [.inl (.int 0), .inl (.int 0), .inl (.int 0)]),
  .inl (false, [.inl (.int 0), .inl (.int 0), .inl (.int 0)]),
  .inr (4, [.inl (.ref 35), .inl (.ref 36), .inl (.int 0)]),
  .inl (false, [.inl (.int 0), .inl (.int 0), .inl (.int 0)]),
  .inl (false, [.inl (.int 0), .inl (.int 0), .inl (.int 0)]),
  .inl (false, [.inl (.int 0), .inl (.int 0), .inl (.int 0)]),
  .inl (false, [.inl (.int 0), .inl (.int 0), .inl (.int 0)]),
  .inl (false, [.inl (.int 0), .inl (.int 0), .inl (.int 0)]),
  .inl (false, [.inl (.int 0), .inl (.int 0), .inl (.int 0), .inl (.int 0), .inl (.int 0), .inl (.int 0), .inl (.int 0), .inl (.int 0)]),
  .inr (0, [.inl (.ref 42), .inl (.ref 43), .inl (.ref 44), .inl (.ref 47), .inl (.ref 50), .inl (.ref 51), .inl (.ref 52), .inl (.ref 53), .inl (.int 0), .inl (.int 0), .inl (.int 0)]),
  .inl (false, [.inl (.int 0), .inl (.int 0), .inl (.int 0), .inl (.int 0), .inl (.int 0), .inl (.int 0)]),
  .inl (false, [.inl (.int 0), .inl (.int 0), .inl (.int 0), .inl (.int 0), .inl (.int 0), .inl (.int 0)]),
  .inr (4, [.inl (.ref 45), .inl (.ref 46), .inl (.int 0)]),
  .inl (false, [.inl (.int 0), .inl (.int 0), .inl (.int 0)]),
  .inl (false, [.inl (.int 0), .inl (.int 0), .inl (.int 0)]),
  .inr (4, [.inl (.ref 48), .inl (.ref 49), .inl (.int 0)]),
  .inl (false, [.inl (.int 0), .inl (.int 0), .inl (.int 0)]),
  .inl (false, [.inl (.int 0), .inl (.int 0), .inl (.int 0)]),
  .inl (false, [.inl (.int 0), .inl (.int 0), .inl (.int 0)]),
  .inl (false, [.inl (.int 0), .inl (.int 0), .inl (.int 0)]),
  .inl (false, [.inl (.int 0), .inl (.int 0), .inl (.int 0)]),
  .inl (false, [.inl (.int 0), .inl (.int 0), .inl (.int 0), .inl (.int 0), .inl (.int 0), .inl (.int 0), .inl (.int 0), .inl (.int 0)]),
  .inl (true, [.inl (.int 0), .inl (.int 0)]),
  .inr (5, [.inl (.ref 56), .inl (.ref 58), .inl (.int 0), .inl (.int 0), .inl (.int 0), .inl (.int 0)]),
  .inr (7, [.inl (.ref 57), .inl (.int 0), .inl (.int 0), .inl (.int 0), .inl (.int 0), .inl (.int 0)]),
  .inl (false, List.replicate 160 (.inl (.int 0))),
  .inr (0, [.inl (.ref 59), .inl (.ref 60), .inl (.ref 61), .inl (.ref 64), .inl (.ref 67), .inl (.ref 68), .inl (.ref 69), .inl (.ref 70), .inl (.int 0), .inl (.int 0), .inl (.int 0)]),
  .inl (false, [.inl (.int 0), .inl (.int 0), .inl (.int 0), .inl (.int 0), .inl (.int 0), .inl (.int 0)]),
  .inl (false, [.inl (.int 0), .inl (.int 0), .inl (.int 0), .inl (.int 0), .inl (.int 0), .inl (.int 0)]),
  .inr (4, [.inl (.ref 62), .inl (.ref 63), .inl (.int 0)]),
  .inl (false, [.inl (.int 0), .inl (.int 0), .inl (.int 0)]),
  .inl (false, [.inl (.int 0), .inl (.int 0), .inl (.int 0)]),
  .inr (4, [.inl (.ref 65), .inl (.ref 66), .inl (.int 0)]),
  .inl (false, [.inl (.int 0), .inl (.int 0), .inl (.int 0)]),
  .inl (false, [.inl (.int 0), .inl (.int 0), .inl (.int 0)]),
  .inl (false, [.inl (.int 0), .inl (.int 0), .inl (.int 0)]),
  .inl (false, [.inl (.int 0), .inl (.int 0), .inl (.int 0)]),
  .inl (false, [.inl (.int 0), .inl (.int 0), .inl (.int 0)]),
  .inl (false, [.inl (.int 0), .inl (.int 0), .inl (.int 0), .inl (.int 0), .inl (.int 0), .inl (.int 0), .inl (.int 0), .inl (.int 0)]),
  .inr (2, [.inl (.ref 72), .inl (.ref 73), .inl (.int 0)]),
  .inl (false, List.replicate 36 (.inl (.int 0))),
  .inl (false, [.inl (.int 0), .inl (.int 0), .inl (.int 0), .inl (.int 0), .inl (.int 0), .inl (.int 0)]),
  .inr (1, [.inl (.ref 75), .inl (.ref 76), .inl (.int 0)]),
  .inl (false, List.replicate 21 (.inl (.int 0))),
  .inl (false, [.inl (.int 0), .inl (.int 0), .inl (.int 0)]),
  .inr (3, [.inl (.ref 78), .inl (.ref 79), .inl (.ref 80), .inl (.ref 81), .inl (.int 0)]),
  .inl (false, [.inl (.int 0), .inl (.int 0), .inl (.int 0), .inl (.int 0), .inl (.int 0), .inl (.int 0), .inl (.int 0)]),
  .inl (false, List.replicate 448 (.inl (.int 0))),
  .inl (false, List.replicate 448 (.inl (.int 0))),
  .inl (false, [.inl (.int 0), .inl (.int 0), .inl (.int 0), .inl (.int 0), .inl (.int 0), .inl (.int 0), .inl (.int 0)]),
  .inr (8, [.inl (.ref 83), .inl (.ref 84), .inl (.int 0)]),
  .inl (false, [.inl (.int 0), .inl (.int 0), .inl (.int 0), .inl (.int 0), .inl (.int 0), .inl (.int 0)]),
  .inl (true, [.inl (.int 0), .inl (.int 0), .inl (.int 0), .inl (.int 0), .inl (.int 0), .inl (.int 0)]),
  .inr (6, [.inl (.ref 86), .inl (.ref 87), .inl (.ref 88)]),
  .inl (false, List.replicate 160 (.inl (.int 0))),
  .inl (false, [.inl (.int 0), .inl (.int 0), .inl (.int 0), .inl (.int 0)]),
  .inl (false, [.inl (.int (-4)), .inl (.int (-4)), .inl (.int (-4)), .inl (.int (-4))]),
  .inl (false, [.inl (.int 0), .inl (.int 0), .inl (.int 0), .inl (.int 0), .inl (.int 0), .inl (.int 0), .inl (.int 0)]),
  .inr (10, [.inl (.ref 91), .inl (.int 0), .inl (.int 0), .inl (.ref 92), .inl (.ref 93), .inl (.int 0), .inl (.int 0), .inl (.int 0), .inl (.int 0), .inl (.int 0), .inl (.ref 94), .inl (.int 0), .inl (.int 0), .inl (.int 0), .inl (.int 0), .inl (.int 0), .inl (.int 0), .inl (.int 0), .inl (.int 0), .inl (.ref 95), .inl (.ref 96), .inl (.ref 97), .inl (.int 0), .inl (.int 0), .inl (.ref 98), .inl (.ref 99), .inl (.int 0), .inl (.int 0), .inl (.ref 100), .inl (.int 0), .inl (.ref 101), .inl (.int 0), .inl (.ref 102), .inl (.ref 103), .inl (.ref 104), .inl (.ref 105), .inl (.int 0)]),
  .inl (false, List.replicate 220 (.inl (.int 0))),
  .inl (false, [.inl (.int 1), .inl (.int 2), .inl (.int 0), .inl (.int 4)]),
  .inl (false, List.replicate 44 (.inl (.int 0))),
  .inl (false, List.replicate 160 (.inl (.int 0))),
  .inl (false, [.inl (.int 0), .inl (.int 5), .inl (.int 12), .inl (.int 19), .inl (.int 27), .inl (.int 32), .inl (.int 36), .inl (.int 40), .inl (.int 44)]),
  .inl (false, [.inl (.int 112), .inl (.int 108), .inl (.int 97), .inl (.int 105), .inl (.int 110), .inl (.int 97), .inl (.int 100), .inl (.int 111), .inl (.int 112), .inl (.int 116), .inl (.int 101), .inl (.int 100), .inl (.int 98), .inl (.int 97), .inl (.int 115), .inl (.int 116), .inl (.int 97), .inl (.int 114), .inl (.int 100), .inl (.int 101), .inl (.int 115), .inl (.int 116), .inl (.int 114), .inl (.int 97), .inl (.int 110), .inl (.int 103), .inl (.int 101), .inl (.int 109), .inl (.int 97), .inl (.int 114), .inl (.int 114), .inl (.int 121), .inl (.int 102), .inl (.int 101), .inl (.int 117), .inl (.int 100), .inl (.int 103), .inl (.int 97), .inl (.int 116), .inl (.int 101), .inl (.int 112), .inl (.int 108), .inl (.int 97), .inl (.int 110)]),
  .inl (false, List.replicate 36 (.inl (.int 0))),
  .inl (false, [.inl (.int 0), .inl (.int 0), .inl (.int 0), .inl (.int 0), .inl (.int 0), .inl (.int 0), .inl (.int 0)]),
  .inl (false, [.inl (.int 0), .inl (.int 0), .inl (.int 0), .inl (.int 0), .inl (.int 0), .inl (.int 0), .inl (.int 0)]),
  .inl (false, [.inl (.int 0), .inl (.int 0), .inl (.int 0), .inl (.int 0), .inl (.int 0), .inl (.int 0), .inl (.int 0), .inl (.int 0), .inl (.int 0), .inl (.int 0), .inl (.int 0), .inl (.int 0)]),
  .inl (false, [.inl (.int 0), .inl (.int 0), .inl (.int 0), .inl (.int 0), .inl (.int 0), .inl (.int 0), .inl (.int 0)]),
  .inl (true, [.inl (.int 0), .inl (.int 0)]),
  .inl (false, [.inl (.int (-4)), .inl (.int (-4)), .inl (.int (-4)), .inl (.int (-4))]),
  .inl (false, [.inl (.int 0), .inl (.int 0), .inl (.int 0), .inl (.int 0)]),
  .inl (false, List.replicate 160 (.inl (.int 0)))]
def g_lv : List (Nat × a_V) := [(3, .inl (.int 0)), (2, .inl (.ref 90)), (1, .inl (.ref 1)), (0, .inl (.ref 0))]
def g_S1 : a_S := (g_E, g_scr 5 :: g_cells, (g_law, 32, g_lv, [a_full]), [])
def g_T (t : Nat) : a_S := (g_E, g_scr 5 :: g_cells, (g_law, t, g_lv, []), [])
def g_tgs : List Nat := [212, 235, 258, 271, 284, 307, 340, 373, 406, 429, 462, 495, 538, 571, 604, 637, 680, 703, 726, 759, 782, 805, 838, 881, 914, 927, 950, 984, 1028, 1077, 1100, 1123, 1146, 1179, 1222, 1245, 1268, 1311, 1354, 1407, 1420, 1443, 1443]
set_option maxRecDepth 1000000 in
theorem g_pre : a_bf g_P 106 2419 816 [g_S 5] = some [g_S1] := @of_decide_eq_true _ (d_oS (a_bf g_P 106 2419 816 [g_S 5]) (some [g_S1])) (by decide +kernel)
set_option maxRecDepth 1000000 in
theorem g_sw : a_next g_P 106 2419 g_S1 = some (g_tgs.map g_T) := @of_decide_eq_true _ (d_oS (a_next g_P 106 2419 g_S1) (some (g_tgs.map g_T))) (by decide +kernel)
set_option maxRecDepth 1000000 in
theorem g_sh0 : a_run g_P 106 2414 2000 (g_S 0) = true := by decide +kernel
set_option maxRecDepth 1000000 in
theorem g_sh1 : a_run g_P 106 2415 2000 (g_S 1) = true := by decide +kernel
set_option maxRecDepth 1000000 in
theorem g_sh2 : a_run g_P 106 2416 2000 (g_S 2) = true := by decide +kernel
set_option maxRecDepth 1000000 in
theorem g_sh3 : a_run g_P 106 2417 2000 (g_S 3) = true := by decide +kernel
set_option maxRecDepth 1000000 in
theorem g_sh4 : a_run g_P 106 2418 2000 (g_S 4) = true := by decide +kernel
