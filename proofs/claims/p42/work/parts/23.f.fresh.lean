/-! BOTH CONSTRUCTORS RUN: THE PLACES BEHIND THEM -/
abbrev x_t8 : List e_C := [f_mk, f_mk, f_mk, f_mk, f_mk, f_mk, f_mk, f_mk]
abbrev x_x0 : e_C := .inr ((e_new g_P 225 7).getD (0, []))
abbrev x_y0 : e_C := .inr ((e_new g_P 225 10).getD (0, []))
def x_m1 : List e_C := [
  .inr (9, [.ref 10, .ref 23, .ref 36, .ref 49, .ref 62, .ref 63, .ref 79, .ref 82, .ref 85, .ref 90, .ref 93, .ref 97, .int 0]),
  .inr (0, [.ref 11, .ref 12, .ref 13, .ref 16, .ref 19, .ref 20, .ref 21, .ref 22, .int 0, .int 0, .int 0]),
  .inl (false, List.replicate 6 0),
  .inl (false, List.replicate 6 0),
  .inr (4, [.ref 14, .ref 15, .int 0]),
  .inl (false, [0, 0, 0]),
  .inl (false, [0, 0, 0]),
  .inr (4, [.ref 17, .ref 18, .int 0]),
  .inl (false, [0, 0, 0]),
  .inl (false, [0, 0, 0]),
  .inl (false, [0, 0, 0]),
  .inl (false, [0, 0, 0]),
  .inl (false, [0, 0, 0]),
  .inl (false, List.replicate 8 0),
  .inr (0, [.ref 24, .ref 25, .ref 26, .ref 29, .ref 32, .ref 33, .ref 34, .ref 35, .int 0, .int 0, .int 0]),
  .inl (false, List.replicate 6 0),
  .inl (false, List.replicate 6 0),
  .inr (4, [.ref 27, .ref 28, .int 0]),
  .inl (false, [0, 0, 0]),
  .inl (false, [0, 0, 0]),
  .inr (4, [.ref 30, .ref 31, .int 0]),
  .inl (false, [0, 0, 0]),
  .inl (false, [0, 0, 0]),
  .inl (false, [0, 0, 0]),
  .inl (false, [0, 0, 0]),
  .inl (false, [0, 0, 0]),
  .inl (false, List.replicate 8 0),
  .inr (0, [.ref 37, .ref 38, .ref 39, .ref 42, .ref 45, .ref 46, .ref 47, .ref 48, .int 0, .int 0, .int 0]),
  .inl (false, List.replicate 6 0),
  .inl (false, List.replicate 6 0),
  .inr (4, [.ref 40, .ref 41, .int 0]),
  .inl (false, [0, 0, 0]),
  .inl (false, [0, 0, 0]),
  .inr (4, [.ref 43, .ref 44, .int 0]),
  .inl (false, [0, 0, 0]),
  .inl (false, [0, 0, 0]),
  .inl (false, [0, 0, 0]),
  .inl (false, [0, 0, 0]),
  .inl (false, [0, 0, 0]),
  .inl (false, List.replicate 8 0),
  .inr (0, [.ref 50, .ref 51, .ref 52, .ref 55, .ref 58, .ref 59, .ref 60, .ref 61, .int 0, .int 0, .int 0]),
  .inl (false, List.replicate 6 0),
  .inl (false, List.replicate 6 0),
  .inr (4, [.ref 53, .ref 54, .int 0]),
  .inl (false, [0, 0, 0]),
  .inl (false, [0, 0, 0]),
  .inr (4, [.ref 56, .ref 57, .int 0]),
  .inl (false, [0, 0, 0]),
  .inl (false, [0, 0, 0]),
  .inl (false, [0, 0, 0]),
  .inl (false, [0, 0, 0]),
  .inl (false, [0, 0, 0]),
  .inl (false, List.replicate 8 0),
  .inl (true, [0, 0]),
  .inr (5, [.ref 64, .ref 66, .int 0, .int 0, .int 0, .int 0]),
  .inr (7, [.ref 65, .int 0, .int 0, .int 0, .int 0, .int 0]),
  .inl (false, List.replicate 160 0),
  .inr (0, [.ref 67, .ref 68, .ref 69, .ref 72, .ref 75, .ref 76, .ref 77, .ref 78, .int 0, .int 0, .int 0]),
  .inl (false, List.replicate 6 0),
  .inl (false, List.replicate 6 0),
  .inr (4, [.ref 70, .ref 71, .int 0]),
  .inl (false, [0, 0, 0]),
  .inl (false, [0, 0, 0]),
  .inr (4, [.ref 73, .ref 74, .int 0]),
  .inl (false, [0, 0, 0]),
  .inl (false, [0, 0, 0]),
  .inl (false, [0, 0, 0]),
  .inl (false, [0, 0, 0]),
  .inl (false, [0, 0, 0]),
  .inl (false, List.replicate 8 0),
  .inr (2, [.ref 80, .ref 81, .int 0]),
  .inl (false, List.replicate 36 0),
  .inl (false, List.replicate 6 0),
  .inr (1, [.ref 83, .ref 84, .int 0]),
  .inl (false, List.replicate 21 0),
  .inl (false, [0, 0, 0]),
  .inr (3, [.ref 86, .ref 87, .ref 88, .ref 89, .int 0]),
  .inl (false, List.replicate 7 0),
  .inl (false, List.replicate 448 0),
  .inl (false, List.replicate 448 0),
  .inl (false, List.replicate 7 0),
  .inr (8, [.ref 91, .ref 92, .int 0]),
  .inl (false, List.replicate 6 0),
  .inl (true, List.replicate 6 0),
  .inr (6, [.ref 94, .ref 95, .ref 96]),
  .inl (false, List.replicate 160 0),
  .inl (false, List.replicate 4 0),
  .inl (false, List.replicate 4 (-4)),
  .inl (false, List.replicate 7 0)]
def x_m2 : List e_C := [
  .inr (10, [.ref 99, .int 0, .int 0, .ref 100, .ref 101, .int 0, .int 0, .int 0, .int 0, .int 0, .ref 102, .int 0, .int 0, .int 0, .int 0, .int 0, .int 0, .int 0, .int 0, .ref 103, .ref 104, .ref 105, .int 0, .int 0, .ref 106, .ref 107, .int 0, .int 0, .ref 108, .int 0, .ref 109, .int 0, .ref 110, .ref 111, .ref 112, .ref 113, .int 0]),
  .inl (false, List.replicate 220 0),
  .inl (false, [1, 2, 0, 4]),
  .inl (false, List.replicate 44 0),
  .inl (false, List.replicate 160 0),
  .inl (false, [0, 5, 12, 19, 27, 32, 36, 40, 44]),
  .inl (false, [112, 108, 97, 105, 110, 97, 100, 111, 112, 116, 101, 100, 98, 97, 115, 116, 97, 114, 100, 101, 115, 116, 114, 97, 110, 103, 101, 109, 97, 114, 114, 121, 102, 101, 117, 100, 103, 97, 116, 101, 112, 108, 97, 110]),
  .inl (false, List.replicate 36 0),
  .inl (false, List.replicate 7 0),
  .inl (false, List.replicate 7 0),
  .inl (false, List.replicate 12 0),
  .inl (false, List.replicate 7 0),
  .inl (true, [0, 0]),
  .inl (false, List.replicate 4 (-4)),
  .inl (false, List.replicate 4 0),
  .inl (false, List.replicate 160 0)]
def d_V : DecidableEq Value := inferInstance
def d_lV : DecidableEq (List Value) := letI := d_V; inferInstance
def d_lI : DecidableEq (List Int32) := inferInstance
def d_BA : DecidableEq (Bool × List Int32) := letI := d_lI; inferInstance
def d_NA : DecidableEq (Nat × List Value) := letI := d_lV; inferInstance
def d_C : DecidableEq e_C := letI := d_BA; letI := d_NA; inferInstance
def d_lC : DecidableEq (List e_C) := letI := d_C; inferInstance
def d_oV : DecidableEq (Option Value) := letI := d_V; inferInstance
def d_y : DecidableEq (Option Value × List e_C) := letI := d_oV; letI := d_lC; inferInstance
def d_oy : DecidableEq (Option (Option Value × List e_C)) := letI := d_y; inferInstance
set_option maxRecDepth 1000000 in
theorem f_X : e_run g_P 600 81 0 [(0, .ref 9)] [] (f_mk :: (x_t8 ++ [x_x0])) = some (none, f_mk :: (x_t8 ++ x_m1)) := @of_decide_eq_true _ (d_oy (e_run g_P 600 81 0 [(0, .ref 9)] [] (f_mk :: (x_t8 ++ [x_x0]))) (some (none, f_mk :: (x_t8 ++ x_m1)))) (by decide +kernel)
set_option maxRecDepth 1000000 in
theorem f_M : e_run g_P 600 141 0 [(0, .ref 98)] [] (f_mk :: (x_t8 ++ x_m1 ++ [x_y0])) = some (none, f_mk :: (x_t8 ++ x_m1 ++ x_m2)) := @of_decide_eq_true _ (d_oy (e_run g_P 600 141 0 [(0, .ref 98)] [] (f_mk :: (x_t8 ++ x_m1 ++ [x_y0]))) (some (none, f_mk :: (x_t8 ++ x_m1 ++ x_m2)))) (by decide +kernel)
theorem f_any {P : e_Pg} {n k pc : Nat} {lv : List (Nat × Value)} {st : List Value} {r r' : List e_C} {v : Option Value} (h : e_run P n k pc lv st (f_mk :: r) = some (v, f_mk :: r')) (c : e_C) : e_Ev P k pc lv st (c :: r) (v, c :: r') := by
  obtain ⟨r2, h1, h2⟩ := f_run P n _ _ _ _ _ _ h
  have h3 : r2 = r' := (List.cons.inj h1).2.symm
  subst h3
  exact ⟨n, h2 c⟩
theorem f_callI {P : e_Pg} {k pc n m cn q : Nat} {nst : Bool} {rest : List Value} {lv : List (Nat × Value)} {mem : List e_C} {o : Nat × List Value} {y z : Option Value × List e_C} (hc : e_code P k pc = some (.invokespecial n, 3)) (hcal : e_cal P k n = some (m, 0, cn, nst)) (hm : mem[q]? = some (.inr o)) (ho : o.1 = cn) (hcd : (!(m == 0) && (!(cn == 99) && (e_low rest && (e_room P k m [.ref q] && (true == (e_rmo P m).2.2))))) = true) (h1 : e_Ev P m 0 (lv_args 0 [.ref q]) [] mem y) (h2 : e_Ev P k (pc + 3) lv (y.1.toList ++ rest) y.2 z) : e_Ev P k pc lv (.ref q :: rest) mem z := by
  obtain ⟨N, hN⟩ := e_two h1 h2
  refine e_Ev.of (x := (.invokespecial n, 3)) hc rfl ⟨N, ?_⟩
  show e_inv P (e_run P N) k pc lv (.ref q :: rest) mem true n = _
  unfold e_inv
  rw [Bool.and_eq_true] at hcd
  have hm0 : (m == 0) = false := by simpa using hcd.1
  simp only [hcal, List.drop_zero, List.take_zero, List.reverse_nil, hm0, cond_false, hm, ho, beq_self_eq_true, Bool.true_and, hcd.2, cond_true]
  exact hN
abbrev x_full : List e_C := x_t8 ++ x_m1 ++ x_m2
abbrev x_lv : List (Nat × Value) := [(3, .int 0), (2, .ref 98), (1, .ref 9), (0, .ref 0)]
theorem f_law (c : e_C) {z : Option Value × List e_C} (h : e_Ev g_P 225 18 x_lv [] (c :: x_full) z) : e_Ev g_P 225 0 [(0, .ref 0)] [] (c :: x_t8) z := by
  refine e_Ev.step (x := (.new 7, 3)) rfl rfl rfl (F := (3, [(0, .ref 0)], [.ref 9], c :: (x_t8 ++ [x_x0]))) rfl ?_
  refine e_Ev.step (x := (.dup, 1)) rfl rfl rfl (F := (4, [(0, .ref 0)], [.ref 9, .ref 9], c :: (x_t8 ++ [x_x0]))) rfl ?_
  refine f_callI (o := (e_new g_P 225 7).getD (0, [])) rfl rfl rfl rfl rfl (f_any f_X c) ?_
  refine e_Ev.step (x := (.astore_n 1, 1)) rfl rfl rfl (F := (8, [(1, .ref 9), (0, .ref 0)], [], c :: (x_t8 ++ x_m1))) rfl ?_
  refine e_Ev.step (x := (.new 10, 3)) rfl rfl rfl (F := (11, [(1, .ref 9), (0, .ref 0)], [.ref 98], c :: (x_t8 ++ x_m1 ++ [x_y0]))) rfl ?_
  refine e_Ev.step (x := (.dup, 1)) rfl rfl rfl (F := (12, [(1, .ref 9), (0, .ref 0)], [.ref 98, .ref 98], c :: (x_t8 ++ x_m1 ++ [x_y0]))) rfl ?_
  refine f_callI (o := (e_new g_P 225 10).getD (0, [])) rfl rfl rfl rfl rfl (f_any f_M c) ?_
  refine e_Ev.step (x := (.astore_n 2, 1)) rfl rfl rfl (F := (16, [(2, .ref 98), (1, .ref 9), (0, .ref 0)], [], c :: x_full)) rfl ?_
  refine e_Ev.step (x := (.iconst 0, 1)) rfl rfl rfl (F := (17, [(2, .ref 98), (1, .ref 9), (0, .ref 0)], [.int 0], c :: x_full)) rfl ?_
  exact e_Ev.step (x := (.istore_n 3, 1)) rfl rfl rfl (F := (18, x_lv, [], c :: x_full)) rfl h
def f_v (q : Nat) : List Int := bif Nat.blt q 57 then (bif Nat.blt q 28 then (bif Nat.blt q 14 then (bif Nat.blt q 7 then (bif Nat.blt q 3 then (bif Nat.blt q 1 then ([]) else (bif Nat.blt q 2 then ([]) else ([]))) else (bif Nat.blt q 5 then (bif Nat.blt q 4 then ([]) else ([])) else (bif Nat.blt q 6 then ([]) else ([])))) else (bif Nat.blt q 10 then (bif Nat.blt q 8 then ([]) else (bif Nat.blt q 9 then ([]) else ([0, 0, 0, 0, 0, 0, 0, 0, 0, 0, 0, 0, 0]))) else (bif Nat.blt q 12 then (bif Nat.blt q 11 then ([0, 0, 0, 0, 0, 0, 0, 0, 0, 0, 0]) else (List.replicate 6 0)) else (bif Nat.blt q 13 then (List.replicate 6 0) else ([0, 0, 0]))))) else (bif Nat.blt q 21 then (bif Nat.blt q 17 then (bif Nat.blt q 15 then ([0, 0, 0]) else (bif Nat.blt q 16 then ([0, 0, 0]) else ([0, 0, 0]))) else (bif Nat.blt q 19 then (bif Nat.blt q 18 then ([0, 0, 0]) else ([0, 0, 0])) else (bif Nat.blt q 20 then ([0, 0, 0]) else ([0, 0, 0])))) else (bif Nat.blt q 24 then (bif Nat.blt q 22 then ([0, 0, 0]) else (bif Nat.blt q 23 then (List.replicate 8 0) else ([0, 0, 0, 0, 0, 0, 0, 0, 0, 0, 0]))) else (bif Nat.blt q 26 then (bif Nat.blt q 25 then (List.replicate 6 0) else (List.replicate 6 0)) else (bif Nat.blt q 27 then ([0, 0, 0]) else ([0, 0, 0])))))) else (bif Nat.blt q 42 then (bif Nat.blt q 35 then (bif Nat.blt q 31 then (bif Nat.blt q 29 then ([0, 0, 0]) else (bif Nat.blt q 30 then ([0, 0, 0]) else ([0, 0, 0]))) else (bif Nat.blt q 33 then (bif Nat.blt q 32 then ([0, 0, 0]) else ([0, 0, 0])) else (bif Nat.blt q 34 then ([0, 0, 0]) else ([0, 0, 0])))) else (bif Nat.blt q 38 then (bif Nat.blt q 36 then (List.replicate 8 0) else (bif Nat.blt q 37 then ([0, 0, 0, 0, 0, 0, 0, 0, 0, 0, 0]) else (List.replicate 6 0))) else (bif Nat.blt q 40 then (bif Nat.blt q 39 then (List.replicate 6 0) else ([0, 0, 0])) else (bif Nat.blt q 41 then ([0, 0, 0]) else ([0, 0, 0]))))) else (bif Nat.blt q 49 then (bif Nat.blt q 45 then (bif Nat.blt q 43 then ([0, 0, 0]) else (bif Nat.blt q 44 then ([0, 0, 0]) else ([0, 0, 0]))) else (bif Nat.blt q 47 then (bif Nat.blt q 46 then ([0, 0, 0]) else ([0, 0, 0])) else (bif Nat.blt q 48 then ([0, 0, 0]) else (List.replicate 8 0)))) else (bif Nat.blt q 53 then (bif Nat.blt q 51 then (bif Nat.blt q 50 then ([0, 0, 0, 0, 0, 0, 0, 0, 0, 0, 0]) else (List.replicate 6 0)) else (bif Nat.blt q 52 then (List.replicate 6 0) else ([0, 0, 0]))) else (bif Nat.blt q 55 then (bif Nat.blt q 54 then ([0, 0, 0]) else ([0, 0, 0])) else (bif Nat.blt q 56 then ([0, 0, 0]) else ([0, 0, 0]))))))) else (bif Nat.blt q 86 then (bif Nat.blt q 71 then (bif Nat.blt q 64 then (bif Nat.blt q 60 then (bif Nat.blt q 58 then ([0, 0, 0]) else (bif Nat.blt q 59 then ([0, 0, 0]) else ([0, 0, 0]))) else (bif Nat.blt q 62 then (bif Nat.blt q 61 then ([0, 0, 0]) else (List.replicate 8 0)) else (bif Nat.blt q 63 then ([0, 0]) else ([0, 0, 0, 0, 0, 0])))) else (bif Nat.blt q 67 then (bif Nat.blt q 65 then ([0, 0, 0, 0, 0, 0]) else (bif Nat.blt q 66 then (List.replicate 160 0) else ([0, 0, 0, 0, 0, 0, 0, 0, 0, 0, 0]))) else (bif Nat.blt q 69 then (bif Nat.blt q 68 then (List.replicate 6 0) else (List.replicate 6 0)) else (bif Nat.blt q 70 then ([0, 0, 0]) else ([0, 0, 0]))))) else (bif Nat.blt q 78 then (bif Nat.blt q 74 then (bif Nat.blt q 72 then ([0, 0, 0]) else (bif Nat.blt q 73 then ([0, 0, 0]) else ([0, 0, 0]))) else (bif Nat.blt q 76 then (bif Nat.blt q 75 then ([0, 0, 0]) else ([0, 0, 0])) else (bif Nat.blt q 77 then ([0, 0, 0]) else ([0, 0, 0])))) else (bif Nat.blt q 82 then (bif Nat.blt q 80 then (bif Nat.blt q 79 then (List.replicate 8 0) else ([0, 0, 0])) else (bif Nat.blt q 81 then (List.replicate 36 0) else (List.replicate 6 0))) else (bif Nat.blt q 84 then (bif Nat.blt q 83 then ([0, 0, 0]) else (List.replicate 21 0)) else (bif Nat.blt q 85 then ([0, 0, 0]) else ([0, 0, 0, 0, 0])))))) else (bif Nat.blt q 100 then (bif Nat.blt q 93 then (bif Nat.blt q 89 then (bif Nat.blt q 87 then (List.replicate 7 0) else (bif Nat.blt q 88 then (List.replicate 448 0) else (List.replicate 448 0))) else (bif Nat.blt q 91 then (bif Nat.blt q 90 then (List.replicate 7 0) else ([0, 0, 0])) else (bif Nat.blt q 92 then (List.replicate 6 0) else (List.replicate 6 0)))) else (bif Nat.blt q 96 then (bif Nat.blt q 94 then ([0, 0, 0]) else (bif Nat.blt q 95 then (List.replicate 160 0) else (List.replicate 4 0))) else (bif Nat.blt q 98 then (bif Nat.blt q 97 then (List.replicate 4 (-4)) else (List.replicate 7 0)) else (bif Nat.blt q 99 then ([0, 0, 0, 0, 0, 0, 0, 0, 0, 0, 0, 0, 0, 0, 0, 0, 0, 0, 0, 0, 0, 0, 0, 0, 0, 0, 0, 0, 0, 0, 0, 0, 0, 0, 0, 0, 0]) else (List.replicate 220 0))))) else (bif Nat.blt q 107 then (bif Nat.blt q 103 then (bif Nat.blt q 101 then ([1, 2, 0, 4]) else (bif Nat.blt q 102 then (List.replicate 44 0) else (List.replicate 160 0))) else (bif Nat.blt q 105 then (bif Nat.blt q 104 then ([0, 5, 12, 19, 27, 32, 36, 40, 44]) else ([112, 108, 97, 105, 110, 97, 100, 111, 112, 116, 101, 100, 98, 97, 115, 116, 97, 114, 100, 101, 115, 116, 114, 97, 110, 103, 101, 109, 97, 114, 114, 121, 102, 101, 117, 100, 103, 97, 116, 101, 112, 108, 97, 110])) else (bif Nat.blt q 106 then (List.replicate 36 0) else (List.replicate 7 0)))) else (bif Nat.blt q 111 then (bif Nat.blt q 109 then (bif Nat.blt q 108 then (List.replicate 7 0) else (List.replicate 12 0)) else (bif Nat.blt q 110 then (List.replicate 7 0) else ([0, 0]))) else (bif Nat.blt q 113 then (bif Nat.blt q 112 then (List.replicate 4 (-4)) else (List.replicate 4 0)) else (bif Nat.blt q 114 then (List.replicate 160 0) else ([])))))))
def f_σ (l : List Int32) : h_S := fun q j => bif q == 0 then (l.getD j.toNat 0).toInt else (f_v q).getD j.toNat 0
theorem f_Yn {n q : Nat} (h : ¬ q = 0) : g_Yf n q = g_Yf 0 q := by
  have hb : Nat.blt q 1 = false := Bool.eq_false_iff.mpr (fun h => by have := Nat.le_of_ble_eq_true (show Nat.ble (q + 1) 1 = true from h); omega)
  unfold g_Yf
  rw [hb]
  rfl
/-- a cell is as its type and the places say -/
def f_fl : List (Option Value) → List Value → List Int → Bool
  | [], [], [] => true
  | some (.ref a) :: t, .ref b :: o, _ :: v => (a == b) && f_fl t o v
  | none :: t, .int x :: o, i :: v => decide (x.toInt = i) && f_fl t o v
  | _, _, _ => false
def f_ck (y : Option h_Y) (c : Option e_C) (v : List Int) : Bool := match y, c with
  | none, _ => true
  | some (.inl t), some (.inl a) => (a.1 == t.1) && ((a.2.length == t.2) && decide (a.2.map Int32.toInt = v))
  | some (.inr t), some (.inr o) => (o.1 == t.1) && f_fl t.2 o.2 v
  | _, _ => false
theorem f_fl_ok : ∀ {t : List (Option Value)} {o : List Value} {v : List Int}, f_fl t o v = true → o.length = t.length ∧ ∀ j : Nat, (∀ w, t[j]? = some (some w) → o[j]? = some w) ∧ (t[j]? = some none → ∃ x : Int32, o[j]? = some (.int x) ∧ x.toInt = v.getD j 0)
  | [], [], [], _ => ⟨rfl, fun j => ⟨fun w h => by simp at h, fun h => by simp at h⟩⟩
  | some (.ref a) :: t, .ref b :: o, i :: v, h => by
    simp only [f_fl, Bool.and_eq_true, beq_iff_eq] at h
    obtain ⟨rfl, h⟩ := h
    obtain ⟨h1, h2⟩ := f_fl_ok h
    refine ⟨by simp [h1], fun j => ?_⟩
    cases j with
    | zero => exact ⟨fun w hw => by simp at hw; simp [← hw], fun hw => by simp at hw⟩
    | succ j => simpa using h2 j
  | none :: t, .int x :: o, i :: v, h => by
    simp only [f_fl, Bool.and_eq_true, decide_eq_true_eq] at h
    obtain ⟨h0, h⟩ := h
    obtain ⟨h1, h2⟩ := f_fl_ok h
    refine ⟨by simp [h1], fun j => ?_⟩
    cases j with
    | zero => exact ⟨fun w hw => by simp at hw, fun _ => ⟨x, by simp, by simpa using h0⟩⟩
    | succ j => simpa using h2 j
theorem f_ck_ok {l : List Int32} {q : Nat} {y : h_Y} {c : Option e_C} (hq : ¬ q = 0) (h : f_ck (some y) c (f_v q) = true) : ∃ d, c = some d ∧ h_cell (f_σ l) q y d := by
  have hs : ∀ j : Nat, f_σ l q (j : Int) = (f_v q).getD j 0 := fun j => by
    unfold f_σ
    rw [show (q == 0) = false by simpa using hq]
    rfl
  unfold f_ck at h
  split at h
  · rename_i h1; cases h1
  · next t a h1 =>
    cases h1
    simp only [Bool.and_eq_true, beq_iff_eq, decide_eq_true_eq] at h
    obtain ⟨h2, h3, h4⟩ := h
    refine ⟨_, rfl, h2, h3, fun j x hx => ?_⟩
    rw [hs, ← h4, List.getD_eq_getElem?_getD, List.getElem?_map, hx]
    rfl
  · next t o h1 =>
    cases h1
    simp only [Bool.and_eq_true, beq_iff_eq] at h
    obtain ⟨h2, h3⟩ := f_fl_ok h.2
    refine ⟨_, rfl, h.1, h2, fun j => ⟨(h3 j).1, fun hj => ?_⟩⟩
    obtain ⟨x, x1, x2⟩ := (h3 j).2 hj
    exact ⟨x, x1, by rw [x2, hs]⟩
  · cases h
set_option maxRecDepth 1000000 in
theorem f_cks : ∀ q, q < 114 → ¬ q = 0 → f_ck (g_Yf 0 q) ((f_mk :: x_full)[q]?) (f_v q) = true := by decide +kernel
theorem f_big {n q : Nat} (h : 114 ≤ q) : g_Yf n q = none := by
  have hb : ∀ b, b ≤ 114 → Nat.blt q b = false := fun b hb => Bool.eq_false_iff.mpr (fun h => by have := Nat.le_of_ble_eq_true (show Nat.ble (q + 1) b = true from h); omega)
  unfold g_Yf
  simp only [hb 57 (by decide), hb 86 (by decide), hb 100 (by decide), hb 107 (by decide), hb 111 (by decide), hb 113 (by decide), hb 114 (by decide), cond_false]
set_option maxRecDepth 1000000 in
theorem f_sl : e_sl x_full = 2414 := by decide +kernel
set_option maxRecDepth 1000000 in
theorem f_len : x_full.length = 113 := by decide +kernel
theorem f_R0 (l : List Int32) : h_R (g_Y l.length) (f_σ l) (.inl (false, l) :: x_full) := by
  refine ⟨by rw [List.length_cons, f_len], by show e_sl (.inl (false, l) :: x_full) = _; have := f_sl; unfold e_sl at this ⊢; rw [List.map_cons, List.sum_cons, this]; show l.length + 2414 = 2414 + l.length; omega, fun q y hq => ?_⟩
  by_cases h0 : q = 0
  · subst h0
    cases hq
    refine ⟨_, rfl, rfl, rfl, fun j x hx => ?_⟩
    show x.toInt = (l.getD j 0).toInt
    rw [List.getD_eq_getElem?_getD, hx]
    rfl
  · by_cases hb : q < 114
    · have hc := f_cks q hb h0
      have hq : g_Yf l.length q = some y := hq
      rw [f_Yn h0] at hq
      rw [hq] at hc
      obtain ⟨d, h1, h2⟩ := f_ck_ok (l := l) h0 hc
      refine ⟨d, ?_, h2⟩
      cases q with
      | zero => exact absurd rfl h0
      | succ q => exact h1
    · have hq : g_Yf l.length q = some y := hq
      rw [f_big (by omega)] at hq
      cases hq
theorem f_at {l : List Int32} {q : Nat} {j : Int} (h : (q == 0) = false) : f_σ l q j = (f_v q).getD j.toNat 0 := by
  unfold f_σ
  rw [h]
  rfl
theorem f_gd {Pr : Int → Prop} {L : List Int} (h : ∀ x ∈ L, Pr x) (h0 : Pr 0) (k : Nat) : Pr (L.getD k 0) := by
  rw [List.getD_eq_getElem?_getD]
  cases hk : L[k]? with
  | none => exact h0
  | some x => exact h x (List.mem_of_getElem? hk)
theorem fi_9 (l : List Int32) (j : Int) : h_ty 9 j (f_σ l 9 j) := fun e => by subst e; show -2147483648 ≤ (0 : Int) ∧ (0 : Int) ≤ 2147483647; decide
theorem fi_10 (l : List Int32) (j : Int) : h_ty 10 j (f_σ l 10 j) := ⟨fun e => by subst e; show 0 ≤ (0 : Int) ∧ (0 : Int) ≤ 6; decide, fun e => by subst e; show 0 ≤ (0 : Int) ∧ (0 : Int) ≤ 3; decide, fun e => by subst e; show 0 ≤ (0 : Int) ∧ (0 : Int) ≤ 8; decide⟩
theorem fi_11 (l : List Int32) (j : Int) : h_ty 11 j (f_σ l 11 j) := f_gd (Pr := fun v => 0 ≤ v ∧ v ≤ 3) (L := List.replicate 6 0) (fun x hx => by rw [List.eq_of_mem_replicate hx]; decide) (by decide) j.toNat
theorem fi_12 (l : List Int32) (j : Int) : h_ty 12 j (f_σ l 12 j) := f_gd (Pr := fun v => -4 ≤ v ∧ v ≤ 5 ∧ (v = -4 ∨ 0 ≤ v)) (L := List.replicate 6 0) (fun x hx => by rw [List.eq_of_mem_replicate hx]; decide) (by decide) j.toNat
theorem fi_13 (l : List Int32) (j : Int) : h_ty 13 j (f_σ l 13 j) := fun e => by subst e; show 0 ≤ (0 : Int) ∧ (0 : Int) ≤ 3; decide
theorem fi_14 (l : List Int32) (j : Int) : h_ty 14 j (f_σ l 14 j) := f_gd (Pr := fun v => 0 ≤ v ∧ v ≤ 5) (L := [0, 0, 0]) (by decide) (by decide) j.toNat
theorem fi_15 (l : List Int32) (j : Int) : h_ty 15 j (f_σ l 15 j) := f_gd (Pr := fun v => 0 ≤ v ∧ v ≤ 5) (L := [0, 0, 0]) (by decide) (by decide) j.toNat
theorem fi_16 (l : List Int32) (j : Int) : h_ty 16 j (f_σ l 16 j) := fun e => by subst e; show 0 ≤ (0 : Int) ∧ (0 : Int) ≤ 3; decide
theorem fi_17 (l : List Int32) (j : Int) : h_ty 17 j (f_σ l 17 j) := f_gd (Pr := fun v => 0 ≤ v ∧ v ≤ 5) (L := [0, 0, 0]) (by decide) (by decide) j.toNat
theorem fi_18 (l : List Int32) (j : Int) : h_ty 18 j (f_σ l 18 j) := f_gd (Pr := fun v => 0 ≤ v ∧ v ≤ 5) (L := [0, 0, 0]) (by decide) (by decide) j.toNat
theorem fi_19 (l : List Int32) (j : Int) : h_ty 19 j (f_σ l 19 j) := f_gd (Pr := fun v => 0 ≤ v ∧ v ≤ 9) (L := [0, 0, 0]) (by decide) (by decide) j.toNat
theorem fi_20 (l : List Int32) (j : Int) : h_ty 20 j (f_σ l 20 j) := f_gd (Pr := fun v => -4 ≤ v ∧ v ≤ 5 ∧ (v = -4 ∨ 0 ≤ v)) (L := [0, 0, 0]) (by decide) (by decide) j.toNat
theorem fi_21 (l : List Int32) (j : Int) : h_ty 21 j (f_σ l 21 j) := f_gd (Pr := fun v => 0 ≤ v ∧ v ≤ 999) (L := [0, 0, 0]) (by decide) (by decide) j.toNat
theorem fi_22 (l : List Int32) (j : Int) : h_ty 22 j (f_σ l 22 j) := f_gd (Pr := fun v => 0 ≤ v ∧ v ≤ 52 ∧ v % 10 ≤ 2) (L := List.replicate 8 0) (fun x hx => by rw [List.eq_of_mem_replicate hx]; decide) (by decide) j.toNat
theorem fi_23 (l : List Int32) (j : Int) : h_ty 23 j (f_σ l 23 j) := ⟨fun e => by subst e; show 0 ≤ (0 : Int) ∧ (0 : Int) ≤ 6; decide, fun e => by subst e; show 0 ≤ (0 : Int) ∧ (0 : Int) ≤ 3; decide, fun e => by subst e; show 0 ≤ (0 : Int) ∧ (0 : Int) ≤ 8; decide⟩
theorem fi_24 (l : List Int32) (j : Int) : h_ty 24 j (f_σ l 24 j) := f_gd (Pr := fun v => 0 ≤ v ∧ v ≤ 3) (L := List.replicate 6 0) (fun x hx => by rw [List.eq_of_mem_replicate hx]; decide) (by decide) j.toNat
theorem fi_25 (l : List Int32) (j : Int) : h_ty 25 j (f_σ l 25 j) := f_gd (Pr := fun v => -4 ≤ v ∧ v ≤ 5 ∧ (v = -4 ∨ 0 ≤ v)) (L := List.replicate 6 0) (fun x hx => by rw [List.eq_of_mem_replicate hx]; decide) (by decide) j.toNat
theorem fi_26 (l : List Int32) (j : Int) : h_ty 26 j (f_σ l 26 j) := fun e => by subst e; show 0 ≤ (0 : Int) ∧ (0 : Int) ≤ 3; decide
theorem fi_27 (l : List Int32) (j : Int) : h_ty 27 j (f_σ l 27 j) := f_gd (Pr := fun v => 0 ≤ v ∧ v ≤ 5) (L := [0, 0, 0]) (by decide) (by decide) j.toNat
theorem fi_28 (l : List Int32) (j : Int) : h_ty 28 j (f_σ l 28 j) := f_gd (Pr := fun v => 0 ≤ v ∧ v ≤ 5) (L := [0, 0, 0]) (by decide) (by decide) j.toNat
theorem fi_29 (l : List Int32) (j : Int) : h_ty 29 j (f_σ l 29 j) := fun e => by subst e; show 0 ≤ (0 : Int) ∧ (0 : Int) ≤ 3; decide
theorem fi_30 (l : List Int32) (j : Int) : h_ty 30 j (f_σ l 30 j) := f_gd (Pr := fun v => 0 ≤ v ∧ v ≤ 5) (L := [0, 0, 0]) (by decide) (by decide) j.toNat
theorem fi_31 (l : List Int32) (j : Int) : h_ty 31 j (f_σ l 31 j) := f_gd (Pr := fun v => 0 ≤ v ∧ v ≤ 5) (L := [0, 0, 0]) (by decide) (by decide) j.toNat
theorem fi_32 (l : List Int32) (j : Int) : h_ty 32 j (f_σ l 32 j) := f_gd (Pr := fun v => 0 ≤ v ∧ v ≤ 9) (L := [0, 0, 0]) (by decide) (by decide) j.toNat
theorem fi_33 (l : List Int32) (j : Int) : h_ty 33 j (f_σ l 33 j) := f_gd (Pr := fun v => -4 ≤ v ∧ v ≤ 5 ∧ (v = -4 ∨ 0 ≤ v)) (L := [0, 0, 0]) (by decide) (by decide) j.toNat
theorem fi_34 (l : List Int32) (j : Int) : h_ty 34 j (f_σ l 34 j) := f_gd (Pr := fun v => 0 ≤ v ∧ v ≤ 999) (L := [0, 0, 0]) (by decide) (by decide) j.toNat
theorem fi_35 (l : List Int32) (j : Int) : h_ty 35 j (f_σ l 35 j) := f_gd (Pr := fun v => 0 ≤ v ∧ v ≤ 52 ∧ v % 10 ≤ 2) (L := List.replicate 8 0) (fun x hx => by rw [List.eq_of_mem_replicate hx]; decide) (by decide) j.toNat
theorem fi_36 (l : List Int32) (j : Int) : h_ty 36 j (f_σ l 36 j) := ⟨fun e => by subst e; show 0 ≤ (0 : Int) ∧ (0 : Int) ≤ 6; decide, fun e => by subst e; show 0 ≤ (0 : Int) ∧ (0 : Int) ≤ 3; decide, fun e => by subst e; show 0 ≤ (0 : Int) ∧ (0 : Int) ≤ 8; decide⟩
theorem fi_37 (l : List Int32) (j : Int) : h_ty 37 j (f_σ l 37 j) := f_gd (Pr := fun v => 0 ≤ v ∧ v ≤ 3) (L := List.replicate 6 0) (fun x hx => by rw [List.eq_of_mem_replicate hx]; decide) (by decide) j.toNat
theorem fi_38 (l : List Int32) (j : Int) : h_ty 38 j (f_σ l 38 j) := f_gd (Pr := fun v => -4 ≤ v ∧ v ≤ 5 ∧ (v = -4 ∨ 0 ≤ v)) (L := List.replicate 6 0) (fun x hx => by rw [List.eq_of_mem_replicate hx]; decide) (by decide) j.toNat
theorem fi_39 (l : List Int32) (j : Int) : h_ty 39 j (f_σ l 39 j) := fun e => by subst e; show 0 ≤ (0 : Int) ∧ (0 : Int) ≤ 3; decide
theorem fi_40 (l : List Int32) (j : Int) : h_ty 40 j (f_σ l 40 j) := f_gd (Pr := fun v => 0 ≤ v ∧ v ≤ 5) (L := [0, 0, 0]) (by decide) (by decide) j.toNat
theorem fi_41 (l : List Int32) (j : Int) : h_ty 41 j (f_σ l 41 j) := f_gd (Pr := fun v => 0 ≤ v ∧ v ≤ 5) (L := [0, 0, 0]) (by decide) (by decide) j.toNat
theorem fi_42 (l : List Int32) (j : Int) : h_ty 42 j (f_σ l 42 j) := fun e => by subst e; show 0 ≤ (0 : Int) ∧ (0 : Int) ≤ 3; decide
theorem fi_43 (l : List Int32) (j : Int) : h_ty 43 j (f_σ l 43 j) := f_gd (Pr := fun v => 0 ≤ v ∧ v ≤ 5) (L := [0, 0, 0]) (by decide) (by decide) j.toNat
theorem fi_44 (l : List Int32) (j : Int) : h_ty 44 j (f_σ l 44 j) := f_gd (Pr := fun v => 0 ≤ v ∧ v ≤ 5) (L := [0, 0, 0]) (by decide) (by decide) j.toNat
theorem fi_45 (l : List Int32) (j : Int) : h_ty 45 j (f_σ l 45 j) := f_gd (Pr := fun v => 0 ≤ v ∧ v ≤ 9) (L := [0, 0, 0]) (by decide) (by decide) j.toNat
theorem fi_46 (l : List Int32) (j : Int) : h_ty 46 j (f_σ l 46 j) := f_gd (Pr := fun v => -4 ≤ v ∧ v ≤ 5 ∧ (v = -4 ∨ 0 ≤ v)) (L := [0, 0, 0]) (by decide) (by decide) j.toNat
theorem fi_47 (l : List Int32) (j : Int) : h_ty 47 j (f_σ l 47 j) := f_gd (Pr := fun v => 0 ≤ v ∧ v ≤ 999) (L := [0, 0, 0]) (by decide) (by decide) j.toNat
theorem fi_48 (l : List Int32) (j : Int) : h_ty 48 j (f_σ l 48 j) := f_gd (Pr := fun v => 0 ≤ v ∧ v ≤ 52 ∧ v % 10 ≤ 2) (L := List.replicate 8 0) (fun x hx => by rw [List.eq_of_mem_replicate hx]; decide) (by decide) j.toNat
theorem fi_49 (l : List Int32) (j : Int) : h_ty 49 j (f_σ l 49 j) := ⟨fun e => by subst e; show 0 ≤ (0 : Int) ∧ (0 : Int) ≤ 6; decide, fun e => by subst e; show 0 ≤ (0 : Int) ∧ (0 : Int) ≤ 3; decide, fun e => by subst e; show 0 ≤ (0 : Int) ∧ (0 : Int) ≤ 8; decide⟩
theorem fi_50 (l : List Int32) (j : Int) : h_ty 50 j (f_σ l 50 j) := f_gd (Pr := fun v => 0 ≤ v ∧ v ≤ 3) (L := List.replicate 6 0) (fun x hx => by rw [List.eq_of_mem_replicate hx]; decide) (by decide) j.toNat
theorem fi_51 (l : List Int32) (j : Int) : h_ty 51 j (f_σ l 51 j) := f_gd (Pr := fun v => -4 ≤ v ∧ v ≤ 5 ∧ (v = -4 ∨ 0 ≤ v)) (L := List.replicate 6 0) (fun x hx => by rw [List.eq_of_mem_replicate hx]; decide) (by decide) j.toNat
theorem fi_52 (l : List Int32) (j : Int) : h_ty 52 j (f_σ l 52 j) := fun e => by subst e; show 0 ≤ (0 : Int) ∧ (0 : Int) ≤ 3; decide
theorem fi_53 (l : List Int32) (j : Int) : h_ty 53 j (f_σ l 53 j) := f_gd (Pr := fun v => 0 ≤ v ∧ v ≤ 5) (L := [0, 0, 0]) (by decide) (by decide) j.toNat
theorem fi_54 (l : List Int32) (j : Int) : h_ty 54 j (f_σ l 54 j) := f_gd (Pr := fun v => 0 ≤ v ∧ v ≤ 5) (L := [0, 0, 0]) (by decide) (by decide) j.toNat
theorem fi_55 (l : List Int32) (j : Int) : h_ty 55 j (f_σ l 55 j) := fun e => by subst e; show 0 ≤ (0 : Int) ∧ (0 : Int) ≤ 3; decide
theorem fi_56 (l : List Int32) (j : Int) : h_ty 56 j (f_σ l 56 j) := f_gd (Pr := fun v => 0 ≤ v ∧ v ≤ 5) (L := [0, 0, 0]) (by decide) (by decide) j.toNat
theorem fi_57 (l : List Int32) (j : Int) : h_ty 57 j (f_σ l 57 j) := f_gd (Pr := fun v => 0 ≤ v ∧ v ≤ 5) (L := [0, 0, 0]) (by decide) (by decide) j.toNat
theorem fi_58 (l : List Int32) (j : Int) : h_ty 58 j (f_σ l 58 j) := f_gd (Pr := fun v => 0 ≤ v ∧ v ≤ 9) (L := [0, 0, 0]) (by decide) (by decide) j.toNat
theorem fi_59 (l : List Int32) (j : Int) : h_ty 59 j (f_σ l 59 j) := f_gd (Pr := fun v => -4 ≤ v ∧ v ≤ 5 ∧ (v = -4 ∨ 0 ≤ v)) (L := [0, 0, 0]) (by decide) (by decide) j.toNat
theorem fi_60 (l : List Int32) (j : Int) : h_ty 60 j (f_σ l 60 j) := f_gd (Pr := fun v => 0 ≤ v ∧ v ≤ 999) (L := [0, 0, 0]) (by decide) (by decide) j.toNat
theorem fi_61 (l : List Int32) (j : Int) : h_ty 61 j (f_σ l 61 j) := f_gd (Pr := fun v => 0 ≤ v ∧ v ≤ 52 ∧ v % 10 ≤ 2) (L := List.replicate 8 0) (fun x hx => by rw [List.eq_of_mem_replicate hx]; decide) (by decide) j.toNat
theorem fi_62 (l : List Int32) (j : Int) : h_ty 62 j (f_σ l 62 j) := f_gd (Pr := fun v => 0 ≤ v ∧ v ≤ 1) (L := [0, 0]) (by decide) (by decide) j.toNat
theorem fi_63 (l : List Int32) (j : Int) : h_ty 63 j (f_σ l 63 j) := ⟨fun e => by subst e; show 0 ≤ (0 : Int) ∧ (0 : Int) ≤ 6; decide, fun e => by subst e; show -2147483648 ≤ (0 : Int) ∧ (0 : Int) ≤ 2147483647; decide, fun e => by subst e; show -2147483648 ≤ (0 : Int) ∧ (0 : Int) ≤ 2147483647; decide, fun e => by subst e; show 0 ≤ (0 : Int) ∧ (0 : Int) ≤ 1; decide⟩
theorem fi_64 (l : List Int32) (j : Int) : h_ty 64 j (f_σ l 64 j) := ⟨fun e => by subst e; show 0 ≤ (0 : Int) ∧ (0 : Int) ≤ 160; decide, fun e => by subst e; show 0 ≤ (0 : Int) ∧ (0 : Int) ≤ 160; decide, fun e => by subst e; show 0 ≤ (0 : Int) ∧ (0 : Int) ≤ 4; decide, fun e => by subst e; show 0 ≤ (0 : Int) ∧ (0 : Int) ≤ 160; decide, fun e => by subst e; show -2147483648 ≤ (0 : Int) ∧ (0 : Int) ≤ 2147483647; decide⟩
theorem fi_65 (l : List Int32) (j : Int) : h_ty 65 j (f_σ l 65 j) := f_gd (Pr := fun v => 0 ≤ v ∧ v ≤ 127) (L := List.replicate 160 0) (fun x hx => by rw [List.eq_of_mem_replicate hx]; decide) (by decide) j.toNat
theorem fi_66 (l : List Int32) (j : Int) : h_ty 66 j (f_σ l 66 j) := ⟨fun e => by subst e; show 0 ≤ (0 : Int) ∧ (0 : Int) ≤ 6; decide, fun e => by subst e; show 0 ≤ (0 : Int) ∧ (0 : Int) ≤ 3; decide, fun e => by subst e; show 0 ≤ (0 : Int) ∧ (0 : Int) ≤ 8; decide⟩
theorem fi_67 (l : List Int32) (j : Int) : h_ty 67 j (f_σ l 67 j) := f_gd (Pr := fun v => 0 ≤ v ∧ v ≤ 3) (L := List.replicate 6 0) (fun x hx => by rw [List.eq_of_mem_replicate hx]; decide) (by decide) j.toNat
theorem fi_68 (l : List Int32) (j : Int) : h_ty 68 j (f_σ l 68 j) := f_gd (Pr := fun v => -4 ≤ v ∧ v ≤ 5 ∧ (v = -4 ∨ 0 ≤ v)) (L := List.replicate 6 0) (fun x hx => by rw [List.eq_of_mem_replicate hx]; decide) (by decide) j.toNat
theorem fi_69 (l : List Int32) (j : Int) : h_ty 69 j (f_σ l 69 j) := fun e => by subst e; show 0 ≤ (0 : Int) ∧ (0 : Int) ≤ 3; decide
theorem fi_70 (l : List Int32) (j : Int) : h_ty 70 j (f_σ l 70 j) := f_gd (Pr := fun v => 0 ≤ v ∧ v ≤ 5) (L := [0, 0, 0]) (by decide) (by decide) j.toNat
theorem fi_71 (l : List Int32) (j : Int) : h_ty 71 j (f_σ l 71 j) := f_gd (Pr := fun v => 0 ≤ v ∧ v ≤ 5) (L := [0, 0, 0]) (by decide) (by decide) j.toNat
theorem fi_72 (l : List Int32) (j : Int) : h_ty 72 j (f_σ l 72 j) := fun e => by subst e; show 0 ≤ (0 : Int) ∧ (0 : Int) ≤ 3; decide
theorem fi_73 (l : List Int32) (j : Int) : h_ty 73 j (f_σ l 73 j) := f_gd (Pr := fun v => 0 ≤ v ∧ v ≤ 5) (L := [0, 0, 0]) (by decide) (by decide) j.toNat
theorem fi_74 (l : List Int32) (j : Int) : h_ty 74 j (f_σ l 74 j) := f_gd (Pr := fun v => 0 ≤ v ∧ v ≤ 5) (L := [0, 0, 0]) (by decide) (by decide) j.toNat
theorem fi_75 (l : List Int32) (j : Int) : h_ty 75 j (f_σ l 75 j) := f_gd (Pr := fun v => 0 ≤ v ∧ v ≤ 9) (L := [0, 0, 0]) (by decide) (by decide) j.toNat
theorem fi_76 (l : List Int32) (j : Int) : h_ty 76 j (f_σ l 76 j) := f_gd (Pr := fun v => -4 ≤ v ∧ v ≤ 5 ∧ (v = -4 ∨ 0 ≤ v)) (L := [0, 0, 0]) (by decide) (by decide) j.toNat
theorem fi_77 (l : List Int32) (j : Int) : h_ty 77 j (f_σ l 77 j) := f_gd (Pr := fun v => 0 ≤ v ∧ v ≤ 999) (L := [0, 0, 0]) (by decide) (by decide) j.toNat
theorem fi_78 (l : List Int32) (j : Int) : h_ty 78 j (f_σ l 78 j) := f_gd (Pr := fun v => 0 ≤ v ∧ v ≤ 52 ∧ v % 10 ≤ 2) (L := List.replicate 8 0) (fun x hx => by rw [List.eq_of_mem_replicate hx]; decide) (by decide) j.toNat
theorem fi_79 (l : List Int32) (j : Int) : h_ty 79 j (f_σ l 79 j) := fun e => by subst e; show 0 ≤ (0 : Int) ∧ (0 : Int) ≤ 6; decide
theorem fi_80 (l : List Int32) (j : Int) : h_ty 80 j (f_σ l 80 j) := f_gd (Pr := fun v => 0 ≤ v ∧ v ≤ 1000) (L := List.replicate 36 0) (fun x hx => by rw [List.eq_of_mem_replicate hx]; decide) (by decide) j.toNat
theorem fi_81 (l : List Int32) (j : Int) : h_ty 81 j (f_σ l 81 j) := f_gd (Pr := fun v => -2147483648 ≤ v ∧ v ≤ 2147483647) (L := List.replicate 6 0) (fun x hx => by rw [List.eq_of_mem_replicate hx]; decide) (by decide) j.toNat
theorem fi_82 (l : List Int32) (j : Int) : h_ty 82 j (f_σ l 82 j) := fun e => by subst e; show -2147483648 ≤ (0 : Int) ∧ (0 : Int) ≤ 2147483647; decide
theorem fi_83 (l : List Int32) (j : Int) : h_ty 83 j (f_σ l 83 j) := f_gd (Pr := fun v => -2147483648 ≤ v ∧ v ≤ 2147483647) (L := List.replicate 21 0) (fun x hx => by rw [List.eq_of_mem_replicate hx]; decide) (by decide) j.toNat
theorem fi_84 (l : List Int32) (j : Int) : h_ty 84 j (f_σ l 84 j) := f_gd (Pr := fun v => -4 ≤ v ∧ v ≤ 5 ∧ (v = -4 ∨ 0 ≤ v)) (L := [0, 0, 0]) (by decide) (by decide) j.toNat
theorem fi_85 (l : List Int32) (j : Int) : h_ty 85 j (f_σ l 85 j) := fun e => by subst e; show 0 ≤ (0 : Int) ∧ (0 : Int) ≤ 6; decide
theorem fi_86 (l : List Int32) (j : Int) : h_ty 86 j (f_σ l 86 j) := f_gd (Pr := fun v => -2147483648 ≤ v ∧ v ≤ 2147483647) (L := List.replicate 7 0) (fun x hx => by rw [List.eq_of_mem_replicate hx]; decide) (by decide) j.toNat
theorem fi_87 (l : List Int32) (j : Int) : h_ty 87 j (f_σ l 87 j) := f_gd (Pr := fun v => -2147483648 ≤ v ∧ v ≤ 2147483647) (L := List.replicate 448 0) (fun x hx => by rw [List.eq_of_mem_replicate hx]; decide) (by decide) j.toNat
theorem fi_88 (l : List Int32) (j : Int) : h_ty 88 j (f_σ l 88 j) := f_gd (Pr := fun v => -2147483648 ≤ v ∧ v ≤ 2147483647) (L := List.replicate 448 0) (fun x hx => by rw [List.eq_of_mem_replicate hx]; decide) (by decide) j.toNat
theorem fi_89 (l : List Int32) (j : Int) : h_ty 89 j (f_σ l 89 j) := f_gd (Pr := fun v => -2147483648 ≤ v ∧ v ≤ 2147483647) (L := List.replicate 7 0) (fun x hx => by rw [List.eq_of_mem_replicate hx]; decide) (by decide) j.toNat
theorem fi_90 (l : List Int32) (j : Int) : h_ty 90 j (f_σ l 90 j) := fun e => by subst e; show 0 ≤ (0 : Int) ∧ (0 : Int) ≤ 6; decide
theorem fi_91 (l : List Int32) (j : Int) : h_ty 91 j (f_σ l 91 j) := f_gd (Pr := fun v => 0 ≤ v ∧ v ≤ 7) (L := List.replicate 6 0) (fun x hx => by rw [List.eq_of_mem_replicate hx]; decide) (by decide) j.toNat
theorem fi_92 (l : List Int32) (j : Int) : h_ty 92 j (f_σ l 92 j) := f_gd (Pr := fun v => 0 ≤ v ∧ v ≤ 1) (L := List.replicate 6 0) (fun x hx => by rw [List.eq_of_mem_replicate hx]; decide) (by decide) j.toNat
theorem fi_93 (l : List Int32) (j : Int) : h_ty 93 j (f_σ l 93 j) := trivial
theorem fi_94 (l : List Int32) (j : Int) : h_ty 94 j (f_σ l 94 j) := f_gd (Pr := fun v => -2147483648 ≤ v ∧ v ≤ 2147483647) (L := List.replicate 160 0) (fun x hx => by rw [List.eq_of_mem_replicate hx]; decide) (by decide) j.toNat
theorem fi_95 (l : List Int32) (j : Int) : h_ty 95 j (f_σ l 95 j) := f_gd (Pr := fun v => 0 ≤ v ∧ v ≤ 2) (L := List.replicate 4 0) (fun x hx => by rw [List.eq_of_mem_replicate hx]; decide) (by decide) j.toNat
theorem fi_96 (l : List Int32) (j : Int) : h_ty 96 j (f_σ l 96 j) := f_gd (Pr := fun v => -4 ≤ v ∧ v ≤ 40 ∧ (v = -4 ∨ 0 ≤ v)) (L := List.replicate 4 (-4)) (fun x hx => by rw [List.eq_of_mem_replicate hx]; decide) (by decide) j.toNat
theorem fi_97 (l : List Int32) (j : Int) : h_ty 97 j (f_σ l 97 j) := f_gd (Pr := fun v => -2147483648 ≤ v ∧ v ≤ 2147483647) (L := List.replicate 7 0) (fun x hx => by rw [List.eq_of_mem_replicate hx]; decide) (by decide) j.toNat
theorem fi_98 (l : List Int32) (j : Int) : h_ty 98 j (f_σ l 98 j) := ⟨fun e => by subst e; show 0 ≤ (0 : Int) ∧ (0 : Int) ≤ 6; decide, fun e => by subst e; show 0 ≤ (0 : Int) ∧ (0 : Int) ≤ 3; decide, fun e => by subst e; show 0 ≤ (0 : Int) ∧ (0 : Int) ≤ 6; decide, fun e => by subst e; show 0 ≤ (0 : Int) ∧ (0 : Int) ≤ 3; decide, fun e => by subst e; show 0 ≤ (0 : Int) ∧ (0 : Int) ≤ 1; decide, fun e => by subst e; show -1 ≤ (0 : Int) ∧ (0 : Int) ≤ 5; decide, fun e => by subst e; show -1 ≤ (0 : Int) ∧ (0 : Int) ≤ 2; decide, fun e => by subst e; show 0 ≤ (0 : Int) ∧ (0 : Int) ≤ 160; decide, fun e => by subst e; show -2147483648 ≤ (0 : Int) ∧ (0 : Int) ≤ 2147483647; decide, fun e => by subst e; show 0 ≤ (0 : Int) ∧ (0 : Int) ≤ 6; decide, fun e => by subst e; show -2147483648 ≤ (0 : Int) ∧ (0 : Int) ≤ 2147483647; decide, fun e => by subst e; show 0 ≤ (0 : Int) ∧ (0 : Int) ≤ 160; decide, fun e => by subst e; show 0 ≤ (0 : Int) ∧ (0 : Int) ≤ 160; decide, fun e => by subst e; show 0 ≤ (0 : Int) ∧ (0 : Int) ≤ 3; decide, fun e => by subst e; show 0 ≤ (0 : Int) ∧ (0 : Int) ≤ 99; decide, fun e => by subst e; show -2147483648 ≤ (0 : Int) ∧ (0 : Int) ≤ 2147483647; decide, fun e => by subst e; show -2147483648 ≤ (0 : Int) ∧ (0 : Int) ≤ 2147483647; decide, fun e => by subst e; show 0 ≤ (0 : Int) ∧ (0 : Int) ≤ 6; decide, fun e => by subst e; show -2147483648 ≤ (0 : Int) ∧ (0 : Int) ≤ 2147483647; decide, fun e => by subst e; show 0 ≤ (0 : Int) ∧ (0 : Int) ≤ 6; decide, fun e => by subst e; show -2147483648 ≤ (0 : Int) ∧ (0 : Int) ≤ 2147483647; decide, fun e => by subst e; show -2147483648 ≤ (0 : Int) ∧ (0 : Int) ≤ 2147483647; decide⟩
theorem fi_99 (l : List Int32) (j : Int) : h_ty 99 j (f_σ l 99 j) := by
  have h : f_σ l 99 j = 0 := f_gd (Pr := fun v => v = 0) (L := List.replicate 220 0) (fun x hx => by rw [List.eq_of_mem_replicate hx]) rfl j.toNat
  rw [h]
  show ((0 ≤ j % 44 ∧ j % 44 < 6) → 0 ≤ (0 : Int) ∧ (0 : Int) ≤ 3) ∧ ((6 ≤ j % 44 ∧ j % 44 < 12) → 0 ≤ (0 : Int) ∧ (0 : Int) ≤ 6) ∧ ((12 ≤ j % 44 ∧ j % 44 < 18) → 0 ≤ (0 : Int) ∧ (0 : Int) ≤ 5) ∧ ((18 ≤ j % 44 ∧ j % 44 < 19) → 0 ≤ (0 : Int) ∧ (0 : Int) ≤ 3) ∧ ((19 ≤ j % 44 ∧ j % 44 < 25) → 0 ≤ (0 : Int) ∧ (0 : Int) ≤ 5) ∧ ((25 ≤ j % 44 ∧ j % 44 < 26) → 0 ≤ (0 : Int) ∧ (0 : Int) ≤ 3) ∧ ((26 ≤ j % 44 ∧ j % 44 < 29) → 0 ≤ (0 : Int) ∧ (0 : Int) ≤ 9) ∧ ((29 ≤ j % 44 ∧ j % 44 < 32) → 0 ≤ (0 : Int) ∧ (0 : Int) ≤ 6) ∧ ((32 ≤ j % 44 ∧ j % 44 < 35) → 0 ≤ (0 : Int) ∧ (0 : Int) ≤ 999) ∧ ((35 ≤ j % 44 ∧ j % 44 < 43) → 0 ≤ (0 : Int) ∧ (0 : Int) ≤ 52 ∧ (0 : Int) % 10 ≤ 2) ∧ ((43 ≤ j % 44 ∧ j % 44 < 44) → 0 ≤ (0 : Int) ∧ (0 : Int) ≤ 8)
  exact ⟨fun _ => by decide, fun _ => by decide, fun _ => by decide, fun _ => by decide, fun _ => by decide, fun _ => by decide, fun _ => by decide, fun _ => by decide, fun _ => by decide, fun _ => by decide, fun _ => by decide⟩
theorem fi_100 (l : List Int32) (j : Int) : h_ty 100 j (f_σ l 100 j) := f_gd (Pr := fun v => 0 ≤ v ∧ v ≤ 4) (L := [1, 2, 0, 4]) (by decide) (by decide) j.toNat
theorem fi_101 (l : List Int32) (j : Int) : h_ty 101 j (f_σ l 101 j) := by
  have h : f_σ l 101 j = 0 := f_gd (Pr := fun v => v = 0) (L := List.replicate 44 0) (fun x hx => by rw [List.eq_of_mem_replicate hx]) rfl j.toNat
  rw [h]
  show ((0 ≤ j % 44 ∧ j % 44 < 6) → 0 ≤ (0 : Int) ∧ (0 : Int) ≤ 3) ∧ ((6 ≤ j % 44 ∧ j % 44 < 12) → 0 ≤ (0 : Int) ∧ (0 : Int) ≤ 6) ∧ ((12 ≤ j % 44 ∧ j % 44 < 18) → 0 ≤ (0 : Int) ∧ (0 : Int) ≤ 5) ∧ ((18 ≤ j % 44 ∧ j % 44 < 19) → 0 ≤ (0 : Int) ∧ (0 : Int) ≤ 3) ∧ ((19 ≤ j % 44 ∧ j % 44 < 25) → 0 ≤ (0 : Int) ∧ (0 : Int) ≤ 5) ∧ ((25 ≤ j % 44 ∧ j % 44 < 26) → 0 ≤ (0 : Int) ∧ (0 : Int) ≤ 3) ∧ ((26 ≤ j % 44 ∧ j % 44 < 29) → 0 ≤ (0 : Int) ∧ (0 : Int) ≤ 9) ∧ ((29 ≤ j % 44 ∧ j % 44 < 32) → 0 ≤ (0 : Int) ∧ (0 : Int) ≤ 6) ∧ ((32 ≤ j % 44 ∧ j % 44 < 35) → 0 ≤ (0 : Int) ∧ (0 : Int) ≤ 999) ∧ ((35 ≤ j % 44 ∧ j % 44 < 43) → 0 ≤ (0 : Int) ∧ (0 : Int) ≤ 52 ∧ (0 : Int) % 10 ≤ 2) ∧ ((43 ≤ j % 44 ∧ j % 44 < 44) → 0 ≤ (0 : Int) ∧ (0 : Int) ≤ 8)
  exact ⟨fun _ => by decide, fun _ => by decide, fun _ => by decide, fun _ => by decide, fun _ => by decide, fun _ => by decide, fun _ => by decide, fun _ => by decide, fun _ => by decide, fun _ => by decide, fun _ => by decide⟩
theorem fi_102 (l : List Int32) (j : Int) : h_ty 102 j (f_σ l 102 j) := f_gd (Pr := fun v => 0 ≤ v ∧ v ≤ 127) (L := List.replicate 160 0) (fun x hx => by rw [List.eq_of_mem_replicate hx]; decide) (by decide) j.toNat
theorem fi_103 (l : List Int32) (j : Int) : h_ty 103 j (f_σ l 103 j) := ⟨f_gd (Pr := fun v => 0 ≤ v ∧ v ≤ 44) (L := [0, 5, 12, 19, 27, 32, 36, 40, 44]) (by decide) (by decide) j.toNat, fun e => by subst e; rw [f_at rfl]; decide, fun e => by subst e; rw [f_at rfl]; decide, fun e => by subst e; rw [f_at rfl]; decide, fun e => by subst e; rw [f_at rfl]; decide, fun e => by subst e; rw [f_at rfl]; decide, fun e => by subst e; rw [f_at rfl]; decide, fun e => by subst e; rw [f_at rfl]; decide, fun e => by subst e; rw [f_at rfl]; decide, fun e => by subst e; rw [f_at rfl]; decide⟩
theorem fi_104 (l : List Int32) (j : Int) : h_ty 104 j (f_σ l 104 j) := ⟨f_gd (Pr := fun v => -2147483648 ≤ v ∧ v ≤ 2147483647) (L := [112, 108, 97, 105, 110, 97, 100, 111, 112, 116, 101, 100, 98, 97, 115, 116, 97, 114, 100, 101, 115, 116, 114, 97, 110, 103, 101, 109, 97, 114, 114, 121, 102, 101, 117, 100, 103, 97, 116, 101, 112, 108, 97, 110]) (by decide) (by decide) j.toNat, fun e => by subst e; rw [f_at rfl]; decide, fun e => by subst e; rw [f_at rfl]; decide, fun e => by subst e; rw [f_at rfl]; decide, fun e => by subst e; rw [f_at rfl]; decide, fun e => by subst e; rw [f_at rfl]; decide, fun e => by subst e; rw [f_at rfl]; decide, fun e => by subst e; rw [f_at rfl]; decide, fun e => by subst e; rw [f_at rfl]; decide, fun e => by subst e; rw [f_at rfl]; decide, fun e => by subst e; rw [f_at rfl]; decide, fun e => by subst e; rw [f_at rfl]; decide, fun e => by subst e; rw [f_at rfl]; decide, fun e => by subst e; rw [f_at rfl]; decide, fun e => by subst e; rw [f_at rfl]; decide, fun e => by subst e; rw [f_at rfl]; decide, fun e => by subst e; rw [f_at rfl]; decide, fun e => by subst e; rw [f_at rfl]; decide, fun e => by subst e; rw [f_at rfl]; decide, fun e => by subst e; rw [f_at rfl]; decide, fun e => by subst e; rw [f_at rfl]; decide, fun e => by subst e; rw [f_at rfl]; decide, fun e => by subst e; rw [f_at rfl]; decide, fun e => by subst e; rw [f_at rfl]; decide, fun e => by subst e; rw [f_at rfl]; decide, fun e => by subst e; rw [f_at rfl]; decide, fun e => by subst e; rw [f_at rfl]; decide, fun e => by subst e; rw [f_at rfl]; decide, fun e => by subst e; rw [f_at rfl]; decide, fun e => by subst e; rw [f_at rfl]; decide, fun e => by subst e; rw [f_at rfl]; decide, fun e => by subst e; rw [f_at rfl]; decide, fun e => by subst e; rw [f_at rfl]; decide, fun e => by subst e; rw [f_at rfl]; decide, fun e => by subst e; rw [f_at rfl]; decide, fun e => by subst e; rw [f_at rfl]; decide, fun e => by subst e; rw [f_at rfl]; decide, fun e => by subst e; rw [f_at rfl]; decide, fun e => by subst e; rw [f_at rfl]; decide, fun e => by subst e; rw [f_at rfl]; decide, fun e => by subst e; rw [f_at rfl]; decide, fun e => by subst e; rw [f_at rfl]; decide, fun e => by subst e; rw [f_at rfl]; decide, fun e => by subst e; rw [f_at rfl]; decide, fun e => by subst e; rw [f_at rfl]; decide⟩
theorem fi_105 (l : List Int32) (j : Int) : h_ty 105 j (f_σ l 105 j) := f_gd (Pr := fun v => 0 ≤ v ∧ v ≤ 1000000) (L := List.replicate 36 0) (fun x hx => by rw [List.eq_of_mem_replicate hx]; decide) (by decide) j.toNat
theorem fi_106 (l : List Int32) (j : Int) : h_ty 106 j (f_σ l 106 j) := f_gd (Pr := fun v => -1 ≤ v ∧ v ≤ 6) (L := List.replicate 7 0) (fun x hx => by rw [List.eq_of_mem_replicate hx]; decide) (by decide) j.toNat
theorem fi_107 (l : List Int32) (j : Int) : h_ty 107 j (f_σ l 107 j) := f_gd (Pr := fun v => -2147483648 ≤ v ∧ v ≤ 2147483647) (L := List.replicate 7 0) (fun x hx => by rw [List.eq_of_mem_replicate hx]; decide) (by decide) j.toNat
theorem fi_108 (l : List Int32) (j : Int) : h_ty 108 j (f_σ l 108 j) := f_gd (Pr := fun v => -2147483648 ≤ v ∧ v ≤ 2147483647) (L := List.replicate 12 0) (fun x hx => by rw [List.eq_of_mem_replicate hx]; decide) (by decide) j.toNat
theorem fi_109 (l : List Int32) (j : Int) : h_ty 109 j (f_σ l 109 j) := f_gd (Pr := fun v => -2147483648 ≤ v ∧ v ≤ 2147483647) (L := List.replicate 7 0) (fun x hx => by rw [List.eq_of_mem_replicate hx]; decide) (by decide) j.toNat
theorem fi_110 (l : List Int32) (j : Int) : h_ty 110 j (f_σ l 110 j) := f_gd (Pr := fun v => 0 ≤ v ∧ v ≤ 1) (L := [0, 0]) (by decide) (by decide) j.toNat
theorem fi_111 (l : List Int32) (j : Int) : h_ty 111 j (f_σ l 111 j) := f_gd (Pr := fun v => -4 ≤ v ∧ v ≤ 2 ∧ (v = -4 ∨ 0 ≤ v)) (L := List.replicate 4 (-4)) (fun x hx => by rw [List.eq_of_mem_replicate hx]; decide) (by decide) j.toNat
theorem fi_112 (l : List Int32) (j : Int) : h_ty 112 j (f_σ l 112 j) := f_gd (Pr := fun v => 0 ≤ v ∧ v ≤ 40) (L := List.replicate 4 0) (fun x hx => by rw [List.eq_of_mem_replicate hx]; decide) (by decide) j.toNat
theorem fi_113 (l : List Int32) (j : Int) : h_ty 113 j (f_σ l 113 j) := f_gd (Pr := fun v => -2147483648 ≤ v ∧ v ≤ 2147483647) (L := List.replicate 160 0) (fun x hx => by rw [List.eq_of_mem_replicate hx]; decide) (by decide) j.toNat
theorem fi_0 (l : List Int32) (j : Int) : h_ty 0 j (f_σ l 0 j) := h_rng _
theorem f_tyb {q : Nat} {j v : Int} (h : 114 ≤ q) : h_ty q j v := by
  have hb : ∀ b, b ≤ 114 → Nat.blt q b = false := fun b hb => Bool.eq_false_iff.mpr (fun h => by have := Nat.le_of_ble_eq_true (show Nat.ble (q + 1) b = true from h); omega)
  unfold h_ty
  simp only [hb 57 (by decide), hb 86 (by decide), hb 100 (by decide), hb 107 (by decide), hb 111 (by decide), hb 113 (by decide), hb 114 (by decide), cond_false]
theorem f_I0 (l : List Int32) : h_I (f_σ l) := by
  intro q j
  match q with
  | 0 => exact fi_0 l j
  | 1 => exact trivial
  | 2 => exact trivial
  | 3 => exact trivial
  | 4 => exact trivial
  | 5 => exact trivial
  | 6 => exact trivial
  | 7 => exact trivial
  | 8 => exact trivial
  | 9 => exact fi_9 l j
  | 10 => exact fi_10 l j
  | 11 => exact fi_11 l j
  | 12 => exact fi_12 l j
  | 13 => exact fi_13 l j
  | 14 => exact fi_14 l j
  | 15 => exact fi_15 l j
  | 16 => exact fi_16 l j
  | 17 => exact fi_17 l j
  | 18 => exact fi_18 l j
  | 19 => exact fi_19 l j
  | 20 => exact fi_20 l j
  | 21 => exact fi_21 l j
  | 22 => exact fi_22 l j
  | 23 => exact fi_23 l j
  | 24 => exact fi_24 l j
  | 25 => exact fi_25 l j
  | 26 => exact fi_26 l j
  | 27 => exact fi_27 l j
  | 28 => exact fi_28 l j
  | 29 => exact fi_29 l j
  | 30 => exact fi_30 l j
  | 31 => exact fi_31 l j
  | 32 => exact fi_32 l j
  | 33 => exact fi_33 l j
  | 34 => exact fi_34 l j
  | 35 => exact fi_35 l j
  | 36 => exact fi_36 l j
  | 37 => exact fi_37 l j
  | 38 => exact fi_38 l j
  | 39 => exact fi_39 l j
  | 40 => exact fi_40 l j
  | 41 => exact fi_41 l j
  | 42 => exact fi_42 l j
  | 43 => exact fi_43 l j
  | 44 => exact fi_44 l j
  | 45 => exact fi_45 l j
  | 46 => exact fi_46 l j
  | 47 => exact fi_47 l j
  | 48 => exact fi_48 l j
  | 49 => exact fi_49 l j
  | 50 => exact fi_50 l j
  | 51 => exact fi_51 l j
  | 52 => exact fi_52 l j
  | 53 => exact fi_53 l j
  | 54 => exact fi_54 l j
  | 55 => exact fi_55 l j
  | 56 => exact fi_56 l j
  | 57 => exact fi_57 l j
  | 58 => exact fi_58 l j
  | 59 => exact fi_59 l j
  | 60 => exact fi_60 l j
  | 61 => exact fi_61 l j
  | 62 => exact fi_62 l j
  | 63 => exact fi_63 l j
  | 64 => exact fi_64 l j
  | 65 => exact fi_65 l j
  | 66 => exact fi_66 l j
  | 67 => exact fi_67 l j
  | 68 => exact fi_68 l j
  | 69 => exact fi_69 l j
  | 70 => exact fi_70 l j
  | 71 => exact fi_71 l j
  | 72 => exact fi_72 l j
  | 73 => exact fi_73 l j
  | 74 => exact fi_74 l j
  | 75 => exact fi_75 l j
  | 76 => exact fi_76 l j
  | 77 => exact fi_77 l j
  | 78 => exact fi_78 l j
  | 79 => exact fi_79 l j
  | 80 => exact fi_80 l j
  | 81 => exact fi_81 l j
  | 82 => exact fi_82 l j
  | 83 => exact fi_83 l j
  | 84 => exact fi_84 l j
  | 85 => exact fi_85 l j
  | 86 => exact fi_86 l j
  | 87 => exact fi_87 l j
  | 88 => exact fi_88 l j
  | 89 => exact fi_89 l j
  | 90 => exact fi_90 l j
  | 91 => exact fi_91 l j
  | 92 => exact fi_92 l j
  | 93 => exact fi_93 l j
  | 94 => exact fi_94 l j
  | 95 => exact fi_95 l j
  | 96 => exact fi_96 l j
  | 97 => exact fi_97 l j
  | 98 => exact fi_98 l j
  | 99 => exact fi_99 l j
  | 100 => exact fi_100 l j
  | 101 => exact fi_101 l j
  | 102 => exact fi_102 l j
  | 103 => exact fi_103 l j
  | 104 => exact fi_104 l j
  | 105 => exact fi_105 l j
  | 106 => exact fi_106 l j
  | 107 => exact fi_107 l j
  | 108 => exact fi_108 l j
  | 109 => exact fi_109 l j
  | 110 => exact fi_110 l j
  | 111 => exact fi_111 l j
  | 112 => exact fi_112 l j
  | 113 => exact fi_113 l j
  | q + 114 => exact f_tyb (by omega)
