/-! RUNS OF SOME LENGTH; A STACK OF CALLERS -/
def e_mo (rc rc' : e_R) : Prop := ∀ k pc lv st mem y, rc k pc lv st mem = some y → rc' k pc lv st mem = some y
theorem e_aft_mo {rc rc' : e_R} (h : e_mo rc rc') {k pc : Nat} {lv : List (Nat × Value)} {rest : List Value} {x x' : Option (Option Value × List e_C)} (hx : ∀ y, x = some y → x' = some y) {y : Option Value × List e_C} (he : e_aft rc k pc lv rest x = some y) : e_aft rc' k pc lv rest x' = some y := by
  unfold e_aft at he
  split at he
  · next z => rw [hx z rfl]; exact h _ _ _ _ _ _ he
  · cases he
theorem e_sgo_mo {P : e_Pg} {rc rc' : e_R} (h : e_mo rc rc') {k pc : Nat} {lv : List (Nat × Value)} {st : List Value} {mem : List e_C} {sp : Bool} {cd : Nat} {y : Option Value × List e_C} (he : e_sgo P rc k pc lv st mem sp cd = some y) : e_sgo P rc' k pc lv st mem sp cd = some y := by
  unfold e_sgo at he ⊢
  cases sp with
  | true => cases he
  | false =>
    simp only [cond_false] at he ⊢
    split at he
    · exact h _ _ _ _ _ _ he
    · cases he
theorem e_inv_mo {P : e_Pg} {rc rc' : e_R} (h : e_mo rc rc') {k pc : Nat} {lv : List (Nat × Value)} {st : List Value} {mem : List e_C} {sp : Bool} {i : Nat} {y : Option Value × List e_C} (he : e_inv P rc k pc lv st mem sp i = some y) : e_inv P rc' k pc lv st mem sp i = some y := by
  unfold e_inv at he ⊢
  simp only [Bool.cond_eq_ite] at he ⊢
  split at he
  · cases he
  · split at he
    · split at he
      · next h1 =>
        rw [if_pos h1]
        split at he
        · next h2 => rw [if_pos h2]; exact h _ _ _ _ _ _ he
        · next h2 => rw [if_neg h2]; exact e_sgo_mo h he
      · next h1 =>
        rw [if_neg h1]
        split at he
        · split at he
          · next h2 => rw [if_pos h2]; exact e_aft_mo h (fun z hz => h _ _ _ _ _ _ hz) he
          · cases he
        · cases he
    · cases he
theorem e_go_mo {rc rc' : e_R} (h : e_mo rc rc') {k : Nat} {x : Option e_F} {y : Option Value × List e_C} (he : e_go rc k x = some y) : e_go rc' k x = some y := by
  unfold e_go at he ⊢
  split at he
  · exact h _ _ _ _ _ _ he
  · cases he
theorem e_ivs_mo {P : e_Pg} {rc rc' : e_R} (h : e_mo rc rc') {k pc : Nat} {lv : List (Nat × Value)} {st : List Value} {mem : List e_C} {i : Nat} {y : Option Value × List e_C} (he : e_ivs P rc k pc lv st mem i = some y) : e_ivs P rc' k pc lv st mem i = some y := by
  unfold e_ivs at he ⊢
  simp only [Bool.cond_eq_ite] at he ⊢
  split at he
  · cases he
  · split at he
    · next h0 => rw [if_pos h0]; exact e_go_mo h he
    · next h0 =>
      rw [if_neg h0]
      split at he
      · next h1 => rw [if_pos h1]; exact e_aft_mo h (fun z hz => h _ _ _ _ _ _ hz) he
      · cases he
theorem e_body_mo {P : e_Pg} {rc rc' : e_R} (h : e_mo rc rc') : e_mo (e_body P rc) (e_body P rc') := by
  intro k pc lv st mem y he
  unfold e_body at he ⊢
  simp only [Bool.cond_eq_ite] at he ⊢
  split at he
  · next x =>
    split at he
    · next h1 =>
      rw [if_pos h1]
      unfold e_one at he ⊢
      split at he
      · exact e_inv_mo h he
      · exact e_inv_mo h he
      · exact e_ivs_mo h he
      · exact he
      · exact he
      · exact he
      · exact he
      · exact e_go_mo h he
    · cases he
  · cases he
theorem e_run_mo (P : e_Pg) : ∀ n, e_mo (e_run P n) (e_run P (n + 1))
  | 0 => fun k pc lv st mem y h => by cases h
  | n + 1 => by
    rw [e_run_succ P n, e_run_succ P (n + 1)]
    exact e_body_mo (e_run_mo P n)
theorem e_run_ge (P : e_Pg) {n m : Nat} (h : n ≤ m) : e_mo (e_run P n) (e_run P m) := by
  induction m with
  | zero => cases Nat.le_zero.mp h; exact fun _ _ _ _ _ _ h => h
  | succ m ih =>
    rcases Nat.lt_or_ge n (m + 1) with q | q
    · exact fun _ _ _ _ _ _ hy => e_run_mo P m _ _ _ _ _ _ (ih (by omega) _ _ _ _ _ _ hy)
    · have : n = m + 1 := by omega
      subst this
      exact fun _ _ _ _ _ _ h => h
def e_Ev (P : e_Pg) (k pc : Nat) (lv : List (Nat × Value)) (st : List Value) (mem : List e_C) (y : Option Value × List e_C) : Prop := ∃ n, e_run P n k pc lv st mem = some y
def e_ok (x : Instr × Nat) : Bool := x.2 == e_len x.1 || e_len x.1 == 0
def e_smp (i : Instr) : Bool := match i with
  | .invokevirtual _ | .invokespecial _ | .invokestatic _ | .ireturn | .lreturn | .areturn | .return_ => false
  | _ => true
theorem e_one_smp {P : e_Pg} {rc : e_R} {k pc : Nat} {lv : List (Nat × Value)} {st : List Value} {mem : List e_C} {i : Instr} (h : e_smp i = true) : e_one P rc k pc lv st mem i = e_go rc k (e_step P k i pc lv st mem) := by
  cases i <;> first | rfl | cases h
theorem e_body_of {P : e_Pg} {rc : e_R} {k pc : Nat} {lv : List (Nat × Value)} {st : List Value} {mem : List e_C} {x : Instr × Nat} (hc : e_code P k pc = some x) (ho : e_ok x = true) : e_body P rc k pc lv st mem = e_one P rc k pc lv st mem x.1 := by
  unfold e_body
  rw [hc]
  unfold e_ok at ho
  dsimp only
  rw [ho]
  rfl
theorem e_Ev.step {P : e_Pg} {k pc : Nat} {lv : List (Nat × Value)} {st : List Value} {mem : List e_C} {x : Instr × Nat} {F : e_F} {y : Option Value × List e_C} (hc : e_code P k pc = some x) (ho : e_ok x = true) (hs : e_smp x.1 = true) (h : e_step P k x.1 pc lv st mem = some F) (he : e_Ev P k F.1 F.2.1 F.2.2.1 F.2.2.2 y) : e_Ev P k pc lv st mem y := by
  obtain ⟨n, hn⟩ := he
  refine ⟨n + 1, ?_⟩
  rw [e_run_succ, e_body_of hc ho, e_one_smp hs, h]
  exact hn
theorem e_two {P : e_Pg} {j k pc0 pc : Nat} {lv0 lv : List (Nat × Value)} {st0 rest : List Value} {mem : List e_C} {y z : Option Value × List e_C} (h1 : e_Ev P j pc0 lv0 st0 mem y) (h2 : e_Ev P k pc lv (y.1.toList ++ rest) y.2 z) : ∃ n, e_aft (e_run P n) k pc lv rest (e_run P n j pc0 lv0 st0 mem) = some z := by
  obtain ⟨a, ha⟩ := h1
  obtain ⟨b, hb⟩ := h2
  refine ⟨max a b, ?_⟩
  rw [e_run_ge P (Nat.le_max_left a b) _ _ _ _ _ _ ha]
  exact e_run_ge P (Nat.le_max_right a b) _ _ _ _ _ _ hb
theorem e_Ev.of {P : e_Pg} {k pc : Nat} {lv : List (Nat × Value)} {st : List Value} {mem : List e_C} {x : Instr × Nat} {y : Option Value × List e_C} (hc : e_code P k pc = some x) (ho : e_ok x = true) (h : ∃ n, e_one P (e_run P n) k pc lv st mem x.1 = some y) : e_Ev P k pc lv st mem y := by
  obtain ⟨n, hn⟩ := h
  refine ⟨n + 1, ?_⟩
  rw [e_run_succ, e_body_of hc ho]
  exact hn
