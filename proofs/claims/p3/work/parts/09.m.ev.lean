/-! RUNS OF SOME LENGTH; A STACK OF CALLERS -/
def e_mo (rc rc' : e_R) : Prop := ∀ k pc lv st mem y, rc k pc lv st mem = some y → rc' k pc lv st mem = some y
theorem e_aft_mo {rc rc' : e_R} (h : e_mo rc rc') {k pc : Nat} {lv : List (Nat × Value)} {rest : List Value} {x x' : Option (Option Value × List e_C)} (hx : ∀ y, x = some y → x' = some y) {y : Option Value × List e_C} (he : e_aft rc k pc lv rest x = some y) : e_aft rc' k pc lv rest x' = some y := by
  unfold e_aft at he
  split at he
  · next z => rw [hx z rfl]; exact h _ _ _ _ _ _ he
  · cases he
theorem e_inv_mo {P : e_Pg} {rc rc' : e_R} (h : e_mo rc rc') {k pc : Nat} {lv : List (Nat × Value)} {st : List Value} {mem : List e_C} {sp : Bool} {i : Nat} {y : Option Value × List e_C} (he : e_inv P rc k pc lv st mem sp i = some y) : e_inv P rc' k pc lv st mem sp i = some y := by
  unfold e_inv at he ⊢
  simp only [Bool.cond_eq_ite] at he ⊢
  split at he
  · cases he
  · split at he
    · split at he
      · next h1 =>
        rw [if_pos h1]
        split at he
        · next h2 => rw [if_pos h2]; exact h _ _ _ _ _ _ he
        · cases he
      · next h1 =>
        rw [if_neg h1]
        split at he
        · split at he
          · next h2 => rw [if_pos h2]; exact e_aft_mo h (fun z hz => h _ _ _ _ _ _ hz) he
          · cases he
        · cases he
    · cases he
theorem e_go_mo {rc rc' : e_R} (h : e_mo rc rc') {k : Nat} {x : Option e_F} {y : Option Value × List e_C} (he : e_go rc k x = some y) : e_go rc' k x = some y := by
  unfold e_go at he ⊢
  split at he
  · exact h _ _ _ _ _ _ he
  · cases he
theorem e_ivs_mo {P : e_Pg} {rc rc' : e_R} (h : e_mo rc rc') {k pc : Nat} {lv : List (Nat × Value)} {st : List Value} {mem : List e_C} {i : Nat} {y : Option Value × List e_C} (he : e_ivs P rc k pc lv st mem i = some y) : e_ivs P rc' k pc lv st mem i = some y := by
  unfold e_ivs at he ⊢
  simp only [Bool.cond_eq_ite] at he ⊢
  split at he
  · cases he
  · split at he
    · next h0 => rw [if_pos h0]; exact e_go_mo h he
    · next h0 =>
      rw [if_neg h0]
      split at he
      · next h1 => rw [if_pos h1]; exact e_aft_mo h (fun z hz => h _ _ _ _ _ _ hz) he
      · cases he
theorem e_body_mo {P : e_Pg} {rc rc' : e_R} (h : e_mo rc rc') : e_mo (e_body P rc) (e_body P rc') := by
  intro k pc lv st mem y he
  unfold e_body at he ⊢
  simp only [Bool.cond_eq_ite] at he ⊢
  split at he
  · next x =>
    split at he
    · next h1 =>
      rw [if_pos h1]
      unfold e_one at he ⊢
      split at he
      · exact e_inv_mo h he
      · exact e_inv_mo h he
      · exact e_ivs_mo h he
      · exact he
      · exact he
      · exact he
      · exact he
      · exact e_go_mo h he
    · cases he
  · cases he
theorem e_run_mo (P : e_Pg) : ∀ n, e_mo (e_run P n) (e_run P (n + 1))
  | 0 => fun k pc lv st mem y h => by cases h
  | n + 1 => by
    rw [e_run_succ P n, e_run_succ P (n + 1)]
    exact e_body_mo (e_run_mo P n)
theorem e_run_ge (P : e_Pg) {n m : Nat} (h : n ≤ m) : e_mo (e_run P n) (e_run P m) := by
  induction m with
  | zero => cases Nat.le_zero.mp h; exact fun _ _ _ _ _ _ h => h
  | succ m ih =>
    rcases Nat.lt_or_ge n (m + 1) with q | q
    · exact fun _ _ _ _ _ _ hy => e_run_mo P m _ _ _ _ _ _ (ih (by omega) _ _ _ _ _ _ hy)
    · have : n = m + 1 := by omega
      subst this
      exact fun _ _ _ _ _ _ h => h
def e_Ev (P : e_Pg) (k pc : Nat) (lv : List (Nat × Value)) (st : List Value) (mem : List e_C) (y : Option Value × List e_C) : Prop := ∃ n, e_run P n k pc lv st mem = some y
def e_ok (x : Instr × Nat) : Bool := x.2 == e_len x.1 || e_len x.1 == 0
def e_smp (i : Instr) : Bool := match i with
  | .invokevirtual _ | .invokespecial _ | .invokestatic _ | .ireturn | .lreturn | .areturn | .return_ => false
  | _ => true
theorem e_one_smp {P : e_Pg} {rc : e_R} {k pc : Nat} {lv : List (Nat × Value)} {st : List Value} {mem : List e_C} {i : Instr} (h : e_smp i = true) : e_one P rc k pc lv st mem i = e_go rc k (e_step P k i pc lv st mem) := by
  cases i <;> first | rfl | cases h
theorem e_body_of {P : e_Pg} {rc : e_R} {k pc : Nat} {lv : List (Nat × Value)} {st : List Value} {mem : List e_C} {x : Instr × Nat} (hc : e_code P k pc = some x) (ho : e_ok x = true) : e_body P rc k pc lv st mem = e_one P rc k pc lv st mem x.1 := by
  unfold e_body
  rw [hc]
  unfold e_ok at ho
  dsimp only
  rw [ho]
  rfl
theorem e_Ev.step {P : e_Pg} {k pc : Nat} {lv : List (Nat × Value)} {st : List Value} {mem : List e_C} {x : Instr × Nat} {F : e_F} {y : Option Value × List e_C} (hc : e_code P k pc = some x) (ho : e_ok x = true) (hs : e_smp x.1 = true) (h : e_step P k x.1 pc lv st mem = some F) (he : e_Ev P k F.1 F.2.1 F.2.2.1 F.2.2.2 y) : e_Ev P k pc lv st mem y := by
  obtain ⟨n, hn⟩ := he
  refine ⟨n + 1, ?_⟩
  rw [e_run_succ, e_body_of hc ho, e_one_smp hs, h]
  exact hn
abbrev e_Fr : Type := Nat × Nat × List (Nat × Value) × List Value
def e_Stk (P : e_Pg) (Y : Option Value × List e_C → Prop) : List e_Fr → List e_C → e_Fr → Prop
  | [], mem, f => ∃ y, e_Ev P f.1 f.2.1 f.2.2.1 f.2.2.2 mem y ∧ Y y
  | g :: gs, mem, f => ∃ y, e_Ev P f.1 f.2.1 f.2.2.1 f.2.2.2 mem y ∧ e_Stk P Y gs y.2 (g.1, g.2.1, g.2.2.1, y.1.toList ++ g.2.2.2)
theorem e_Stk.by {P : e_Pg} {Y : Option Value × List e_C → Prop} {gs : List e_Fr} {mem mem' : List e_C} {f f' : e_Fr} (h : ∀ y, e_Ev P f'.1 f'.2.1 f'.2.2.1 f'.2.2.2 mem' y → e_Ev P f.1 f.2.1 f.2.2.1 f.2.2.2 mem y) (hs : e_Stk P Y gs mem' f') : e_Stk P Y gs mem f := by
  cases gs with
  | nil => obtain ⟨y, h1, h2⟩ := hs; exact ⟨y, h y h1, h2⟩
  | cons g gs => obtain ⟨y, h1, h2⟩ := hs; exact ⟨y, h y h1, h2⟩
abbrev e_Cf : Type := List e_C × e_Fr × List e_Fr
def e_nxi (P : e_Pg) (k pc : Nat) (lv : List (Nat × Value)) (st : List Value) (mem : List e_C) (gs : List e_Fr) (sp : Bool) (i : Nat) : Option e_Cf := match e_cal P k i with
  | none => none
  | some f => match st.drop f.2.1 with
    | .ref q :: rest => bif f.1 == 0 then (bif sp && (f.2.1 == 0 && (f.2.2.1 == 0 && (e_low rest && (Nat.ble 1 (e_rmo P k).1 && Nat.ble 20 (e_rmo P k).2.1)))) then some (mem, (k, pc + 3, lv, rest), gs) else none) else
        match mem[q]? with
        | some (.inr o) => bif o.1 == f.2.2.1 && (!(f.2.2.1 == 99) && (e_low rest && (e_room P k f.1 (.ref q :: (st.take f.2.1).reverse) && (sp == (e_rmo P f.1).2.2)))) then some (mem, (f.1, 0, lv_args 0 (.ref q :: (st.take f.2.1).reverse), []), (k, pc + 3, lv, rest) :: gs) else none
        | _ => none
    | _ => none
def e_nxg (k : Nat) (gs : List e_Fr) (x : Option e_F) : Option e_Cf := match x with
  | some f => some (f.2.2.2, (k, f.1, f.2.1, f.2.2.1), gs)
  | none => none
def e_nxs (P : e_Pg) (k pc : Nat) (lv : List (Nat × Value)) (st : List Value) (mem : List e_C) (gs : List e_Fr) (i : Nat) : Option e_Cf := match e_cal P k i with
  | none => none
  | some f => bif f.1 == 0 then e_nxg k gs (e_bli P k f.2.2.1 pc lv st mem) else (bif Nat.ble f.2.1 st.length && (e_low (st.drop f.2.1) && (e_room P k f.1 (st.take f.2.1).reverse && f.2.2.1 == 99)) then some (mem, (f.1, 0, lv_args 0 (st.take f.2.1).reverse, []), (k, pc + 3, lv, st.drop f.2.1) :: gs) else none)
def e_nxr (mem : List e_C) (gs : List e_Fr) (x : Option (Option Value)) : Option e_Cf := match x, gs with
  | some r, g :: gs => some (mem, (g.1, g.2.1, g.2.2.1, r.toList ++ g.2.2.2), gs)
  | _, _ => none
def e_nxo (P : e_Pg) (k pc : Nat) (lv : List (Nat × Value)) (st : List Value) (mem : List e_C) (gs : List e_Fr) (i : Instr) : Option e_Cf := match i with
  | .invokevirtual n => e_nxi P k pc lv st mem gs false n
  | .invokespecial n => e_nxi P k pc lv st mem gs true n
  | .invokestatic n => e_nxs P k pc lv st mem gs n
  | .ireturn => e_nxr mem gs (e_ret (e_mth P k).2.2.2 .ireturn st)
  | .lreturn => e_nxr mem gs (e_ret (e_mth P k).2.2.2 .lreturn st)
  | .areturn => e_nxr mem gs (e_ret (e_mth P k).2.2.2 .areturn st)
  | .return_ => e_nxr mem gs (e_ret (e_mth P k).2.2.2 .return_ st)
  | i => e_nxg k gs (e_step P k i pc lv st mem)
theorem e_two {P : e_Pg} {j k pc0 pc : Nat} {lv0 lv : List (Nat × Value)} {st0 rest : List Value} {mem : List e_C} {y z : Option Value × List e_C} (h1 : e_Ev P j pc0 lv0 st0 mem y) (h2 : e_Ev P k pc lv (y.1.toList ++ rest) y.2 z) : ∃ n, e_aft (e_run P n) k pc lv rest (e_run P n j pc0 lv0 st0 mem) = some z := by
  obtain ⟨a, ha⟩ := h1
  obtain ⟨b, hb⟩ := h2
  refine ⟨max a b, ?_⟩
  rw [e_run_ge P (Nat.le_max_left a b) _ _ _ _ _ _ ha]
  exact e_run_ge P (Nat.le_max_right a b) _ _ _ _ _ _ hb
theorem e_Stk.call {P : e_Pg} {Y : Option Value × List e_C → Prop} {gs : List e_Fr} {g f f' : e_Fr} {mem : List e_C} (h : ∀ y z, e_Ev P f'.1 f'.2.1 f'.2.2.1 f'.2.2.2 mem y → e_Ev P g.1 g.2.1 g.2.2.1 (y.1.toList ++ g.2.2.2) y.2 z → e_Ev P f.1 f.2.1 f.2.2.1 f.2.2.2 mem z) (hs : e_Stk P Y (g :: gs) mem f') : e_Stk P Y gs mem f := by
  obtain ⟨y, h1, h2⟩ := hs
  exact h2.by (fun z hz => h y z h1 hz)
theorem e_Ev.of {P : e_Pg} {k pc : Nat} {lv : List (Nat × Value)} {st : List Value} {mem : List e_C} {x : Instr × Nat} {y : Option Value × List e_C} (hc : e_code P k pc = some x) (ho : e_ok x = true) (h : ∃ n, e_one P (e_run P n) k pc lv st mem x.1 = some y) : e_Ev P k pc lv st mem y := by
  obtain ⟨n, hn⟩ := h
  refine ⟨n + 1, ?_⟩
  rw [e_run_succ, e_body_of hc ho]
  exact hn
theorem e_nxi_ok {P : e_Pg} {Y : Option Value × List e_C → Prop} {k pc : Nat} {lv : List (Nat × Value)} {st : List Value} {mem : List e_C} {gs : List e_Fr} {sp : Bool} {i : Nat} {x : Instr × Nat} {C : e_Cf} (hc : e_code P k pc = some x) (ho : e_ok x = true) (hx : ∀ rc, e_one P rc k pc lv st mem x.1 = e_inv P rc k pc lv st mem sp i) (h : e_nxi P k pc lv st mem gs sp i = some C) (hs : e_Stk P Y C.2.2 C.1 C.2.1) : e_Stk P Y gs mem (k, pc, lv, st) := by
  unfold e_nxi at h
  simp only [Bool.cond_eq_ite] at h
  split at h
  · cases h
  · next f hf =>
    split at h
    · next q rest hq =>
      split at h
      · next h1 =>
        split at h
        · next h2 =>
          cases h
          refine hs.by (fun y hy => ?_)
          obtain ⟨n, hn⟩ := hy
          refine e_Ev.of hc ho ⟨n, ?_⟩
          rw [hx]
          unfold e_inv
          simp only [Bool.cond_eq_ite, hf, hq, if_pos h1, if_pos h2]
          exact hn
        · cases h
      · next h1 =>
        split at h
        · next o hoo =>
          split at h
          · next h2 =>
            cases h
            refine hs.call (fun y z hy hz => ?_)
            obtain ⟨n, hn⟩ := e_two hy hz
            refine e_Ev.of hc ho ⟨n, ?_⟩
            rw [hx]
            unfold e_inv
            simp only [Bool.cond_eq_ite, hf, hq, if_neg h1, hoo, if_pos h2]
            exact hn
          · cases h
        · cases h
    · cases h
theorem e_nxs_ok {P : e_Pg} {Y : Option Value × List e_C → Prop} {k pc : Nat} {lv : List (Nat × Value)} {st : List Value} {mem : List e_C} {gs : List e_Fr} {i : Nat} {x : Instr × Nat} {C : e_Cf} (hc : e_code P k pc = some x) (ho : e_ok x = true) (hx : ∀ rc, e_one P rc k pc lv st mem x.1 = e_ivs P rc k pc lv st mem i) (h : e_nxs P k pc lv st mem gs i = some C) (hs : e_Stk P Y C.2.2 C.1 C.2.1) : e_Stk P Y gs mem (k, pc, lv, st) := by
  unfold e_nxs at h
  simp only [Bool.cond_eq_ite] at h
  split at h
  · cases h
  · next f hf =>
    split at h
    · next h0 =>
      unfold e_nxg at h
      split at h
      · next F hF =>
        cases h
        refine hs.by (fun y hy => ?_)
        obtain ⟨n, hn⟩ := hy
        refine e_Ev.of hc ho ⟨n, ?_⟩
        rw [hx]
        unfold e_ivs
        simp only [Bool.cond_eq_ite, hf, if_pos h0, hF]
        exact hn
      · cases h
    · next h0 =>
      split at h
      · next h2 =>
        cases h
        refine hs.call (fun y z hy hz => ?_)
        obtain ⟨n, hn⟩ := e_two hy hz
        refine e_Ev.of hc ho ⟨n, ?_⟩
        rw [hx]
        unfold e_ivs
        simp only [Bool.cond_eq_ite, hf, if_neg h0, if_pos h2]
        exact hn
      · cases h
theorem e_nxr_ok {P : e_Pg} {Y : Option Value × List e_C → Prop} {k pc : Nat} {lv : List (Nat × Value)} {st : List Value} {mem : List e_C} {gs : List e_Fr} {x : Instr × Nat} {C : e_Cf} {r : Option (Option Value)} (hc : e_code P k pc = some x) (ho : e_ok x = true) (hx : ∀ rc, e_one P rc k pc lv st mem x.1 = e_rt mem r) (h : e_nxr mem gs r = some C) (hs : e_Stk P Y C.2.2 C.1 C.2.1) : e_Stk P Y gs mem (k, pc, lv, st) := by
  unfold e_nxr at h
  split at h
  · next r g gs =>
    cases h
    exact ⟨(r, mem), e_Ev.of hc ho ⟨0, by rw [hx]; rfl⟩, hs⟩
  · cases h
theorem e_nxg_ok {P : e_Pg} {Y : Option Value × List e_C → Prop} {k pc : Nat} {lv : List (Nat × Value)} {st : List Value} {mem : List e_C} {gs : List e_Fr} {x : Instr × Nat} {C : e_Cf} (hc : e_code P k pc = some x) (ho : e_ok x = true) (hs0 : e_smp x.1 = true) (h : e_nxg k gs (e_step P k x.1 pc lv st mem) = some C) (hs : e_Stk P Y C.2.2 C.1 C.2.1) : e_Stk P Y gs mem (k, pc, lv, st) := by
  unfold e_nxg at h
  split at h
  · next F hF =>
    cases h
    exact hs.by (fun y hy => e_Ev.step hc ho hs0 hF hy)
  · cases h
theorem e_nx_ok {P : e_Pg} {Y : Option Value × List e_C → Prop} {k pc : Nat} {lv : List (Nat × Value)} {st : List Value} {mem : List e_C} {gs : List e_Fr} {x : Instr × Nat} {C : e_Cf} (hc : e_code P k pc = some x) (ho : e_ok x = true) (h : e_nxo P k pc lv st mem gs x.1 = some C) (hs : e_Stk P Y C.2.2 C.1 C.2.1) : e_Stk P Y gs mem (k, pc, lv, st) := by
  obtain ⟨i, len⟩ := x
  cases i with
  | invokevirtual n => exact e_nxi_ok hc ho (fun rc => rfl) h hs
  | invokespecial n => exact e_nxi_ok hc ho (fun rc => rfl) h hs
  | invokestatic n => exact e_nxs_ok hc ho (fun rc => rfl) h hs
  | ireturn => exact e_nxr_ok hc ho (fun rc => rfl) h hs
  | lreturn => exact e_nxr_ok hc ho (fun rc => rfl) h hs
  | areturn => exact e_nxr_ok hc ho (fun rc => rfl) h hs
  | return_ => exact e_nxr_ok hc ho (fun rc => rfl) h hs
  | _ => exact e_nxg_ok hc ho rfl h hs
