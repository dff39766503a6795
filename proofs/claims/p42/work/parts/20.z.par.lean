/-! A RUN THAT LEAVES THE FIRST CELL ALONE GOES THE SAME WAY OVER ANY FIRST CELL -/
abbrev f_mk : e_C := .inr (99, [])
def f_S (f : List e_C → Option e_F) (rest : List e_C) : Prop := ∀ F, f (f_mk :: rest) = some F → ∃ rest', F.2.2.2 = f_mk :: rest' ∧ ∀ c, f (c :: rest) = some (F.1, F.2.1, F.2.2.1, c :: rest')
def f_N (f : List e_C → Option e_F) : Prop := ∃ g : Option (Nat × List (Nat × Value) × List Value), ∀ mem, f mem = g.map (fun x => (x.1, x.2.1, x.2.2, mem))
theorem f_N.S {f : List e_C → Option e_F} (h : f_N f) (rest : List e_C) : f_S f rest := by
  obtain ⟨g, h⟩ := h
  intro F hF
  rw [h] at hF
  cases hg : g with
  | none => rw [hg] at hF; cases hF
  | some x => rw [hg] at hF; cases hF; exact ⟨rest, rfl, fun c => by rw [h, hg]; rfl⟩
theorem f_none : f_N (fun _ => none) := ⟨none, fun _ => rfl⟩
theorem f_some (a : Nat) (b : List (Nat × Value)) (c : List Value) : f_N (fun mem => some (a, b, c, mem)) := ⟨some (a, b, c), fun _ => rfl⟩
theorem f_cond {b : Bool} {f g : List e_C → Option e_F} (hf : f_N f) (hg : f_N g) : f_N (fun mem => bif b then f mem else g mem) := by cases b <;> assumption
section FN
variable (pc : Nat) (lv : List (Nat × Value)) (st : List Value)
theorem f_iload (i : Nat) : f_N (fun mem => e_iload pc lv st mem i) := by unfold e_iload; split <;> first | exact f_some _ _ _ | exact f_none
theorem f_lload (i : Nat) : f_N (fun mem => e_lload pc lv st mem i) := by unfold e_lload; split <;> first | exact f_some _ _ _ | exact f_none
theorem f_aload (i : Nat) : f_N (fun mem => e_aload pc lv st mem i) := by unfold e_aload; split <;> first | exact f_some _ _ _ | exact f_none
theorem f_istore (n i : Nat) : f_N (fun mem => e_istore pc lv st mem n i) := by unfold e_istore; split <;> first | exact f_cond (f_some _ _ _) f_none | exact f_none
theorem f_lstore (n i : Nat) : f_N (fun mem => e_lstore pc lv st mem n i) := by unfold e_lstore; split <;> first | exact f_cond (f_some _ _ _) f_none | exact f_none
theorem f_astore (n i : Nat) : f_N (fun mem => e_astore pc lv st mem n i) := by unfold e_astore; split <;> first | exact f_cond (f_some _ _ _) f_none | exact f_none
theorem f_iinc (n i : Nat) (d : Int) : f_N (fun mem => e_iinc pc lv st mem n i d) := by unfold e_iinc; split <;> first | exact f_cond (f_some _ _ _) f_none | exact f_none
theorem f_i1 (g : Int32 → Int32) : f_N (fun mem => e_i1 pc lv st mem g) := by unfold e_i1; split <;> first | exact f_some _ _ _ | exact f_none
theorem f_i2l : f_N (fun mem => e_i2l pc lv st mem) := by unfold e_i2l; split <;> first | exact f_some _ _ _ | exact f_none
theorem f_i2 (g : Int32 → Int32 → Int32) : f_N (fun mem => e_i2 pc lv st mem g) := by unfold e_i2; split <;> first | exact f_some _ _ _ | exact f_none
theorem f_i2z (g : Int32 → Int32 → Int32) : f_N (fun mem => e_i2z pc lv st mem g) := by unfold e_i2z; split <;> first | exact f_cond f_none (f_some _ _ _) | exact f_none
theorem f_l2 (g : Int64 → Int64 → Int64) : f_N (fun mem => e_l2 pc lv st mem g) := by unfold e_l2; split <;> first | exact f_some _ _ _ | exact f_none
theorem f_l2z (g : Int64 → Int64 → Int64) : f_N (fun mem => e_l2z pc lv st mem g) := by unfold e_l2z; split <;> first | exact f_cond f_none (f_some _ _ _) | exact f_none
theorem f_lcmp : f_N (fun mem => e_lcmp pc lv st mem) := by unfold e_lcmp; split <;> first | exact f_some _ _ _ | exact f_none
theorem f_dup : f_N (fun mem => e_dup pc lv st mem) := by unfold e_dup; split <;> first | exact f_cond (f_some _ _ _) f_none | exact f_none
theorem f_pop : f_N (fun mem => e_pop pc lv st mem) := by unfold e_pop; split <;> first | exact f_cond (f_some _ _ _) f_none | exact f_none
theorem f_pop2 : f_N (fun mem => e_pop2 pc lv st mem) := by unfold e_pop2; split <;> first | exact f_cond (f_some _ _ _) f_none | exact f_none
theorem f_dup2 : f_N (fun mem => e_dup2 pc lv st mem) := by unfold e_dup2; split <;> first | exact f_cond (f_some _ _ _) f_none | exact f_none
theorem f_min : f_N (fun mem => e_min pc lv st mem) := by unfold e_min; split <;> first | exact f_cond (f_some _ _ _) f_none | exact f_none
theorem f_max : f_N (fun mem => e_max pc lv st mem) := by unfold e_max; split <;> first | exact f_cond (f_some _ _ _) f_none | exact f_none
theorem f_ldi (x : Option Value) : f_N (fun mem => e_ldi pc lv st mem x) := by unfold e_ldi; split <;> first | exact f_some _ _ _ | exact f_some _ _ _ | exact f_none
theorem f_ldw (x : Option Value) : f_N (fun mem => e_ldw pc lv st mem x) := by unfold e_ldw; split <;> first | exact f_some _ _ _ | exact f_none
theorem f_ldl (x : Option Value) : f_N (fun mem => e_ldl pc lv st mem x) := by unfold e_ldl; split <;> first | exact f_some _ _ _ | exact f_none
theorem f_jmp (o : Int) : f_N (fun mem => e_jmp pc o lv st mem) := by unfold e_jmp; split <;> first | exact f_some _ _ _ | exact f_none
theorem f_if (b : Bool) (o : Int) : f_N (fun mem => e_if b pc o lv st mem) := by unfold e_if; split <;> first | exact f_cond (f_some _ _ _) (f_some _ _ _) | exact f_none
theorem f_tsw (d lo hi : Int) (offs : Array Int) : f_N (fun mem => e_tsw lv st mem pc d lo hi offs) := by
  unfold e_tsw
  split
  · refine f_cond (f_jmp _ _ _ _) ?_
    split
    · exact f_jmp _ _ _ _
    · exact f_none
  · exact f_none
variable (rest : List e_C)
theorem f_alen : f_S (fun mem => e_alen pc lv st mem) rest := by
  intro F h
  dsimp only at h
  unfold e_alen at h
  split at h
  · next q r =>
    cases q with
    | zero => cases h
    | succ q =>
      simp only [List.getElem?_cons_succ] at h
      split at h
      · next a ha => cases h; exact ⟨rest, rfl, fun c => by simp only [e_alen, List.getElem?_cons_succ, ha]⟩
      · cases h
  · cases h
theorem f_ald (z : Bool) : f_S (fun mem => e_ald pc lv st mem z) rest := by
  intro F h
  dsimp only at h
  unfold e_ald at h
  split at h
  · next j q r =>
    cases q with
    | zero => cases h
    | succ q =>
      simp only [List.getElem?_cons_succ, Bool.cond_eq_ite] at h
      split at h
      · next a ha =>
        split at h
        · next hb =>
          split at h
          · next x hx => cases h; exact ⟨rest, rfl, fun c => by simp only [e_ald, List.getElem?_cons_succ, ha, Bool.cond_eq_ite, if_pos hb, hx]⟩
          · cases h
        · cases h
      · cases h
  · cases h
theorem f_ast (ro : Nat) (z : Bool) : f_S (fun mem => e_ast pc lv st mem ro z) rest := by
  intro F h
  dsimp only at h
  unfold e_ast at h
  split at h
  · next x j q r =>
    cases q with
    | zero => cases h
    | succ q =>
      simp only [List.getElem?_cons_succ, Bool.cond_eq_ite] at h
      split at h
      · next a ha =>
        split at h
        · next hb => cases h; exact ⟨_, rfl, fun c => by simp only [e_ast, List.getElem?_cons_succ, ha, Bool.cond_eq_ite, if_pos hb]; rfl⟩
        · cases h
      · cases h
  · cases h
theorem f_getf (x : Option (Nat × Nat × FieldType × Bool)) : f_S (fun mem => e_getf pc lv st mem x) rest := by
  intro F h
  dsimp only at h
  unfold e_getf at h
  split at h
  · next f q r =>
    cases q with
    | zero =>
      simp only [List.getElem?_cons_zero, Bool.cond_eq_ite, List.getElem?_nil] at h
      split at h <;> cases h
    | succ q =>
      simp only [List.getElem?_cons_succ, Bool.cond_eq_ite] at h
      split at h
      · next o ho =>
        split at h
        · next hb =>
          split at h
          · next v hv => cases h; exact ⟨rest, rfl, fun c => by simp only [e_getf, List.getElem?_cons_succ, ho, Bool.cond_eq_ite, if_pos hb, hv]⟩
          · cases h
        · cases h
      · cases h
  · cases h
theorem f_putf (ro : Nat) (x : Option (Nat × Nat × FieldType × Bool)) : f_S (fun mem => e_putf pc lv st mem ro x) rest := by
  intro F h
  dsimp only at h
  unfold e_putf at h
  split at h
  · next f v q r =>
    cases q with
    | zero =>
      have hz : Nat.blt f.2.1 ([] : List Value).length = false := rfl
      simp only [List.getElem?_cons_zero, hz, Bool.false_and, Bool.and_false, cond_false] at h
      cases h
    | succ q =>
      simp only [List.getElem?_cons_succ, Bool.cond_eq_ite] at h
      split at h
      · next o ho =>
        split at h
        · next hb => cases h; exact ⟨_, rfl, fun c => by simp only [e_putf, List.getElem?_cons_succ, ho, Bool.cond_eq_ite, if_pos hb]; rfl⟩
        · cases h
      · cases h
  · cases h
theorem f_acp (ro : Nat) : f_S (fun mem => e_acp pc lv st mem ro) rest := by
  intro F h
  dsimp only at h
  unfold e_acp at h
  split at h
  · next n dp q1 sp q0 r =>
    cases q0 with
    | zero => cases h
    | succ q0 =>
      cases q1 with
      | zero =>
        simp only [List.getElem?_cons_succ, List.getElem?_cons_zero] at h
        split at h
        · next h1 h2 => cases h2
        · cases h
      | succ q1 =>
        simp only [List.getElem?_cons_succ, Bool.cond_eq_ite] at h
        split at h
        · next a b ha hb =>
          split at h
          · next hc => cases h; exact ⟨_, rfl, fun c => by simp only [e_acp, List.getElem?_cons_succ, ha, hb, Bool.cond_eq_ite, if_pos hc]; rfl⟩
          · cases h
        · cases h
  · cases h
theorem f_newo (x : Option (Nat × List Value)) : f_S (fun mem => e_newo pc lv st mem x) rest := by
  intro F h
  dsimp only at h
  unfold e_newo at h
  split at h
  · cases h; exact ⟨_, rfl, fun c => rfl⟩
  · cases h
theorem f_newa (z : Bool) : f_S (fun mem => e_newa pc lv st mem z) rest := by
  intro F h
  dsimp only at h
  unfold e_newa at h
  split at h
  · simp only [Bool.cond_eq_ite] at h
    split at h
    · next hb => cases h; exact ⟨_, rfl, fun c => by simp only [e_newa, Bool.cond_eq_ite, if_pos hb]; rfl⟩
    · cases h
  · cases h
theorem f_step (P : e_Pg) (k : Nat) (i : Instr) : f_S (fun mem => e_step P k i pc lv st mem) rest := by
  cases i
  case newarray t => cases t <;> first | exact f_newa _ _ _ _ _ | exact f_none.S _
  case if_icmp c o =>
    refine f_N.S ?_ _
    unfold e_step
    dsimp only
    split
    · exact f_if _ _ _ _ _
    · exact f_none
  case ifCond c o =>
    refine f_N.S ?_ _
    unfold e_step
    dsimp only
    split
    · exact f_if _ _ _ _ _
    · exact f_none
  all_goals first
    | exact f_none.S _
    | exact (f_some _ _ _).S _
    | exact (f_iload _ _ _ _).S _ | exact (f_lload _ _ _ _).S _ | exact (f_aload _ _ _ _).S _
    | exact (f_istore _ _ _ _ _).S _ | exact (f_lstore _ _ _ _ _).S _ | exact (f_astore _ _ _ _ _).S _
    | exact (f_iinc _ _ _ _ _ _).S _ | exact (f_i1 _ _ _ _).S _ | exact (f_i2l _ _ _).S _ | exact (f_i2 _ _ _ _).S _ | exact (f_i2z _ _ _ _).S _
    | exact (f_l2 _ _ _ _).S _ | exact (f_l2z _ _ _ _).S _ | exact (f_lcmp _ _ _).S _ | exact (f_dup _ _ _).S _ | exact (f_pop _ _ _).S _ | exact (f_pop2 _ _ _).S _ | exact (f_dup2 _ _ _).S _
    | exact (f_ldi _ _ _ _).S _ | exact (f_ldw _ _ _ _).S _ | exact (f_ldl _ _ _ _).S _ | exact (f_jmp _ _ _ _).S _ | exact (f_tsw _ _ _ _ _ _ _).S _
    | exact f_alen _ _ _ _ | exact f_ald _ _ _ _ _ | exact f_ast _ _ _ _ _ _ | exact f_getf _ _ _ _ _ | exact f_putf _ _ _ _ _ _ | exact f_newo _ _ _ _ _
end FN
def f_R (rc : e_R) : Prop := ∀ k pc lv st rest y, rc k pc lv st (f_mk :: rest) = some y → ∃ rest', y.2 = f_mk :: rest' ∧ ∀ c, rc k pc lv st (c :: rest) = some (y.1, c :: rest')
theorem f_go {rc : e_R} (hr : f_R rc) {k : Nat} {f : List e_C → Option e_F} {rest : List e_C} (hf : f_S f rest) {y : Option Value × List e_C} (h : e_go rc k (f (f_mk :: rest)) = some y) : ∃ rest', y.2 = f_mk :: rest' ∧ ∀ c, e_go rc k (f (c :: rest)) = some (y.1, c :: rest') := by
  unfold e_go at h
  split at h
  · next F hF =>
    obtain ⟨r1, e1, h1⟩ := hf F hF
    rw [e1] at h
    obtain ⟨r2, e2, h2⟩ := hr _ _ _ _ _ _ h
    exact ⟨r2, e2, fun c => by rw [h1 c]; exact h2 c⟩
  · cases h
theorem f_aft {rc : e_R} (hr : f_R rc) {k pc k2 pc2 : Nat} {lv lv2 : List (Nat × Value)} {rs st2 : List Value} {rest : List e_C} {y : Option Value × List e_C} (h : e_aft rc k pc lv rs (rc k2 pc2 lv2 st2 (f_mk :: rest)) = some y) : ∃ rest', y.2 = f_mk :: rest' ∧ ∀ c, e_aft rc k pc lv rs (rc k2 pc2 lv2 st2 (c :: rest)) = some (y.1, c :: rest') := by
  unfold e_aft at h
  split at h
  · next z hz =>
    obtain ⟨r1, e1, h1⟩ := hr _ _ _ _ _ _ hz
    rw [e1] at h
    obtain ⟨r2, e2, h2⟩ := hr _ _ _ _ _ _ h
    exact ⟨r2, e2, fun c => by rw [h1 c]; exact h2 c⟩
  · cases h
theorem f_inv {P : e_Pg} {rc : e_R} (hr : f_R rc) {k pc : Nat} {lv : List (Nat × Value)} {st : List Value} {rest : List e_C} {sp : Bool} {i : Nat} {y : Option Value × List e_C} (h : e_inv P rc k pc lv st (f_mk :: rest) sp i = some y) : ∃ rest', y.2 = f_mk :: rest' ∧ ∀ c, e_inv P rc k pc lv st (c :: rest) sp i = some (y.1, c :: rest') := by
  unfold e_inv at h
  simp only [Bool.cond_eq_ite] at h
  split at h
  · cases h
  · next f hf =>
    split at h
    · next q rs hq =>
      split at h
      · next h1 =>
        split at h
        · next h2 =>
          obtain ⟨r, e1, e2⟩ := hr _ _ _ _ _ _ h
          exact ⟨r, e1, fun c => by simp only [e_inv, hf, hq, Bool.cond_eq_ite, if_pos h1, if_pos h2]; exact e2 c⟩
        · next h2 =>
          unfold e_sgo at h
          simp only [Bool.cond_eq_ite] at h
          split at h
          · cases h
          · next h3 =>
            split at h
            · next x hx =>
              obtain ⟨r, e1, e2⟩ := hr _ _ _ _ _ _ h
              exact ⟨r, e1, fun c => by simp only [e_inv, hf, hq, Bool.cond_eq_ite, if_pos h1, if_neg h2, e_sgo, if_neg h3, hx]; exact e2 c⟩
            · cases h
      · next h1 =>
        cases q with
        | zero =>
          simp only [List.getElem?_cons_zero] at h
          split at h
          · next h2 =>
            simp only [Bool.and_eq_true, beq_iff_eq, Bool.not_eq_true', beq_eq_false_iff_ne] at h2
            exact absurd h2.1.symm h2.2.1
          · cases h
        | succ q =>
          simp only [List.getElem?_cons_succ] at h
          split at h
          · next o ho =>
            split at h
            · next h2 =>
              obtain ⟨r, e1, e2⟩ := f_aft hr h
              exact ⟨r, e1, fun c => by simp only [e_inv, hf, hq, Bool.cond_eq_ite, if_neg h1, List.getElem?_cons_succ, ho, if_pos h2]; exact e2 c⟩
            · cases h
          · cases h
    · cases h
theorem f_bli (P : e_Pg) (k cd pc : Nat) (lv : List (Nat × Value)) (st : List Value) (rest : List e_C) : f_S (fun mem => e_bli P k cd pc lv st mem) rest := by
  unfold e_bli
  cases (Nat.ble 1 (e_rmo P k).1 && Nat.ble 26 (e_rmo P k).2.1) with
  | false => exact f_none.S _
  | true =>
    simp only [cond_true]
    cases (cd == 98) with
    | true => exact f_acp _ _ _ _ _
    | false =>
      simp only [cond_false]
      exact (f_cond (f_min _ _ _) (f_cond (f_max _ _ _) f_none)).S _
theorem f_ivs {P : e_Pg} {rc : e_R} (hr : f_R rc) {k pc : Nat} {lv : List (Nat × Value)} {st : List Value} {rest : List e_C} {i : Nat} {y : Option Value × List e_C} (h : e_ivs P rc k pc lv st (f_mk :: rest) i = some y) : ∃ rest', y.2 = f_mk :: rest' ∧ ∀ c, e_ivs P rc k pc lv st (c :: rest) i = some (y.1, c :: rest') := by
  unfold e_ivs at h
  simp only [Bool.cond_eq_ite] at h
  split at h
  · cases h
  · next f hf =>
    split at h
    · next h1 =>
      obtain ⟨r, e1, e2⟩ := f_go hr (f_bli P k f.2.2.1 pc lv st rest) h
      exact ⟨r, e1, fun c => by simp only [e_ivs, hf, Bool.cond_eq_ite, if_pos h1]; exact e2 c⟩
    · next h1 =>
      split at h
      · next h2 =>
        obtain ⟨r, e1, e2⟩ := f_aft hr h
        exact ⟨r, e1, fun c => by simp only [e_ivs, hf, Bool.cond_eq_ite, if_neg h1, if_pos h2]; exact e2 c⟩
      · cases h
theorem f_body {P : e_Pg} {rc : e_R} (hr : f_R rc) : f_R (e_body P rc) := by
  intro k pc lv st rest y h
  unfold e_body at h ⊢
  simp only [Bool.cond_eq_ite] at h ⊢
  split at h
  · next x hx =>
    split at h
    · next h1 =>
      simp only [if_pos h1]
      obtain ⟨i, len⟩ := x
      have hret : ∀ i2 : Instr, e_rt (f_mk :: rest) (e_ret (e_mth P k).2.2.2 i2 st) = some y → ∃ rest', y.2 = f_mk :: rest' ∧ ∀ c, e_rt (c :: rest) (e_ret (e_mth P k).2.2.2 i2 st) = some (y.1, c :: rest') := by
        intro i2 h2
        unfold e_rt at h2 ⊢
        split at h2
        · cases h2; exact ⟨rest, rfl, fun c => rfl⟩
        · cases h2
      have h : e_one P rc k pc lv st (f_mk :: rest) i = some y := h
      show ∃ rest', y.2 = f_mk :: rest' ∧ ∀ c, e_one P rc k pc lv st (c :: rest) i = some (y.1, c :: rest')
      cases hs : e_smp i with
      | true =>
        simp only [e_one_smp hs] at h ⊢
        exact f_go hr (f_step pc lv st rest P k i) h
      | false => cases i <;> first | exact f_inv hr h | exact f_ivs hr h | exact hret _ h | cases hs
    · cases h
  · cases h
theorem f_run (P : e_Pg) : ∀ n, f_R (e_run P n)
  | 0 => fun k pc lv st rest y h => by cases h
  | n + 1 => by rw [e_run_succ]; exact f_body (f_run P n)
