/-! ONE STEP BY SETS -/
section BS
variable {ρ : Nat → Int32} {E : b_E}
def b_cmpS (I J : b_I) : b_I := [((bif decide (b_max J (-9223372036854775808) < b_min I 9223372036854775807) then 1 else bif decide (b_max J (-9223372036854775808) ≤ b_min I 9223372036854775807) then 0 else -1), (bif decide (b_max I (-9223372036854775808) < b_min J 9223372036854775807) then -1 else bif decide (b_max I (-9223372036854775808) ≤ b_min J 9223372036854775807) then 0 else 1))]
theorem b_cmpS_ok {I J : b_I} {x y : Int64} (hx : b_in I x.toInt) (hy : b_in J y.toInt) : b_in (b_cmpS I J) (lg_cmp x y).toInt := by
  have m1 := b_min_ok (d := 9223372036854775807) hx
  have m2 := b_max_ok (d := -9223372036854775808) hx
  have m3 := b_min_ok (d := 9223372036854775807) hy
  have m4 := b_max_ok (d := -9223372036854775808) hy
  refine ⟨_, List.mem_singleton.mpr rfl, ?_, ?_⟩ <;> unfold lg_cmp <;> simp only [Bool.cond_eq_ite, decide_eq_true_eq, gt_iff_lt, Int64.lt_iff_toInt_lt, ← Int64.toInt_inj] <;> (repeat' split) <;> first | omega | decide | (exfalso; omega)
def b_lcm (E : b_E) (st : List b_V) : Option (List b_V) := match st with
  | b :: a :: r => match b_lt a, b_lt b with
    | some I, some J => match b_nrm E (.inr (1, 0, 0, b_cmpS I J)) with
      | some c => some (c :: r)
      | none => none
    | _, _ => bif b_isL a && b_isL b then some (.inr (1, 0, 0, [(-1, 1)]) :: r) else none
  | _ => none
theorem b_lcm_ok {n : Nat} (hE : b_ok ρ E) {st st2 : List b_V} {st' : List Value} (hs : a_l2 (b_rv n ρ) st st') (h : b_lcm E st = some st2) {pc : Nat} {lw : List (Nat × Value)} {mem : List e_C} : ∃ s2, e_lcmp pc lw st' mem = some (pc, lw, s2, mem) ∧ a_l2 (b_rv n ρ) st2 s2 := by
  unfold b_lcm at h
  simp only [Bool.cond_eq_ite, Bool.and_eq_true] at h
  split at h
  · next b a r =>
    obtain ⟨w, t, rfl, h1, h2⟩ := a_l2_c hs
    obtain ⟨v, t, rfl, h3, h4⟩ := a_l2_c h2
    split at h
    · next I J hI hJ =>
      obtain ⟨x, rfl, hx⟩ := b_lt_ok h3 hI
      obtain ⟨y, rfl, hy⟩ := b_lt_ok h1 hJ
      split at h
      · next c hc =>
        cases h
        obtain ⟨z, hz, h5⟩ := b_nrm_ok hE (show b_rv n ρ (.inr (1, 0, 0, b_cmpS I J)) (.int (lg_cmp x y)) from ⟨_, rfl, b_cmpS_ok hx hy⟩) hc
        cases hz
        exact ⟨_, rfl, h5, h4⟩
      · cases h
    · split at h
      · next hc =>
        cases h
        obtain ⟨x, rfl⟩ := b_isL_ok h3 hc.1
        obtain ⟨y, rfl⟩ := b_isL_ok h1 hc.2
        refine ⟨_, rfl, ⟨_, rfl, ?_⟩, h4⟩
        refine ⟨_, List.mem_singleton.mpr rfl, ?_, ?_⟩ <;> unfold lg_cmp <;> (repeat' split) <;> decide
      · cases h
  · cases h
abbrev b_G : Type := b_E × b_O × Nat × List (Nat × b_V) × List b_V
def b_u (E : b_E) (O : b_O) (pc : Nat) (lv : List (Nat × b_V)) (x : Option (List b_V)) : Option b_G := match x with
  | some s => some (E, O, pc, lv, s)
  | none => none
def b_w (E : b_E) (O : b_O) (pc : Nat) (x : Option b_H) : Option b_G := match x with
  | some s => some (E, O, pc, s.1, s.2)
  | none => none
/-- what a step must give -/
def b_Ok (M : List b_Y) (pr : List (Nat × Nat)) (ρ : Nat → Int32) (E : b_E) (mem : List e_C) (G : b_G) (x : Option e_F) : Prop := ∃ (ρ' : Nat → Int32) (lw : List (Nat × Value)) (st : List Value) (mem2 : List e_C), x = some (G.2.2.1, lw, st, mem2) ∧ b_ok ρ' G.1 ∧ b_ext E.length ρ G.1.length ρ' ∧ b_mem M mem2 ∧ b_ov G.1.length ρ' G.2.1 mem2 ∧ a_l2 (b_rq G.1.length ρ') G.2.2.2.1 lw ∧ a_l2 (b_rv G.1.length ρ') G.2.2.2.2 st ∧ ∀ p ∈ pr, e_pl mem2 p.1 p.2 = e_pl mem p.1 p.2
theorem b_u_ok {M : List b_Y} {pr : List (Nat × Nat)} {O : b_O} {pc : Nat} {lv : List (Nat × b_V)} {lw : List (Nat × Value)} {mem : List e_C} {x : Option (List b_V)} {y : Option e_F} {G : b_G} (hE : b_ok ρ E) (hM : b_mem M mem) (hO : b_ov E.length ρ O mem) (hl : a_l2 (b_rq E.length ρ) lv lw) (hx : ∀ s, x = some s → ∃ s2, y = some (pc, lw, s2, mem) ∧ a_l2 (b_rv E.length ρ) s s2) (h : b_u E O pc lv x = some G) : b_Ok M pr ρ E mem G y := by
  unfold b_u at h
  split at h
  · next s =>
    cases h
    obtain ⟨s2, h1, h2⟩ := hx s rfl
    exact ⟨ρ, lw, s2, mem, h1, hE, b_ext.rf, hM, hO, hl, h2, fun _ _ => rfl⟩
  · cases h
theorem b_w_ok {M : List b_Y} {pr : List (Nat × Nat)} {O : b_O} {pc : Nat} {mem : List e_C} {x : Option b_H} {y : Option e_F} {G : b_G} (hE : b_ok ρ E) (hM : b_mem M mem) (hO : b_ov E.length ρ O mem) (hx : ∀ s, x = some s → ∃ w2 s2, y = some (pc, w2, s2, mem) ∧ a_l2 (b_rq E.length ρ) s.1 w2 ∧ a_l2 (b_rv E.length ρ) s.2 s2) (h : b_w E O pc x = some G) : b_Ok M pr ρ E mem G y := by
  unfold b_w at h
  split at h
  · next s =>
    cases h
    obtain ⟨w2, s2, h1, h2, h3⟩ := hx s rfl
    exact ⟨ρ, w2, s2, mem, h1, hE, b_ext.rf, hM, hO, h2, h3, fun _ _ => rfl⟩
  · cases h
def b_incH (E : b_E) (lv : List (Nat × b_V)) (st : List b_V) (nL i : Nat) (d : Int) : Option b_H := match b_inc E lv nL i d with
  | some l => some (l, st)
  | none => none
def b_pure (P : e_Pg) (k : Nat) (i : Instr) (E : b_E) (O : b_O) (pc : Nat) (lv : List (Nat × b_V)) (st : List b_V) : Option b_G := match i with
  | .aload n => b_u E O (pc + 2) lv (b_alo lv st n)
  | .aload_n n => b_u E O (pc + 1) lv (b_alo lv st n.val)
  | .astore n => b_w E O (pc + 2) (b_asto lv st (e_mth P k).2.2.1 n)
  | .astore_n n => b_w E O (pc + 1) (b_asto lv st (e_mth P k).2.2.1 n.val)
  | .bipush n => some (E, O, pc + 2, lv, .inl (.int (Int8.ofInt n).toInt32) :: st)
  | .dup => b_u E O (pc + 1) lv (b_dup st)
  | .dup2 => b_u E O (pc + 1) lv (b_dup2 st)
  | .i2b => b_u E O (pc + 1) lv (b_i1 E (fun x => x.toInt8.toInt32) st)
  | .i2l => b_u E O (pc + 1) lv (b_i2l E st)
  | .i2s => b_u E O (pc + 1) lv (b_i1 E (fun x => x.toInt16.toInt32) st)
  | .iadd => b_u E O (pc + 1) lv (b_one2 st (b_addv E))
  | .iand => b_u E O (pc + 1) lv (b_one2 st (b_i2v E (fun x y => x &&& y) b_andS))
  | .iconst n => some (E, O, pc + 1, lv, .inl (.int (Int32.ofInt n)) :: st)
  | .idiv => b_u E O (pc + 1) lv (b_one2 st (b_dvv E (fun x y => x / y) b_div))
  | .iinc n d => b_w E O (pc + 3) (b_incH E lv st (e_mth P k).2.2.1 n d)
  | .iload n => b_u E O (pc + 2) lv (b_ilo E lv st n)
  | .iload_n n => b_u E O (pc + 1) lv (b_ilo E lv st n.val)
  | .imul => b_u E O (pc + 1) lv (b_one2 st (b_mulv E))
  | .ior => b_u E O (pc + 1) lv (b_one2 st (b_i2v E (fun x y => x ||| y) (fun _ _ => b_any)))
  | .irem => b_u E O (pc + 1) lv (b_one2 st (b_dvv E (fun x y => x - x / y * y) b_rem))
  | .ishl => b_u E O (pc + 1) lv (b_one2 st (b_shlv E))
  | .ishr => b_u E O (pc + 1) lv (b_one2 st (b_i2v E (fun x y => x >>> (y &&& 31)) (fun _ _ => b_any)))
  | .istore n => b_w E O (pc + 2) (b_isto E lv st (e_mth P k).2.2.1 n)
  | .istore_n n => b_w E O (pc + 1) (b_isto E lv st (e_mth P k).2.2.1 n.val)
  | .isub => b_u E O (pc + 1) lv (b_one2 st (b_i2v E (fun x y => x - y) b_sbt))
  | .iushr => b_u E O (pc + 1) lv (b_one2 st (b_i2v E (fun x y => (x.toUInt32 >>> (y.toUInt32 &&& Int32.toUInt32 31)).toInt32) (fun _ _ => b_any)))
  | .ixor => b_u E O (pc + 1) lv (b_one2 st (b_i2v E (fun x y => x ^^^ y) (fun _ _ => b_any)))
  | .ladd => b_u E O (pc + 1) lv (b_l2o (fun x y => x + y) st)
  | .lcmp => b_u E O (pc + 1) lv (b_lcm E st)
  | .lconst n => some (E, O, pc + 1, lv, .inl (.long (Int64.ofNat n.val)) :: st)
  | .lload n => b_u E O (pc + 2) lv (b_llo lv st n)
  | .lload_n n => b_u E O (pc + 1) lv (b_llo lv st n.val)
  | .lmul => b_u E O (pc + 1) lv (b_l2o (fun x y => x * y) st)
  | .lstore n => b_w E O (pc + 2) (b_lsto lv st (e_mth P k).2.2.1 n)
  | .lstore_n n => b_w E O (pc + 1) (b_lsto lv st (e_mth P k).2.2.1 n.val)
  | .pop => b_u E O (pc + 1) lv (b_pop st)
  | .sipush n => some (E, O, pc + 3, lv, .inl (.int (Int16.ofInt n).toInt32) :: st)
  | _ => none
theorem b_pure_ok {P : e_Pg} {M : List b_Y} {pr : List (Nat × Nat)} {k : Nat} {i : Instr} {O : b_O} {pc : Nat} {lv : List (Nat × b_V)} {lw : List (Nat × Value)} {st : List b_V} {st' : List Value} {mem : List e_C} {G : b_G} (hE : b_ok ρ E) (hM : b_mem M mem) (hO : b_ov E.length ρ O mem) (hl : a_l2 (b_rq E.length ρ) lv lw) (hs : a_l2 (b_rv E.length ρ) st st') (h : b_pure P k i E O pc lv st = some G) : b_Ok M pr ρ E mem G (e_step P k i pc lw st' mem) := by
  cases i with
  | aload n => exact b_u_ok hE hM hO hl (fun s hx => b_alo_ok hl hs hx) h
  | aload_n n => exact b_u_ok hE hM hO hl (fun s hx => b_alo_ok hl hs hx) h
  | iload n => exact b_u_ok hE hM hO hl (fun s hx => b_ilo_ok hE hl hs hx) h
  | iload_n n => exact b_u_ok hE hM hO hl (fun s hx => b_ilo_ok hE hl hs hx) h
  | lload n => exact b_u_ok hE hM hO hl (fun s hx => b_llo_ok hl hs hx) h
  | lload_n n => exact b_u_ok hE hM hO hl (fun s hx => b_llo_ok hl hs hx) h
  | astore n => exact b_w_ok hE hM hO (fun s hx => b_asto_ok hl hs hx) h
  | astore_n n => exact b_w_ok hE hM hO (fun s hx => b_asto_ok hl hs hx) h
  | istore n => exact b_w_ok hE hM hO (fun s hx => b_isto_ok hE hl hs hx) h
  | istore_n n => exact b_w_ok hE hM hO (fun s hx => b_isto_ok hE hl hs hx) h
  | lstore n => exact b_w_ok hE hM hO (fun s hx => b_lsto_ok hl hs hx) h
  | lstore_n n => exact b_w_ok hE hM hO (fun s hx => b_lsto_ok hl hs hx) h
  | dup  => exact b_u_ok hE hM hO hl (fun s hx => b_dup_ok hs hx) h
  | dup2  => exact b_u_ok hE hM hO hl (fun s hx => b_dup2_ok hs hx) h
  | pop  => exact b_u_ok hE hM hO hl (fun s hx => b_pop_ok hs hx) h
  | i2b  => exact b_u_ok hE hM hO hl (fun s hx => b_i1_ok hE hs hx) h
  | i2s  => exact b_u_ok hE hM hO hl (fun s hx => b_i1_ok hE hs hx) h
  | i2l  => exact b_u_ok hE hM hO hl (fun s hx => b_i2l_ok hE hs hx) h
  | iadd  => exact b_u_ok hE hM hO hl (fun s hx => b_one2_ok (g := fun x y => x + y) hs (fun a b c v w ha hb hc => b_addv_ok hE ha hb hc) hx) h
  | imul  => exact b_u_ok hE hM hO hl (fun s hx => b_one2_ok (g := fun x y => x * y) hs (fun a b c v w ha hb hc => b_mulv_ok hE ha hb hc) hx) h
  | ishl  => exact b_u_ok hE hM hO hl (fun s hx => b_one2_ok (g := fun x y => x <<< (y &&& 31)) hs (fun a b c v w ha hb hc => b_shlv_ok hE ha hb hc) hx) h
  | iand  => exact b_u_ok hE hM hO hl (fun s hx => b_one2_ok (g := fun x y => x &&& y) hs (fun a b c v w ha hb hc => b_i2v_ok hE (f := fun x y => x &&& y) (S := b_andS) (fun I J x y h1 h2 => b_and_ok h1 h2) ha hb hc) hx) h
  | isub  => exact b_u_ok hE hM hO hl (fun s hx => b_one2_ok (g := fun x y => x - y) hs (fun a b c v w ha hb hc => b_i2v_ok hE (f := fun x y => x - y) (S := b_sbt) (fun I J x y h1 h2 => b_sbt_ok h1 h2) ha hb hc) hx) h
  | ior  => exact b_u_ok hE hM hO hl (fun s hx => b_one2_ok (g := fun x y => x ||| y) hs (fun a b c v w ha hb hc => b_i2v_ok hE (f := fun x y => x ||| y) (S := fun _ _ => b_any) (fun I J x y h1 h2 => b_any_ok _) ha hb hc) hx) h
  | ixor  => exact b_u_ok hE hM hO hl (fun s hx => b_one2_ok (g := fun x y => x ^^^ y) hs (fun a b c v w ha hb hc => b_i2v_ok hE (f := fun x y => x ^^^ y) (S := fun _ _ => b_any) (fun I J x y h1 h2 => b_any_ok _) ha hb hc) hx) h
  | ishr  => exact b_u_ok hE hM hO hl (fun s hx => b_one2_ok (g := fun x y => x >>> (y &&& 31)) hs (fun a b c v w ha hb hc => b_i2v_ok hE (f := fun x y => x >>> (y &&& 31)) (S := fun _ _ => b_any) (fun I J x y h1 h2 => b_any_ok _) ha hb hc) hx) h
  | iushr  => exact b_u_ok hE hM hO hl (fun s hx => b_one2_ok (g := fun x y => (x.toUInt32 >>> (y.toUInt32 &&& Int32.toUInt32 31)).toInt32) hs (fun a b c v w ha hb hc => b_i2v_ok hE (f := fun x y => (x.toUInt32 >>> (y.toUInt32 &&& Int32.toUInt32 31)).toInt32) (S := fun _ _ => b_any) (fun I J x y h1 h2 => b_any_ok _) ha hb hc) hx) h
  | idiv  => exact b_u_ok hE hM hO hl (fun s hx => b_one2z_ok (g := fun x y => x / y) hs (fun a b c v w ha hb hc => b_dvv_ok hE (f := fun x y => x / y) (S := b_div) (fun I x y h1 => b_div_ok h1) ha hb hc) hx) h
  | irem  => exact b_u_ok hE hM hO hl (fun s hx => b_one2z_ok (g := fun x y => x - x / y * y) hs (fun a b c v w ha hb hc => b_dvv_ok hE (f := fun x y => x - x / y * y) (S := b_rem) (fun I x y h1 => b_rem_ok h1) ha hb hc) hx) h
  | ladd  => exact b_u_ok hE hM hO hl (fun s hx => b_l2o_ok hs hx) h
  | lmul  => exact b_u_ok hE hM hO hl (fun s hx => b_l2o_ok hs hx) h
  | lcmp  => exact b_u_ok hE hM hO hl (fun s hx => b_lcm_ok hE hs hx) h
  | bipush n =>
    unfold b_pure at h
    cases h
    exact ⟨ρ, lw, _, mem, rfl, hE, b_ext.rf, hM, hO, hl, ⟨rfl, hs⟩, fun _ _ => rfl⟩
  | iconst n =>
    unfold b_pure at h
    cases h
    exact ⟨ρ, lw, _, mem, rfl, hE, b_ext.rf, hM, hO, hl, ⟨rfl, hs⟩, fun _ _ => rfl⟩
  | sipush n =>
    unfold b_pure at h
    cases h
    exact ⟨ρ, lw, _, mem, rfl, hE, b_ext.rf, hM, hO, hl, ⟨rfl, hs⟩, fun _ _ => rfl⟩
  | lconst n =>
    unfold b_pure at h
    cases h
    exact ⟨ρ, lw, _, mem, rfl, hE, b_ext.rf, hM, hO, hl, ⟨rfl, hs⟩, fun _ _ => rfl⟩
  | iinc m d =>
    refine b_w_ok hE hM hO (fun s hx => ?_) h
    unfold b_incH at hx
    split at hx
    · next l hl2 =>
      cases hx
      obtain ⟨w2, h1, h2⟩ := b_inc_ok hE hl hl2
      exact ⟨w2, st', h1, h2, hs⟩
    · cases hx
  | _ => exact absurd (show (none : Option b_G) = some G from h) (by simp)
end BS
