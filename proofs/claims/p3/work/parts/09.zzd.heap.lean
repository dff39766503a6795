/-! STEPS THAT READ AND WRITE CELLS, BY TYPES -/
section BH
variable {ρ : Nat → Int32} {E : b_E}
def b_ldr (pc : Nat) (lv : List (Nat × b_V)) (r : List b_V) (x : Option (b_E × b_O × b_V)) : Option b_G := match x with
  | some y => some (y.1, y.2.1, pc, lv, y.2.2 :: r)
  | none => none
def b_str (E : b_E) (pc : Nat) (lv : List (Nat × b_V)) (r : List b_V) (x : Option b_O) : Option b_G := match x with
  | some O => some (E, O, pc, lv, r)
  | none => none
def b_hp (P : e_Pg) (M : List b_Y) (pr : List (Nat × Nat)) (k : Nat) (i : Instr) (E : b_E) (O : b_O) (pc : Nat) (lv : List (Nat × b_V)) (st : List b_V) : Option b_G := match i, st with
  | .iaload, j :: .inl (.ref q) :: r => b_ldr (pc + 1) lv r (b_ldA M E O false q j)
  | .baload, j :: .inl (.ref q) :: r => b_ldr (pc + 1) lv r (b_ldA M E O true q j)
  | .iastore, v :: j :: .inl (.ref q) :: r => b_str E (pc + 1) lv r (b_stA M pr (e_ro P) E O false q j v)
  | .bastore, v :: j :: .inl (.ref q) :: r => b_str E (pc + 1) lv r (b_stA M pr (e_ro P) E O true q j v)
  | .getfield n, .inl (.ref q) :: r => match e_fld P k n with
    | some f => b_ldr (pc + 3) lv r (b_ldF M E O f.1 f.2.1 q)
    | none => none
  | .putfield n, v :: .inl (.ref q) :: r => match e_fld P k n with
    | some f => bif f.2.2.2 then none else b_str E (pc + 3) lv r (b_stF M pr (e_ro P) E O f.1 f.2.1 f.2.2.1 q v)
    | none => none
  | _, _ => none
theorem b_ldA_st {P : e_Pg} {M : List b_Y} {pr : List (Nat × Nat)} {O : b_O} {pc q : Nat} {z : Bool} {j : b_V} {lv : List (Nat × b_V)} {lw : List (Nat × Value)} {r : List b_V} {st' : List Value} {mem : List e_C} {G : b_G} (hE : b_ok ρ E) (hM : b_mem M mem) (hO : b_ov E.length ρ O mem) (hl : a_l2 (b_rq E.length ρ) lv lw) (hs : a_l2 (b_rv E.length ρ) (j :: .inl (.ref q) :: r) st') (h : b_ldr pc lv r (b_ldA M E O z q j) = some G) : b_Ok M pr ρ E mem G (e_ald pc lw st' mem z) := by
  obtain ⟨w, t, rfl, h1, h2⟩ := a_l2_c hs
  obtain ⟨u, t, rfl, h3, h4⟩ := a_l2_c h2
  cases h3
  unfold b_ldr at h
  split at h
  · next y hy =>
    cases h
    obtain ⟨ρ', jj, x, a, g1, g2, g3, rfl, g5, g6, g7, g8, g9⟩ := b_ldA_ok hE hM hO h1 (show b_ldA M E O z q j = some (y.1, y.2.1, y.2.2) from hy)
    refine ⟨ρ', lw, .int x :: t, mem, ?_, g1, g2, hM, g3, a_l2_mono (fun a b hab => ⟨hab.1, g2 _ _ hab.2⟩) hl, ⟨g9, a_l2_mono (fun a b hab => g2 _ _ hab) h4⟩, fun _ _ => rfl⟩
    unfold e_ald
    simp only [Bool.cond_eq_ite, g5]
    rw [if_pos (by rw [Bool.and_eq_true, beq_iff_eq, Bool.not_eq_true', decide_eq_false_iff_not]; exact ⟨g6, g7⟩), g8]
  · cases h
theorem b_stA_st {P : e_Pg} {M : List b_Y} {pr : List (Nat × Nat)} {O : b_O} {pc q ro : Nat} {z : Bool} {j v : b_V} {lv : List (Nat × b_V)} {lw : List (Nat × Value)} {r : List b_V} {st' : List Value} {mem : List e_C} {G : b_G} (hE : b_ok ρ E) (hM : b_mem M mem) (hO : b_ov E.length ρ O mem) (hl : a_l2 (b_rq E.length ρ) lv lw) (hs : a_l2 (b_rv E.length ρ) (v :: j :: .inl (.ref q) :: r) st') (h : b_str E pc lv r (b_stA M pr ro E O z q j v) = some G) : b_Ok M pr ρ E mem G (e_ast pc lw st' mem ro z) := by
  obtain ⟨w, t, rfl, h1, h2⟩ := a_l2_c hs
  obtain ⟨u, t, rfl, h3, h4⟩ := a_l2_c h2
  obtain ⟨s, t, rfl, h5, h6⟩ := a_l2_c h4
  cases h5
  unfold b_str at h
  split at h
  · next O' hO' =>
    cases h
    obtain ⟨jj, x, a, rfl, rfl, g1, g2, g3, g4, g5, g6, g7, g8, g9⟩ := b_stA_ok hE hM hO h3 h1 hO'
    refine ⟨ρ, lw, t, _, ?_, hE, b_ext.rf, g7, g8, hl, h6, g9⟩
    unfold e_ast
    simp only [Bool.cond_eq_ite, g1]
    rw [if_pos (by
      simp only [Bool.and_eq_true, beq_iff_eq, Bool.not_eq_true', decide_eq_false_iff_not, Nat.blt_eq, Nat.ble_eq]
      refine ⟨g2, g3, g4, g5, ?_⟩
      cases z with
      | false => rfl
      | true => exact g6 rfl)]
  · cases h
theorem b_ldF_st {M : List b_Y} {pr : List (Nat × Nat)} {O : b_O} {pc q : Nat} {f : Nat × Nat × FieldType × Bool} {lv : List (Nat × b_V)} {lw : List (Nat × Value)} {r : List b_V} {st' : List Value} {mem : List e_C} {G : b_G} (hE : b_ok ρ E) (hM : b_mem M mem) (hO : b_ov E.length ρ O mem) (hl : a_l2 (b_rq E.length ρ) lv lw) (hs : a_l2 (b_rv E.length ρ) (.inl (.ref q) :: r) st') (h : b_ldr pc lv r (b_ldF M E O f.1 f.2.1 q) = some G) : b_Ok M pr ρ E mem G (e_getf pc lw st' mem (some f)) := by
  obtain ⟨u, t, rfl, h3, h4⟩ := a_l2_c hs
  cases h3
  unfold b_ldr at h
  split at h
  · next y hy =>
    cases h
    obtain ⟨ρ', v, o, g1, g2, g3, g4, g5, g6, g7⟩ := b_ldF_ok hE hM hO (show b_ldF M E O f.1 f.2.1 q = some (y.1, y.2.1, y.2.2) from hy)
    refine ⟨ρ', lw, v :: t, mem, ?_, g1, g2, hM, g3, a_l2_mono (fun a b hab => ⟨hab.1, g2 _ _ hab.2⟩) hl, ⟨g7, a_l2_mono (fun a b hab => g2 _ _ hab) h4⟩, fun _ _ => rfl⟩
    unfold e_getf
    simp only [Bool.cond_eq_ite, g4]
    rw [if_pos (by rw [beq_iff_eq]; exact g5), g6]
  · cases h
theorem b_stF_st {M : List b_Y} {pr : List (Nat × Nat)} {O : b_O} {pc q ro : Nat} {f : Nat × Nat × FieldType × Bool} {v : b_V} {lv : List (Nat × b_V)} {lw : List (Nat × Value)} {r : List b_V} {st' : List Value} {mem : List e_C} {G : b_G} (hE : b_ok ρ E) (hM : b_mem M mem) (hO : b_ov E.length ρ O mem) (hl : a_l2 (b_rq E.length ρ) lv lw) (hs : a_l2 (b_rv E.length ρ) (v :: .inl (.ref q) :: r) st') (hf : f.2.2.2 = false) (h : b_str E pc lv r (b_stF M pr ro E O f.1 f.2.1 f.2.2.1 q v) = some G) : b_Ok M pr ρ E mem G (e_putf pc lw st' mem ro (some f)) := by
  obtain ⟨w, t, rfl, h1, h2⟩ := a_l2_c hs
  obtain ⟨u, t, rfl, h3, h4⟩ := a_l2_c h2
  cases h3
  unfold b_str at h
  split at h
  · next O' hO' =>
    cases h
    obtain ⟨x, o, rfl, g1, g2, g3, g4, g5, g6, g7, g8⟩ := b_stF_ok hE hM hO h1 hO'
    refine ⟨ρ, lw, t, _, ?_, hE, b_ext.rf, g6, g7, hl, h4, g8⟩
    unfold e_putf
    simp only [Bool.cond_eq_ite, g1]
    rw [if_pos (by
      simp only [Bool.and_eq_true, beq_iff_eq, Bool.not_eq_true', Nat.blt_eq, Nat.ble_eq]
      exact ⟨g2, g3, g5, hf, g4⟩)]
  · cases h
theorem b_hp_ok {P : e_Pg} {M : List b_Y} {pr : List (Nat × Nat)} {k : Nat} {i : Instr} {O : b_O} {pc : Nat} {lv : List (Nat × b_V)} {lw : List (Nat × Value)} {st : List b_V} {st' : List Value} {mem : List e_C} {G : b_G} (hE : b_ok ρ E) (hM : b_mem M mem) (hO : b_ov E.length ρ O mem) (hl : a_l2 (b_rq E.length ρ) lv lw) (hs : a_l2 (b_rv E.length ρ) st st') (h : b_hp P M pr k i E O pc lv st = some G) : b_Ok M pr ρ E mem G (e_step P k i pc lw st' mem) := by
  unfold b_hp at h
  split at h
  · exact b_ldA_st (P := P) hE hM hO hl hs h
  · exact b_ldA_st (P := P) hE hM hO hl hs h
  · exact b_stA_st (P := P) hE hM hO hl hs h
  · exact b_stA_st (P := P) hE hM hO hl hs h
  · split at h
    · next f hf =>
      unfold e_step
      dsimp only
      rw [hf]
      exact b_ldF_st hE hM hO hl hs h
    · cases h
  · split at h
    · next f hf =>
      simp only [Bool.cond_eq_ite] at h
      split at h
      · cases h
      · next hb =>
        unfold e_step
        dsimp only
        rw [hf]
        exact b_stF_st hE hM hO hl hs (by simpa using hb) h
    · cases h
  · cases h
end BH
