/-! BRANCHES, CALLS, RETURNS OF PICTURES; WHOLE RUNS -/
section AR
variable {ρ : Nat → Int32} {E : a_E}
theorem a_step_ok {P : e_Pg} {k : Nat} {i : Instr} (hE : a_ok ρ E) {pc : Nat} {lv : List (Nat × a_V)} {lw : List (Nat × Value)} {st : List a_V} {st' : List Value} {mem : List a_C} {mem' : List e_C} {F : a_F} (hl : a_l2 (a_rq ρ) lv lw) (hs : a_l2 (a_rv ρ) st st') (hm : a_l2 (a_rc ρ) mem mem') (h : a_step P k i E pc lv st mem = some F) : ∃ G, e_step P k i pc lw st' mem' = some G ∧ a_rF ρ F G := by
  cases i with
  | aload n => exact a_t_aload hE _ hl hs hm h
  | aload_n n => exact a_t_aload hE _ hl hs hm h
  | arraylength  => exact a_t_alen hE  hl hs hm h
  | astore n => exact a_t_astore hE _ _ hl hs hm h
  | astore_n n => exact a_t_astore hE _ _ hl hs hm h
  | baload  => exact a_t_ald hE _ hl hs hm h
  | bastore  => exact a_t_ast hE _ _ hl hs hm h
  | dup  => exact a_t_dup hE  hl hs hm h
  | dup2  => exact a_t_dup2 hE  hl hs hm h
  | getfield n => exact a_t_getf hE _ hl hs hm h
  | goto o => exact a_t_jmp hE _ hl hs hm h
  | i2b  => exact a_t_i1 hE _ hl hs hm h
  | i2l  => exact a_t_i2l hE  hl hs hm h
  | i2s  => exact a_t_i1 hE _ hl hs hm h
  | iadd  => exact a_t_i2 hE _ hl hs hm h
  | iaload  => exact a_t_ald hE _ hl hs hm h
  | iand  => exact a_t_i2 hE _ hl hs hm h
  | iastore  => exact a_t_ast hE _ _ hl hs hm h
  | idiv => exact a_t_i2z hE (fun x y => x / y) (gg := a_div) (fun x y p h1 h2 => a_div_ok h1 h2) hl hs hm h
  | iinc n d => exact a_t_iinc hE _ _ _ hl hs hm h
  | iload n => exact a_t_iload hE _ hl hs hm h
  | iload_n n => exact a_t_iload hE _ hl hs hm h
  | imul  => exact a_t_i2 hE _ hl hs hm h
  | ior  => exact a_t_i2 hE _ hl hs hm h
  | irem => exact a_t_i2z hE (fun x y => x - x / y * y) (gg := a_rem) (fun x y p h1 h2 => a_rem_ok h1 h2) hl hs hm h
  | ishl  => exact a_t_i2 hE _ hl hs hm h
  | ishr  => exact a_t_i2 hE _ hl hs hm h
  | istore n => exact a_t_istore hE _ _ hl hs hm h
  | istore_n n => exact a_t_istore hE _ _ hl hs hm h
  | isub  => exact a_t_i2 hE _ hl hs hm h
  | iushr  => exact a_t_i2 hE _ hl hs hm h
  | ixor  => exact a_t_i2 hE _ hl hs hm h
  | ladd  => exact a_t_l2o hE _ hl hs hm h
  | lcmp  => exact a_t_lcmp hE  hl hs hm h
  | ldc n => exact a_t_ldi hE _ hl hs hm h
  | ldc_w n => exact a_t_ldi hE _ hl hs hm h
  | ldc2_w n => exact a_t_ldl hE _ hl hs hm h
  | ldiv  => exact a_t_l2z hE _ hl hs hm h
  | lload n => exact a_t_lload hE _ hl hs hm h
  | lload_n n => exact a_t_lload hE _ hl hs hm h
  | lmul  => exact a_t_l2o hE _ hl hs hm h
  | lrem  => exact a_t_l2z hE _ hl hs hm h
  | lstore n => exact a_t_lstore hE _ _ hl hs hm h
  | lstore_n n => exact a_t_lstore hE _ _ hl hs hm h
  | new n => exact a_t_newo hE _ hl hs hm h
  | pop  => exact a_t_pop hE  hl hs hm h
  | putfield n => exact a_t_putf hE _ _ hl hs hm h
  | bipush n => unfold a_step at h; cases h; exact ⟨_, rfl, rfl, hl, ⟨rfl, hs⟩, hm⟩
  | iconst n => unfold a_step at h; cases h; exact ⟨_, rfl, rfl, hl, ⟨rfl, hs⟩, hm⟩
  | sipush n => unfold a_step at h; cases h; exact ⟨_, rfl, rfl, hl, ⟨rfl, hs⟩, hm⟩
  | lconst n => unfold a_step at h; cases h; exact ⟨_, rfl, rfl, hl, ⟨rfl, hs⟩, hm⟩
  | newarray t =>
    cases t with
    | int => exact a_t_newa hE _ hl hs hm h
    | boolean => exact a_t_newa hE _ hl hs hm h
    | _ => exact absurd (show (none : Option a_F) = some F from h) (by simp)
  | _ => exact absurd (show (none : Option a_F) = some F from h) (by simp)
theorem a_dec_ok {c : ClassFile.Cond} {x y : Int32} {p q : Int × Int} {t : Bool} (h1 : p.1 ≤ x.toInt) (h2 : x.toInt ≤ p.2) (h3 : q.1 ≤ y.toInt) (h4 : y.toInt ≤ q.2) (h : a_dec c p q = some t) : e_c2 c x y = t := by
  cases c <;> simp only [a_dec, Bool.cond_eq_ite, Bool.and_eq_true, Bool.or_eq_true, decide_eq_true_eq] at h <;> simp only [e_c2, Int32.lt_iff_toInt_lt, Int32.le_iff_toInt_le, ← Int32.toInt_inj] <;> (repeat' split at h) <;> first | (cases h; simp; omega) | cases h
theorem a_pcs_ok {c : ClassFile.Cond} {x : Int32} {v : Int} {y : Int32} {p : Int × Int} (hy : y.toInt = v) (h1 : p.1 ≤ x.toInt) (h2 : x.toInt ≤ p.2) : ∃ q ∈ a_pcs c v p, q.1.1 ≤ x.toInt ∧ x.toInt ≤ q.1.2 ∧ e_c2 c x y = q.2 := by
  subst hy
  rcases Int.lt_trichotomy x.toInt y.toInt with h | h | h <;> cases c <;> simp only [a_pcs, e_c2, Int32.lt_iff_toInt_lt, Int32.le_iff_toInt_le, ← Int32.toInt_inj, List.mem_cons, List.not_mem_nil, or_false, exists_eq_or_imp, exists_eq_left] <;> simp <;> omega
theorem a_flip_ok (c : ClassFile.Cond) (x y : Int32) : e_c2 (a_flip c) y x = e_c2 c x y := by
  cases c <;> simp only [a_flip, e_c2, eq_comm]
theorem a_ok_set (hE : a_ok ρ E) {id : Nat} {q : Int × Int} (h1 : q.1 ≤ (ρ id).toInt) (h2 : (ρ id).toInt ≤ q.2) : a_ok ρ (E.set id q) := by
  intro j p hp
  by_cases hj : j = id
  · subst hj
    have hl : j < E.length := by
      have := (List.getElem?_eq_some_iff.mp hp).1
      simpa using this
    rw [List.getElem?_set_self hl] at hp
    cases hp
    exact ⟨h1, h2⟩
  · rw [List.getElem?_set_ne (Ne.symm hj)] at hp
    exact hE j p hp
theorem a_cut_ok (hE : a_ok ρ E) {id : Nat} {l : List ((Int × Int) × Bool)} {b : Bool} (h : ∃ q ∈ l, q.1.1 ≤ (ρ id).toInt ∧ (ρ id).toInt ≤ q.1.2 ∧ b = q.2) : ∃ q ∈ a_cut E id l, a_ok ρ q.1 ∧ b = q.2 := by
  obtain ⟨q, hq, h1, h2, h3⟩ := h
  exact ⟨(E.set id q.1, q.2), List.mem_map.mpr ⟨q, List.mem_filter.mpr ⟨hq, by simp; omega⟩, rfl⟩, a_ok_set hE h1 h2, h3⟩
theorem a_br_ok (hE : a_ok ρ E) {c : ClassFile.Cond} {a b : a_V} {v w : Value} {l : List (a_E × Bool)} (ha : a_rv ρ a v) (hb : a_rv ρ b w) (h : a_br E c a b = some l) : ∃ x y : Int32, v = .int x ∧ w = .int y ∧ ∃ q ∈ l, a_ok ρ q.1 ∧ e_c2 c x y = q.2 := by
  unfold a_br at h
  split at h
  · next p q hp hq =>
    obtain ⟨x, rfl, h1, h2⟩ := a_iv_ok hE ha hp
    obtain ⟨y, rfl, h3, h4⟩ := a_iv_ok hE hb hq
    refine ⟨x, y, rfl, rfl, ?_⟩
    split at h
    · next t ht =>
      cases h
      exact ⟨_, List.mem_singleton.mpr rfl, hE, a_dec_ok h1 h2 h3 h4 ht⟩
    · cases h
      unfold a_br2
      split
      · next id z w =>
        have ex : x = ρ id := Value.int.inj ha
        have ew : Value.int y = w := hb
        subst ew
        have eq : q = (y.toInt, y.toInt) := (Option.some.inj hq).symm
        subst eq
        subst ex
        exact a_cut_ok hE (a_pcs_ok rfl h1 h2)
      · next w id z =>
        have ey : y = ρ id := Value.int.inj hb
        have ew : Value.int x = w := ha
        subst ew
        have ep : p = (x.toInt, x.toInt) := (Option.some.inj hp).symm
        subst ep
        subst ey
        refine a_cut_ok hE ?_
        obtain ⟨q', m1, m2, m3, m4⟩ := a_pcs_ok (c := a_flip c) (x := ρ id) (y := x) rfl h3 h4
        exact ⟨q', m1, m2, m3, by rw [← m4, a_flip_ok]⟩
      · cases hcx : e_c2 c x y with
        | true => exact ⟨(E, true), by simp, hE, rfl⟩
        | false => exact ⟨(E, false), by simp, hE, rfl⟩
  · cases h
def a_rf (ρ : Nat → Int32) (f : a_Fr) (g : e_Fr) : Prop := f.1 = g.1 ∧ f.2.1 = g.2.1 ∧ a_l2 (a_rq ρ) f.2.2.1 g.2.2.1 ∧ a_l2 (a_rv ρ) f.2.2.2 g.2.2.2
def a_rS (ρ : Nat → Int32) (S : a_S) (C : e_Cf) : Prop := a_ok ρ S.1 ∧ a_l2 (a_rc ρ) S.2.1 C.1 ∧ a_rf ρ S.2.2.1 C.2.1 ∧ a_l2 (a_rf ρ) S.2.2.2 C.2.2
theorem a_ifs_ok {k pc : Nat} {o : Int} {lv : List (Nat × a_V)} {lw : List (Nat × Value)} {r : List a_V} {r' : List Value} {mem : List a_C} {mem' : List e_C} {gs : List a_Fr} {gs' : List e_Fr} {x : Option (List (a_E × Bool))} {b : Bool} {L : List a_S} (hl : a_l2 (a_rq ρ) lv lw) (hs : a_l2 (a_rv ρ) r r') (hm : a_l2 (a_rc ρ) mem mem') (hg : a_l2 (a_rf ρ) gs gs')
    (hx : ∀ l, x = some l → ∃ q ∈ l, a_ok ρ q.1 ∧ b = q.2) (h : a_ifs k pc o lv r mem gs x = some L) : ∃ G : e_F, e_if b pc o lw r' mem' = some G ∧ ∃ S ∈ L, a_rS ρ S (G.2.2.2, (k, G.1, G.2.1, G.2.2.1), gs') := by
  unfold a_ifs at h
  split at h
  · next l t ht =>
    cases h
    obtain ⟨q, hq, h1, rfl⟩ := hx l rfl
    unfold e_if
    rw [ht]
    cases hq2 : q.2 with
    | true => exact ⟨_, rfl, _, List.mem_map.mpr ⟨q, hq, rfl⟩, h1, hm, ⟨rfl, by rw [hq2]; rfl, hl, hs⟩, hg⟩
    | false => exact ⟨_, rfl, _, List.mem_map.mpr ⟨q, hq, rfl⟩, h1, hm, ⟨rfl, by rw [hq2]; rfl, hl, hs⟩, hg⟩
  · cases h
theorem a_tgs_ok {a : a_V} {k pc : Nat} {lv : List (Nat × a_V)} {r : List a_V} {mem : List a_C} {gs : List a_Fr} : ∀ {l : List ((Int × Int) × Int)} {L : List a_S} {q : (Int × Int) × Int}, a_tgs E a k pc lv r mem gs l = some L → q ∈ l → ∃ t, e_tgt pc q.2 = some t ∧ (a_set E a q.1, mem, (k, t, lv, r), gs) ∈ L
  | [], _, _, _, hq => absurd hq List.not_mem_nil
  | q0 :: l, L, q, h, hq => by
    unfold a_tgs at h
    split at h
    · next t m ht hm =>
      cases h
      rcases List.mem_cons.mp hq with rfl | hq
      · exact ⟨t, ht, List.mem_cons_self⟩
      · obtain ⟨t', h1, h2⟩ := a_tgs_ok hm hq
        exact ⟨t', h1, List.mem_cons_of_mem _ h2⟩
    · cases h
theorem a_set_ok (hE : a_ok ρ E) {a : a_V} {x : Int32} {p : Int × Int} (ha : a_rv ρ a (.int x)) (h1 : p.1 ≤ x.toInt) (h2 : x.toInt ≤ p.2) : a_ok ρ (a_set E a p) := by
  unfold a_set
  split
  · next id z =>
    have : x = ρ id := Value.int.inj ha
    subst this
    exact a_ok_set hE h1 h2
  · exact hE
theorem a_tsw_ok (hE : a_ok ρ E) {k pc : Nat} {d lo hi : Int} {offs : Array Int} {lv : List (Nat × a_V)} {lw : List (Nat × Value)} {st : List a_V} {st' : List Value} {mem : List a_C} {mem' : List e_C} {gs : List a_Fr} {gs' : List e_Fr} {L : List a_S} (hl : a_l2 (a_rq ρ) lv lw) (hs : a_l2 (a_rv ρ) st st') (hm : a_l2 (a_rc ρ) mem mem') (hg : a_l2 (a_rf ρ) gs gs')
    (h : a_tsw E k pc d lo hi offs lv st mem gs = some L) : ∃ G : e_F, e_tsw lw st' mem' pc d lo hi offs = some G ∧ ∃ S ∈ L, a_rS ρ S (G.2.2.2, (k, G.1, G.2.1, G.2.2.1), gs') := by
  unfold a_tsw at h
  split at h
  · next a r =>
    obtain ⟨v, t, rfl, h1, h2⟩ := a_l2_c hs
    split at h
    · next p hp =>
      obtain ⟨x, rfl, h3, h4⟩ := a_iv_ok hE h1 hp
      simp only [Bool.cond_eq_ite, decide_eq_true_eq] at h
      split at h
      · next hlen =>
        unfold e_tsw
        dsimp only
        by_cases hout : x.toInt < lo ∨ hi < x.toInt
        · have hb : (decide (x.toInt < lo) || decide (hi < x.toInt)) = true := by simpa using hout
          rw [hb]
          have hq : ∃ q ∈ a_twy d lo hi offs.toList p, q.1.1 ≤ x.toInt ∧ x.toInt ≤ q.1.2 ∧ q.2 = d := by
            rcases hout with ho | ho
            · exact ⟨((p.1, min p.2 (lo - 1)), d), List.mem_append_right _ (List.mem_filter.mpr ⟨by simp, by simp; omega⟩), h3, by simp; omega, rfl⟩
            · exact ⟨((max p.1 (hi + 1), p.2), d), List.mem_append_right _ (List.mem_filter.mpr ⟨by simp, by simp; omega⟩), by simp; omega, h4, rfl⟩
          obtain ⟨q, q1, q2, q3, q4⟩ := hq
          obtain ⟨t, ht, hS⟩ := a_tgs_ok h q1
          rw [q4] at ht
          unfold e_jmp
          simp only [cond_true, ht]
          exact ⟨_, rfl, _, hS, a_set_ok hE h1 q2 q3, hm, ⟨rfl, rfl, hl, h2⟩, hg⟩
        · have hb : (decide (x.toInt < lo) || decide (hi < x.toInt)) = false := by
            simp only [Bool.or_eq_false_iff, decide_eq_false_iff_not]
            omega
          rw [hb]
          have hj : (x.toInt - lo).toNat < offs.toList.length := by omega
          have hq : ((lo + ((x.toInt - lo).toNat : Int), lo + ((x.toInt - lo).toNat : Int)), offs.toList.getD (x.toInt - lo).toNat 0) ∈ a_twy d lo hi offs.toList p := by
            refine List.mem_append_left _ (List.mem_filter.mpr ⟨List.mem_map.mpr ⟨(x.toInt - lo).toNat, List.mem_range.mpr hj, rfl⟩, ?_⟩)
            simp only [Bool.and_eq_true, decide_eq_true_eq]
            omega
          obtain ⟨t, ht, hS⟩ := a_tgs_ok h hq
          have hgo : offs.toList[(x.toInt - lo).toNat]? = some (offs.toList.getD (x.toInt - lo).toNat 0) := by
            rw [List.getD_eq_getElem?_getD, List.getElem?_eq_getElem hj]
            rfl
          unfold e_jmp
          simp only [cond_false, hgo]
          dsimp only at ht
          simp only [ht]
          refine ⟨_, rfl, _, hS, a_set_ok hE h1 ?_ ?_, hm, ⟨rfl, rfl, hl, h2⟩, hg⟩
          · dsimp only; omega
          · dsimp only; omega
      · cases h
    · cases h
  · cases h
end AR
