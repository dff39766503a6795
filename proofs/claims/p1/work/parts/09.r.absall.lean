/-! LOADS OF FEW, CALLS, RETURNS; SOUND FOR ANY LENGTH -/
section AW
variable {ρ : Nat → Int32} {E : a_E}
theorem a_few_ok (hE : a_ok ρ E) {a : Option a_V} {q : Nat × Int × Int} (h : a_few E a = some q) : q.2.1 ≤ (ρ q.1).toInt ∧ (ρ q.1).toInt ≤ q.2.2 := by
  unfold a_few at h
  split at h
  · next id z =>
    split at h
    · next p hp =>
      simp only [Bool.cond_eq_ite] at h
      split at h
      · cases h; exact hE id p hp
      · cases h
    · cases h
  · cases h
theorem a_room_ok {P : e_Pg} {k j : Nat} {as : List a_V} {vs : List Value} (hs : a_l2 (a_rv ρ) as vs) (h : a_room P k j as = true) : e_room P k j vs = true := by
  unfold e_room
  rw [a_cats_ok hs]
  exact h
/-- a picture's next pictures: the same thing, or the thing a step on -/
def a_nx (P : e_Pg) (ρ : Nat → Int32) (L : List a_S) (C : e_Cf) (x : Instr × Nat) : Prop := (∃ S ∈ L, a_rS ρ S C) ∨ ∃ C' : e_Cf, e_nxo P C.2.1.1 C.2.1.2.1 C.2.1.2.2.1 C.2.1.2.2.2 C.1 C.2.2 x.1 = some C' ∧ ∃ S ∈ L, a_rS ρ S C'
/-- what there is at the law's end -/
def a_end (P : e_Pg) (lc ls : Nat) (C : e_Cf) (x : Instr × Nat) : Prop := C.2.2 = [] ∧ (∀ rc, e_one P rc C.2.1.1 C.2.1.2.1 C.2.1.2.2.1 C.2.1.2.2.2 C.1 x.1 = some (some (.int 1), C.1)) ∧ C.1.length ≤ lc ∧ e_sl C.1 ≤ ls
theorem a_ld_ok {P : e_Pg} (hE : a_ok ρ E) {k pc n i : Nat} {lv : List (Nat × a_V)} {lw : List (Nat × Value)} {st : List a_V} {st' : List Value} {mem : List a_C} {mem' : List e_C} {gs : List a_Fr} {gs' : List e_Fr} {L : List a_S} {x : Instr × Nat} (hl : a_l2 (a_rq ρ) lv lw) (hs : a_l2 (a_rv ρ) st st') (hm : a_l2 (a_rc ρ) mem mem') (hg : a_l2 (a_rf ρ) gs gs')
    (hx : e_nxo P k pc lw st' mem' gs' x.1 = e_nxg k gs' (e_iload (pc + n) lw st' mem' i)) (h : a_ld E k pc n i lv st mem gs = some L) : a_nx P ρ L (mem', (k, pc, lw, st'), gs') x := by
  unfold a_ld at h
  split at h
  · next q hq =>
    cases h
    obtain ⟨h1, h2⟩ := a_few_ok hE hq
    refine Or.inl ⟨_, List.mem_map.mpr ⟨((ρ q.1).toInt - q.2.1).toNat, List.mem_range.mpr (by omega), rfl⟩, a_ok_set hE ?_ ?_, hm, ⟨rfl, rfl, hl, hs⟩, hg⟩
    · dsimp only; omega
    · dsimp only; omega
  · split at h
    · next F hF =>
      cases h
      obtain ⟨G, g1, g2, g3, g4, g5⟩ := a_t_iload hE i hl hs hm hF
      refine Or.inr ⟨_, by rw [hx, g1]; rfl, _, List.mem_singleton.mpr rfl, hE, g5, ⟨rfl, g2, g3, g4⟩, hg⟩
    · cases h
theorem a_nxi_ok {P : e_Pg} (hE : a_ok ρ E) {k pc i : Nat} {sp : Bool} {lv : List (Nat × a_V)} {lw : List (Nat × Value)} {st : List a_V} {st' : List Value} {mem : List a_C} {mem' : List e_C} {gs : List a_Fr} {gs' : List e_Fr} {L : List a_S} {x : Instr × Nat} (hl : a_l2 (a_rq ρ) lv lw) (hs : a_l2 (a_rv ρ) st st') (hm : a_l2 (a_rc ρ) mem mem') (hg : a_l2 (a_rf ρ) gs gs')
    (hx : e_nxo P k pc lw st' mem' gs' x.1 = e_nxi P k pc lw st' mem' gs' sp i) (h : a_nxi P E k pc lv st mem gs sp i = some L) : a_nx P ρ L (mem', (k, pc, lw, st'), gs') x := by
  refine Or.inr ?_
  dsimp only
  rw [hx]
  unfold a_nxi at h
  simp only [Bool.cond_eq_ite] at h
  split at h
  · cases h
  · next f hf =>
    split at h
    · next q rest hq =>
      have hd := a_l2_drop f.2.1 hs
      rw [hq] at hd
      obtain ⟨v, t, ht, h1, h2⟩ := a_l2_c hd
      cases h1
      unfold e_nxi
      simp only [Bool.cond_eq_ite, hf, ht]
      split at h
      · next h0 =>
        rw [if_pos h0]
        split at h
        · next hc =>
          cases h
          simp only [Bool.and_eq_true] at hc
          obtain ⟨c1, c2, c3, c4, c5⟩ := hc
          rw [if_pos (by simp only [Bool.and_eq_true]; exact ⟨c1, c2, c3, a_low_ok h2 c4, c5⟩)]
          exact ⟨_, rfl, _, List.mem_singleton.mpr rfl, hE, hm, ⟨rfl, rfl, hl, h2⟩, hg⟩
        · cases h
      · next h0 =>
        rw [if_neg h0]
        split at h
        · next o ho =>
          obtain ⟨b, b1, b2, b3⟩ := a_obj hm ho
          split at h
          · next hc =>
            cases h
            simp only [Bool.and_eq_true] at hc
            obtain ⟨c1, c2, c3, c4, c5⟩ := hc
            have hargs : a_l2 (a_rv ρ) (.inl (.ref q) :: (st.take f.2.1).reverse) (.ref q :: (st'.take f.2.1).reverse) := ⟨rfl, a_l2_rev (a_l2_take f.2.1 hs)⟩
            simp only [b1]
            rw [if_pos (by simp only [Bool.and_eq_true]; exact ⟨by rw [← b2]; exact c1, c2, a_low_ok h2 c3, a_room_ok hargs c4, c5⟩)]
            exact ⟨_, rfl, _, List.mem_singleton.mpr rfl, hE, hm, ⟨rfl, rfl, a_args_ok 0 hargs, trivial⟩, ⟨rfl, rfl, hl, h2⟩, hg⟩
          · cases h
        · cases h
    · cases h
theorem a_bli_ok {P : e_Pg} (hE : a_ok ρ E) {k cd pc : Nat} {lv : List (Nat × a_V)} {lw : List (Nat × Value)} {st : List a_V} {st' : List Value} {mem : List a_C} {mem' : List e_C} {F : a_F} (hl : a_l2 (a_rq ρ) lv lw) (hs : a_l2 (a_rv ρ) st st') (hm : a_l2 (a_rc ρ) mem mem') (h : a_bli P k cd pc lv st mem = some F) : ∃ G, e_bli P k cd pc lw st' mem' = some G ∧ a_rF ρ F G := by
  unfold a_bli at h
  unfold e_bli
  simp only [Bool.cond_eq_ite] at h ⊢
  split at h
  · next h1 =>
    rw [if_pos h1]
    split at h
    · next h2 => rw [if_pos h2]; exact a_t_acp hE _ hl hs hm h
    · next h2 =>
      rw [if_neg h2]
      split at h
      · next h3 => rw [if_pos h3]; exact a_t_min hE hl hs hm h
      · cases h
  · cases h
theorem a_nxg_ok {P : e_Pg} (hE : a_ok ρ E) {k pc : Nat} {lw : List (Nat × Value)} {st' : List Value} {mem' : List e_C} {gs : List a_Fr} {gs' : List e_Fr} {L : List a_S} {x : Instr × Nat} {F : Option a_F} {G : Option e_F} (hg : a_l2 (a_rf ρ) gs gs') (hFG : ∀ F0, F = some F0 → ∃ G0, G = some G0 ∧ a_rF ρ F0 G0)
    (hx : e_nxo P k pc lw st' mem' gs' x.1 = e_nxg k gs' G) (h : a_nxg E k gs F = some L) : a_nx P ρ L (mem', (k, pc, lw, st'), gs') x := by
  unfold a_nxg at h
  split at h
  · next F0 =>
    cases h
    obtain ⟨G0, rfl, g2, g3, g4, g5⟩ := hFG F0 rfl
    exact Or.inr ⟨_, hx, _, List.mem_singleton.mpr rfl, hE, g5, ⟨rfl, g2, g3, g4⟩, hg⟩
  · cases h
theorem a_nxs_ok {P : e_Pg} (hE : a_ok ρ E) {k pc i : Nat} {lv : List (Nat × a_V)} {lw : List (Nat × Value)} {st : List a_V} {st' : List Value} {mem : List a_C} {mem' : List e_C} {gs : List a_Fr} {gs' : List e_Fr} {L : List a_S} {x : Instr × Nat} (hl : a_l2 (a_rq ρ) lv lw) (hs : a_l2 (a_rv ρ) st st') (hm : a_l2 (a_rc ρ) mem mem') (hg : a_l2 (a_rf ρ) gs gs')
    (hx : e_nxo P k pc lw st' mem' gs' x.1 = e_nxs P k pc lw st' mem' gs' i) (h : a_nxs P E k pc lv st mem gs i = some L) : a_nx P ρ L (mem', (k, pc, lw, st'), gs') x := by
  unfold a_nxs at h
  simp only [Bool.cond_eq_ite] at h
  split at h
  · cases h
  · next f hf =>
    unfold e_nxs at hx
    simp only [Bool.cond_eq_ite, hf] at hx
    split at h
    · next h0 =>
      rw [if_pos h0] at hx
      exact a_nxg_ok hE hg (fun F0 hF => a_bli_ok hE hl hs hm hF) hx h
    · next h0 =>
      rw [if_neg h0] at hx
      split at h
      · next hc =>
        cases h
        simp only [Bool.and_eq_true] at hc
        obtain ⟨c1, c2, c3, c4⟩ := hc
        have hargs := a_l2_rev (a_l2_take f.2.1 hs)
        rw [if_pos (by simp only [Bool.and_eq_true]; exact ⟨by rw [a_l2_len hs]; exact c1, a_low_ok (a_l2_drop f.2.1 hs) c2, a_room_ok hargs c3, c4⟩)] at hx
        exact Or.inr ⟨_, hx, _, List.mem_singleton.mpr rfl, hE, hm, ⟨rfl, rfl, a_args_ok 0 hargs, trivial⟩, ⟨rfl, rfl, hl, a_l2_drop f.2.1 hs⟩, hg⟩
      · cases h
theorem a_ret_ok (hE : a_ok ρ E) {ty : Option FieldType} {i : Instr} {st : List a_V} {st' : List Value} {r : Option a_V} (hs : a_l2 (a_rv ρ) st st') (h : a_ret E ty i st = some r) : ∃ r' : Option Value, e_ret ty i st' = some r' ∧ a_l2 (a_rv ρ) r.toList r'.toList := by
  unfold a_ret at h
  simp only [Bool.cond_eq_ite] at h
  split at h
  · next a =>
    obtain ⟨v, t, rfl, h1, h2⟩ := a_l2_c hs
    cases a_l2_n h2
    split at h
    · next hi =>
      cases h
      obtain ⟨p, hp⟩ := Option.isSome_iff_exists.mp hi
      obtain ⟨x, rfl, -⟩ := a_iv_ok hE h1 hp
      exact ⟨_, rfl, h1, trivial⟩
    · cases h
  · next x =>
    obtain ⟨v, t, rfl, h1, h2⟩ := a_l2_c hs
    cases a_l2_n h2
    cases h1
    split at h
    · next hi =>
      cases h
      refine ⟨some (.int x), ?_, rfl, trivial⟩
      unfold e_ret
      simp only [hi, cond_true]
    · cases h
  · next a =>
    obtain ⟨v, t, rfl, h1, h2⟩ := a_l2_c hs
    cases a_l2_n h2
    split at h
    · next hi =>
      cases h
      obtain ⟨p, hp⟩ := Option.isSome_iff_exists.mp hi
      obtain ⟨x, rfl, -⟩ := a_lg_ok hE h1 hp
      exact ⟨_, rfl, h1, trivial⟩
    · cases h
  · obtain ⟨v, t, rfl, h1, h2⟩ := a_l2_c hs
    cases a_l2_n h2
    cases h1
    cases h
    exact ⟨_, rfl, rfl, trivial⟩
  · cases a_l2_n hs
    cases h
    exact ⟨_, rfl, trivial⟩
  · cases h
theorem a_sl_ok : ∀ {mem : List a_C} {mem' : List e_C}, a_l2 (a_rc ρ) mem mem' → e_sl mem' = a_sl mem
  | [], _, h => by rw [a_l2_n h]; rfl
  | c :: mem, mem', h => by
    obtain ⟨d, t, rfl, h1, h2⟩ := a_l2_c h
    have ih := a_sl_ok h2
    have e1 : e_sz d = a_sz c := by
      cases c <;> cases d <;> first | exact h1.elim | exact a_l2_len h1.2
    unfold e_sl a_sl at ih ⊢
    rw [List.map_cons, List.map_cons, List.sum_cons, List.sum_cons, ih, e1]
theorem a_nxr_ok {P : e_Pg} {lc ls : Nat} (hE : a_ok ρ E) {k pc : Nat} {lw : List (Nat × Value)} {st : List a_V} {st' : List Value} {mem : List a_C} {mem' : List e_C} {gs : List a_Fr} {gs' : List e_Fr} {L : List a_S} {x : Instr × Nat} {ty : Option FieldType} {i : Instr} (hs : a_l2 (a_rv ρ) st st') (hm : a_l2 (a_rc ρ) mem mem') (hg : a_l2 (a_rf ρ) gs gs')
    (hx : e_nxo P k pc lw st' mem' gs' x.1 = e_nxr mem' gs' (e_ret ty i st')) (hx2 : ∀ rc, e_one P rc k pc lw st' mem' x.1 = e_rt mem' (e_ret ty i st')) (h : a_nxr lc ls E mem gs (a_ret E ty i st) = some L) : a_nx P ρ L (mem', (k, pc, lw, st'), gs') x ∨ a_end P lc ls (mem', (k, pc, lw, st'), gs') x := by
  unfold a_nxr at h
  split at h
  · next r g gs hr =>
    cases h
    obtain ⟨r', h1, h2⟩ := a_ret_ok hE hs hr
    obtain ⟨g', gs', rfl, h3, h4⟩ := a_l2_c hg
    refine Or.inl (Or.inr ⟨_, by rw [hx, h1]; rfl, _, List.mem_singleton.mpr rfl, hE, hm, ⟨h3.1, h3.2.1, h3.2.2.1, a_l2_app h2 h3.2.2.2⟩, h4⟩)
  · next r hr =>
    cases a_l2_n hg
    obtain ⟨r', h1, h2⟩ := a_ret_ok hE hs hr
    simp only [Bool.cond_eq_ite] at h
    split at h
    · next hf =>
      unfold a_fin at hf
      split at hf
      · next z =>
        simp only [Bool.and_eq_true, decide_eq_true_eq, Nat.ble_eq] at hf
        obtain ⟨rfl, hf1, hf2⟩ := hf
        obtain ⟨v, t, ht, h3, h4⟩ := a_l2_c (a := (Sum.inl (.int 1) : a_V)) (l := []) h2
        cases a_l2_n h4
        cases h3
        have hr' : r' = some (.int 1) := by
          cases r' with
          | none => cases ht
          | some w => cases ht; rfl
        subst hr'
        exact Or.inr ⟨rfl, fun rc => by rw [hx2, h1]; rfl, by rw [a_l2_len hm]; exact hf1, by rw [a_sl_ok hm]; exact hf2⟩
      · cases hf
    · cases h
  · cases h
def a_smp (i : Instr) : Bool := match i with
  | .iload _ | .iload_n _ | .if_icmp _ _ | .ifCond _ _ | .tableswitch _ _ _ _ | .invokevirtual _ | .invokespecial _ | .invokestatic _ | .ireturn | .lreturn | .areturn | .return_ => false
  | _ => true
theorem a_one_smp {P : e_Pg} {lc ls k pc : Nat} {lv : List (Nat × a_V)} {st : List a_V} {mem : List a_C} {gs : List a_Fr} {i : Instr} (h : a_smp i = true) : a_one P lc ls E k pc lv st mem gs i = a_nxg E k gs (a_step P k i E pc lv st mem) := by
  cases i <;> first | rfl | cases h
theorem e_nxo_smp {P : e_Pg} {k pc : Nat} {lv : List (Nat × Value)} {st : List Value} {mem : List e_C} {gs : List e_Fr} {i : Instr} (h : a_smp i = true) : e_nxo P k pc lv st mem gs i = e_nxg k gs (e_step P k i pc lv st mem) := by
  cases i <;> first | rfl | cases h
theorem a_next_ok {P : e_Pg} {lc ls : Nat} {S : a_S} {C : e_Cf} {L : List a_S} (hS : a_rS ρ S C) (h : a_next P lc ls S = some L) : ∃ x, e_code P C.2.1.1 C.2.1.2.1 = some x ∧ e_ok x = true ∧ (a_nx P ρ L C x ∨ a_end P lc ls C x) := by
  obtain ⟨E, mem, ⟨k, pc, lv, st⟩, gs⟩ := S
  obtain ⟨mem', ⟨k', pc', lw, st'⟩, gs'⟩ := C
  obtain ⟨hE, hm, ⟨hk, hp, hl, hs⟩, hg⟩ := hS
  dsimp only at hE hm hk hp hl hs hg ⊢
  subst hk
  subst hp
  unfold a_next at h
  simp only [Bool.cond_eq_ite] at h
  split at h
  · next x hx =>
    split at h
    · next hok =>
      refine ⟨x, hx, hok, ?_⟩
      obtain ⟨i, len⟩ := x
      dsimp only at h
      by_cases hsm : a_smp i = true
      · rw [a_one_smp hsm] at h
        exact Or.inl (a_nxg_ok (F := a_step P k i E pc lv st mem) (G := e_step P k i pc lw st' mem') hE hg (fun F0 hF => a_step_ok hE hl hs hm hF) (e_nxo_smp hsm) h)
      cases i with
      | iload n => exact Or.inl (a_ld_ok hE hl hs hm hg rfl h)
      | iload_n n => exact Or.inl (a_ld_ok hE hl hs hm hg rfl h)
      | if_icmp c o =>
        unfold a_one at h
        dsimp only at h
        split at h
        · next b a r =>
          obtain ⟨w, t, rfl, h1, h2⟩ := a_l2_c hs
          obtain ⟨v, t, rfl, h3, h4⟩ := a_l2_c h2
          have hi : ∃ x y : Int32, v = .int x ∧ w = .int y := by
            cases hbr : a_br E c a b with
            | none => rw [hbr] at h; unfold a_ifs at h; simp at h
            | some l => obtain ⟨x, y, e1, e2, -⟩ := a_br_ok hE h3 h1 hbr; exact ⟨x, y, e1, e2⟩
          obtain ⟨x, y, rfl, rfl⟩ := hi
          obtain ⟨G, g1, S, hSL, g2⟩ := a_ifs_ok (b := e_c2 c x y) hl h4 hm hg (fun l hbr => by
            obtain ⟨x', y', e1, e2, q, hq, q1, q2⟩ := a_br_ok hE h3 h1 hbr
            cases e1; cases e2
            exact ⟨q, hq, q1, q2⟩) h
          exact Or.inl (Or.inr ⟨_, show e_nxg k gs' (e_if (e_c2 c x y) pc o lw t mem') = _ by rw [g1]; rfl, S, hSL, g2⟩)
        · cases h
      | ifCond c o =>
        unfold a_one at h
        dsimp only at h
        split at h
        · next a r =>
          obtain ⟨v, t, rfl, h3, h4⟩ := a_l2_c hs
          have hi : ∃ x : Int32, v = .int x := by
            cases hbr : a_br E c a (.inl (.int 0)) with
            | none => rw [hbr] at h; unfold a_ifs at h; simp at h
            | some l => obtain ⟨x, y, e1, e2, -⟩ := a_br_ok hE h3 (show a_rv ρ (.inl (.int 0)) (.int 0) from rfl) hbr; exact ⟨x, e1⟩
          obtain ⟨x, rfl⟩ := hi
          have e12 : e_c1 c x = e_c2 c x 0 := by cases c <;> rfl
          obtain ⟨G, g1, S, hSL, g2⟩ := a_ifs_ok (b := e_c2 c x 0) hl h4 hm hg (fun l hbr => by
            obtain ⟨x', y', e1, e2, q, hq, q1, q2⟩ := a_br_ok hE h3 (show a_rv ρ (.inl (.int 0)) (.int 0) from rfl) hbr
            cases e1; cases e2
            exact ⟨q, hq, q1, q2⟩) h
          exact Or.inl (Or.inr ⟨_, show e_nxg k gs' (e_if (e_c1 c x) pc o lw t mem') = _ by rw [e12, g1]; rfl, S, hSL, g2⟩)
        · cases h
      | tableswitch d lo hi offs =>
        obtain ⟨G, g1, S, hSL, g2⟩ := a_tsw_ok hE hl hs hm hg h
        exact Or.inl (Or.inr ⟨_, show e_nxg k gs' (e_tsw lw st' mem' pc d lo hi offs) = _ by rw [g1]; rfl, S, hSL, g2⟩)
      | invokevirtual n => exact Or.inl (a_nxi_ok hE hl hs hm hg rfl h)
      | invokespecial n => exact Or.inl (a_nxi_ok hE hl hs hm hg rfl h)
      | invokestatic n => exact Or.inl (a_nxs_ok hE hl hs hm hg rfl h)
      | ireturn => exact a_nxr_ok hE hs hm hg rfl (fun rc => rfl) h
      | lreturn => exact a_nxr_ok hE hs hm hg rfl (fun rc => rfl) h
      | areturn => exact a_nxr_ok hE hs hm hg rfl (fun rc => rfl) h
      | return_ => exact a_nxr_ok hE hs hm hg rfl (fun rc => rfl) h
      | _ => exact absurd rfl hsm
    · cases h
  · cases h
theorem a_run_succ (P : e_Pg) (lc ls n : Nat) (S : a_S) : a_run P lc ls (n + 1) S = (match a_next P lc ls S with
  | some l => l.all (a_run P lc ls n)
  | none => false) := rfl
/-- a picture from which all ways come to 1: so does what it is of -/
theorem a_sound {P : e_Pg} {lc ls : Nat} : ∀ (n : Nat) (S : a_S) (C : e_Cf), a_run P lc ls n S = true → a_rS ρ S C → e_Stk P (fun y => y.1 = some (.int 1) ∧ y.2.length ≤ lc ∧ e_sl y.2 ≤ ls) C.2.2 C.1 C.2.1
  | 0, _, _, h, _ => by cases h
  | n + 1, S, C, h, hS => by
    rw [a_run_succ] at h
    split at h
    · next L hL =>
      obtain ⟨x, hc, ho, hx⟩ := a_next_ok hS hL
      have go : ∀ C' S', S' ∈ L → a_rS ρ S' C' → e_Stk P (fun y => y.1 = some (.int 1) ∧ y.2.length ≤ lc ∧ e_sl y.2 ≤ ls) C'.2.2 C'.1 C'.2.1 := fun C' S' h1 h2 => a_sound n S' C' (List.all_eq_true.mp h S' h1) h2
      rcases hx with (⟨S', h1, h2⟩ | ⟨C', h0, S', h1, h2⟩) | ⟨h0, h1, h2, h3⟩
      · exact go C S' h1 h2
      · exact e_nx_ok hc ho h0 (go C' S' h1 h2)
      · obtain ⟨mem', f, gs'⟩ := C
        dsimp only at h0 h1 h2 h3 hc ⊢
        subst h0
        exact ⟨_, e_Ev.of hc ho ⟨0, h1 _⟩, rfl, h2, h3⟩
    · cases h
end AW
