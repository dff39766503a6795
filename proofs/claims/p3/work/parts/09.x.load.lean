/-! LOADS BY TYPES -/
abbrev b_O : Type := List ((Nat × Nat) × b_V)
def b_fnd : b_O → Nat → Nat → Option b_V
  | [], _, _ => none
  | e :: r, q, j => bif e.1.1 == q && e.1.2 == j then some e.2 else b_fnd r q j
theorem b_fnd_ok {n : Nat} {ρ : Nat → Int32} {mem : List e_C} : ∀ {O : b_O} {q j : Nat} {a : b_V}, b_ov n ρ O mem → b_fnd O q j = some a → ∃ v, e_pl mem q j = some v ∧ b_rv n ρ a v
  | [], _, _, _, _, h => by cases h
  | e :: r, q, j, a, hO, h => by
    unfold b_fnd at h
    cases hc : (e.1.1 == q && e.1.2 == j) with
    | true =>
      rw [hc] at h
      cases h
      rw [Bool.and_eq_true, beq_iff_eq, beq_iff_eq] at hc
      obtain ⟨v, h1, h2⟩ := hO e List.mem_cons_self
      rw [hc.1, hc.2] at h1
      exact ⟨v, h1, h2⟩
    | false =>
      rw [hc] at h
      exact b_fnd_ok (fun e' he' => hO e' (List.mem_cons_of_mem _ he')) h
/-- more symbols, and what was told of a value is told still -/
def b_ext (n : Nat) (ρ : Nat → Int32) (n' : Nat) (ρ' : Nat → Int32) : Prop := ∀ (a : b_V) (v : Value), b_rv n ρ a v → b_rv n' ρ' a v
theorem b_ext.rf {n : Nat} {ρ : Nat → Int32} : b_ext n ρ n ρ := fun _ _ h => h
theorem b_ext.up {n : Nat} {ρ : Nat → Int32} (x : Int32) : b_ext n ρ (n + 1) (b_up ρ n x) := fun _ _ h => b_up_rv x h
/-- a symbol for what a place holds, of which nothing is known but its set -/
theorem b_fresh {ρ : Nat → Int32} {E : b_E} {O : b_O} {mem : List e_C} {q j : Nat} {I : b_I} {x : Int32} (hE : b_ok ρ E) (hO : b_ov E.length ρ O mem) (hp : e_pl mem q j = some (.int x)) (hx : b_in I x.toInt) :
    ∃ ρ' : Nat → Int32, b_ok ρ' (E ++ [I]) ∧ b_ext E.length ρ (E ++ [I]).length ρ' ∧ b_ov (E ++ [I]).length ρ' (((q, j), .inr (0, E.length, 0, [])) :: O) mem ∧ b_rv (E ++ [I]).length ρ' (.inr (0, E.length, 0, [])) (.int x) := by
  have hl : (E ++ [I]).length = E.length + 1 := by simp
  rw [hl]
  have hv : b_rv (E.length + 1) (b_up ρ E.length x) (.inr (0, E.length, 0, [])) (.int x) := by
    refine ⟨by omega, x, rfl, ?_⟩
    unfold b_up
    rw [if_pos rfl]
    omega
  refine ⟨b_up ρ E.length x, b_up_ok hE hx, b_ext.up x, ?_, hv⟩
  intro e he
  rcases List.mem_cons.mp he with rfl | he
  · exact ⟨.int x, hp, hv⟩
  · exact b_ov_up x hO e he
def b_ldA (M : List b_Y) (E : b_E) (O : b_O) (z : Bool) (q : Nat) (i : b_V) : Option (b_E × b_O × b_V) := match M[q]? with
  | some (.inl t) => bif t.1 == z then (match i with
    | .inl (.int j) => bif !decide (j < 0) && Nat.blt j.toNatClampNeg t.2.1 then (match b_fnd O q j.toNatClampNeg with
      | some a => match b_st E a with
        | some _ => some (E, O, a)
        | none => none
      | none => some (E ++ [b_seg t.2.2 j.toNatClampNeg], ((q, j.toNatClampNeg), .inr (0, E.length, 0, [])) :: O, .inr (0, E.length, 0, []))) else none
    | i => match b_st E i with
      | some J => bif b_sub J [(0, (t.2.1 : Int) - 1)] then some (E, O, .inr (1, 0, 0, b_segU t.2.2 J)) else none
      | none => none) else none
  | _ => none
theorem b_clamp {j : Int32} {N : Nat} (h : b_in [(0, (N : Int) - 1)] j.toInt) : ¬ j < 0 ∧ j.toNatClampNeg < N ∧ ((j.toNatClampNeg : Nat) : Int) = j.toInt := by
  obtain ⟨p, hp, h1, h2⟩ := h
  cases List.mem_singleton.mp hp
  dsimp only at h1 h2
  have e : ((j.toNatClampNeg : Nat) : Int) = j.toInt := by
    show ((j.toInt.toNat : Nat) : Int) = j.toInt
    omega
  refine ⟨fun q => ?_, by omega, e⟩
  have := Int32.lt_iff_toInt_lt.mp q
  simp at this
  omega
theorem b_ldA_ok {M : List b_Y} {ρ : Nat → Int32} {E E' : b_E} {O O' : b_O} {mem : List e_C} {z : Bool} {q : Nat} {i a : b_V} {w : Value} (hE : b_ok ρ E) (hM : b_mem M mem) (hO : b_ov E.length ρ O mem) (hi : b_rv E.length ρ i w) (h : b_ldA M E O z q i = some (E', O', a)) :
    ∃ (ρ' : Nat → Int32) (j x : Int32) (r : Bool × List Int32), b_ok ρ' E' ∧ b_ext E.length ρ E'.length ρ' ∧ b_ov E'.length ρ' O' mem ∧ w = .int j ∧ mem[q]? = some (.inl r) ∧ r.1 = z ∧ ¬ j < 0 ∧ r.2[j.toNatClampNeg]? = some x ∧ b_rv E'.length ρ' a (.int x) := by
  unfold b_ldA at h
  simp only [Bool.cond_eq_ite] at h
  split at h
  · next t ht =>
    obtain ⟨r, m1, m2, m3, m4⟩ := hM.arr ht
    split at h
    · next hz =>
      have hz : t.1 = z := by simpa using hz
      split at h
      · next j =>
        cases hi
        split at h
        · next hj =>
          rw [Bool.and_eq_true, Bool.not_eq_true', decide_eq_false_iff_not, Nat.blt_eq] at hj
          have hlt : j.toNatClampNeg < r.2.length := by rw [m3]; exact hj.2
          have hx := List.getElem?_eq_getElem hlt
          have hp : e_pl mem q j.toNatClampNeg = some (.int r.2[j.toNatClampNeg]) := by
            unfold e_pl
            rw [m1]
            dsimp only
            rw [hx]
            rfl
          split at h
          · next b hb =>
            split at h
            · next I hI =>
              cases h
              obtain ⟨v, h1, h2⟩ := b_fnd_ok hO hb
              cases hp.symm.trans h1
              exact ⟨ρ, j, _, r, hE, b_ext.rf, hO, rfl, m1, m2.trans hz, hj.1, hx, h2⟩
            · cases h
          · cases h
            obtain ⟨ρ', g1, g2, g3, g4⟩ := b_fresh hE hO hp (m4 _ _ hx)
            exact ⟨ρ', j, _, r, g1, g2, g3, rfl, m1, m2.trans hz, hj.1, hx, g4⟩
        · cases h
      · split at h
        · next J hJ =>
          split at h
          · next hs =>
            cases h
            obtain ⟨j, rfl, hj⟩ := b_st_ok hE hi hJ
            obtain ⟨c1, c2, c3⟩ := b_clamp (b_sub_ok hs hj)
            have hlt : j.toNatClampNeg < r.2.length := by rw [m3]; exact c2
            have hx := List.getElem?_eq_getElem hlt
            exact ⟨ρ, j, _, r, hE, b_ext.rf, hO, rfl, m1, m2.trans hz, c1, hx, _, rfl, b_segU_ok (by rw [c3]; exact hj) (m4 _ _ hx)⟩
          · cases h
        · cases h
    · cases h
  · cases h
