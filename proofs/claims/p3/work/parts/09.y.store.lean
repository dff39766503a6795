/-! FIELDS; STORES BY TYPES -/
def b_ldF (M : List b_Y) (E : b_E) (O : b_O) (cn j q : Nat) : Option (b_E × b_O × b_V) := match M[q]? with
  | some (.inr t) => bif t.1 == cn then (match t.2[j]? with
    | some (.inl v) => some (E, O, .inl v)
    | some (.inr I) => match b_fnd O q j with
      | some a => match b_st E a with
        | some _ => some (E, O, a)
        | none => none
      | none => some (E ++ [I], ((q, j), .inr (0, E.length, 0, [])) :: O, .inr (0, E.length, 0, []))
    | none => none) else none
  | _ => none
theorem b_ldF_ok {M : List b_Y} {ρ : Nat → Int32} {E E' : b_E} {O O' : b_O} {mem : List e_C} {cn j q : Nat} {a : b_V} (hE : b_ok ρ E) (hM : b_mem M mem) (hO : b_ov E.length ρ O mem) (h : b_ldF M E O cn j q = some (E', O', a)) :
    ∃ (ρ' : Nat → Int32) (v : Value) (o : Nat × List Value), b_ok ρ' E' ∧ b_ext E.length ρ E'.length ρ' ∧ b_ov E'.length ρ' O' mem ∧ mem[q]? = some (.inr o) ∧ o.1 = cn ∧ o.2[j]? = some v ∧ b_rv E'.length ρ' a v := by
  unfold b_ldF at h
  simp only [Bool.cond_eq_ite] at h
  split at h
  · next t ht =>
    obtain ⟨o, m1, m2, m3, m4⟩ := hM.obj ht
    split at h
    · next hc =>
      have hc : t.1 = cn := by simpa using hc
      split at h
      · next v hv =>
        cases h
        have hj : j < o.2.length := by rw [m3]; exact (List.getElem?_eq_some_iff.mp hv).1
        have hx := List.getElem?_eq_getElem hj
        have : o.2[j] = v := m4 j _ _ hv hx
        rw [this] at hx
        exact ⟨ρ, v, o, hE, b_ext.rf, hO, m1, m2.trans hc, hx, rfl⟩
      · next I hI =>
        have hj : j < o.2.length := by rw [m3]; exact (List.getElem?_eq_some_iff.mp hI).1
        have hx := List.getElem?_eq_getElem hj
        obtain ⟨x, ex, hxI⟩ := m4 j _ _ hI hx
        rw [ex] at hx
        have hp : e_pl mem q j = some (.int x) := by
          unfold e_pl
          rw [m1]
          exact hx
        split at h
        · next b hb =>
          split at h
          · cases h
            obtain ⟨v, h1, h2⟩ := b_fnd_ok hO hb
            cases hp.symm.trans h1
            exact ⟨ρ, _, o, hE, b_ext.rf, hO, m1, m2.trans hc, hx, h2⟩
          · cases h
        · cases h
          obtain ⟨ρ', g1, g2, g3, g4⟩ := b_fresh hE hO hp hxI
          exact ⟨ρ', _, o, g1, g2, g3, m1, m2.trans hc, hx, g4⟩
      · cases h
    · cases h
  · cases h
/-- is a protected place among them -/
def b_hit (pr : List (Nat × Nat)) (q : Nat) (J : b_I) : Bool := pr.any (fun p => p.1 == q && J.any (fun s => decide (s.1 ≤ (p.2 : Int)) && decide ((p.2 : Int) ≤ s.2)))
theorem b_hit_ok {pr : List (Nat × Nat)} {q j : Nat} {J : b_I} (h : b_hit pr q J = false) (hj : b_in J (j : Int)) : ∀ p ∈ pr, ¬ (p.1 = q ∧ p.2 = j) := by
  rintro p hp ⟨rfl, rfl⟩
  obtain ⟨s, hs, h1, h2⟩ := hj
  have : b_hit pr p.1 J = true := List.any_eq_true.mpr ⟨p, hp, by
    rw [Bool.and_eq_true]
    exact ⟨by simp, List.any_eq_true.mpr ⟨s, hs, by rw [Bool.and_eq_true, decide_eq_true_eq, decide_eq_true_eq]; exact ⟨h1, h2⟩⟩⟩⟩
  rw [this] at h
  cases h
def b_kn (i v : b_V) (q : Nat) (O : b_O) : b_O := match i with
  | .inl (.int j) => ((q, j.toNatClampNeg), v) :: O
  | _ => O
def b_stA (M : List b_Y) (pr : List (Nat × Nat)) (ro : Nat) (E : b_E) (O : b_O) (z : Bool) (q : Nat) (i v : b_V) : Option b_O := match M[q]?, b_st E i, b_st E v with
  | some (.inl t), some J, some I => bif t.1 == z && (b_sub J [(0, (t.2.1 : Int) - 1)] && (b_segA t.2.2 t.2.1 J I && (Nat.ble ro q && (!b_hit pr q J && (!z || b_sub I [(0, 1)]))))) then some (b_kn i v q (b_kill O q J)) else none
  | _, _, _ => none
theorem b_stA_ok {M : List b_Y} {pr : List (Nat × Nat)} {ro : Nat} {ρ : Nat → Int32} {E : b_E} {O O' : b_O} {mem : List e_C} {z : Bool} {q : Nat} {i v : b_V} {w u : Value} (hE : b_ok ρ E) (hM : b_mem M mem) (hO : b_ov E.length ρ O mem) (hi : b_rv E.length ρ i w) (hv : b_rv E.length ρ v u) (h : b_stA M pr ro E O z q i v = some O') :
    ∃ (j x : Int32) (r : Bool × List Int32), w = .int j ∧ u = .int x ∧ mem[q]? = some (.inl r) ∧ r.1 = z ∧ ¬ j < 0 ∧ j.toNatClampNeg < r.2.length ∧ ro ≤ q ∧ (z = true → e_fit .boolean (.int x) = true) ∧
      b_mem M (mem.set q (.inl (r.1, r.2.set j.toNatClampNeg x))) ∧ b_ov E.length ρ O' (mem.set q (.inl (r.1, r.2.set j.toNatClampNeg x))) ∧ ∀ p ∈ pr, e_pl (mem.set q (.inl (r.1, r.2.set j.toNatClampNeg x))) p.1 p.2 = e_pl mem p.1 p.2 := by
  unfold b_stA at h
  simp only [Bool.cond_eq_ite] at h
  split at h
  · next t J I ht hJ hI =>
    split at h
    · next hc =>
      cases h
      simp only [Bool.and_eq_true, beq_iff_eq, Nat.ble_eq, Bool.not_eq_true'] at hc
      obtain ⟨c1, c2, c3, c4, c5, c6⟩ := hc
      obtain ⟨r, m1, m2, m3, m4⟩ := hM.arr ht
      obtain ⟨j, rfl, hj⟩ := b_st_ok hE hi hJ
      obtain ⟨x, rfl, hx⟩ := b_st_ok hE hv hI
      obtain ⟨d1, d2, d3⟩ := b_clamp (b_sub_ok c2 hj)
      have hjJ : b_in J ((j.toNatClampNeg : Nat) : Int) := by rw [d3]; exact hj
      have hlt : j.toNatClampNeg < r.2.length := by rw [m3]; exact d2
      obtain ⟨s1, s2, s3⟩ := b_sta hM ht m1 (b_segA_ok c3 d2 hjJ hx) hlt
      refine ⟨j, x, r, rfl, rfl, m1, m2.trans c1, d1, hlt, c4, fun hz => ?_, s1, ?_, fun p hp => s3 p.1 p.2 (b_hit_ok c5 hjJ p hp)⟩
      · rw [hz] at c6
        obtain ⟨p, hp, g1, g2⟩ := b_sub_ok (by simpa using c6) hx
        cases List.mem_singleton.mp hp
        dsimp only at g1 g2
        unfold e_fit
        rw [Bool.or_eq_true, decide_eq_true_eq, decide_eq_true_eq]
        rcases (show x.toInt = 0 ∨ x.toInt = 1 by omega) with e | e
        · exact Or.inl (Int32.toInt_inj.mp e)
        · exact Or.inr (Int32.toInt_inj.mp e)
      · have hk := b_ov_kill (J := J) hO hjJ s3
        unfold b_kn
        split
        · next j' =>
          cases hi
          intro e he
          rcases List.mem_cons.mp he with rfl | he
          · exact ⟨.int x, s2, hv⟩
          · exact hk e he
        · exact hk
    · cases h
  · cases h
def b_tyI (ty : FieldType) (K : b_I) : Bool := match ty with
  | .int => true
  | .boolean => b_sub K [(0, 1)]
  | _ => false
theorem b_bool {x : Int32} {K : b_I} (h : b_sub K [(0, 1)] = true) (hx : b_in K x.toInt) : e_fit .boolean (.int x) = true := by
  obtain ⟨p, hp, g1, g2⟩ := b_sub_ok h hx
  cases List.mem_singleton.mp hp
  dsimp only at g1 g2
  unfold e_fit
  rw [Bool.or_eq_true, decide_eq_true_eq, decide_eq_true_eq]
  rcases (show x.toInt = 0 ∨ x.toInt = 1 by omega) with e | e
  · exact Or.inl (Int32.toInt_inj.mp e)
  · exact Or.inr (Int32.toInt_inj.mp e)
theorem b_tyI_ok {ty : FieldType} {x : Int32} {K : b_I} (h : b_tyI ty K = true) (hx : b_in K x.toInt) : e_fit ty (.int x) = true := by
  unfold b_tyI at h
  split at h
  · rfl
  · exact b_bool h hx
  · cases h
def b_stF (M : List b_Y) (pr : List (Nat × Nat)) (ro : Nat) (E : b_E) (O : b_O) (cn j : Nat) (ty : FieldType) (q : Nat) (v : b_V) : Option b_O := match M[q]?, b_st E v with
  | some (.inr t), some K => match t.2[j]? with
    | some (.inr I) => bif t.1 == cn && (b_sub K I && (b_tyI ty K && (Nat.ble ro q && !b_hit pr q [((j : Int), (j : Int))]))) then some (((q, j), v) :: b_kill O q [((j : Int), (j : Int))]) else none
    | _ => none
  | _, _ => none
theorem b_stF_ok {M : List b_Y} {pr : List (Nat × Nat)} {ro : Nat} {ρ : Nat → Int32} {E : b_E} {O O' : b_O} {mem : List e_C} {cn j q : Nat} {ty : FieldType} {v : b_V} {u : Value} (hE : b_ok ρ E) (hM : b_mem M mem) (hO : b_ov E.length ρ O mem) (hv : b_rv E.length ρ v u) (h : b_stF M pr ro E O cn j ty q v = some O') :
    ∃ (x : Int32) (o : Nat × List Value), u = .int x ∧ mem[q]? = some (.inr o) ∧ o.1 = cn ∧ j < o.2.length ∧ ro ≤ q ∧ e_fit ty (.int x) = true ∧
      b_mem M (mem.set q (.inr (o.1, o.2.set j (.int x)))) ∧ b_ov E.length ρ O' (mem.set q (.inr (o.1, o.2.set j (.int x)))) ∧ ∀ p ∈ pr, e_pl (mem.set q (.inr (o.1, o.2.set j (.int x)))) p.1 p.2 = e_pl mem p.1 p.2 := by
  unfold b_stF at h
  simp only [Bool.cond_eq_ite] at h
  split at h
  · next t K ht hK =>
    split at h
    · next I hI =>
      split at h
      · next hc =>
        cases h
        simp only [Bool.and_eq_true, beq_iff_eq, Nat.ble_eq, Bool.not_eq_true'] at hc
        obtain ⟨c1, c2, c3, c4, c5⟩ := hc
        obtain ⟨o, m1, m2, m3, m4⟩ := hM.obj ht
        obtain ⟨x, rfl, hx⟩ := b_st_ok hE hv hK
        have hlt : j < o.2.length := by rw [m3]; exact (List.getElem?_eq_some_iff.mp hI).1
        obtain ⟨s1, s2, s3⟩ := b_stf (v := .int x) hM ht m1 hI ⟨x, rfl, b_sub_ok c2 hx⟩ hlt
        refine ⟨x, o, rfl, m1, m2.trans c1, hlt, c4, b_tyI_ok c3 hx, s1, ?_, fun p hp => s3 p.1 p.2 (b_hit_ok c5 (b_one _) p hp)⟩
        have hk := b_ov_kill (J := [((j : Int), (j : Int))]) hO (b_one _) s3
        intro e he
        rcases List.mem_cons.mp he with rfl | he
        · exact ⟨.int x, s2, hv⟩
        · exact hk e he
      · cases h
    · cases h
  · cases h
