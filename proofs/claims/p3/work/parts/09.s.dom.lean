/-! SETS OF INTS: unions of intervals -/
abbrev b_I : Type := List (Int × Int)
def b_in (I : b_I) (x : Int) : Prop := ∃ p ∈ I, p.1 ≤ x ∧ x ≤ p.2
def b_lo : Int := -2147483648
def b_hi : Int := 2147483647
def b_any : b_I := [(b_lo, b_hi)]
theorem b_any_ok (x : Int32) : b_in b_any x.toInt := by
  have h1 := Int32.le_toInt x
  have h2 := Int32.toInt_lt x
  exact ⟨(b_lo, b_hi), List.mem_singleton.mpr rfl, by show b_lo ≤ _; unfold b_lo; omega, by show _ ≤ b_hi; unfold b_hi; omega⟩
theorem b_one (x : Int) : b_in [(x, x)] x := ⟨(x, x), List.mem_singleton.mpr rfl, Int.le_refl _, Int.le_refl _⟩
/-- I lies in J -/
def b_sub (I J : b_I) : Bool := I.all (fun p => J.any (fun q => decide (q.1 ≤ p.1) && decide (p.2 ≤ q.2)))
theorem b_sub_ok {I J : b_I} {x : Int} (h : b_sub I J = true) (hx : b_in I x) : b_in J x := by
  obtain ⟨p, hp, h1, h2⟩ := hx
  have h3 := List.all_eq_true.mp h p hp
  obtain ⟨q, hq, h4⟩ := List.any_eq_true.mp h3
  simp only [Bool.and_eq_true, decide_eq_true_eq] at h4
  exact ⟨q, hq, by omega, by omega⟩
/-- what of I lies between two bounds -/
def b_cut (lo hi : Int) (I : b_I) : b_I := (I.map (fun p => (max p.1 lo, min p.2 hi))).filter (fun p => decide (p.1 ≤ p.2))
theorem b_cut_ok {lo hi x : Int} {I : b_I} (hx : b_in I x) (h1 : lo ≤ x) (h2 : x ≤ hi) : b_in (b_cut lo hi I) x := by
  obtain ⟨p, hp, h3, h4⟩ := hx
  refine ⟨(max p.1 lo, min p.2 hi), List.mem_filter.mpr ⟨List.mem_map.mpr ⟨p, hp, rfl⟩, ?_⟩, ?_, ?_⟩
  · simp; omega
  · dsimp only; omega
  · dsimp only; omega
theorem b_in_app {I J : b_I} {x : Int} (h : b_in I x ∨ b_in J x) : b_in (I ++ J) x := by
  rcases h with ⟨p, hp, h⟩ | ⟨p, hp, h⟩
  · exact ⟨p, List.mem_append_left _ hp, h⟩
  · exact ⟨p, List.mem_append_right _ hp, h⟩
/-- the least and the greatest -/
def b_min : b_I → Int → Int
  | [], d => d
  | p :: l, d => b_min l (min p.1 d)
def b_max : b_I → Int → Int
  | [], d => d
  | p :: l, d => b_max l (max p.2 d)
theorem b_min_le : ∀ (I : b_I) (d : Int), b_min I d ≤ d
  | [], d => Int.le_refl d
  | p :: l, d => Int.le_trans (b_min_le l (min p.1 d)) (by omega)
theorem b_max_ge : ∀ (I : b_I) (d : Int), d ≤ b_max I d
  | [], d => Int.le_refl d
  | p :: l, d => Int.le_trans (by omega) (b_max_ge l (max p.2 d))
theorem b_min_ok : ∀ {I : b_I} {d x : Int}, b_in I x → b_min I d ≤ x
  | [], _, _, h => by obtain ⟨p, hp, -⟩ := h; exact absurd hp List.not_mem_nil
  | q :: l, d, x, h => by
    obtain ⟨p, hp, h1, h2⟩ := h
    unfold b_min
    rcases List.mem_cons.mp hp with rfl | hp
    · exact Int.le_trans (b_min_le l _) (by omega)
    · exact b_min_ok ⟨p, hp, h1, h2⟩
theorem b_max_ok : ∀ {I : b_I} {d x : Int}, b_in I x → x ≤ b_max I d
  | [], _, _, h => by obtain ⟨p, hp, -⟩ := h; exact absurd hp List.not_mem_nil
  | q :: l, d, x, h => by
    obtain ⟨p, hp, h1, h2⟩ := h
    unfold b_max
    rcases List.mem_cons.mp hp with rfl | hp
    · exact Int.le_trans (by omega) (b_max_ge l _)
    · exact b_max_ok ⟨p, hp, h1, h2⟩
/-- a result that may pass the ints' bounds is any int -/
def b_fit (I : b_I) : b_I := bif I.all (fun p => decide (b_lo ≤ p.1) && decide (p.2 ≤ b_hi)) then I else b_any
def b_two (f : Int × Int → Int × Int → Int × Int) (I J : b_I) : b_I := I.flatMap (fun p => J.map (fun q => f p q))
theorem b_two_ok {f : Int × Int → Int × Int → Int × Int} {I J : b_I} {x y z : Int} (hx : b_in I x) (hy : b_in J y) (hf : ∀ p q, p.1 ≤ x → x ≤ p.2 → q.1 ≤ y → y ≤ q.2 → (f p q).1 ≤ z ∧ z ≤ (f p q).2) : b_in (b_two f I J) z := by
  obtain ⟨p, hp, h1, h2⟩ := hx
  obtain ⟨q, hq, h3, h4⟩ := hy
  exact ⟨f p q, List.mem_flatMap.mpr ⟨p, hp, List.mem_map.mpr ⟨q, hq, rfl⟩⟩, hf p q h1 h2 h3 h4⟩
theorem b_bmod {z : Int} (h1 : -2147483648 ≤ z) (h2 : z ≤ 2147483647) : z.bmod (2 ^ 32) = z := by
  rw [Int.bmod_eq_of_le (by omega) (by omega)]
theorem b_fit_ok {I : b_I} {z : Int} {r : Int32} (hz : b_in I z) (hr : -2147483648 ≤ z → z ≤ 2147483647 → r.toInt = z) : b_in (b_fit I) r.toInt := by
  unfold b_fit
  cases hI : I.all (fun p => decide (b_lo ≤ p.1) && decide (p.2 ≤ b_hi)) with
  | false => exact b_any_ok r
  | true =>
    obtain ⟨p, hp, h1, h2⟩ := hz
    have h3 : (decide (b_lo ≤ p.1) && decide (p.2 ≤ b_hi)) = true := List.all_eq_true.mp hI p hp
    rw [Bool.and_eq_true, decide_eq_true_eq, decide_eq_true_eq] at h3
    unfold b_lo b_hi at h3
    rw [hr (by omega) (by omega)]
    exact ⟨p, hp, h1, h2⟩
def b_add (I J : b_I) : b_I := b_fit (b_two (fun p q => (p.1 + q.1, p.2 + q.2)) I J)
def b_sbt (I J : b_I) : b_I := b_fit (b_two (fun p q => (p.1 - q.2, p.2 - q.1)) I J)
theorem b_add_ok {I J : b_I} {x y : Int32} (hx : b_in I x.toInt) (hy : b_in J y.toInt) : b_in (b_add I J) (x + y).toInt :=
  b_fit_ok (z := x.toInt + y.toInt) (b_two_ok hx hy (fun p q h1 h2 h3 h4 => by dsimp only; omega)) (fun h1 h2 => by rw [Int32.toInt_add, b_bmod h1 h2])
theorem b_sbt_ok {I J : b_I} {x y : Int32} (hx : b_in I x.toInt) (hy : b_in J y.toInt) : b_in (b_sbt I J) (x - y).toInt :=
  b_fit_ok (z := x.toInt - y.toInt) (b_two_ok hx hy (fun p q h1 h2 h3 h4 => by dsimp only; omega)) (fun h1 h2 => by rw [Int32.toInt_sub, b_bmod h1 h2])
/-- times, where the second is one number that isn't negative -/
def b_mulc (I : b_I) (v : Int) : b_I := bif decide (0 ≤ v) then b_fit (I.map (fun p => (p.1 * v, p.2 * v))) else b_any
theorem b_mulc_ok {I : b_I} {x y : Int32} (hx : b_in I x.toInt) : b_in (b_mulc I y.toInt) (x * y).toInt := by
  unfold b_mulc
  cases hv : decide (0 ≤ y.toInt) with
  | false => exact b_any_ok _
  | true =>
    have hv : 0 ≤ y.toInt := by simpa using hv
    obtain ⟨p, hp, h1, h2⟩ := hx
    refine b_fit_ok (z := x.toInt * y.toInt) ⟨(p.1 * y.toInt, p.2 * y.toInt), List.mem_map.mpr ⟨p, hp, rfl⟩, ?_, ?_⟩ (fun g1 g2 => by rw [Int32.toInt_mul, b_bmod g1 g2])
    · exact Int.mul_le_mul_of_nonneg_right h1 hv
    · exact Int.mul_le_mul_of_nonneg_right h2 hv
/-- divided by, and what is left by, a number above 0 -/
theorem b_divN {x y : Int32} (hx : 0 ≤ x.toInt) (hy : 0 < y.toInt) : (x / y).toInt = x.toInt / y.toInt ∧ (x - x / y * y).toInt = x.toInt % y.toInt := by
  obtain ⟨a, ha, rfl⟩ := nI_of (x := x) (by rw [Int32.lt_iff_toInt_lt]; simp; omega)
  obtain ⟨b, hb, rfl⟩ := nI_of (x := y) (by rw [Int32.lt_iff_toInt_lt]; simp; omega)
  rw [nI_toInt hb] at hy
  have hb0 : 0 < b := by omega
  rw [pk_rem ha hb0 hb, pk_div ha hb0 hb, nI_toInt ha, nI_toInt hb, nI_toInt (by exact Nat.lt_of_le_of_lt (Nat.div_le_self a b) ha), nI_toInt (by exact Nat.lt_of_le_of_lt (Nat.mod_le a b) ha)]
  exact ⟨by simp, by simp⟩
def b_nn (I : b_I) : Bool := I.all (fun p => decide (0 ≤ p.1))
theorem b_nn_ok {I : b_I} {x : Int} (h : b_nn I = true) (hx : b_in I x) : 0 ≤ x := by
  obtain ⟨p, hp, h1, h2⟩ := hx
  have h3 : decide (0 ≤ p.1) = true := List.all_eq_true.mp h p hp
  have h4 : 0 ≤ p.1 := by simpa using h3
  omega
def b_div (I : b_I) (v : Int) : b_I := bif b_nn I && decide (0 < v) then I.map (fun p => (p.1 / v, p.2 / v)) else b_any
def b_rem (I : b_I) (v : Int) : b_I := bif b_nn I && decide (0 < v) then I.map (fun p => bif decide (p.1 / v = p.2 / v) then (p.1 % v, p.2 % v) else (0, v - 1)) else b_any
theorem b_div_ok {I : b_I} {x y : Int32} (hx : b_in I x.toInt) : b_in (b_div I y.toInt) (x / y).toInt := by
  unfold b_div
  cases hc : (b_nn I && decide (0 < y.toInt)) with
  | false => exact b_any_ok _
  | true =>
    rw [Bool.and_eq_true, decide_eq_true_eq] at hc
    obtain ⟨p, hp, h1, h2⟩ := id hx
    rw [(b_divN (b_nn_ok hc.1 hx) hc.2).1]
    exact ⟨(p.1 / y.toInt, p.2 / y.toInt), List.mem_map.mpr ⟨p, hp, rfl⟩, Int.ediv_le_ediv hc.2 h1, Int.ediv_le_ediv hc.2 h2⟩
theorem b_rem_ok {I : b_I} {x y : Int32} (hx : b_in I x.toInt) : b_in (b_rem I y.toInt) (x - x / y * y).toInt := by
  unfold b_rem
  cases hc : (b_nn I && decide (0 < y.toInt)) with
  | false => exact b_any_ok _
  | true =>
    rw [Bool.and_eq_true, decide_eq_true_eq] at hc
    obtain ⟨p, hp, h1, h2⟩ := id hx
    have h0 := b_nn_ok hc.1 hx
    rw [(b_divN h0 hc.2).2]
    refine ⟨_, List.mem_map.mpr ⟨p, hp, rfl⟩, ?_⟩
    have hpos := hc.2
    cases hq : decide (p.1 / y.toInt = p.2 / y.toInt) with
    | true =>
      have hq : p.1 / y.toInt = p.2 / y.toInt := by simpa using hq
      have g1 : p.1 / y.toInt ≤ x.toInt / y.toInt := Int.ediv_le_ediv hpos h1
      have g2 : x.toInt / y.toInt ≤ p.2 / y.toInt := Int.ediv_le_ediv hpos h2
      have e0 := Int.mul_ediv_add_emod p.1 y.toInt
      have e1 := Int.mul_ediv_add_emod x.toInt y.toInt
      have e2 := Int.mul_ediv_add_emod p.2 y.toInt
      have e3 : x.toInt / y.toInt = p.1 / y.toInt := by omega
      rw [e3] at e1
      rw [← hq] at e2
      show p.1 % y.toInt ≤ _ ∧ _ ≤ p.2 % y.toInt
      constructor <;> omega
    | false =>
      have g1 := Int.emod_nonneg x.toInt (show y.toInt ≠ 0 by omega)
      have g2 := Int.emod_lt_of_pos x.toInt hpos
      show 0 ≤ _ ∧ _ ≤ y.toInt - 1
      constructor <;> omega
/-- the pieces into which a comparison with v cuts a set -/
def b_pcs (c : ClassFile.Cond) (v : Int) (I : b_I) (t : Bool) : b_I := match c, t with
  | .lt, true => b_cut b_lo (v - 1) I
  | .lt, false => b_cut v b_hi I
  | .ge, true => b_cut v b_hi I
  | .ge, false => b_cut b_lo (v - 1) I
  | .gt, true => b_cut (v + 1) b_hi I
  | .gt, false => b_cut b_lo v I
  | .le, true => b_cut b_lo v I
  | .le, false => b_cut (v + 1) b_hi I
  | .eq, true => b_cut v v I
  | .eq, false => b_cut b_lo (v - 1) I ++ b_cut (v + 1) b_hi I
  | .ne, true => b_cut b_lo (v - 1) I ++ b_cut (v + 1) b_hi I
  | .ne, false => b_cut v v I
theorem b_pcs_ok {c : ClassFile.Cond} {x y : Int32} {I : b_I} (hx : b_in I x.toInt) : b_in (b_pcs c y.toInt I (e_c2 c x y)) x.toInt := by
  have r1 := Int32.le_toInt x
  have r2 := Int32.toInt_lt x
  have k1 : ∀ {lo hi : Int}, lo ≤ x.toInt → x.toInt ≤ hi → b_in (b_cut lo hi I) x.toInt := fun g1 g2 => b_cut_ok hx g1 g2
  have hl : b_lo ≤ x.toInt := by unfold b_lo; omega
  have hh : x.toInt ≤ b_hi := by unfold b_hi; omega
  rcases Int.lt_trichotomy x.toInt y.toInt with h | h | h
  · have n1 : x < y := Int32.lt_iff_toInt_lt.mpr h
    have n2 : ¬ x = y := fun q => by rw [q] at h; omega
    have n3 : ¬ y ≤ x := fun q => by have := Int32.le_iff_toInt_le.mp q; omega
    have n4 : ¬ y < x := fun q => by have := Int32.lt_iff_toInt_lt.mp q; omega
    have n5 : x ≤ y := Int32.le_iff_toInt_le.mpr (by omega)
    cases c <;> simp only [e_c2, n1, n2, n3, n4, n5, decide_true, decide_false, Bool.not_false, Bool.not_true, b_pcs]
    · exact b_in_app (Or.inl (k1 hl (by omega)))
    · exact b_in_app (Or.inl (k1 hl (by omega)))
    · exact k1 hl (by omega)
    · exact k1 hl (by omega)
    · exact k1 hl (by omega)
    · exact k1 hl (by omega)
  · have n2 : x = y := Int32.toInt_inj.mp h
    subst n2
    have n1 : ¬ x < x := fun q => by have := Int32.lt_iff_toInt_lt.mp q; omega
    have n5 : x ≤ x := Int32.le_iff_toInt_le.mpr (by omega)
    cases c <;> simp only [e_c2, n1, n5, decide_true, decide_false, Bool.not_false, Bool.not_true, b_pcs]
    · exact k1 (by omega) (by omega)
    · exact k1 (by omega) (by omega)
    · exact k1 (by omega) hh
    · exact k1 (by omega) hh
    · exact k1 hl (by omega)
    · exact k1 hl (by omega)
  · have n1 : ¬ x < y := fun q => by have := Int32.lt_iff_toInt_lt.mp q; omega
    have n2 : ¬ x = y := fun q => by rw [q] at h; omega
    have n3 : y ≤ x := Int32.le_iff_toInt_le.mpr (by omega)
    have n4 : y < x := Int32.lt_iff_toInt_lt.mpr h
    have n5 : ¬ x ≤ y := fun q => by have := Int32.le_iff_toInt_le.mp q; omega
    cases c <;> simp only [e_c2, n1, n2, n3, n4, n5, decide_true, decide_false, Bool.not_false, Bool.not_true, b_pcs]
    · exact b_in_app (Or.inr (k1 (by omega) hh))
    · exact b_in_app (Or.inr (k1 (by omega) hh))
    · exact k1 (by omega) hh
    · exact k1 (by omega) hh
    · exact k1 (by omega) hh
    · exact k1 (by omega) hh
