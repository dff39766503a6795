/-! ROWS FOR THE PARSERS AND THE SEARCHES -/
theorem h_fgt {P : e_Pg} {Y : h_L} {k pc : Nat} {L : List (Nat × Value)} {st : List Value} {Q : Option Value → h_S → Prop} {M : Nat → Int → Bool} {σ0 : h_S} {E : h_S → Prop} (τ : h_S) (h1 : h_I τ) (h2 : h_F M τ σ0) (hE : E τ) (kk : ∀ τ, h_I τ → h_F M τ σ0 → E τ → h_T P Y k pc L st τ Q) : h_T P Y k pc L st τ Q := kk τ h1 h2 hE
theorem h_up_n2 {σ : h_S} {q : Nat} {j v i w : Int} (hn : ¬ i = j) (h : σ q i = w) : h_up σ q j v q i = w := by
  unfold h_up
  rw [if_neg (fun e => hn e.2)]
  exact h
def h_ne (a b : Int) : Prop := ¬ a = b
theorem h_ni {a b : Int} (h : ¬ a = b) : h_ne a b := h
theorem h_nf {a b c d : Int} (h : h_ne a b) (h1 : c = a) (h2 : d = b) : h_ne c d := by subst h1; subst h2; exact h
theorem h_iaddC {x y z : Int32} {a b : Int} (hx : x.toInt = a) (hy : y.toInt = b) (hz : z = x + y) : (-2147483648 ≤ a + b ∧ a + b ≤ 2147483647) → z.toInt = a + b := fun h => by rw [hz, Int32.toInt_add, hx, hy, h_bm h.1 h.2]
theorem h_isubC {x y z : Int32} {a b : Int} (hx : x.toInt = a) (hy : y.toInt = b) (hz : z = x - y) : (-2147483648 ≤ a - b ∧ a - b ≤ 2147483647) → z.toInt = a - b := fun h => by rw [hz, Int32.toInt_sub, hx, hy, h_bm h.1 h.2]
theorem h_imulC {x y z : Int32} {a b : Int} (hx : x.toInt = a) (hy : y.toInt = b) (hz : z = x * y) : (-2147483648 ≤ a * b ∧ a * b ≤ 2147483647) → z.toInt = a * b := fun h => by rw [hz, Int32.toInt_mul, hx, hy, h_bm h.1 h.2]
theorem h_lremC {x y z : Int64} (h0 : ¬ y = 0) (hz : z = x - x / y * y) : (0 < y.toInt → (-y.toInt < z.toInt ∧ z.toInt < y.toInt)) ∧ (y.toInt < 0 → (y.toInt < z.toInt ∧ z.toInt < -y.toInt)) := by
  have e : z.toInt = x.toInt.tmod y.toInt := by
    rw [hz, Int64.toInt_sub, Int64.toInt_mul, Int64.toInt_div, Int.sub_bmod_bmod, Int.sub_bmod, Int.mul_bmod, Int.bmod_bmod, ← Int.mul_bmod, ← Int.sub_bmod, Int.tmod_def, Int.mul_comm (x.toInt.tdiv y.toInt), ← Int.tmod_def]
    rw [← Int64.toInt_mod]
    exact h_lbm (Int64.le_toInt _) (by have := Int64.toInt_lt (x % y); omega)
  rw [e]
  refine ⟨fun h => ⟨Int.lt_tmod_of_pos _ h, Int.tmod_lt_of_pos _ h⟩, fun h => ?_⟩
  have h1 := Int.lt_tmod_of_pos x.toInt (show 0 < -y.toInt by omega)
  have h2 := Int.tmod_lt_of_pos x.toInt (show 0 < -y.toInt by omega)
  rw [Int.tmod_neg] at h1 h2
  omega
theorem h_ph0 : ∀ (n : Nat) (f : Nat → Int), (∀ i, i ≤ n → 0 ≤ f i ∧ f i < n) → ∃ i j, i < j ∧ j ≤ n ∧ f i = f j
  | 0, f, h => by have := h 0 (Nat.le_refl 0); omega
  | n + 1, f, h => by
    by_cases hx : ∃ i, i ≤ n ∧ f i = f (n + 1)
    · obtain ⟨i, h1, h2⟩ := hx
      exact ⟨i, n + 1, by omega, Nat.le_refl _, h2⟩
    · obtain ⟨i, j, h1, h2, h3⟩ := h_ph0 n (fun i => if f i = n then f (n + 1) else f i) (fun i hi => by
        have a := h i (by omega)
        have b := h (n + 1) (Nat.le_refl _)
        show 0 ≤ (if f i = n then f (n + 1) else f i) ∧ (if f i = n then f (n + 1) else f i) < n
        split
        · next he =>
          have : ¬ f (n + 1) = n := fun q => hx ⟨i, hi, he.trans q.symm⟩
          omega
        · next he => omega)
      have h3 : (if f i = n then f (n + 1) else f i) = (if f j = n then f (n + 1) else f j) := h3
      refine ⟨i, j, h1, by omega, ?_⟩
      have hi : ¬ f i = f (n + 1) := fun q => hx ⟨i, by omega, q⟩
      have hj : ¬ f j = f (n + 1) := fun q => hx ⟨j, by omega, q⟩
      split at h3 <;> split at h3 <;> omega
theorem h_ph (f : Int → Int) (h : ∀ i, 0 ≤ i → i ≤ 6 → 0 ≤ f i ∧ f i ≤ 5) (hd : ∀ i j, 0 ≤ i → i < j → j ≤ 6 → ¬ f i = f j) : False := by
  obtain ⟨i, j, h1, h2, h3⟩ := h_ph0 6 (fun i => f (i : Int)) (fun i hi => by have := h i (by omega) (by omega); show 0 ≤ f i ∧ f i < (6 : Nat); omega)
  exact hd i j (by omega) (by omega) (by omega) h3
theorem h_lrng (x : Int64) : -9223372036854775808 ≤ x.toInt ∧ x.toInt ≤ 9223372036854775807 := by
  have h1 := Int64.le_toInt x
  have h2 := Int64.toInt_lt x
  omega
theorem h_ph7 (f : Int → Int) (r0 : 0 ≤ f 0 ∧ f 0 ≤ 5) (r1 : 0 ≤ f 1 ∧ f 1 ≤ 5) (r2 : 0 ≤ f 2 ∧ f 2 ≤ 5) (r3 : 0 ≤ f 3 ∧ f 3 ≤ 5) (r4 : 0 ≤ f 4 ∧ f 4 ≤ 5) (r5 : 0 ≤ f 5 ∧ f 5 ≤ 5) (r6 : 0 ≤ f 6 ∧ f 6 ≤ 5) (d01 : h_ne (f 0) (f 1)) (d02 : h_ne (f 0) (f 2)) (d12 : h_ne (f 1) (f 2)) (d03 : h_ne (f 0) (f 3)) (d13 : h_ne (f 1) (f 3)) (d23 : h_ne (f 2) (f 3)) (d04 : h_ne (f 0) (f 4)) (d14 : h_ne (f 1) (f 4)) (d24 : h_ne (f 2) (f 4)) (d34 : h_ne (f 3) (f 4)) (d05 : h_ne (f 0) (f 5)) (d15 : h_ne (f 1) (f 5)) (d25 : h_ne (f 2) (f 5)) (d35 : h_ne (f 3) (f 5)) (d45 : h_ne (f 4) (f 5)) (d06 : h_ne (f 0) (f 6)) (d16 : h_ne (f 1) (f 6)) (d26 : h_ne (f 2) (f 6)) (d36 : h_ne (f 3) (f 6)) (d46 : h_ne (f 4) (f 6)) (d56 : h_ne (f 5) (f 6)) : False := by
  refine h_ph f (fun i h0 h6 => ?_) (fun i j h0 h1 h6 => ?_)
  · rcases (show i = 0 ∨ i = 1 ∨ i = 2 ∨ i = 3 ∨ i = 4 ∨ i = 5 ∨ i = 6 by omega) with rfl | rfl | rfl | rfl | rfl | rfl | rfl <;> assumption
  · rcases (show j = 0 ∨ j = 1 ∨ j = 2 ∨ j = 3 ∨ j = 4 ∨ j = 5 ∨ j = 6 by omega) with rfl | rfl | rfl | rfl | rfl | rfl | rfl <;> rcases (show i = 0 ∨ i = 1 ∨ i = 2 ∨ i = 3 ∨ i = 4 ∨ i = 5 by omega) with rfl | rfl | rfl | rfl | rfl | rfl <;> first | assumption | (exfalso; omega)
section HC
variable {P : e_Pg} {Y : h_L} {k pc pc' : Nat} {L : List (Nat × Value)} {st : List Value} {σ : h_S} {Q : Option Value → h_S → Prop}
abbrev g_tx (q : Nat) : List Int32 := e_byts.getD (q - 1) []
/-- charAt of a text, at a place that is there -/
theorem h_chr {n np : Nat} {nst : Bool} {q : Nat} {b : List Int32} {j : Int32} {a : Int} (hc : e_code P k pc = some (.invokevirtual n, 3)) (hp : pc + 3 = pc') (hcal : e_cal P k n = some (0, 1, 94, nst)) (ht : e_txt P q = some b) (hj : j.toInt = a) (h0 : 0 ≤ a) (h1 : a < b.length) (hr : (e_low st && (Nat.ble 4 (e_rmo P k).1 && Nat.ble 85 (e_rmo P k).2.1)) = true) (kk : ∀ x : Int32, b[a.toNat]? = some x → h_T P Y k pc' L (.int x :: st) σ Q) : h_T P Y k pc L (.int j :: .ref q :: st) σ Q := by
  have hlt : a.toNat < b.length := by omega
  have hx := List.getElem?_eq_getElem hlt
  refine h_str (x := b[a.toNat]) (st' := st) hc hp hcal rfl ?_ (kk _ hx)
  have e1 : j.toNatClampNeg = a.toNat := by
    show j.toInt.toNat = a.toNat
    rw [hj]
  have e2 : decide (j < 0) = false := by rw [decide_eq_false_iff_not, h_ilt, h_i0]; omega
  simp only [e_sb, ht, e1, hx, e2, Bool.not_false, Bool.true_and, beq_self_eq_true, hr, cond_true]
end HC
theorem ci_48 : (Int32.ofInt 48).toInt = 48 := by decide
theorem cb_48 : (Int8.ofInt 48).toInt32 = Int32.ofInt 48 := by decide
theorem ci_57 : (Int32.ofInt 57).toInt = 57 := by decide
theorem cb_57 : (Int8.ofInt 57).toInt32 = Int32.ofInt 57 := by decide
theorem ci_59 : (Int32.ofInt 59).toInt = 59 := by decide
theorem cb_59 : (Int8.ofInt 59).toInt32 = Int32.ofInt 59 := by decide
theorem ci_97 : (Int32.ofInt 97).toInt = 97 := by decide
theorem cb_97 : (Int8.ofInt 97).toInt32 = Int32.ofInt 97 := by decide
theorem ci_122 : (Int32.ofInt 122).toInt = 122 := by decide
theorem cb_122 : (Int8.ofInt 122).toInt32 = Int32.ofInt 122 := by decide
theorem ci_127 : (Int32.ofInt 127).toInt = 127 := by decide
theorem cb_127 : (Int8.ofInt 127).toInt32 = Int32.ofInt 127 := by decide
theorem ci_160 : (Int32.ofInt 160).toInt = 160 := by decide
theorem cs_160 : (Int16.ofInt 160).toInt32 = Int32.ofInt 160 := by decide
theorem cl_15 : (Int64.ofInt 15).toInt = 15 := by decide
theorem cl_48 : (Int64.ofInt 48).toInt = 48 := by decide
theorem cl_57 : (Int64.ofInt 57).toInt = 57 := by decide
theorem cl_97 : (Int64.ofInt 97).toInt = 97 := by decide
theorem cl_122 : (Int64.ofInt 122).toInt = 122 := by decide
theorem cl_127 : (Int64.ofInt 127).toInt = 127 := by decide
