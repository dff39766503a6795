/-! BITS ONE BY ONE -/
def g_bt (w : Int32) (i : Nat) : Bool := w.toBitVec.getLsbD i
theorem g_bt_ext {w w' : Int32} (h : ∀ i, i < 32 → g_bt w i = g_bt w' i) : w = w' := Int32.toBitVec_inj.1 (BitVec.eq_of_getLsbD_eq (fun i hi => h i hi))
theorem g_bt_or (a b : Int32) (i : Nat) : g_bt (a ||| b) i = (g_bt a i || g_bt b i) := by
  unfold g_bt
  rw [Int32.toBitVec_or, BitVec.getLsbD_or]
theorem g_bt_and (a b : Int32) (i : Nat) : g_bt (a &&& b) i = (g_bt a i && g_bt b i) := by
  unfold g_bt
  rw [Int32.toBitVec_and, BitVec.getLsbD_and]
theorem g_bt_xn (a : Int32) {i : Nat} (hi : i < 32) : g_bt (a ^^^ (Int32.ofInt (-1))) i = (! g_bt a i) := by
  unfold g_bt
  rw [Int32.toBitVec_xor, BitVec.getLsbD_xor, show (Int32.ofInt (-1)).toBitVec = BitVec.allOnes 32 from rfl, BitVec.getLsbD_allOnes, decide_eq_true hi, Bool.xor_true]
theorem g_sh1 {w : Int32} {k i : Nat} (h : w.toBitVec = 1#32 <<< k) (hi : i < 32) (hk : k < 32) : g_bt w i = decide ((i : Int) = (k : Int)) := by
  unfold g_bt
  rw [h, BitVec.getLsbD_shiftLeft, BitVec.getLsbD_one, decide_eq_true hi, decide_eq_true (show 0 < 32 by omega)]
  by_cases c : i = k
  · rw [decide_eq_false (show ¬ i < k by omega), decide_eq_true (show i - k = 0 by omega), decide_eq_true (show (i : Int) = (k : Int) by omega)]
    rfl
  · rw [decide_eq_false (show ¬ (i : Int) = (k : Int) by omega)]
    by_cases d : i < k
    · rw [decide_eq_true d]
      rfl
    · rw [decide_eq_false (show ¬ i - k = 0 by omega), decide_eq_false d]
      rfl
theorem g_bt_sh {x : Int} (x0 : 0 ≤ x) (x9 : x ≤ 9) {i : Nat} (hi : i < 32) : g_bt ((Int32.ofInt 1) <<< ((Int32.ofInt x) &&& 31)) i = decide ((i : Int) = x) := by
  have c : x = 0 ∨ x = 1 ∨ x = 2 ∨ x = 3 ∨ x = 4 ∨ x = 5 ∨ x = 6 ∨ x = 7 ∨ x = 8 ∨ x = 9 := by omega
  rcases c with c | c | c | c | c | c | c | c | c | c
  · subst c; exact g_sh1 (k := 0) (by decide) hi (by omega)
  · subst c; exact g_sh1 (k := 1) (by decide) hi (by omega)
  · subst c; exact g_sh1 (k := 2) (by decide) hi (by omega)
  · subst c; exact g_sh1 (k := 3) (by decide) hi (by omega)
  · subst c; exact g_sh1 (k := 4) (by decide) hi (by omega)
  · subst c; exact g_sh1 (k := 5) (by decide) hi (by omega)
  · subst c; exact g_sh1 (k := 6) (by decide) hi (by omega)
  · subst c; exact g_sh1 (k := 7) (by decide) hi (by omega)
  · subst c; exact g_sh1 (k := 8) (by decide) hi (by omega)
  · subst c; exact g_sh1 (k := 9) (by decide) hi (by omega)
theorem g_bt_gor {b : Int32} {x : Int} (x0 : 0 ≤ x) (x9 : x ≤ 9) {i : Nat} (hi : i < 32) : g_bt (g_or b x) i = (g_bt b i || decide ((i : Int) = x)) := by
  unfold g_or
  rw [g_bt_or, g_bt_sh x0 x9 hi]
theorem g_bt_0 (i : Nat) : g_bt 0 i = false := by
  unfold g_bt
  exact BitVec.getLsbD_zero
theorem g_bt_1 {i : Nat} (hi : i < 32) : g_bt (Int32.ofInt 1) i = decide (i = 0) := by
  unfold g_bt
  rw [show (Int32.ofInt 1).toBitVec = 1#32 from rfl, BitVec.getLsbD_one, decide_eq_true (show 0 < 32 by omega), Bool.true_and]
theorem g_hb1 {b w : Int32} {k : Nat} (h : (b >>> w).toBitVec = b.toBitVec.sshiftRight k) (hk : k < 32) : ((b >>> w) &&& (Int32.ofInt 1)).toInt = if g_bt b k = true then 1 else 0 := by
  have e : (b >>> w) &&& (Int32.ofInt 1) = if g_bt b k = true then 1 else 0 := by
    refine g_bt_ext (fun i hi => ?_)
    rw [g_bt_and, g_bt_1 hi]
    by_cases c : i = 0
    · subst c
      have e2 : g_bt (b >>> w) 0 = g_bt b k := by
        unfold g_bt
        rw [h, BitVec.getLsbD_sshiftRight, if_pos (by omega), decide_eq_false (by omega)]
        rfl
      rw [e2]
      by_cases d : g_bt b k = true
      · rw [if_pos d, d]
        rfl
      · rw [if_neg d, Bool.eq_false_iff.mpr d]
        rfl
    · rw [decide_eq_false c, Bool.and_false]
      by_cases d : g_bt b k = true
      · rw [if_pos d]
        show false = g_bt (Int32.ofInt 1) i
        rw [g_bt_1 hi, decide_eq_false c]
      · rw [if_neg d, g_bt_0]
  rw [e]
  by_cases d : g_bt b k = true
  · rw [if_pos d, if_pos d]
    rfl
  · rw [if_neg d, if_neg d]
    rfl
theorem g_hb_bt {b : Int32} {x : Int} (x0 : 0 ≤ x) (x9 : x ≤ 9) : g_hb b x = if g_bt b x.toNat = true then 1 else 0 := by
  have c : x = 0 ∨ x = 1 ∨ x = 2 ∨ x = 3 ∨ x = 4 ∨ x = 5 ∨ x = 6 ∨ x = 7 ∨ x = 8 ∨ x = 9 := by omega
  unfold g_hb
  rcases c with c | c | c | c | c | c | c | c | c | c
  · subst c; exact g_hb1 (k := 0) rfl (by omega)
  · subst c; exact g_hb1 (k := 1) rfl (by omega)
  · subst c; exact g_hb1 (k := 2) rfl (by omega)
  · subst c; exact g_hb1 (k := 3) rfl (by omega)
  · subst c; exact g_hb1 (k := 4) rfl (by omega)
  · subst c; exact g_hb1 (k := 5) rfl (by omega)
  · subst c; exact g_hb1 (k := 6) rfl (by omega)
  · subst c; exact g_hb1 (k := 7) rfl (by omega)
  · subst c; exact g_hb1 (k := 8) rfl (by omega)
  · subst c; exact g_hb1 (k := 9) rfl (by omega)
/-- the bits of a row of bits -/
theorem g_bt_bs {n : Int} {c : Int → Bool} (n6 : n ≤ 6) : ∀ (m : Nat) (q : Int) (b : Int32), 0 ≤ q → n - q ≤ m → ∀ i : Nat, i < 32 → g_bt (g_bs n c m q b) i = (g_bt b i || (decide (q ≤ (i : Int) ∧ (i : Int) < n) && c (i : Int)))
  | 0, q, b, q0, hm, i, hi => by
    show g_bt b i = _
    rw [decide_eq_false (by omega), Bool.false_and, Bool.or_false]
  | m + 1, q, b, q0, hm, i, hi => by
    show g_bt (if q < n then g_bs n c m (q + 1) (if c q = true then g_or b q else b) else b) i = _
    by_cases z : q < n
    · rw [if_pos z, g_bt_bs n6 m (q + 1) _ (by omega) (by omega) i hi]
      by_cases e : (i : Int) = q
      · rw [decide_eq_false (show ¬ (q + 1 ≤ (i : Int) ∧ (i : Int) < n) by omega), decide_eq_true (show q ≤ (i : Int) ∧ (i : Int) < n by omega), Bool.false_and, Bool.or_false, Bool.true_and, e]
        by_cases d : c q = true
        · rw [if_pos d, g_bt_gor q0 (by omega) hi, decide_eq_true e, d]
        · rw [if_neg d, Bool.eq_false_iff.mpr d, Bool.or_false]
      · have e1 : g_bt (if c q = true then g_or b q else b) i = g_bt b i := by
          by_cases d : c q = true
          · rw [if_pos d, g_bt_gor q0 (by omega) hi, decide_eq_false e, Bool.or_false]
          · rw [if_neg d]
        rw [e1]
        by_cases d : q + 1 ≤ (i : Int) ∧ (i : Int) < n
        · rw [decide_eq_true d, decide_eq_true (show q ≤ (i : Int) ∧ (i : Int) < n by omega)]
        · rw [decide_eq_false d, decide_eq_false (show ¬ (q ≤ (i : Int) ∧ (i : Int) < n) by omega)]
    · rw [if_neg z, decide_eq_false (by omega), Bool.false_and, Bool.or_false]
