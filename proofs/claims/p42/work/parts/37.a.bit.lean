/-! BITS, FOREBEARS -/
def g_or (b : Int32) (x : Int) : Int32 := b ||| ((Int32.ofInt 1) <<< ((Int32.ofInt x) &&& 31))
def g_hb (b : Int32) (x : Int) : Int := ((b >>> ((Int32.ofInt x) &&& 31)) &&& (Int32.ofInt 1)).toInt
theorem g_ofi {y : Int32} {x : Int} (h : y.toInt = x) : Int32.ofInt x = y := by
  rw [← h]
  exact Int32.ofInt_toInt y
theorem g_or_of {z b w y : Int32} {x : Int} (hz : z = b ||| w) (hw : w = (Int32.ofInt 1) <<< (y &&& 31)) (hy : y.toInt = x) : z = g_or b x := by
  unfold g_or
  rw [g_ofi hy, hz, hw]
theorem g_hb_of {z v b y : Int32} {x : Int} (hz : z = v &&& (Int32.ofInt 1)) (hv : v = b >>> (y &&& 31)) (hy : y.toInt = x) : z.toInt = g_hb b x := by
  unfold g_hb
  rw [g_ofi hy, hz, hv]
/-! ROWS OF BITS -/
def g_bs (n : Int) (c : Int → Bool) : Nat → Int → Int32 → Int32
  | 0, _, b => b
  | m + 1, q, b => if q < n then g_bs n c m (q + 1) (if c q = true then g_or b q else b) else b
section BS
variable {n q : Int} {c : Int → Bool} {m m' : Nat} {b b' T : Int32}
theorem g_bs_y (h : g_bs n c m q b = T) (hm : m = m' + 1) (hq : q < n) (hc : c q = true) (hb : b' = g_or b q) : g_bs n c m' (q + 1) b' = T := by
  subst hm; subst hb
  rw [← h]
  show _ = (if q < n then g_bs n c m' (q + 1) (if c q = true then g_or b q else b) else b)
  rw [if_pos hq, if_pos hc]
theorem g_bs_n (h : g_bs n c m q b = T) (hm : m = m' + 1) (hq : q < n) (hc : c q = false) (hb : b' = b) : g_bs n c m' (q + 1) b' = T := by
  subst hm; subst hb
  rw [← h]
  show _ = (if q < n then g_bs n c m' (q + 1) (if c q = true then g_or b' q else b') else b')
  rw [if_pos hq, hc]
  rfl
theorem g_bs_o (h : g_bs n c m q b = T) (hq : m = 0 ∨ n ≤ q) : b = T := by
  rw [← h]
  cases m with
  | zero => rfl
  | succ k =>
    show b = (if q < n then _ else b)
    rw [if_neg (by omega)]
end BS
theorem g_bs_eq {n : Int} {c c' : Int → Bool} (h : ∀ q, 0 ≤ q → q < n → c q = c' q) : ∀ (m : Nat) (q : Int) (b : Int32), 0 ≤ q → g_bs n c m q b = g_bs n c' m q b
  | 0, _, _, _ => rfl
  | m + 1, q, b, q0 => by
    show (if q < n then g_bs n c m (q + 1) (if c q = true then g_or b q else b) else b) = (if q < n then g_bs n c' m (q + 1) (if c' q = true then g_or b q else b) else b)
    by_cases z : q < n
    · rw [if_pos z, if_pos z, h q q0 z]
      exact g_bs_eq h m _ _ (by omega)
    · rw [if_neg z, if_neg z]
