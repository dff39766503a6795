/-! BITS, FOREBEARS -/
def g_or (b : Int32) (x : Int) : Int32 := b ||| ((Int32.ofInt 1) <<< ((Int32.ofInt x) &&& 31))
def g_hb (b : Int32) (x : Int) : Int := ((b >>> ((Int32.ofInt x) &&& 31)) &&& (Int32.ofInt 1)).toInt
theorem g_ofi {y : Int32} {x : Int} (h : y.toInt = x) : Int32.ofInt x = y := by
  rw [← h]
  exact Int32.ofInt_toInt y
theorem g_or_of {z b w y : Int32} {x : Int} (hz : z = b ||| w) (hw : w = (Int32.ofInt 1) <<< (y &&& 31)) (hy : y.toInt = x) : z = g_or b x := by
  unfold g_or
  rw [g_ofi hy, hz, hw]
theorem g_hb_of {z v b y : Int32} {x : Int} (hz : z = v &&& (Int32.ofInt 1)) (hv : v = b >>> (y &&& 31)) (hy : y.toInt = x) : z.toInt = g_hb b x := by
  unfold g_hb
  rw [g_ofi hy, hz, hv]
def g_fb (par : Int → Int) : Nat → Int → Int32 → Int32
  | 0, _, b => b
  | n + 1, x, b => if 0 ≤ x then g_fb par n (par x) (g_or b x) else b
theorem g_fb_s {par : Int → Int} {n m : Nat} {x x' : Int} {b b' T : Int32} (h : g_fb par n x b = T) (hn : n = m + 1) (hx : 0 ≤ x) (hb : b' = g_or b x) (hx' : x' = par x) : g_fb par m x' b' = T := by
  subst hn
  subst hb
  subst hx'
  rw [← h]
  show _ = (if 0 ≤ x then g_fb par m (par x) (g_or b x) else b)
  rw [if_pos hx]
theorem g_fb_0 {par : Int → Int} {n : Nat} {x : Int} {b T : Int32} (h : g_fb par n x b = T) (hn : n = 0 ∨ x < 0) : b = T := by
  rw [← h]
  cases n with
  | zero => rfl
  | succ n =>
    show _ = (if 0 ≤ x then g_fb par n (par x) (g_or b x) else b)
    rw [if_neg (by omega)]
theorem g_fb_eq {p p' : Int → Int} {N : Int} (h : ∀ j, 0 ≤ j → j < N → p j = p' j ∧ p j < N) : ∀ (n : Nat) (x : Int) (b : Int32), x < N → g_fb p n x b = g_fb p' n x b
  | 0, _, _, _ => rfl
  | n + 1, x, b, hx => by
    show (if 0 ≤ x then g_fb p n (p x) (g_or b x) else b) = (if 0 ≤ x then g_fb p' n (p' x) (g_or b x) else b)
    by_cases c : 0 ≤ x
    · rw [if_pos c, if_pos c, ← (h x c hx).1]
      exact g_fb_eq h n _ _ (h x c hx).2
    · rw [if_neg c, if_neg c]
def g_on (g : Int → Int) (x : Int) : Int := if g (6 + x) = 0 then -4 else g (6 + x) - 1
def g_tp (b : Int32) : Nat → Int
  | 0 => -4
  | n + 1 => if g_hb b (n : Int) = 0 then g_tp b n else (n : Int)
theorem g_tp_1 {b : Int32} {n m : Nat} {x T : Int} (h : g_tp b n = T) (hn : n = m + 1) (hx : (m : Int) = x) (hc : ¬ g_hb b x = 0) : x = T := by
  subst hn
  subst hx
  rw [← h]
  show _ = (if g_hb b (m : Int) = 0 then g_tp b m else (m : Int))
  rw [if_neg hc]
theorem g_tp_0 {b : Int32} {n m : Nat} {x T : Int} (h : g_tp b n = T) (hn : n = m + 1) (hx : (m : Int) = x) (hc : g_hb b x = 0) : g_tp b m = T := by
  subst hn
  subst hx
  rw [← h]
  show _ = (if g_hb b (m : Int) = 0 then g_tp b m else (m : Int))
  rw [if_pos hc]
theorem g_tp_s {b : Int32} {n m : Nat} {x f f' : Int} (h : f = g_tp b n) (hm : m = n + 1) (hx : (n : Int) = x) (hc : (g_hb b x = 0 ∧ f' = f) ∨ (¬ g_hb b x = 0 ∧ f' = x)) : f' = g_tp b m := by
  subst hm
  subst hx
  show _ = (if g_hb b (n : Int) = 0 then g_tp b n else (n : Int))
  rcases hc with c | c
  · rw [if_pos c.1, c.2, h]
  · rw [if_neg c.1, c.2]
def g_wf (s : h_S) : Prop := ∀ j, 0 ≤ j → j < s 10 8 → s 12 j < s 10 8
/-! ROWS OF BITS -/
def g_bs (n : Int) (c : Int → Bool) : Nat → Int → Int32 → Int32
  | 0, _, b => b
  | m + 1, q, b => if q < n then g_bs n c m (q + 1) (if c q = true then g_or b q else b) else b
section BS
variable {n q : Int} {c : Int → Bool} {m m' : Nat} {b b' T : Int32}
theorem g_bs_y (h : g_bs n c m q b = T) (hm : m = m' + 1) (hq : q < n) (hc : c q = true) (hb : b' = g_or b q) : g_bs n c m' (q + 1) b' = T := by
  subst hm; subst hb
  rw [← h]
  show _ = (if q < n then g_bs n c m' (q + 1) (if c q = true then g_or b q else b) else b)
  rw [if_pos hq, if_pos hc]
theorem g_bs_n (h : g_bs n c m q b = T) (hm : m = m' + 1) (hq : q < n) (hc : c q = false) (hb : b' = b) : g_bs n c m' (q + 1) b' = T := by
  subst hm; subst hb
  rw [← h]
  show _ = (if q < n then g_bs n c m' (q + 1) (if c q = true then g_or b' q else b') else b')
  rw [if_pos hq, hc]
  rfl
theorem g_bs_o (h : g_bs n c m q b = T) (hq : m = 0 ∨ n ≤ q) : b = T := by
  rw [← h]
  cases m with
  | zero => rfl
  | succ k =>
    show b = (if q < n then _ else b)
    rw [if_neg (by omega)]
end BS
theorem g_bs_eq {n : Int} {c c' : Int → Bool} (h : ∀ q, 0 ≤ q → q < n → c q = c' q) : ∀ (m : Nat) (q : Int) (b : Int32), 0 ≤ q → g_bs n c m q b = g_bs n c' m q b
  | 0, _, _, _ => rfl
  | m + 1, q, b, q0 => by
    show (if q < n then g_bs n c m (q + 1) (if c q = true then g_or b q else b) else b) = (if q < n then g_bs n c' m (q + 1) (if c' q = true then g_or b q else b) else b)
    by_cases z : q < n
    · rw [if_pos z, if_pos z, h q q0 z]
      exact g_bs_eq h m _ _ (by omega)
    · rw [if_neg z, if_neg z]
theorem g_or0 {z b : Int32} (h : z = b ||| (Int32.ofInt 0)) : z = b := by
  rw [h]
  exact Int32.toBitVec_inj.mp (by rw [Int32.toBitVec_or]; exact BitVec.or_zero)
