/-! HOW MANY BITS, THE FIRST THAT IS NOT -/
def g_2p (n : Int) : Int := ((Int32.ofInt 1) <<< ((Int32.ofInt n) &&& 31)).toInt
theorem g_2p_of {z y : Int32} {n : Int} (hz : z = (Int32.ofInt 1) <<< (y &&& 31)) (hy : y.toInt = n) : z.toInt = g_2p n := by
  unfold g_2p
  rw [g_ofi hy, hz]
theorem g_2p_b {n : Int} (h0 : 0 ≤ n) (h6 : n ≤ 6) : 1 ≤ g_2p n ∧ g_2p n ≤ 64 := by
  have c : n = 0 ∨ n = 1 ∨ n = 2 ∨ n = 3 ∨ n = 4 ∨ n = 5 ∨ n = 6 := by omega
  rcases c with c | c | c | c | c | c | c <;> subst c <;> decide +kernel
theorem g_if_0 {c : Bool} {b : Int} (h : c = false) (hb : b = 0) : b = if c = true then 1 else 0 := by rw [h, hb]; rfl
theorem g_if_y {c : Bool} {b : Int} (h : b = if c = true then 1 else 0) (hb : ¬ b = 0) : c = true := by
  by_cases z : c = true
  · exact z
  · rw [if_neg z] at h
    exact absurd h hb
theorem g_if_n {c : Bool} {b : Int} (h : b = if c = true then 1 else 0) (hb : b = 0) : c = false := by
  by_cases z : c = true
  · rw [if_pos z] at h
    omega
  · exact Bool.eq_false_iff.mpr z
