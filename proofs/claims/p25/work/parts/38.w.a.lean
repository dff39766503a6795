/-! LONGEST LINES: a search beside a table -/
def g_Mx (a b : Int) : Int := if a < b then b else a
theorem g_M_d (a b : Int) : (a < b ∧ g_Mx a b = b) ∨ (b ≤ a ∧ g_Mx a b = a) := by
  unfold g_Mx
  by_cases h : a < b
  · rw [if_pos h]
    exact Or.inl ⟨h, rfl⟩
  · rw [if_neg h]
    exact Or.inr ⟨by omega, rfl⟩
theorem g_M_c (a b : Int) : g_Mx a b = g_Mx b a := by
  have d1 := g_M_d a b
  have d2 := g_M_d b a
  omega
theorem g_M_a (a b c : Int) : g_Mx (g_Mx a b) c = g_Mx a (g_Mx b c) := by
  have d1 := g_M_d a b
  have d2 := g_M_d (g_Mx a b) c
  have d3 := g_M_d b c
  have d4 := g_M_d a (g_Mx b c)
  omega
theorem g_M_l (a b c : Int) : g_Mx a (g_Mx b c) = g_Mx b (g_Mx a c) := by rw [← g_M_a, g_M_c a b, g_M_a]
def g_mx (c : Int → Bool) (v : Int → Int) : Nat → Int
  | 0 => 0
  | k + 1 => if c (k : Int) = true then g_Mx (g_mx c v k) (v (k : Int)) else g_mx c v k
section MX
variable {c c' : Int → Bool} {v v' : Int → Int}
theorem g_mx_s (k : Nat) : g_mx c v (k + 1) = if c (k : Int) = true then g_Mx (g_mx c v k) (v (k : Int)) else g_mx c v k := rfl
theorem g_mx_i {k : Int} (k0 : 0 ≤ k) : g_mx c v (k + 1).toNat = if c k = true then g_Mx (g_mx c v k.toNat) (v k) else g_mx c v k.toNat := by
  rw [show (k + 1).toNat = k.toNat + 1 by omega, g_mx_s, show ((k.toNat : Nat) : Int) = k by omega]
theorem g_mx_0 : ∀ m : Nat, 0 ≤ g_mx c v m
  | 0 => by
    show (0 : Int) ≤ 0
    omega
  | m + 1 => by
    have z := g_mx_0 m
    have y := g_M_d (g_mx c v m) (v (m : Int))
    rw [g_mx_s]
    by_cases h : c (m : Int) = true
    · rw [if_pos h]
      omega
    · rw [if_neg h]
      exact z
theorem g_mx_e : ∀ m : Nat, (∀ k : Int, 0 ≤ k → k < m → c k = c' k ∧ (c k = true → v k = v' k)) → g_mx c v m = g_mx c' v' m
  | 0, _ => rfl
  | m + 1, h => by
    have z := h (m : Int) (by omega) (by omega)
    rw [g_mx_s, g_mx_s, g_mx_e m (fun k a b => h k a (by omega)), ← z.1]
    by_cases d : c (m : Int) = true
    · rw [if_pos d, if_pos d, z.2 d]
    · rw [if_neg d, if_neg d]
theorem g_mx_f : ∀ m : Nat, (∀ k : Int, 0 ≤ k → k < m → c k = false) → g_mx c v m = 0
  | 0, _ => rfl
  | m + 1, h => by
    rw [g_mx_s, if_neg (by rw [h (m : Int) (by omega) (by omega)]; decide)]
    exact g_mx_f m (fun k a b => h k a (by omega))
theorem g_mx_b {b : Int} (b0 : 0 ≤ b) : ∀ m : Nat, g_Mx b (g_mx c (fun p => v p + b) m) = g_mx c v m + b
  | 0 => by
    show g_Mx b 0 = 0 + b
    have d := g_M_d b 0
    omega
  | m + 1 => by
    have z := g_mx_b b0 m
    rw [g_mx_s, g_mx_s]
    by_cases h : c (m : Int) = true
    · rw [if_pos h, if_pos h]
      show g_Mx b (g_Mx (g_mx c (fun p => v p + b) m) (v (m : Int) + b)) = _
      generalize g_mx c (fun p => v p + b) m = x at *
      generalize g_mx c v m = y at *
      generalize v (m : Int) = u at *
      have d1 := g_M_d x (u + b)
      have d2 := g_M_d b (g_Mx x (u + b))
      have d3 := g_M_d b x
      have d4 := g_M_d y u
      omega
    · rw [if_neg h, if_neg h]
      exact z
theorem g_mx_p {r : Int} {w : Int → Bool} (r0 : 0 ≤ r + 1) (hw : w (r + 1) = true) : ∀ m : Nat, r + 1 < m → g_mx (fun p => decide (r < p) && w p) v m = g_Mx (v (r + 1)) (g_mx (fun p => decide (r + 1 < p) && w p) v m)
  | 0, h => by omega
  | m + 1, h => by
    rw [g_mx_s, g_mx_s]
    by_cases e : r + 1 = (m : Int)
    · have z1 : g_mx (fun p => decide (r < p) && w p) v m = 0 := g_mx_f m (fun k a b => by
        show (decide (r < k) && w k) = false
        rw [decide_eq_false (by omega), Bool.false_and])
      have z2 : g_mx (fun p => decide (r + 1 < p) && w p) v m = 0 := g_mx_f m (fun k a b => by
        show (decide (r + 1 < k) && w k) = false
        rw [decide_eq_false (by omega), Bool.false_and])
      rw [z1, z2, ← e]
      rw [if_pos (show (decide (r < r + 1) && w (r + 1)) = true by rw [decide_eq_true (by omega), hw]; rfl), if_neg (show ¬ (decide (r + 1 < r + 1) && w (r + 1)) = true by rw [decide_eq_false (by omega), Bool.false_and]; decide)]
      have d1 := g_M_d 0 (v (r + 1))
      have d2 := g_M_d (v (r + 1)) 0
      omega
    · have z := g_mx_p r0 hw m (by omega)
      by_cases d : w (m : Int) = true
      · rw [if_pos (show (decide (r < (m : Int)) && w (m : Int)) = true by rw [decide_eq_true (by omega), d]; rfl), if_pos (show (decide (r + 1 < (m : Int)) && w (m : Int)) = true by rw [decide_eq_true (by omega), d]; rfl), z]
        generalize g_mx (fun p => decide (r + 1 < p) && w p) v m = x
        generalize v (r + 1) = y
        generalize v (m : Int) = u
        have d1 := g_M_d y x
        have d2 := g_M_d (g_Mx y x) u
        have d3 := g_M_d x u
        have d4 := g_M_d y (g_Mx x u)
        omega
      · rw [if_neg (show ¬ (decide (r < (m : Int)) && w (m : Int)) = true by rw [Bool.eq_false_iff.mpr d, Bool.and_false]; decide), if_neg (show ¬ (decide (r + 1 < (m : Int)) && w (m : Int)) = true by rw [Bool.eq_false_iff.mpr d, Bool.and_false]; decide)]
        exact z
end MX
def g_T (n : Nat) (E : Int → Int → Bool) : Nat → (Int → Bool) → Int → Int
  | 0, _, _ => 0
  | m + 1, S, l => g_mx (fun p => S p && E l p) (fun p => g_T n E m (fun x => S x && !decide (x = p)) p + 1) n
theorem g_T_e {n : Nat} {E E' : Int → Int → Bool} (hE : ∀ p q : Int, 0 ≤ p → p < n → 0 ≤ q → q < n → E p q = E' p q) : ∀ (m : Nat) (S S' : Int → Bool) (l l' : Int), (∀ p : Int, 0 ≤ p → p < n → S p = S' p ∧ E l p = E' l' p) → g_T n E m S l = g_T n E' m S' l'
  | 0, _, _, _, _, _ => rfl
  | m + 1, S, S', l, l', h => by
    show g_mx (fun p => S p && E l p) (fun p => g_T n E m (fun x => S x && !decide (x = p)) p + 1) n = g_mx (fun p => S' p && E' l' p) (fun p => g_T n E' m (fun x => S' x && !decide (x = p)) p + 1) n
    refine g_mx_e n (fun k a b => ⟨?_, fun _ => ?_⟩)
    · show (S k && E l k) = (S' k && E' l' k)
      rw [(h k a b).1, (h k a b).2]
    · show g_T n E m (fun x => S x && !decide (x = k)) k + 1 = g_T n E' m (fun x => S' x && !decide (x = k)) k + 1
      rw [g_T_e hE m _ (fun x => S' x && !decide (x = k)) k k (fun p p0 p1 => ⟨by
        show (S p && !decide (p = k)) = (S' p && !decide (p = k))
        rw [(h p p0 p1).1], hE k p a b p0 p1⟩)]
theorem g_T_0 {n : Nat} {E : Int → Int → Bool} : ∀ (m : Nat) (S : Int → Bool) (l : Int), 0 ≤ g_T n E m S l ∧ g_T n E m S l ≤ m
  | 0, _, _ => by
    show 0 ≤ (0 : Int) ∧ (0 : Int) ≤ ((0 : Nat) : Int)
    omega
  | m + 1, S, l => by
    show 0 ≤ g_mx (fun p => S p && E l p) (fun p => g_T n E m (fun x => S x && !decide (x = p)) p + 1) n ∧ g_mx (fun p => S p && E l p) (fun p => g_T n E m (fun x => S x && !decide (x = p)) p + 1) n ≤ ((m + 1 : Nat) : Int)
    refine ⟨g_mx_0 n, ?_⟩
    have up : ∀ k : Nat, g_mx (fun p => S p && E l p) (fun p => g_T n E m (fun x => S x && !decide (x = p)) p + 1) k ≤ ((m + 1 : Nat) : Int) := fun k => by
      induction k with
      | zero =>
        show (0 : Int) ≤ _
        omega
      | succ j ih =>
        rw [g_mx_s]
        have z := g_T_0 (n := n) (E := E) m (fun x => S x && !decide (x = (j : Int))) (j : Int)
        by_cases h : (S (j : Int) && E l (j : Int)) = true
        · rw [if_pos h]
          have d := g_M_d (g_mx (fun p => S p && E l p) (fun p => g_T n E m (fun x => S x && !decide (x = p)) p + 1) j) (g_T n E m (fun x => S x && !decide (x = (j : Int))) (j : Int) + 1)
          show g_Mx (g_mx (fun p => S p && E l p) (fun p => g_T n E m (fun x => S x && !decide (x = p)) p + 1) j) (g_T n E m (fun x => S x && !decide (x = (j : Int))) (j : Int) + 1) ≤ _
          omega
        · rw [if_neg h]
          exact ih
    exact up n
def g_ct (S : Int → Bool) : Nat → Nat
  | 0 => 0
  | k + 1 => if S (k : Int) = true then g_ct S k + 1 else g_ct S k
theorem g_ct_s (S : Int → Bool) (k : Nat) : g_ct S (k + 1) = if S (k : Int) = true then g_ct S k + 1 else g_ct S k := rfl
theorem g_ct_le {S : Int → Bool} : ∀ m : Nat, g_ct S m ≤ m
  | 0 => Nat.le_refl 0
  | m + 1 => by
    have z := g_ct_le (S := S) m
    rw [g_ct_s]
    by_cases d : S (m : Int) = true
    · rw [if_pos d]
      omega
    · rw [if_neg d]
      omega
theorem g_ct_0 {S : Int → Bool} : ∀ n : Nat, g_ct S n = 0 → ∀ k : Int, 0 ≤ k → k < n → S k = false
  | 0, _, k, a, b => by omega
  | m + 1, h, k, a, b => by
    rw [g_ct_s] at h
    by_cases d : S (m : Int) = true
    · rw [if_pos d] at h
      omega
    · rw [if_neg d] at h
      by_cases e : k = (m : Int)
      · rw [e]
        exact Bool.eq_false_iff.mpr d
      · exact g_ct_0 m h k a (by omega)
theorem g_ct_rm {S : Int → Bool} {p : Int} (p0 : 0 ≤ p) (hp : S p = true) : ∀ m : Nat, (p < m → g_ct (fun x => S x && !decide (x = p)) m + 1 = g_ct S m) ∧ (¬ p < m → g_ct (fun x => S x && !decide (x = p)) m = g_ct S m)
  | 0 => ⟨fun h => by omega, fun _ => rfl⟩
  | m + 1 => by
    have z := g_ct_rm p0 hp m
    rw [g_ct_s, g_ct_s]
    by_cases e : (m : Int) = p
    · have z2 := z.2 (by omega)
      have s1 : S (m : Int) = true := by
        rw [e]
        exact hp
      rw [if_neg (show ¬ (S (m : Int) && !decide ((m : Int) = p)) = true by rw [decide_eq_true e, s1]; decide), if_pos s1, z2]
      exact ⟨fun _ => rfl, fun h => by omega⟩
    · have s2 : (S (m : Int) && !decide ((m : Int) = p)) = S (m : Int) := by rw [decide_eq_false e, Bool.not_false, Bool.and_true]
      by_cases d : S (m : Int) = true
      · rw [if_pos (show (S (m : Int) && !decide ((m : Int) = p)) = true by rw [s2, d]), if_pos d]
        exact ⟨fun h => by have y := z.1 (by omega); omega, fun h => by have y := z.2 (by omega); omega⟩
      · rw [if_neg (show ¬ (S (m : Int) && !decide ((m : Int) = p)) = true by rw [s2]; exact d), if_neg d]
        exact ⟨fun h => z.1 (by omega), fun h => z.2 (by omega)⟩
theorem g_T_s {n : Nat} {E : Int → Int → Bool} : ∀ (m : Nat) (S : Int → Bool) (l : Int), g_ct S n ≤ m → g_T n E m S l = g_T n E (m + 1) S l
  | 0, S, l, h => by
    show 0 = g_mx (fun p => S p && E l p) (fun p => g_T n E 0 (fun x => S x && !decide (x = p)) p + 1) n
    rw [g_mx_f n (fun k a b => by
      show (S k && E l k) = false
      rw [g_ct_0 (S := S) n (by omega) k a b, Bool.false_and])]
  | m + 1, S, l, h => by
    show g_mx (fun p => S p && E l p) (fun p => g_T n E m (fun x => S x && !decide (x = p)) p + 1) n = g_mx (fun p => S p && E l p) (fun p => g_T n E (m + 1) (fun x => S x && !decide (x = p)) p + 1) n
    refine g_mx_e n (fun k a b => ⟨rfl, fun hk => ?_⟩)
    have hk' : (S k && E l k) = true := hk
    rw [Bool.and_eq_true] at hk'
    have z := (g_ct_rm a hk'.1 n).1 b
    show g_T n E m (fun x => S x && !decide (x = k)) k + 1 = g_T n E (m + 1) (fun x => S x && !decide (x = k)) k + 1
    rw [g_T_s m (fun x => S x && !decide (x = k)) k (by omega)]
