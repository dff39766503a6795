/-! LONGEST LINES: a search beside a table -/
def g_Mx (a b : Int) : Int := if a < b then b else a
theorem g_M_d (a b : Int) : (a < b ∧ g_Mx a b = b) ∨ (b ≤ a ∧ g_Mx a b = a) := by
  unfold g_Mx
  by_cases h : a < b
  · rw [if_pos h]
    exact Or.inl ⟨h, rfl⟩
  · rw [if_neg h]
    exact Or.inr ⟨by omega, rfl⟩
def g_mx (c : Int → Bool) (v : Int → Int) : Nat → Int
  | 0 => 0
  | k + 1 => if c (k : Int) = true then g_Mx (g_mx c v k) (v (k : Int)) else g_mx c v k
section MX
variable {c c' : Int → Bool} {v v' : Int → Int}
theorem g_mx_s (k : Nat) : g_mx c v (k + 1) = if c (k : Int) = true then g_Mx (g_mx c v k) (v (k : Int)) else g_mx c v k := rfl
theorem g_mx_i {k : Int} (k0 : 0 ≤ k) : g_mx c v (k + 1).toNat = if c k = true then g_Mx (g_mx c v k.toNat) (v k) else g_mx c v k.toNat := by
  rw [show (k + 1).toNat = k.toNat + 1 by omega, g_mx_s, show ((k.toNat : Nat) : Int) = k by omega]
theorem g_mx_0 : ∀ m : Nat, 0 ≤ g_mx c v m
  | 0 => by
    show (0 : Int) ≤ 0
    omega
  | m + 1 => by
    have z := g_mx_0 m
    have y := g_M_d (g_mx c v m) (v (m : Int))
    rw [g_mx_s]
    by_cases h : c (m : Int) = true
    · rw [if_pos h]
      omega
    · rw [if_neg h]
      exact z
theorem g_mx_e : ∀ m : Nat, (∀ k : Int, 0 ≤ k → k < m → c k = c' k ∧ (c k = true → v k = v' k)) → g_mx c v m = g_mx c' v' m
  | 0, _ => rfl
  | m + 1, h => by
    have z := h (m : Int) (by omega) (by omega)
    rw [g_mx_s, g_mx_s, g_mx_e m (fun k a b => h k a (by omega)), ← z.1]
    by_cases d : c (m : Int) = true
    · rw [if_pos d, if_pos d, z.2 d]
    · rw [if_neg d, if_neg d]
theorem g_mx_f : ∀ m : Nat, (∀ k : Int, 0 ≤ k → k < m → c k = false) → g_mx c v m = 0
  | 0, _ => rfl
  | m + 1, h => by
    rw [g_mx_s, if_neg (by rw [h (m : Int) (by omega) (by omega)]; decide)]
    exact g_mx_f m (fun k a b => h k a (by omega))
theorem g_mx_b {b : Int} (b0 : 0 ≤ b) : ∀ m : Nat, g_Mx b (g_mx c (fun p => v p + b) m) = g_mx c v m + b
  | 0 => by
    show g_Mx b 0 = 0 + b
    have d := g_M_d b 0
    omega
  | m + 1 => by
    have z := g_mx_b b0 m
    rw [g_mx_s, g_mx_s]
    by_cases h : c (m : Int) = true
    · rw [if_pos h, if_pos h]
      show g_Mx b (g_Mx (g_mx c (fun p => v p + b) m) (v (m : Int) + b)) = _
      generalize g_mx c (fun p => v p + b) m = x at *
      generalize g_mx c v m = y at *
      generalize v (m : Int) = u at *
      have d1 := g_M_d x (u + b)
      have d2 := g_M_d b (g_Mx x (u + b))
      have d3 := g_M_d b x
      have d4 := g_M_d y u
      omega
    · rw [if_neg h, if_neg h]
      exact z
theorem g_mx_p {r : Int} {w : Int → Bool} (r0 : 0 ≤ r + 1) (hw : w (r + 1) = true) : ∀ m : Nat, r + 1 < m → g_mx (fun p => decide (r < p) && w p) v m = g_Mx (v (r + 1)) (g_mx (fun p => decide (r + 1 < p) && w p) v m)
  | 0, h => by omega
  | m + 1, h => by
    rw [g_mx_s, g_mx_s]
    by_cases e : r + 1 = (m : Int)
    · have z1 : g_mx (fun p => decide (r < p) && w p) v m = 0 := g_mx_f m (fun k a b => by
        show (decide (r < k) && w k) = false
        rw [decide_eq_false (by omega), Bool.false_and])
      have z2 : g_mx (fun p => decide (r + 1 < p) && w p) v m = 0 := g_mx_f m (fun k a b => by
        show (decide (r + 1 < k) && w k) = false
        rw [decide_eq_false (by omega), Bool.false_and])
      rw [z1, z2, ← e]
      rw [if_pos (show (decide (r < r + 1) && w (r + 1)) = true by rw [decide_eq_true (by omega), hw]; rfl), if_neg (show ¬ (decide (r + 1 < r + 1) && w (r + 1)) = true by rw [decide_eq_false (by omega), Bool.false_and]; decide)]
      have d1 := g_M_d 0 (v (r + 1))
      have d2 := g_M_d (v (r + 1)) 0
      omega
    · have z := g_mx_p r0 hw m (by omega)
      by_cases d : w (m : Int) = true
      · rw [if_pos (show (decide (r < (m : Int)) && w (m : Int)) = true by rw [decide_eq_true (by omega), d]; rfl), if_pos (show (decide (r + 1 < (m : Int)) && w (m : Int)) = true by rw [decide_eq_true (by omega), d]; rfl), z]
        generalize g_mx (fun p => decide (r + 1 < p) && w p) v m = x
        generalize v (r + 1) = y
        generalize v (m : Int) = u
        have d1 := g_M_d y x
        have d2 := g_M_d (g_Mx y x) u
        have d3 := g_M_d x u
        have d4 := g_M_d y (g_Mx x u)
        omega
      · rw [if_neg (show ¬ (decide (r < (m : Int)) && w (m : Int)) = true by rw [Bool.eq_false_iff.mpr d, Bool.and_false]; decide), if_neg (show ¬ (decide (r + 1 < (m : Int)) && w (m : Int)) = true by rw [Bool.eq_false_iff.mpr d, Bool.and_false]; decide)]
        exact z
end MX
def g_T (n : Nat) (E : Int → Int → Bool) : Nat → (Int → Bool) → Int → Int
  | 0, _, _ => 0
  | m + 1, S, l => g_mx (fun p => S p && E l p) (fun p => g_T n E m (fun x => S x && !decide (x = p)) p + 1) n
theorem g_T_e {n : Nat} {E E' : Int → Int → Bool} (hE : ∀ p q : Int, 0 ≤ p → p < n → 0 ≤ q → q < n → E p q = E' p q) : ∀ (m : Nat) (S S' : Int → Bool) (l l' : Int), (∀ p : Int, 0 ≤ p → p < n → S p = S' p ∧ E l p = E' l' p) → g_T n E m S l = g_T n E' m S' l'
  | 0, _, _, _, _, _ => rfl
  | m + 1, S, S', l, l', h => by
    show g_mx (fun p => S p && E l p) (fun p => g_T n E m (fun x => S x && !decide (x = p)) p + 1) n = g_mx (fun p => S' p && E' l' p) (fun p => g_T n E' m (fun x => S' x && !decide (x = p)) p + 1) n
    refine g_mx_e n (fun k a b => ⟨?_, fun _ => ?_⟩)
    · show (S k && E l k) = (S' k && E' l' k)
      rw [(h k a b).1, (h k a b).2]
    · show g_T n E m (fun x => S x && !decide (x = k)) k + 1 = g_T n E' m (fun x => S' x && !decide (x = k)) k + 1
      rw [g_T_e hE m _ (fun x => S' x && !decide (x = k)) k k (fun p p0 p1 => ⟨by
        show (S p && !decide (p = k)) = (S' p && !decide (p = k))
        rw [(h p p0 p1).1], hE k p a b p0 p1⟩)]
theorem g_T_0 {n : Nat} {E : Int → Int → Bool} : ∀ (m : Nat) (S : Int → Bool) (l : Int), 0 ≤ g_T n E m S l ∧ g_T n E m S l ≤ m
  | 0, _, _ => by
    show 0 ≤ (0 : Int) ∧ (0 : Int) ≤ ((0 : Nat) : Int)
    omega
  | m + 1, S, l => by
    show 0 ≤ g_mx (fun p => S p && E l p) (fun p => g_T n E m (fun x => S x && !decide (x = p)) p + 1) n ∧ g_mx (fun p => S p && E l p) (fun p => g_T n E m (fun x => S x && !decide (x = p)) p + 1) n ≤ ((m + 1 : Nat) : Int)
    refine ⟨g_mx_0 n, ?_⟩
    have up : ∀ k : Nat, g_mx (fun p => S p && E l p) (fun p => g_T n E m (fun x => S x && !decide (x = p)) p + 1) k ≤ ((m + 1 : Nat) : Int) := fun k => by
      induction k with
      | zero =>
        show (0 : Int) ≤ _
        omega
      | succ j ih =>
        rw [g_mx_s]
        have z := g_T_0 m (fun x => S x && !decide (x = (j : Int))) (j : Int)
        by_cases h : (S (j : Int) && E l (j : Int)) = true
        · rw [if_pos h]
          have d := g_M_d (g_mx (fun p => S p && E l p) (fun p => g_T n E m (fun x => S x && !decide (x = p)) p + 1) j) (g_T n E m (fun x => S x && !decide (x = (j : Int))) (j : Int) + 1)
          show g_Mx (g_mx (fun p => S p && E l p) (fun p => g_T n E m (fun x => S x && !decide (x = p)) p + 1) j) (g_T n E m (fun x => S x && !decide (x = (j : Int))) (j : Int) + 1) ≤ _
          omega
        · rw [if_neg h]
          exact ih
    exact up n
def g_ct (S : Int → Bool) : Nat → Nat
  | 0 => 0
  | k + 1 => if S (k : Int) = true then g_ct S k + 1 else g_ct S k
theorem g_ct_s (S : Int → Bool) (k : Nat) : g_ct S (k + 1) = if S (k : Int) = true then g_ct S k + 1 else g_ct S k := rfl
theorem g_ct_le {S : Int → Bool} : ∀ m : Nat, g_ct S m ≤ m
  | 0 => Nat.le_refl 0
  | m + 1 => by
    have z := g_ct_le (S := S) m
    rw [g_ct_s]
    by_cases d : S (m : Int) = true
    · rw [if_pos d]
      omega
    · rw [if_neg d]
      omega
theorem g_ct_0 {S : Int → Bool} : ∀ n : Nat, g_ct S n = 0 → ∀ k : Int, 0 ≤ k → k < n → S k = false
  | 0, _, k, a, b => by omega
  | m + 1, h, k, a, b => by
    rw [g_ct_s] at h
    by_cases d : S (m : Int) = true
    · rw [if_pos d] at h
      omega
    · rw [if_neg d] at h
      by_cases e : k = (m : Int)
      · rw [e]
        exact Bool.eq_false_iff.mpr d
      · exact g_ct_0 m h k a (by omega)
theorem g_ct_rm {S : Int → Bool} {p : Int} (p0 : 0 ≤ p) (hp : S p = true) : ∀ m : Nat, (p < m → g_ct (fun x => S x && !decide (x = p)) m + 1 = g_ct S m) ∧ (¬ p < m → g_ct (fun x => S x && !decide (x = p)) m = g_ct S m)
  | 0 => ⟨fun h => by omega, fun _ => rfl⟩
  | m + 1 => by
    have z := g_ct_rm p0 hp m
    rw [g_ct_s, g_ct_s]
    by_cases e : (m : Int) = p
    · have z2 := z.2 (by omega)
      have s1 : S (m : Int) = true := by
        rw [e]
        exact hp
      rw [if_neg (show ¬ (S (m : Int) && !decide ((m : Int) = p)) = true by rw [decide_eq_true e, s1]; decide), if_pos s1, z2]
      exact ⟨fun _ => rfl, fun h => by omega⟩
    · have s2 : (S (m : Int) && !decide ((m : Int) = p)) = S (m : Int) := by rw [decide_eq_false e, Bool.not_false, Bool.and_true]
      by_cases d : S (m : Int) = true
      · rw [if_pos (show (S (m : Int) && !decide ((m : Int) = p)) = true by rw [s2, d]), if_pos d]
        exact ⟨fun h => by have y := z.1 (by omega); omega, fun h => by have y := z.2 (by omega); omega⟩
      · rw [if_neg (show ¬ (S (m : Int) && !decide ((m : Int) = p)) = true by rw [s2]; exact d), if_neg d]
        exact ⟨fun h => z.1 (by omega), fun h => z.2 (by omega)⟩
theorem g_T_s {n : Nat} {E : Int → Int → Bool} : ∀ (m : Nat) (S : Int → Bool) (l : Int), g_ct S n ≤ m → g_T n E m S l = g_T n E (m + 1) S l
  | 0, S, l, h => by
    show 0 = g_mx (fun p => S p && E l p) (fun p => g_T n E 0 (fun x => S x && !decide (x = p)) p + 1) n
    rw [g_mx_f n (fun k a b => by
      show (S k && E l k) = false
      rw [g_ct_0 (S := S) n (by omega) k a b, Bool.false_and])]
  | m + 1, S, l, h => by
    show g_mx (fun p => S p && E l p) (fun p => g_T n E m (fun x => S x && !decide (x = p)) p + 1) n = g_mx (fun p => S p && E l p) (fun p => g_T n E (m + 1) (fun x => S x && !decide (x = p)) p + 1) n
    refine g_mx_e n (fun k a b => ⟨rfl, fun hk => ?_⟩)
    have hk' : (S k && E l k) = true := hk
    rw [Bool.and_eq_true] at hk'
    have z := (g_ct_rm a hk'.1 n).1 b
    show g_T n E m (fun x => S x && !decide (x = k)) k + 1 = g_T n E (m + 1) (fun x => S x && !decide (x = k)) k + 1
    rw [g_T_s m (fun x => S x && !decide (x = k)) k (by omega)]
/-- the search -/
def g_nd (row : Int → Int) (x : Int) : Nat → Bool
  | 0 => true
  | m + 1 => g_nd row x m && !decide (x = row (m : Int))
def g_pv (row : Int → Int) (L : Int) : Nat → Int
  | 0 => L
  | j + 1 => row (j : Int)
def g_lv (n : Nat) (E : Int → Int → Bool) (row : Int → Int) (L : Int) (j : Nat) : Int := g_mx (fun p => decide (row (j : Int) < p) && (g_nd row p j && E (g_pv row L j) p)) (fun p => g_T n E (6 - j) (fun x => g_nd row x j && !decide (x = p)) p + ((j : Int) + 1)) n
def g_rm (n : Nat) (E : Int → Int → Bool) (row : Int → Int) (L : Int) : Nat → Int
  | 0 => 0
  | j + 1 => g_Mx (g_rm n E row L j) (g_lv n E row L j)
section DFS
variable {n : Nat} {E : Int → Int → Bool} {row row' row1 : Int → Int} {L M most most' v a a' : Int}
theorem g_nd_e {x : Int} : ∀ m : Nat, (∀ k : Int, 0 ≤ k → k < m → row k = row' k) → g_nd row x m = g_nd row' x m
  | 0, _ => rfl
  | m + 1, h => by
    show (g_nd row x m && !decide (x = row (m : Int))) = (g_nd row' x m && !decide (x = row' (m : Int)))
    rw [g_nd_e m (fun k a b => h k a (by omega)), h (m : Int) (by omega) (by omega)]
theorem g_nd_t {x : Int} : ∀ m : Nat, (∀ k : Int, 0 ≤ k → k < m → ¬ x = row k) → g_nd row x m = true
  | 0, _ => rfl
  | m + 1, h => by
    show (g_nd row x m && !decide (x = row (m : Int))) = true
    rw [g_nd_t m (fun k a b => h k a (by omega)), decide_eq_false (h (m : Int) (by omega) (by omega))]
    rfl
theorem g_nd_f {x k : Int} (k0 : 0 ≤ k) (e : x = row k) : ∀ m : Nat, k < m → g_nd row x m = false
  | 0, h => by omega
  | m + 1, h => by
    show (g_nd row x m && !decide (x = row (m : Int))) = false
    by_cases c : k < (m : Int)
    · rw [g_nd_f k0 e m c, Bool.false_and]
    · rw [show (m : Int) = k by omega, decide_eq_true e]
      exact Bool.and_false _
theorem g_pv_e : ∀ m : Nat, (∀ k : Int, 0 ≤ k → k < m → row k = row' k) → g_pv row L m = g_pv row' L m
  | 0, _ => rfl
  | m + 1, h => h (m : Int) (by omega) (by omega)
theorem g_lv_e (j : Nat) (h : ∀ k : Int, 0 ≤ k → k ≤ j → row k = row' k) : g_lv n E row L j = g_lv n E row' L j := by
  have nd : ∀ x, g_nd row x j = g_nd row' x j := fun x => g_nd_e j (fun k a b => h k a (by omega))
  have pv : g_pv row L j = g_pv row' L j := g_pv_e j (fun k a b => h k a (by omega))
  unfold g_lv
  refine g_mx_e n (fun k k0 k1 => ⟨?_, fun _ => ?_⟩)
  · show (decide (row (j : Int) < k) && (g_nd row k j && E (g_pv row L j) k)) = (decide (row' (j : Int) < k) && (g_nd row' k j && E (g_pv row' L j) k))
    rw [h (j : Int) (by omega) (by omega), nd k, pv]
  · exact congrArg (fun S => g_T n E (6 - j) S k + ((j : Int) + 1)) (funext (fun x => by rw [nd x]))
theorem g_rm_e : ∀ j : Nat, (∀ k : Int, 0 ≤ k → k < j → row k = row' k) → g_rm n E row L j = g_rm n E row' L j
  | 0, _ => rfl
  | j + 1, h => by
    show g_Mx (g_rm n E row L j) (g_lv n E row L j) = g_Mx (g_rm n E row' L j) (g_lv n E row' L j)
    rw [g_rm_e j (fun k a b => h k a (by omega)), g_lv_e j (fun k a b => h k a (by omega))]
theorem g_rm_0 : ∀ j : Nat, 0 ≤ g_rm n E row L j
  | 0 => by
    show (0 : Int) ≤ 0
    omega
  | j + 1 => by
    have z := g_rm_0 j
    have d := g_M_d (g_rm n E row L j) (g_lv n E row L j)
    show 0 ≤ g_Mx (g_rm n E row L j) (g_lv n E row L j)
    omega
theorem g_ln_a {A : Nat} (h : g_Mx most (g_rm n E row L (A + 1)) = M) (h0 : 0 ≤ most) (ha : a = (A : Int)) (hr : row' = g_set row a v) (hv : v = row a + 1) (hn : (n : Int) ≤ v) (hm : most' = most) : g_Mx most' (g_rm n E row' L A) = M := by
  subst ha; subst hm
  have e1 : g_rm n E row' L A = g_rm n E row L A := g_rm_e A (fun k k0 k1 => by rw [hr, g_set_n (by omega)])
  have e2 : g_lv n E row L A = 0 := g_mx_f n (fun k k0 k1 => by
    show (decide (row (A : Int) < k) && (g_nd row k A && E (g_pv row L A) k)) = false
    rw [decide_eq_false (by omega), Bool.false_and])
  have h' : g_Mx most' (g_Mx (g_rm n E row L A) (g_lv n E row L A)) = M := h
  rw [e2] at h'
  rw [e1]
  have r0 := g_rm_0 (n := n) (E := E) (row := row) (L := L) A
  have d1 := g_M_d (g_rm n E row L A) 0
  have d2 := g_M_d most' (g_Mx (g_rm n E row L A) 0)
  have d3 := g_M_d most' (g_rm n E row L A)
  omega
theorem g_ln_c {A : Nat} (h : g_Mx most (g_rm n E row L (A + 1)) = M) (ha : a = (A : Int)) (hr : row' = g_set row a v) (hv : v = row a + 1) (hst : (g_nd row' v A && E (g_pv row' L A) v) = false) (hm : most' = most) : g_Mx most' (g_rm n E row' L (A + 1)) = M := by
  subst ha; subst hm; subst hv
  have lo : ∀ k : Int, 0 ≤ k → k < A → row' k = row k := fun k k0 k1 => by rw [hr, g_set_n (by omega)]
  have rA : row' (A : Int) = row (A : Int) + 1 := by rw [hr, g_set_p rfl]
  have nd : ∀ x, g_nd row' x A = g_nd row x A := fun x => g_nd_e A lo
  have pv : g_pv row' L A = g_pv row L A := g_pv_e A lo
  have e1 : g_rm n E row' L A = g_rm n E row L A := g_rm_e A lo
  have e2 : g_lv n E row' L A = g_lv n E row L A := by
    unfold g_lv
    refine g_mx_e n (fun k k0 k1 => ⟨?_, fun _ => ?_⟩)
    · show (decide (row' (A : Int) < k) && (g_nd row' k A && E (g_pv row' L A) k)) = (decide (row (A : Int) < k) && (g_nd row k A && E (g_pv row L A) k))
      by_cases z : k = row (A : Int) + 1
      · subst z
        rw [← nd, ← pv, hst, Bool.and_false, Bool.and_false]
      · rw [rA, nd k, pv, show decide (row (A : Int) + 1 < k) = decide (row (A : Int) < k) from decide_eq_decide.mpr (by omega)]
    · exact congrArg (fun S => g_T n E (6 - A) S k + ((A : Int) + 1)) (funext (fun x => by rw [nd x]))
  show g_Mx most' (g_Mx (g_rm n E row' L A) (g_lv n E row' L A)) = M
  rw [e1, e2]
  exact h
theorem g_ln_b {A : Nat} (hA : A ≤ 5) (h : g_Mx most (g_rm n E row L (A + 1)) = M) (ha : a = (A : Int)) (ha' : a' = (A : Int) + 1) (h1 : row1 = g_set row a v) (hr : row' = g_set row1 a' (-1)) (hv : v = row a + 1) (v0 : 0 ≤ v) (hn : v < (n : Int)) (hst : (g_nd row1 v A && E (g_pv row1 L A) v) = true) (hm : (most < (A : Int) + 1 ∧ most' = (A : Int) + 1) ∨ ((A : Int) + 1 ≤ most ∧ most' = most)) : g_Mx most' (g_rm n E row' L (A + 2)) = M := by
  subst ha; subst ha'; subst hv
  have lo : ∀ k : Int, 0 ≤ k → k < A → row' k = row k := fun k k0 k1 => by rw [hr, g_set_n (by omega), h1, g_set_n (by omega)]
  have lo1 : ∀ k : Int, 0 ≤ k → k < A → row1 k = row k := fun k k0 k1 => by rw [h1, g_set_n (by omega)]
  have rA : row' (A : Int) = row (A : Int) + 1 := by rw [hr, g_set_n (by omega), h1, g_set_p rfl]
  have rB : row' ((A : Int) + 1) = -1 := by rw [hr, g_set_p rfl]
  have nd : ∀ x, g_nd row' x A = g_nd row x A := fun x => g_nd_e A lo
  have pv : g_pv row' L A = g_pv row L A := g_pv_e A lo
  rw [g_nd_e A lo1, g_pv_e A lo1] at hst
  have e1 : g_rm n E row' L A = g_rm n E row L A := g_rm_e A lo
  have e2 : g_lv n E row' L A = g_mx (fun p => decide (row (A : Int) + 1 < p) && (g_nd row p A && E (g_pv row L A) p)) (fun p => g_T n E (6 - A) (fun x => g_nd row x A && !decide (x = p)) p + ((A : Int) + 1)) n := by
    unfold g_lv
    refine g_mx_e n (fun k k0 k1 => ⟨?_, fun _ => ?_⟩)
    · show (decide (row' (A : Int) < k) && (g_nd row' k A && E (g_pv row' L A) k)) = (decide (row (A : Int) + 1 < k) && (g_nd row k A && E (g_pv row L A) k))
      rw [rA, nd k, pv]
    · exact congrArg (fun S => g_T n E (6 - A) S k + ((A : Int) + 1)) (funext (fun x => by rw [nd x]))
  have e3 : g_lv n E row L A = g_Mx (g_T n E (6 - A) (fun x => g_nd row x A && !decide (x = row (A : Int) + 1)) (row (A : Int) + 1) + ((A : Int) + 1)) (g_lv n E row' L A) := by
    rw [e2]
    exact g_mx_p (r := row (A : Int)) (w := fun p => g_nd row p A && E (g_pv row L A) p) (v := fun p => g_T n E (6 - A) (fun x => g_nd row x A && !decide (x = p)) p + ((A : Int) + 1)) v0 hst n hn
  have e4 : g_Mx ((A : Int) + 1) (g_lv n E row' L (A + 1)) = g_T n E (6 - A) (fun x => g_nd row x A && !decide (x = row (A : Int) + 1)) (row (A : Int) + 1) + ((A : Int) + 1) := by
    obtain ⟨f, hf⟩ : ∃ f, 6 - A = f + 1 := ⟨5 - A, by omega⟩
    have hf2 : 6 - (A + 1) = f := by omega
    have q1 : row' (((A + 1 : Nat)) : Int) = -1 := by
      rw [show (((A + 1 : Nat)) : Int) = (A : Int) + 1 by omega]
      exact rB
    have q2 : ∀ x, g_nd row' x (A + 1) = (g_nd row x A && !decide (x = row (A : Int) + 1)) := fun x => by
      show (g_nd row' x A && !decide (x = row' (A : Int))) = _
      rw [nd x, rA]
    have q3 : g_pv row' L (A + 1) = row (A : Int) + 1 := rA
    have q4 : g_lv n E row' L (A + 1) = g_mx (fun p => (g_nd row p A && !decide (p = row (A : Int) + 1)) && E (row (A : Int) + 1) p) (fun p => (g_T n E f (fun x => (g_nd row x A && !decide (x = row (A : Int) + 1)) && !decide (x = p)) p + 1) + ((A : Int) + 1)) n := by
      unfold g_lv
      refine g_mx_e n (fun k k0 k1 => ⟨?_, fun _ => ?_⟩)
      · show (decide (row' (((A + 1 : Nat)) : Int) < k) && (g_nd row' k (A + 1) && E (g_pv row' L (A + 1)) k)) = ((g_nd row k A && !decide (k = row (A : Int) + 1)) && E (row (A : Int) + 1) k)
        rw [q1, q2, q3, decide_eq_true (by omega), Bool.true_and]
      · show g_T n E (6 - (A + 1)) (fun x => g_nd row' x (A + 1) && !decide (x = k)) k + ((((A + 1 : Nat)) : Int) + 1) = (g_T n E f (fun x => (g_nd row x A && !decide (x = row (A : Int) + 1)) && !decide (x = k)) k + 1) + ((A : Int) + 1)
        rw [hf2, show (fun x => g_nd row' x (A + 1) && !decide (x = k)) = (fun x => (g_nd row x A && !decide (x = row (A : Int) + 1)) && !decide (x = k)) from funext (fun x => by rw [q2 x])]
        omega
    rw [q4, hf, g_mx_b (v := fun p => g_T n E f (fun x => (g_nd row x A && !decide (x = row (A : Int) + 1)) && !decide (x = p)) p + 1) (by omega) n]
    rfl
  have h' : g_Mx most (g_Mx (g_rm n E row L A) (g_lv n E row L A)) = M := h
  rw [e3] at h'
  show g_Mx most' (g_Mx (g_Mx (g_rm n E row' L A) (g_lv n E row' L A)) (g_lv n E row' L (A + 1))) = M
  rw [e1]
  rw [← e4] at h'
  generalize g_rm n E row L A = X at *
  generalize g_lv n E row' L A = Y at *
  generalize g_lv n E row' L (A + 1) = Z at *
  have d1 := g_M_d ((A : Int) + 1) Z
  have d2 := g_M_d (g_Mx ((A : Int) + 1) Z) Y
  have d3 := g_M_d X (g_Mx (g_Mx ((A : Int) + 1) Z) Y)
  have d4 := g_M_d most (g_Mx X (g_Mx (g_Mx ((A : Int) + 1) Z) Y))
  have d5 := g_M_d X Y
  have d6 := g_M_d (g_Mx X Y) Z
  have d7 := g_M_d most' (g_Mx (g_Mx X Y) Z)
  clear e1 e2 e3 e4 hst lo lo1 rA rB nd pv h hr h1 hn v0
  omega
theorem g_ln_0 (h : row 0 = -1) (hm : most = 0) : g_Mx most (g_rm n E row L 1) = g_T n E 7 (fun _ => true) L := by
  subst hm
  have e : g_lv n E row L 0 = g_T n E 7 (fun _ => true) L := by
    show g_mx (fun p => decide (row ((0 : Nat) : Int) < p) && (true && E L p)) (fun p => g_T n E 6 (fun x => true && !decide (x = p)) p + (((0 : Nat) : Int) + 1)) n = g_mx (fun p => true && E L p) (fun p => g_T n E 6 (fun x => true && !decide (x = p)) p + 1) n
    refine g_mx_e n (fun k k0 k1 => ⟨?_, fun _ => rfl⟩)
    show (decide (row ((0 : Nat) : Int) < k) && (true && E L k)) = (true && E L k)
    rw [show row ((0 : Nat) : Int) = -1 from h, decide_eq_true (by omega), Bool.true_and]
  show g_Mx 0 (g_Mx 0 (g_lv n E row L 0)) = g_T n E 7 (fun _ => true) L
  rw [e]
  have t := (g_T_0 (n := n) (E := E) 7 (fun _ => true) L).1
  have d1 := g_M_d 0 (g_T n E 7 (fun _ => true) L)
  have d2 := g_M_d 0 (g_Mx 0 (g_T n E 7 (fun _ => true) L))
  omega
theorem g_ln_z (h : g_Mx most (g_rm n E row L 0) = M) (h0 : 0 ≤ most) : most = M := by
  have h' : g_Mx most 0 = M := h
  have d := g_M_d most 0
  omega
end DFS
/-- the table -/
theorem g_cl' : ∀ x : Fin 64, ∀ q : Fin 6, g_bi ((x.val : Nat) : Int) ((q.val : Nat) : Int) = true → 0 ≤ ((Int32.ofInt ((x.val : Nat) : Int)) &&& (((Int32.ofInt 1) <<< ((Int32.ofInt ((q.val : Nat) : Int)) &&& 31)) ^^^ (Int32.ofInt (-1)))).toInt ∧ ((Int32.ofInt ((x.val : Nat) : Int)) &&& (((Int32.ofInt 1) <<< ((Int32.ofInt ((q.val : Nat) : Int)) &&& 31)) ^^^ (Int32.ofInt (-1)))).toInt < ((x.val : Nat) : Int) := by decide +kernel
def g_cb (x q : Int) : Int := ((Int32.ofInt x) &&& (((Int32.ofInt 1) <<< ((Int32.ofInt q) &&& 31)) ^^^ (Int32.ofInt (-1)))).toInt
theorem g_cb_lt {x q : Int} (x0 : 0 ≤ x) (x6 : x ≤ 63) (q0 : 0 ≤ q) (q5 : q ≤ 5) (h : g_bi x q = true) : 0 ≤ g_cb x q ∧ g_cb x q < x := by
  have z := g_cl' ⟨x.toNat, by omega⟩ ⟨q.toNat, by omega⟩
  have ex : ((x.toNat : Nat) : Int) = x := by omega
  have eq : ((q.toNat : Nat) : Int) = q := by omega
  have z' : g_bi ((x.toNat : Nat) : Int) ((q.toNat : Nat) : Int) = true → 0 ≤ g_cb ((x.toNat : Nat) : Int) ((q.toNat : Nat) : Int) ∧ g_cb ((x.toNat : Nat) : Int) ((q.toNat : Nat) : Int) < ((x.toNat : Nat) : Int) := z
  rw [ex, eq] at z'
  exact z' h
theorem g_cb_bi {x q r : Int} (q0 : 0 ≤ q) (q9 : q ≤ 9) (r0 : 0 ≤ r) (r9 : r ≤ 9) : g_bi (g_cb x q) r = (g_bi x r && !decide (r = q)) := by
  unfold g_bi g_cb
  rw [Int32.ofInt_toInt, g_bt_and, g_bt_xn _ (by omega), g_bt_sh q0 q9 (by omega), show ((r.toNat : Nat) : Int) = r by omega]
theorem g_cb_of {x q : Int} {z w u y : Int32} (hz : z = y &&& w) (hw : w = u ^^^ (Int32.ofInt (-1))) {t k : Int32} (hu : u = (Int32.ofInt 1) <<< (k &&& 31)) (hk : k.toInt = q) (hy : y.toInt = x) (ht : t = z) : t.toInt = g_cb x q := by
  unfold g_cb
  rw [ht, hz, hw, hu, g_ofi hk, g_ofi hy]
theorem g_hb_and {x b p : Int} {y w z : Int32} (hz : z = y &&& w) (hy : y.toInt = x) (hw : w.toInt = b) (p0 : 0 ≤ p) (p9 : p ≤ 9) : g_hb z p = if (g_bi x p && g_bi b p) = true then 1 else 0 := by
  rw [g_hb_bt p0 p9, hz, g_bt_and]
  unfold g_bi
  rw [g_ofi hy, g_ofi hw]
def g_tb (n : Nat) (E : Int → Int → Bool) (f : Int → Int) (k j : Int) : Prop := ∀ x p : Int, 0 ≤ x → 0 ≤ p → p < n → (x < k ∨ (x = k ∧ p < j)) → g_bi x p = false → f (x * 7 + p) = g_T n E 6 (fun q => g_bi x q) p
def g_rw (B f : Int → Int) (x l : Int) : Nat → Int := g_mx (fun p => g_bi x p && g_bi (B l) p) (fun p => f (g_cb x p * 7 + p) + 1)
theorem g_rw_v {n : Nat} {B f : Int → Int} {k x j : Int} (n6 : n ≤ 6) (h : g_tb n (fun l p => g_bi (B l) p) f k j) (x0 : 0 ≤ x) (x6 : x ≤ 63) (hx : x ≤ k) {p : Int} (p0 : 0 ≤ p) (p1 : p < n) (hp : g_bi x p = true) : f (g_cb x p * 7 + p) = g_T n (fun l p => g_bi (B l) p) 5 (fun q => g_bi x q && !decide (q = p)) p := by
  have c := g_cb_lt x0 x6 p0 (by omega) hp
  have e := h (g_cb x p) p c.1 p0 p1 (Or.inl (by omega)) (by rw [g_cb_bi p0 (by omega) p0 (by omega), decide_eq_true (show p = p from rfl)]; exact Bool.and_false _)
  rw [e]
  have e2 : g_T n (fun l p => g_bi (B l) p) 6 (fun q => g_bi (g_cb x p) q) p = g_T n (fun l p => g_bi (B l) p) 6 (fun q => g_bi x q && !decide (q = p)) p := g_T_e (fun _ _ _ _ _ _ => rfl) 6 _ _ p p (fun r r0 r1 => ⟨g_cb_bi p0 (by omega) r0 (by omega), rfl⟩)
  rw [e2]
  have ct := (g_ct_rm (S := fun q => g_bi x q) p0 hp n).1 p1
  have cl := g_ct_le (S := fun q => g_bi x q) n
  exact (g_T_s 5 (fun q => g_bi x q && !decide (q = p)) p (by omega)).symm
theorem g_rw_T {n : Nat} {B f : Int → Int} {k x j l : Int} (n6 : n ≤ 6) (h : g_tb n (fun l p => g_bi (B l) p) f k j) (x0 : 0 ≤ x) (x6 : x ≤ 63) (hx : x ≤ k) : g_rw B f x l n = g_T n (fun l p => g_bi (B l) p) 6 (fun q => g_bi x q) l := by
  show g_mx (fun p => g_bi x p && g_bi (B l) p) (fun p => f (g_cb x p * 7 + p) + 1) n = g_mx (fun p => g_bi x p && g_bi (B l) p) (fun p => g_T n (fun l p => g_bi (B l) p) 5 (fun q => g_bi x q && !decide (q = p)) p + 1) n
  refine g_mx_e n (fun p p0 p1 => ⟨rfl, fun hp => ?_⟩)
  have hp' : (g_bi x p && g_bi (B l) p) = true := hp
  rw [Bool.and_eq_true] at hp'
  show f (g_cb x p * 7 + p) + 1 = _ + 1
  rw [g_rw_v n6 h x0 x6 hx p0 p1 hp'.1]
theorem g_tb_0 {n : Nat} {E : Int → Int → Bool} {f : Int → Int} : g_tb n E f 0 0 := fun x p x0 p0 p1 c _ => by omega
theorem g_tb_r {n : Nat} {E : Int → Int → Bool} {f f' : Int → Int} {k j : Int} (h : g_tb n E f k j) (e : f' = f) (hj : n ≤ j) : g_tb n E f' (k + 1) 0 := fun x p x0 p0 p1 c d => by
  rw [e]
  exact h x p x0 p0 p1 (by omega) d
theorem g_tb_n {n : Nat} {E : Int → Int → Bool} {f f' : Int → Int} {k j : Int} (h : g_tb n E f k j) (e : f' = f) (hb : g_bi k j = true) : g_tb n E f' k (j + 1) := fun x p x0 p0 p1 c d => by
  rw [e]
  refine h x p x0 p0 p1 ?_ d
  by_cases z : x = k ∧ p = j
  · rw [z.1, z.2, hb] at d
    exact Bool.noConfusion d
  · omega
theorem g_tb_y {n : Nat} {B f f' : Int → Int} {k j e w : Int} (n6 : n ≤ 6) (h : g_tb n (fun l p => g_bi (B l) p) f k j) (k0 : 0 ≤ k) (k6 : k ≤ 63) (j0 : 0 ≤ j) (j6 : j ≤ 5) (hf : f' = g_set f e w) (he : e = k * 7 + j) (hw : w = g_rw B f k j n) : g_tb n (fun l p => g_bi (B l) p) f' k (j + 1) := fun x p x0 p0 p1 c d => by
  subst hf; subst he
  by_cases z : x = k ∧ p = j
  · rw [z.1, z.2, g_set_p rfl, hw]
    exact g_rw_T n6 h k0 k6 (by omega)
  · rw [g_set_n (by omega)]
    exact h x p x0 p0 p1 (by omega) d
theorem g_ev_b : ∀ n : Fin 7, ∀ q : Fin 6, q.val < n.val → g_bi (((Int32.ofInt 1) <<< ((Int32.ofInt ((n.val : Nat) : Int)) &&& 31)).toInt - 1) ((q.val : Nat) : Int) = true := by decide +kernel
theorem g_rw_y {B f : Int → Int} {x l k b b' : Int} (h : b = g_rw B f x l k.toNat) (k0 : 0 ≤ k) (hc : (g_bi x k && g_bi (B l) k) = true) (hv : (b < f (g_cb x k * 7 + k) + 1 ∧ b' = f (g_cb x k * 7 + k) + 1) ∨ (f (g_cb x k * 7 + k) + 1 ≤ b ∧ b' = b)) : b' = g_rw B f x l (k + 1).toNat := by
  unfold g_rw at *
  rw [g_mx_i k0, if_pos hc, ← h]
  have d := g_M_d b (f (g_cb x k * 7 + k) + 1)
  show b' = g_Mx b (f (g_cb x k * 7 + k) + 1)
  omega
theorem g_rw_n {B f : Int → Int} {x l k b b' : Int} (h : b = g_rw B f x l k.toNat) (k0 : 0 ≤ k) (hc : (g_bi x k && g_bi (B l) k) = false) (hv : b' = b) : b' = g_rw B f x l (k + 1).toNat := by
  unfold g_rw at *
  rw [g_mx_i k0, if_neg (show ¬ (g_bi x k && g_bi (B l) k) = true by rw [hc]; decide), hv, h]
theorem g_tb_p {n : Nat} {B f : Int → Int} {k x j : Int} (n6 : n ≤ 6) (h : g_tb n (fun l p => g_bi (B l) p) f k j) (x0 : 0 ≤ x) (x6 : x ≤ 63) (hx : x ≤ k) : ∀ p, 0 ≤ p → p < n → g_bi x p = true → 0 ≤ f (g_cb x p * 7 + p) ∧ f (g_cb x p * 7 + p) ≤ 6 := fun p p0 p1 d => by
  rw [g_rw_v n6 h x0 x6 hx p0 p1 d]
  have t := g_T_0 (n := n) (E := fun l p => g_bi (B l) p) 5 (fun q => g_bi x q && !decide (q = p)) p
  omega
theorem g_ev {n q : Int} (n0 : 0 ≤ n) (n6 : n ≤ 6) (q0 : 0 ≤ q) (q1 : q < n) : g_bi (g_2p n - 1) q = true := by
  have z : g_bi (g_2p ((n.toNat : Nat) : Int) - 1) ((q.toNat : Nat) : Int) = true := g_ev_b ⟨n.toNat, by omega⟩ ⟨q.toNat, by omega⟩ (by show q.toNat < n.toNat; omega)
  rw [show ((n.toNat : Nat) : Int) = n by omega, show ((q.toNat : Nat) : Int) = q by omega] at z
  exact z
theorem g_bi_bs {n p : Int} {c : Int → Bool} (n6 : n ≤ 6) (p0 : 0 ≤ p) (p1 : p < n) : g_bi ((g_bs n c 6 0 0).toInt) p = c p := by
  unfold g_bi
  rw [Int32.ofInt_toInt, g_bt_bs n6 6 0 0 (by omega) (by omega) p.toNat (by omega), g_bt_0, Bool.false_or, decide_eq_true (show (0 : Int) ≤ ((p.toNat : Nat) : Int) ∧ ((p.toNat : Nat) : Int) < n by omega), Bool.true_and, show ((p.toNat : Nat) : Int) = p by omega]
def g_nxb (z : Int32) (x b : Int) : Prop := ∀ p, 0 ≤ p → p ≤ 9 → g_hb z p = if (g_bi x p && g_bi b p) = true then 1 else 0
theorem g_lq_x {n p l r : Int} {d f : Int → Int} (hl : l = -4 ∨ (0 ≤ l ∧ l < n)) : g_lq n d f l r p = g_yX n d f p l r := by
  unfold g_lq g_yX
  by_cases c : l = -4
  · rw [decide_eq_true (show ¬ (0 ≤ l ∧ l < n) by omega), decide_eq_true c, Bool.true_or]
  · rw [decide_eq_false (show ¬ ¬ (0 ≤ l ∧ l < n) by omega), decide_eq_false c]
/-- the table's longest is the search's -/
theorem g_TT {n m nf r R l0 L : Int} {D G f c d A B : Int → Int} (n0 : 0 ≤ n) (n6 : n ≤ 6) (gd : g_ph n 256 D G) (hf : g_FX n c d nf f) (hm : m = nf) (hfe : ∀ j, 0 ≤ j → j < nf → c j = A j ∧ d j = B j) (hl : l0 = L) (hL : l0 = -4 ∨ (0 ≤ l0 ∧ l0 < n)) (hr : r = R) (r9 : r ≤ 999) : g_T n.toNat (fun l p => g_lq n D f (if l = 6 then l0 else l) r p) 6 (fun _ => true) 6 = g_T n.toNat (fun l p => g_yM G A B m p l R) 7 (fun _ => true) L := by
  have e : ∀ l p, (l = -4 ∨ (0 ≤ l ∧ l < n)) → 0 ≤ p → p < n → g_lq n D f l r p = g_yM G A B m p l R := fun l p h p0 p1 => by
    rw [g_lq_x h, ← hr]
    exact g_y_eq gd n6 hf hm hfe h p0 p1 r9
  rw [g_T_s 6 (fun _ => true) 6 (by have z := g_ct_le (S := fun _ : Int => true) n.toNat; omega)]
  refine g_T_e (fun p q p0 p1 q0 q1 => ?_) 7 _ _ 6 L (fun p p0 p1 => ⟨rfl, ?_⟩)
  · show g_lq n D f (if p = 6 then l0 else p) r q = g_yM G A B m q p R
    rw [if_neg (by omega)]
    exact e p q (by omega) q0 (by omega)
  · show g_lq n D f (if (6 : Int) = 6 then l0 else 6) r p = g_yM G A B m p L R
    rw [if_pos rfl, e l0 p hL p0 (by omega), hl]
/-- the best of the pairs -/
def g_vp (n j : Int) : Bool := decide (j / 6 < j % 6 ∧ j % 6 < n)
def g_mf (V : Int → Int) (n b0 : Int) : Nat → Int × Int
  | 0 => (b0, -4)
  | k + 1 => if g_vp n (k : Int) = true ∧ (g_mf V n b0 k).1 < V (k : Int) then (V (k : Int), 10 * ((k : Int) / 6) + (k : Int) % 6) else g_mf V n b0 k
theorem g_mf_1 {V : Int → Int} {n b0 k : Int} (k0 : 0 ≤ k) : g_mf V n b0 (k + 1).toNat = if g_vp n k = true ∧ (g_mf V n b0 k.toNat).1 < V k then (V k, 10 * (k / 6) + k % 6) else g_mf V n b0 k.toNat := by
  rw [show (k + 1).toNat = k.toNat + 1 by omega]
  show (if g_vp n ((k.toNat : Nat) : Int) = true ∧ (g_mf V n b0 k.toNat).1 < V ((k.toNat : Nat) : Int) then (V ((k.toNat : Nat) : Int), 10 * (((k.toNat : Nat) : Int) / 6) + ((k.toNat : Nat) : Int) % 6) else g_mf V n b0 k.toNat) = _
  rw [show ((k.toNat : Nat) : Int) = k by omega]
theorem g_mf_e {V V' : Int → Int} {n b0 : Int} : ∀ m : Nat, (∀ k : Int, 0 ≤ k → k < m → g_vp n k = true → V k = V' k) → g_mf V n b0 m = g_mf V' n b0 m
  | 0, _ => rfl
  | m + 1, h => by
    show (if g_vp n (m : Int) = true ∧ (g_mf V n b0 m).1 < V (m : Int) then (V (m : Int), 10 * ((m : Int) / 6) + (m : Int) % 6) else g_mf V n b0 m) = (if g_vp n (m : Int) = true ∧ (g_mf V' n b0 m).1 < V' (m : Int) then (V' (m : Int), 10 * ((m : Int) / 6) + (m : Int) % 6) else g_mf V' n b0 m)
    rw [g_mf_e m (fun k a b => h k a (by omega))]
    by_cases z : g_vp n (m : Int) = true
    · rw [h (m : Int) (by omega) (by omega) z]
    · rw [if_neg (fun q => z q.1), if_neg (fun q => z q.1)]
theorem g_mf_k {V : Int → Int} {n b0 : Int} (k : Nat) : ∀ d : Nat, (∀ j : Int, k ≤ j → j < k + d → g_vp n j = false) → g_mf V n b0 (k + d) = g_mf V n b0 k
  | 0, _ => rfl
  | d + 1, h => by
    show (if g_vp n ((k + d : Nat) : Int) = true ∧ (g_mf V n b0 (k + d)).1 < V ((k + d : Nat) : Int) then (V ((k + d : Nat) : Int), 10 * (((k + d : Nat) : Int) / 6) + ((k + d : Nat) : Int) % 6) else g_mf V n b0 (k + d)) = g_mf V n b0 k
    rw [if_neg (fun q => by
      have z := q.1
      rw [h ((k + d : Nat) : Int) (by omega) (by omega)] at z
      exact Bool.noConfusion z)]
    exact g_mf_k k d (fun j a b => h j a (by omega))
def g_mi (R : Int → Int → Prop) (R0 : Int → Prop) (n k b w : Int) : Prop := ∃ (V : Int → Int) (b0 : Int), R0 b0 ∧ (∀ j, 0 ≤ j → j < k → g_vp n j = true → R j (V j)) ∧ (b, w) = g_mf V n b0 k.toNat
section MI
variable {R R' : Int → Int → Prop} {R0 R0' : Int → Prop} {n k k' b w b' w' v : Int}
theorem g_mi_0 (h : R0 b) (hk : k = 0) (hw : w = -4) : g_mi R R0 n k b w := by
  subst hk; subst hw
  exact ⟨fun _ => 0, b, h, fun j a c => by omega, rfl⟩
theorem g_mi_y (h : g_mi R R0 n k b w) (k0 : 0 ≤ k) (hk : k' = k + 1) (hv : R k v) (hp : g_vp n k = true) (hc : (b < v ∧ b' = v ∧ w' = 10 * (k / 6) + k % 6) ∨ (¬ b < v ∧ b' = b ∧ w' = w)) : g_mi R R0 n k' b' w' := by
  subst hk
  obtain ⟨V, b0, h0, h1, h2⟩ := h
  have e : g_mf (fun j => if j = k then v else V j) n b0 k.toNat = (b, w) := by
    rw [h2]
    refine g_mf_e k.toNat (fun j a c _ => ?_)
    show (if j = k then v else V j) = V j
    rw [if_neg (by omega)]
  refine ⟨fun j => if j = k then v else V j, b0, h0, fun j a c d => ?_, ?_⟩
  · show R j (if j = k then v else V j)
    by_cases z : j = k
    · rw [if_pos z, z]
      exact hv
    · rw [if_neg z]
      exact h1 j a (by omega) d
  · rw [g_mf_1 k0, e]
    show (b', w') = if g_vp n k = true ∧ b < (if k = k then v else V k) then (if k = k then v else V k, 10 * (k / 6) + k % 6) else (b, w)
    rw [if_pos (rfl : k = k)]
    rcases hc with ⟨c, d, f⟩ | ⟨c, d, f⟩
    · rw [if_pos ⟨hp, c⟩, d, f]
    · rw [if_neg (fun q => c q.2), d, f]
theorem g_mi_k (h : g_mi R R0 n k b w) (k0 : 0 ≤ k) (hk : k ≤ k') (hn : ∀ j, k ≤ j → j < k' → ¬ (j / 6 < j % 6 ∧ j % 6 < n)) : g_mi R R0 n k' b w := by
  obtain ⟨V, b0, h0, h1, h2⟩ := h
  have no : ∀ j, k ≤ j → j < k' → g_vp n j = false := fun j a c => decide_eq_false (hn j a c)
  refine ⟨V, b0, h0, fun j a c d => ?_, ?_⟩
  · by_cases z : j < k
    · exact h1 j a z d
    · rw [no j (by omega) c] at d
      exact Bool.noConfusion d
  · have e := g_mf_k (V := V) (n := n) (b0 := b0) k.toNat (k' - k).toNat (fun j a c => no j (by omega) (by omega))
    rw [show k.toNat + (k' - k).toNat = k'.toNat by omega] at e
    rw [e]
    exact h2
theorem g_mi_e (h : g_mi R R0 n k b w) (h' : g_mi R' R0' n k b' w') (e0 : ∀ x y, R0 x → R0' y → x = y) (e : ∀ j x y, 0 ≤ j → j < k → g_vp n j = true → R j x → R' j y → x = y) : b = b' ∧ w = w' := by
  obtain ⟨V, b0, h0, h1, h2⟩ := h
  obtain ⟨V', b0', h0', h1', h2'⟩ := h'
  have eb := e0 _ _ h0 h0'
  subst eb
  have z : (b, w) = (b', w') := by
    rw [h2, h2']
    exact g_mf_e k.toNat (fun j a c d => e j _ _ a (by omega) d (h1 j a (by omega) d) (h1' j a (by omega) d))
  exact ⟨congrArg Prod.fst z, congrArg Prod.snd z⟩
end MI
def g_mo (what b w : Int) : Int := if what = 0 ∨ w = -4 then w else b
theorem g_mo_of {what b w z : Int} (hz : ((what = 0 ∨ w = -4) ∧ z = w) ∨ (¬ (what = 0 ∨ w = -4) ∧ z = b)) : z = g_mo what b w := by
  unfold g_mo
  rcases hz with c | c
  · rw [if_pos c.1]
    exact c.2
  · rw [if_neg c.1]
    exact c.2
def kf_n_place_10 : List Nat := [87044, 89087]
set_option maxHeartbeats 100000000 in
set_option maxHeartbeats 100000000 in
theorem n_place_10_l (ns : Nat) (σ : h_S) (hI : h_I σ) (x2 : Int32) (a2 : Int) (hx2 : x2.toInt = a2) (ra2 : 0 ≤ a2 ∧ a2 ≤ 2) {Q : Option Value → h_S → Prop} (kk : ∀ (τ : h_S), h_I τ → h_F (k_in kf_n_place_10) τ σ → (τ 85 4 = σ 10 8) → (g_cq (σ 10 8) (fun p => (g_bs (σ 79 2) (g_lq (σ 79 2) (σ 80) (σ 81) p (σ 19 a2)) 6 0 0).toInt) (τ 86)) → (τ 86 6 = (g_bs (σ 79 2) (g_lq (σ 79 2) (σ 80) (σ 81) (σ 20 a2) (σ 19 a2)) 6 0 0).toInt) → Q none τ) : ∀ n : Nat, (∀ (s0 : h_S), h_I s0 → h_F (k_in kf_n_place_10) s0 σ → ∀ (y4 : Int32) (b4 : Int), y4.toInt = b4 → (0 ≤ b4 ∧ b4 ≤ 6) → (s0 85 4 = σ 10 8) → (g_cq b4 (fun p => (g_bs (σ 79 2) (g_lq (σ 79 2) (σ 80) (σ 81) p (σ 19 a2)) 6 0 0).toInt) (s0 86)) → (b4 ≤ σ 10 8) → (6 + 1 - b4) * 1000000 + 1000000000 ≤ (n : Int) → h_T g_P (g_Y ns) 32 11 [(0, .ref 85), (1, .ref 10), (2, .ref 79), (3, .int x2), (4, .int y4)] [] s0 Q) := by
  intro n
  induction n with
  | zero => exact by intro s0 I0 F0_ y4 b4 hy4 ry4 ex0 ex1 ex2 hm; have gh0 := tf_10_8 hI; exfalso; omega
  | succ n ih =>
    intro s0 I0 F0_ y4 b4 hy4 ry4 ex0 ex1 ex2 hm; have gh0 := tf_10_8 hI
    refine h_iload (pc' := 13) rfl rfl rfl ?_
    refine h_aload_n (pc' := 14) rfl rfl rfl ?_
    refine h_getI (pc' := 17) (v := s0 85 4) rfl rfl rfl rfl rfl rfl (fun z1 hz1 => ?_)
    have tz1 := tf_85_4 I0
    refine h_cge (tg := 45) (pc' := 20) rfl rfl rfl hy4 hz1 (fun c2 => ?_) (fun c2 => ?_)
    · refine h_aload_n (pc' := 46) rfl rfl rfl ?_
      refine h_getR (pc' := 49) rfl rfl rfl rfl rfl ?_
      refine h_bipush (pc' := 51) (x := (Int32.ofInt 6)) rfl rfl cb_6 ?_
      refine h_aload_n (pc' := 52) rfl rfl rfl ?_
      refine h_aload_n (pc' := 53) rfl rfl rfl ?_
      refine h_getR (pc' := 56) rfl rfl rfl rfl rfl ?_
      refine h_iload_n (pc' := 57) rfl rfl rfl ?_
      refine h_iald (pc' := 58) (v := σ 20 a2) rfl rfl rfl hx2 (by omega) (by omega) (F0_ 20 _ rfl) (fun z3 hz3 => ?_)
      have tz3 := ty_20 hI a2
      refine h_aload_n (pc' := 59) rfl rfl rfl ?_
      refine h_getR (pc' := 62) rfl rfl rfl rfl rfl ?_
      refine h_iload_n (pc' := 63) rfl rfl rfl ?_
      refine h_iald (pc' := 64) (v := σ 19 a2) rfl rfl rfl hx2 (by omega) (by omega) (F0_ 19 _ rfl) (fun z4 hz4 => ?_)
      have tz4 := ty_19 hI a2
      refine h_call (sp := false) (pc' := 67) (M := [(0, .ref 79), (1, .int z3), (2, .int z4)]) rfl rfl rfl rfl rfl rfl rfl rfl ?_
      refine n_let _ I0 z3 _ hz3 z4 _ hz4 (fun r5 br5 hr5 ps6_0 => h_Kv ?_)
      refine h_iast (pc' := 68) rfl rfl rfl rfl ci_6 (by omega) (by omega) hr5 (h_fgt (E := fun s => s 98 13 = s0 98 13 ∧ s = h_up s0 86 6 br5) _ (in_86 I0 (h_rgv hr5)) (F0_.up rfl) ⟨rfl, rfl⟩ (fun s7 Is7 Fs7 (es7 : s7 98 13 = s0 98 13 ∧ s7 = h_up s0 86 6 br5) => ?_))
      have us7 := es7.2
      exact h_vret rfl rfl (kk _ Is7 Fs7 ((h_upo us7 rfl 4).trans ex0) (fun p p0 p1 => (h_upd us7 (by omega)).trans (ex1 p p0 (by omega))) ((h_upv us7).trans (hr5.symm.trans (congrArg Int32.toInt (ps6_0.trans (g_bl_e (F0_ 79 2 rfl) (funext (fun j => F0_ 80 j rfl)) (funext (fun j => F0_ 81 j rfl))))))))
    · refine h_aload_n (pc' := 21) rfl rfl rfl ?_
      refine h_getR (pc' := 24) rfl rfl rfl rfl rfl ?_
      refine h_iload (pc' := 26) rfl rfl rfl ?_
      refine h_aload_n (pc' := 27) rfl rfl rfl ?_
      refine h_iload (pc' := 29) rfl rfl rfl ?_
      refine h_aload_n (pc' := 30) rfl rfl rfl ?_
      refine h_getR (pc' := 33) rfl rfl rfl rfl rfl ?_
      refine h_iload_n (pc' := 34) rfl rfl rfl ?_
      refine h_iald (pc' := 35) (v := σ 19 a2) rfl rfl rfl hx2 (by omega) (by omega) (F0_ 19 _ rfl) (fun z8 hz8 => ?_)
      have tz8 := ty_19 hI a2
      refine h_call (sp := false) (pc' := 38) (M := [(0, .ref 79), (1, .int y4), (2, .int z8)]) rfl rfl rfl rfl rfl rfl rfl rfl ?_
      refine n_let _ I0 y4 _ hy4 z8 _ hz8 (fun r9 br9 hr9 ps10_0 => h_Kv ?_)
      refine h_iast (pc' := 39) rfl rfl rfl rfl hy4 (by omega) (by omega) hr9 (h_fgt (E := fun s => s 98 13 = s0 98 13 ∧ s = h_up s0 86 b4 br9) _ (in_86 I0 (h_rgv hr9)) (F0_.up rfl) ⟨rfl, rfl⟩ (fun s11 Is11 Fs11 (es11 : s11 98 13 = s0 98 13 ∧ s11 = h_up s0 86 b4 br9) => ?_))
      have us11 := es11.2
      refine h_iinc (pc' := 42) (M := fun z12 => [(4, .int z12), (0, .ref 85), (1, .ref 10), (2, .ref 79), (3, .int x2)]) rfl rfl rfl rfl hy4 ci_1 rfl (by omega) (by omega) (fun _ => rfl) (fun z12 hz12 => ?_)
      refine h_goto (pc' := 11) rfl rfl ?_
      exact h_wk [(0, .ref 85), (1, .ref 10), (2, .ref 79), (3, .int x2), (4, .int z12)] ⟨rfl, rfl, rfl, rfl, rfl, trivial⟩ (ih _ Is11 Fs11 z12 _ hz12 (by omega) ((h_upo us11 rfl 4).trans ex0) (g_cq_s ex1 (h_upf us11) rfl (hr9.symm.trans (congrArg Int32.toInt (ps10_0.trans (g_bl_e (F0_ 79 2 rfl) (funext (fun j => F0_ 80 j rfl)) (funext (fun j => F0_ 81 j rfl))))))) (by omega) (by omega))
set_option maxHeartbeats 100000000 in
set_option maxHeartbeats 100000000 in
theorem n_place_10 {ns : Nat} (σ : h_S) (hI : h_I σ) (x2 : Int32) (a2 : Int) (hx2 : x2.toInt = a2) (ra2 : 0 ≤ a2 ∧ a2 ≤ 2) {Q : Option Value → h_S → Prop} (kk : ∀ (τ : h_S), h_I τ → h_F (k_in kf_n_place_10) τ σ → (τ 85 4 = σ 10 8) → (g_cq (σ 10 8) (fun p => (g_bs (σ 79 2) (g_lq (σ 79 2) (σ 80) (σ 81) p (σ 19 a2)) 6 0 0).toInt) (τ 86)) → (τ 86 6 = (g_bs (σ 79 2) (g_lq (σ 79 2) (σ 80) (σ 81) (σ 20 a2) (σ 19 a2)) 6 0 0).toInt) → Q none τ) : h_T g_P (g_Y ns) 32 0 [(0, .ref 85), (1, .ref 10), (2, .ref 79), (3, .int x2)] [] σ Q := by
  have F00 : h_F (k_in kf_n_place_10) σ σ := h_F.rf
  refine h_aload_n (pc' := 1) rfl rfl rfl ?_
  refine h_aload_n (pc' := 2) rfl rfl rfl ?_
  refine h_getI (pc' := 5) (v := σ 10 8) rfl rfl rfl rfl rfl rfl (fun z1 hz1 => ?_)
  have tz1 := tf_10_8 hI
  refine h_put (pc' := 8) rfl rfl rfl rfl rfl rfl hz1 rfl (h_fgt (E := fun s => s 98 13 = σ 98 13 ∧ s = h_up σ 85 4 (σ 10 8)) _ (if_85_4 hI (by omega)) (F00.up rfl) ⟨rfl, rfl⟩ (fun s2 Is2 Fs2 (es2 : s2 98 13 = σ 98 13 ∧ s2 = h_up σ 85 4 (σ 10 8)) => ?_))
  have us2 := es2.2
  refine h_iconst (pc' := 9) (x := (Int32.ofInt 0)) rfl rfl rfl ?_
  refine h_istore (pc' := 11) (M := [(4, .int (Int32.ofInt 0)), (0, .ref 85), (1, .ref 10), (2, .ref 79), (3, .int x2)]) rfl rfl rfl rfl ?_
  exact h_wk [(0, .ref 85), (1, .ref 10), (2, .ref 79), (3, .int x2), (4, .int (Int32.ofInt 0))] ⟨rfl, rfl, rfl, rfl, rfl, trivial⟩ ((n_place_10_l ns σ hI x2 a2 hx2 ra2 kk 1000000000000) _ Is2 Fs2 (Int32.ofInt 0) _ ci_0 (by omega) (h_upv us2) g_cq_0 (by omega) (by omega))
def kf_n_place_23 : List Nat := [87044, 89087]
set_option maxHeartbeats 100000000 in
set_option maxHeartbeats 100000000 in
theorem n_place_23_l (ns : Nat) (σ : h_S) (hI : h_I σ) (x2 : Int32) (a2 : Int) (hx2 : x2.toInt = a2) (ra2 : 0 ≤ a2 ∧ a2 ≤ 2) {Q : Option Value → h_S → Prop} (kk : ∀ (τ : h_S), h_I τ → h_F (k_in kf_n_place_23) τ σ → (τ 85 4 = σ 23 8) → (g_cq (σ 23 8) (fun p => (g_bs (σ 79 2) (g_lq (σ 79 2) (σ 80) (σ 81) p (σ 32 a2)) 6 0 0).toInt) (τ 86)) → (τ 86 6 = (g_bs (σ 79 2) (g_lq (σ 79 2) (σ 80) (σ 81) (σ 33 a2) (σ 32 a2)) 6 0 0).toInt) → Q none τ) : ∀ n : Nat, (∀ (s0 : h_S), h_I s0 → h_F (k_in kf_n_place_23) s0 σ → ∀ (y4 : Int32) (b4 : Int), y4.toInt = b4 → (0 ≤ b4 ∧ b4 ≤ 6) → (s0 85 4 = σ 23 8) → (g_cq b4 (fun p => (g_bs (σ 79 2) (g_lq (σ 79 2) (σ 80) (σ 81) p (σ 32 a2)) 6 0 0).toInt) (s0 86)) → (b4 ≤ σ 23 8) → (6 + 1 - b4) * 1000000 + 1000000000 ≤ (n : Int) → h_T g_P (g_Y ns) 32 11 [(0, .ref 85), (1, .ref 23), (2, .ref 79), (3, .int x2), (4, .int y4)] [] s0 Q) := by
  intro n
  induction n with
  | zero => exact by intro s0 I0 F0_ y4 b4 hy4 ry4 ex0 ex1 ex2 hm; have gh0 := tf_23_8 hI; exfalso; omega
  | succ n ih =>
    intro s0 I0 F0_ y4 b4 hy4 ry4 ex0 ex1 ex2 hm; have gh0 := tf_23_8 hI
    refine h_iload (pc' := 13) rfl rfl rfl ?_
    refine h_aload_n (pc' := 14) rfl rfl rfl ?_
    refine h_getI (pc' := 17) (v := s0 85 4) rfl rfl rfl rfl rfl rfl (fun z1 hz1 => ?_)
    have tz1 := tf_85_4 I0
    refine h_cge (tg := 45) (pc' := 20) rfl rfl rfl hy4 hz1 (fun c2 => ?_) (fun c2 => ?_)
    · refine h_aload_n (pc' := 46) rfl rfl rfl ?_
      refine h_getR (pc' := 49) rfl rfl rfl rfl rfl ?_
      refine h_bipush (pc' := 51) (x := (Int32.ofInt 6)) rfl rfl cb_6 ?_
      refine h_aload_n (pc' := 52) rfl rfl rfl ?_
      refine h_aload_n (pc' := 53) rfl rfl rfl ?_
      refine h_getR (pc' := 56) rfl rfl rfl rfl rfl ?_
      refine h_iload_n (pc' := 57) rfl rfl rfl ?_
      refine h_iald (pc' := 58) (v := σ 33 a2) rfl rfl rfl hx2 (by omega) (by omega) (F0_ 33 _ rfl) (fun z3 hz3 => ?_)
      have tz3 := ty_33 hI a2
      refine h_aload_n (pc' := 59) rfl rfl rfl ?_
      refine h_getR (pc' := 62) rfl rfl rfl rfl rfl ?_
      refine h_iload_n (pc' := 63) rfl rfl rfl ?_
      refine h_iald (pc' := 64) (v := σ 32 a2) rfl rfl rfl hx2 (by omega) (by omega) (F0_ 32 _ rfl) (fun z4 hz4 => ?_)
      have tz4 := ty_32 hI a2
      refine h_call (sp := false) (pc' := 67) (M := [(0, .ref 79), (1, .int z3), (2, .int z4)]) rfl rfl rfl rfl rfl rfl rfl rfl ?_
      refine n_let _ I0 z3 _ hz3 z4 _ hz4 (fun r5 br5 hr5 ps6_0 => h_Kv ?_)
      refine h_iast (pc' := 68) rfl rfl rfl rfl ci_6 (by omega) (by omega) hr5 (h_fgt (E := fun s => s 98 13 = s0 98 13 ∧ s = h_up s0 86 6 br5) _ (in_86 I0 (h_rgv hr5)) (F0_.up rfl) ⟨rfl, rfl⟩ (fun s7 Is7 Fs7 (es7 : s7 98 13 = s0 98 13 ∧ s7 = h_up s0 86 6 br5) => ?_))
      have us7 := es7.2
      exact h_vret rfl rfl (kk _ Is7 Fs7 ((h_upo us7 rfl 4).trans ex0) (fun p p0 p1 => (h_upd us7 (by omega)).trans (ex1 p p0 (by omega))) ((h_upv us7).trans (hr5.symm.trans (congrArg Int32.toInt (ps6_0.trans (g_bl_e (F0_ 79 2 rfl) (funext (fun j => F0_ 80 j rfl)) (funext (fun j => F0_ 81 j rfl))))))))
    · refine h_aload_n (pc' := 21) rfl rfl rfl ?_
      refine h_getR (pc' := 24) rfl rfl rfl rfl rfl ?_
      refine h_iload (pc' := 26) rfl rfl rfl ?_
      refine h_aload_n (pc' := 27) rfl rfl rfl ?_
      refine h_iload (pc' := 29) rfl rfl rfl ?_
      refine h_aload_n (pc' := 30) rfl rfl rfl ?_
      refine h_getR (pc' := 33) rfl rfl rfl rfl rfl ?_
      refine h_iload_n (pc' := 34) rfl rfl rfl ?_
      refine h_iald (pc' := 35) (v := σ 32 a2) rfl rfl rfl hx2 (by omega) (by omega) (F0_ 32 _ rfl) (fun z8 hz8 => ?_)
      have tz8 := ty_32 hI a2
      refine h_call (sp := false) (pc' := 38) (M := [(0, .ref 79), (1, .int y4), (2, .int z8)]) rfl rfl rfl rfl rfl rfl rfl rfl ?_
      refine n_let _ I0 y4 _ hy4 z8 _ hz8 (fun r9 br9 hr9 ps10_0 => h_Kv ?_)
      refine h_iast (pc' := 39) rfl rfl rfl rfl hy4 (by omega) (by omega) hr9 (h_fgt (E := fun s => s 98 13 = s0 98 13 ∧ s = h_up s0 86 b4 br9) _ (in_86 I0 (h_rgv hr9)) (F0_.up rfl) ⟨rfl, rfl⟩ (fun s11 Is11 Fs11 (es11 : s11 98 13 = s0 98 13 ∧ s11 = h_up s0 86 b4 br9) => ?_))
      have us11 := es11.2
      refine h_iinc (pc' := 42) (M := fun z12 => [(4, .int z12), (0, .ref 85), (1, .ref 23), (2, .ref 79), (3, .int x2)]) rfl rfl rfl rfl hy4 ci_1 rfl (by omega) (by omega) (fun _ => rfl) (fun z12 hz12 => ?_)
      refine h_goto (pc' := 11) rfl rfl ?_
      exact h_wk [(0, .ref 85), (1, .ref 23), (2, .ref 79), (3, .int x2), (4, .int z12)] ⟨rfl, rfl, rfl, rfl, rfl, trivial⟩ (ih _ Is11 Fs11 z12 _ hz12 (by omega) ((h_upo us11 rfl 4).trans ex0) (g_cq_s ex1 (h_upf us11) rfl (hr9.symm.trans (congrArg Int32.toInt (ps10_0.trans (g_bl_e (F0_ 79 2 rfl) (funext (fun j => F0_ 80 j rfl)) (funext (fun j => F0_ 81 j rfl))))))) (by omega) (by omega))
set_option maxHeartbeats 100000000 in
set_option maxHeartbeats 100000000 in
theorem n_place_23 {ns : Nat} (σ : h_S) (hI : h_I σ) (x2 : Int32) (a2 : Int) (hx2 : x2.toInt = a2) (ra2 : 0 ≤ a2 ∧ a2 ≤ 2) {Q : Option Value → h_S → Prop} (kk : ∀ (τ : h_S), h_I τ → h_F (k_in kf_n_place_23) τ σ → (τ 85 4 = σ 23 8) → (g_cq (σ 23 8) (fun p => (g_bs (σ 79 2) (g_lq (σ 79 2) (σ 80) (σ 81) p (σ 32 a2)) 6 0 0).toInt) (τ 86)) → (τ 86 6 = (g_bs (σ 79 2) (g_lq (σ 79 2) (σ 80) (σ 81) (σ 33 a2) (σ 32 a2)) 6 0 0).toInt) → Q none τ) : h_T g_P (g_Y ns) 32 0 [(0, .ref 85), (1, .ref 23), (2, .ref 79), (3, .int x2)] [] σ Q := by
  have F00 : h_F (k_in kf_n_place_23) σ σ := h_F.rf
  refine h_aload_n (pc' := 1) rfl rfl rfl ?_
  refine h_aload_n (pc' := 2) rfl rfl rfl ?_
  refine h_getI (pc' := 5) (v := σ 23 8) rfl rfl rfl rfl rfl rfl (fun z1 hz1 => ?_)
  have tz1 := tf_23_8 hI
  refine h_put (pc' := 8) rfl rfl rfl rfl rfl rfl hz1 rfl (h_fgt (E := fun s => s 98 13 = σ 98 13 ∧ s = h_up σ 85 4 (σ 23 8)) _ (if_85_4 hI (by omega)) (F00.up rfl) ⟨rfl, rfl⟩ (fun s2 Is2 Fs2 (es2 : s2 98 13 = σ 98 13 ∧ s2 = h_up σ 85 4 (σ 23 8)) => ?_))
  have us2 := es2.2
  refine h_iconst (pc' := 9) (x := (Int32.ofInt 0)) rfl rfl rfl ?_
  refine h_istore (pc' := 11) (M := [(4, .int (Int32.ofInt 0)), (0, .ref 85), (1, .ref 23), (2, .ref 79), (3, .int x2)]) rfl rfl rfl rfl ?_
  exact h_wk [(0, .ref 85), (1, .ref 23), (2, .ref 79), (3, .int x2), (4, .int (Int32.ofInt 0))] ⟨rfl, rfl, rfl, rfl, rfl, trivial⟩ ((n_place_23_l ns σ hI x2 a2 hx2 ra2 kk 1000000000000) _ Is2 Fs2 (Int32.ofInt 0) _ ci_0 (by omega) (h_upv us2) g_cq_0 (by omega) (by omega))
def kf_n_row : List Nat := [90111, 91135]
set_option maxHeartbeats 100000000 in
set_option maxHeartbeats 100000000 in
theorem n_row_l (ns : Nat) (σ : h_S) (hI : h_I σ) (x0 : Int32) (a0 : Int) (hx0 : x0.toInt = a0) (ra0 : 0 ≤ a0 ∧ a0 ≤ 63) (x1 : Int32) (a1 : Int) (hx1 : x1.toInt = a1) (ra1 : 0 ≤ a1 ∧ a1 ≤ 6) (pr0 : ∀ p, 0 ≤ p → p < σ 85 4 → g_bi a0 p = true → 0 ≤ σ 87 (g_cb a0 p * 7 + p) ∧ σ 87 (g_cb a0 p * 7 + p) ≤ 6) {Q : Option Value → h_S → Prop} (kk : ∀ (τ : h_S), h_I τ → h_F (k_in kf_n_row) τ σ → (τ 87 = g_set (σ 87) (a0 * 7 + a1) (g_rw (σ 86) (σ 87) a0 a1 (σ 85 4).toNat)) → Q none τ) : ∀ n : Nat, (∀ (s0 : h_S), h_I s0 → h_F (k_in kf_n_row) s0 σ → ∀ (y3 : Int32) (b3 : Int), y3.toInt = b3 → (0 ≤ b3) → ∀ (y4 : Int32) (b4 : Int), y4.toInt = b4 → ∀ (y5 : Int32) (b5 : Int), y5.toInt = b5 → (0 ≤ b5 ∧ b5 ≤ 63) → ∀ (y6 : Int32) (b6 : Int), y6.toInt = b6 → (0 ≤ b6 ∧ b6 ≤ 6) → (g_nxb y5 a0 (σ 86 a1)) → (b3 = g_rw (σ 86) (σ 87) a0 a1 b6.toNat) → (s0 87 = σ 87) → (b6 ≤ σ 85 4) → (6 + 1 - b6) * 1000000 + 1000000000 ≤ (n : Int) → h_T g_P (g_Y ns) 35 18 [(0, .ref 85), (1, .int x0), (2, .int x1), (3, .int y3), (4, .int y4), (5, .int y5), (6, .int y6)] [] s0 Q) := by
  intro n
  induction n with
  | zero => exact by intro s0 I0 F0_ y3 b3 hy3 ry3 y4 b4 hy4 y5 b5 hy5 ry5 y6 b6 hy6 ry6 ex0 ex1 ex2 ex3 hm; have gy3 := h_rgv hy3; have gh0 := tf_85_4 hI; exfalso; omega
  | succ n ih =>
    intro s0 I0 F0_ y3 b3 hy3 ry3 y4 b4 hy4 y5 b5 hy5 ry5 y6 b6 hy6 ry6 ex0 ex1 ex2 ex3 hm; have gy3 := h_rgv hy3; have gh0 := tf_85_4 hI
    refine h_iload (pc' := 20) rfl rfl rfl ?_
    refine h_aload_n (pc' := 21) rfl rfl rfl ?_
    refine h_getI (pc' := 24) (v := σ 85 4) rfl rfl rfl rfl rfl (F0_ 85 4 rfl) (fun z1 hz1 => ?_)
    have tz1 := tf_85_4 hI
    refine h_cge (tg := 109) (pc' := 27) rfl rfl rfl hy6 hz1 (fun c2 => ?_) (fun c2 => ?_)
    · refine h_aload_n (pc' := 110) rfl rfl rfl ?_
      refine h_getR (pc' := 113) rfl rfl rfl rfl rfl ?_
      refine h_iload_n (pc' := 114) rfl rfl rfl ?_
      refine h_bipush (pc' := 116) (x := (Int32.ofInt 7)) rfl rfl cb_7 ?_
      refine h_imul (pc' := 117) rfl rfl hx0 ci_7 rfl (by omega) (by omega) (fun z3 hz3 => ?_)
      refine h_iload_n (pc' := 118) rfl rfl rfl ?_
      refine h_iadd (pc' := 119) rfl rfl hz3 hx1 rfl (by omega) (by omega) (fun z4 hz4 => ?_)
      refine h_iload_n (pc' := 120) rfl rfl rfl ?_
      refine h_iast (pc' := 121) rfl rfl rfl rfl hz4 (by omega) (by omega) hy3 (h_fgt (E := fun s => s 98 13 = s0 98 13 ∧ s = h_up s0 87 ((a0 * 7) + a1) b3) _ (in_87 I0 (h_rgv hy3)) (F0_.up rfl) ⟨rfl, rfl⟩ (fun s5 Is5 Fs5 (es5 : s5 98 13 = s0 98 13 ∧ s5 = h_up s0 87 ((a0 * 7) + a1) b3) => ?_))
      have us5 := es5.2
      refine h_aload_n (pc' := 122) rfl rfl rfl ?_
      refine h_getR (pc' := 125) rfl rfl rfl rfl rfl ?_
      refine h_iload_n (pc' := 126) rfl rfl rfl ?_
      refine h_bipush (pc' := 128) (x := (Int32.ofInt 7)) rfl rfl cb_7 ?_
      refine h_imul (pc' := 129) rfl rfl hx0 ci_7 rfl (by omega) (by omega) (fun z6 hz6 => ?_)
      refine h_iload_n (pc' := 130) rfl rfl rfl ?_
      refine h_iadd (pc' := 131) rfl rfl hz6 hx1 rfl (by omega) (by omega) (fun z7 hz7 => ?_)
      refine h_iload (pc' := 133) rfl rfl rfl ?_
      refine h_iast (pc' := 134) rfl rfl rfl rfl hz7 (by omega) (by omega) hy4 (h_fgt (E := fun s => s 98 13 = s0 98 13 ∧ s = h_up s5 88 ((a0 * 7) + a1) b4) _ (in_88 Is5 (h_rgv hy4)) (Fs5.up rfl) ⟨es5.1, rfl⟩ (fun s8 Is8 Fs8 (es8 : s8 98 13 = s0 98 13 ∧ s8 = h_up s5 88 ((a0 * 7) + a1) b4) => ?_))
      clear es5
      have us8 := es8.2
      exact h_vret rfl rfl (kk _ Is8 Fs8 (((h_upg us8 rfl).trans (h_upf us5)).trans (g_set_e ex2 rfl (by rw [show σ 85 4 = b6 by omega]; exact ex1))))
    · refine h_iload (pc' := 29) rfl rfl rfl ?_
      refine h_iload (pc' := 31) rfl rfl rfl ?_
      refine h_calls (pc' := 34) (M := [(0, .int y5), (1, .int y6)]) rfl rfl rfl rfl rfl rfl ?_
      refine h_iload_n (pc' := 1) rfl rfl rfl ?_
      refine h_iload_n (pc' := 2) rfl rfl rfl ?_
      refine h_ishr (pc' := 3) rfl rfl (fun z9 hz9 => ?_)
      refine h_iconst (pc' := 4) (x := (Int32.ofInt 1)) rfl rfl rfl ?_
      refine h_iand (pc' := 5) rfl rfl (fun z10 hz10 uz10 vz10 => ?_)
      clear uz10
      rw [ci_1] at vz10
      have yz10 := vz10 (by omega)
      refine h_zeq (tg := 12) (pc' := 8) rfl rfl rfl rfl (fun c11 => ?_) (fun c11 => ?_)
      · refine h_iconst (pc' := 13) (x := (Int32.ofInt 0)) rfl rfl rfl ?_
        refine h_zret rfl rfl ci_0 (by omega) (h_Kv ?_)
        refine h_zeq (tg := 103) (pc' := 37) rfl rfl rfl ci_0 (fun c12 => ?_) (fun c12 => absurd c12 (by omega))
        refine h_iinc (pc' := 106) (M := fun z13 => [(6, .int z13), (0, .ref 85), (1, .int x0), (2, .int x1), (3, .int y3), (4, .int y4), (5, .int y5)]) rfl rfl rfl rfl hy6 ci_1 rfl (by omega) (by omega) (fun _ => rfl) (fun z13 hz13 => ?_)
        refine h_goto (pc' := 18) rfl rfl ?_
        exact h_wk [(0, .ref 85), (1, .int x0), (2, .int x1), (3, .int y3), (4, .int y4), (5, .int y5), (6, .int z13)] ⟨rfl, rfl, rfl, rfl, rfl, rfl, rfl, trivial⟩ (ih _ I0 F0_ y3 _ hy3 (by omega) y4 _ hy4 y5 _ hy5 (by omega) z13 _ hz13 (by omega) ex0 (by have gz := g_hb_of hz10 hz9 hy6; have gx := ex0 b6 (by omega) (by omega); exact g_rw_n ex1 (by omega) (g_if_n gx (by omega)) rfl) ex2 (by omega) (by omega))
      · refine h_iconst (pc' := 9) (x := (Int32.ofInt 1)) rfl rfl rfl ?_
        refine h_goto (pc' := 13) rfl rfl ?_
        refine h_zret rfl rfl ci_1 (by omega) (h_Kv ?_)
        refine h_zeq (tg := 103) (pc' := 37) rfl rfl rfl ci_1 (fun c14 => absurd c14 (by omega)) (fun c14 => ?_)
        refine h_iload_n (pc' := 38) rfl rfl rfl ?_
        refine h_iconst (pc' := 39) (x := (Int32.ofInt 1)) rfl rfl rfl ?_
        refine h_iload (pc' := 41) rfl rfl rfl ?_
        refine h_shl1 (pc' := 42) rfl rfl ci_1 hy6 (by omega) (by omega) (fun z15 hz15 vz15 => ?_)
        refine h_iconst (pc' := 43) (x := (Int32.ofInt (-1))) rfl rfl rfl ?_
        refine h_ixor (pc' := 44) rfl rfl (fun z16 hz16 => ?_)
        refine h_iand (pc' := 45) rfl rfl (fun z17 hz17 uz17 vz17 => ?_)
        rw [hx0] at uz17
        have wz17 := uz17 (by omega)
        clear vz17
        refine h_bipush (pc' := 47) (x := (Int32.ofInt 7)) rfl rfl cb_7 ?_
        refine h_imul (pc' := 48) rfl rfl rfl ci_7 rfl (by omega) (by omega) (fun z18 hz18 => ?_)
        refine h_iload (pc' := 50) rfl rfl rfl ?_
        refine h_iadd (pc' := 51) rfl rfl hz18 hy6 rfl (by omega) (by omega) (fun z19 hz19 => ?_)
        refine h_istore (pc' := 53) (M := [(7, .int z19), (0, .ref 85), (1, .int x0), (2, .int x1), (3, .int y3), (4, .int y4), (5, .int y5), (6, .int y6)]) rfl rfl rfl rfl ?_
        refine h_aload_n (pc' := 54) rfl rfl rfl ?_
        refine h_getR (pc' := 57) rfl rfl rfl rfl rfl ?_
        refine h_iload (pc' := 59) rfl rfl rfl ?_
        refine h_iald (pc' := 60) (v := s0 87 ((z17.toInt * 7) + b6)) rfl rfl rfl hz19 (by omega) (by omega) rfl (fun z20 hz20 => ?_)
        have tz20 := ty_87 I0 ((z17.toInt * 7) + b6)
        refine h_iconst (pc' := 61) (x := (Int32.ofInt 1)) rfl rfl rfl ?_
        refine h_iaddA (pc' := 62) rfl rfl (fun z21 hz21 => ?_)
        have dz21 := h_iaddC hz20 ci_1 hz21
        refine h_istore (pc' := 64) (M := [(8, .int z21), (7, .int z19), (0, .ref 85), (1, .int x0), (2, .int x1), (3, .int y3), (4, .int y4), (5, .int y5), (6, .int y6)]) rfl rfl rfl rfl ?_
        refine h_iload (pc' := 66) rfl rfl rfl ?_
        refine h_iload_n (pc' := 67) rfl rfl rfl ?_
        refine h_cle (tg := 85) (pc' := 70) rfl rfl rfl rfl hy3 (fun c22 => ?_) (fun c22 => ?_)
        · refine h_iload (pc' := 87) rfl rfl rfl ?_
          refine h_iload_n (pc' := 88) rfl rfl rfl ?_
          refine h_cne (tg := 103) (pc' := 91) rfl rfl rfl rfl hy3 (fun c23 => ?_) (fun c23 => ?_)
          · refine h_iinc (pc' := 106) (M := fun z24 => [(6, .int z24), (8, .int z21), (7, .int z19), (0, .ref 85), (1, .int x0), (2, .int x1), (3, .int y3), (4, .int y4), (5, .int y5)]) rfl rfl rfl rfl hy6 ci_1 rfl (by omega) (by omega) (fun _ => rfl) (fun z24 hz24 => ?_)
            refine h_goto (pc' := 18) rfl rfl ?_
            exact h_wk [(0, .ref 85), (1, .int x0), (2, .int x1), (3, .int y3), (4, .int y4), (5, .int y5), (6, .int z24)] ⟨rfl, rfl, rfl, rfl, rfl, rfl, rfl, trivial⟩ (ih _ I0 F0_ y3 _ hy3 (by omega) y4 _ hy4 y5 _ hy5 (by omega) z24 _ hz24 (by omega) ex0 (by have gz := g_hb_of hz10 hz9 hy6; have gx := ex0 b6 (by omega) (by omega); have gc := g_if_y gx (by omega); have gb := g_cb_of hz17 hz16 hz15 hy6 hx0 rfl; have ge : s0 87 (z17.toInt * 7 + b6) = σ 87 (g_cb a0 b6 * 7 + b6) := (by rw [gb, ex2]); have gp := pr0 b6 (by omega) (by omega) (by rw [Bool.and_eq_true] at gc; exact gc.1); exact g_rw_y ex1 (by omega) gc (by omega)) ex2 (by omega) (by omega))
          · refine h_iload (pc' := 93) rfl rfl rfl ?_
            refine h_aload_n (pc' := 94) rfl rfl rfl ?_
            refine h_getR (pc' := 97) rfl rfl rfl rfl rfl ?_
            refine h_iload (pc' := 99) rfl rfl rfl ?_
            refine h_iald (pc' := 100) (v := s0 88 ((z17.toInt * 7) + b6)) rfl rfl rfl hz19 (by omega) (by omega) rfl (fun z25 hz25 => ?_)
            have tz25 := ty_88 I0 ((z17.toInt * 7) + b6)
            refine h_iaddA (pc' := 101) rfl rfl (fun z26 hz26 => ?_)
            have dz26 := h_iaddC hy4 hz25 hz26
            refine h_istore (pc' := 103) (M := [(4, .int z26), (8, .int z21), (7, .int z19), (0, .ref 85), (1, .int x0), (2, .int x1), (3, .int y3), (5, .int y5), (6, .int y6)]) rfl rfl rfl rfl ?_
            refine h_iinc (pc' := 106) (M := fun z27 => [(6, .int z27), (4, .int z26), (8, .int z21), (7, .int z19), (0, .ref 85), (1, .int x0), (2, .int x1), (3, .int y3), (5, .int y5)]) rfl rfl rfl rfl hy6 ci_1 rfl (by omega) (by omega) (fun _ => rfl) (fun z27 hz27 => ?_)
            refine h_goto (pc' := 18) rfl rfl ?_
            exact h_wk [(0, .ref 85), (1, .int x0), (2, .int x1), (3, .int y3), (4, .int z26), (5, .int y5), (6, .int z27)] ⟨rfl, rfl, rfl, rfl, rfl, rfl, rfl, trivial⟩ (ih _ I0 F0_ y3 _ hy3 (by omega) z26 _ rfl y5 _ hy5 (by omega) z27 _ hz27 (by omega) ex0 (by have gz := g_hb_of hz10 hz9 hy6; have gx := ex0 b6 (by omega) (by omega); have gc := g_if_y gx (by omega); have gb := g_cb_of hz17 hz16 hz15 hy6 hx0 rfl; have ge : s0 87 (z17.toInt * 7 + b6) = σ 87 (g_cb a0 b6 * 7 + b6) := (by rw [gb, ex2]); have gp := pr0 b6 (by omega) (by omega) (by rw [Bool.and_eq_true] at gc; exact gc.1); exact g_rw_y ex1 (by omega) gc (by omega)) ex2 (by omega) (by omega))
        · refine h_iload (pc' := 72) rfl rfl rfl ?_
          refine h_istore_n (pc' := 73) (M := [(3, .int z21), (8, .int z21), (7, .int z19), (0, .ref 85), (1, .int x0), (2, .int x1), (4, .int y4), (5, .int y5), (6, .int y6)]) rfl rfl rfl rfl ?_
          refine h_aload_n (pc' := 74) rfl rfl rfl ?_
          refine h_getR (pc' := 77) rfl rfl rfl rfl rfl ?_
          refine h_iload (pc' := 79) rfl rfl rfl ?_
          refine h_iald (pc' := 80) (v := s0 88 ((z17.toInt * 7) + b6)) rfl rfl rfl hz19 (by omega) (by omega) rfl (fun z28 hz28 => ?_)
          have tz28 := ty_88 I0 ((z17.toInt * 7) + b6)
          refine h_istore (pc' := 82) (M := [(4, .int z28), (3, .int z21), (8, .int z21), (7, .int z19), (0, .ref 85), (1, .int x0), (2, .int x1), (5, .int y5), (6, .int y6)]) rfl rfl rfl rfl ?_
          refine h_goto (pc' := 103) rfl rfl ?_
          refine h_iinc (pc' := 106) (M := fun z29 => [(6, .int z29), (4, .int z28), (3, .int z21), (8, .int z21), (7, .int z19), (0, .ref 85), (1, .int x0), (2, .int x1), (5, .int y5)]) rfl rfl rfl rfl hy6 ci_1 rfl (by omega) (by omega) (fun _ => rfl) (fun z29 hz29 => ?_)
          refine h_goto (pc' := 18) rfl rfl ?_
          exact h_wk [(0, .ref 85), (1, .int x0), (2, .int x1), (3, .int z21), (4, .int z28), (5, .int y5), (6, .int z29)] ⟨rfl, rfl, rfl, rfl, rfl, rfl, rfl, trivial⟩ (ih _ I0 F0_ z21 _ rfl (by omega) z28 _ hz28 y5 _ hy5 (by omega) z29 _ hz29 (by omega) ex0 (by have gz := g_hb_of hz10 hz9 hy6; have gx := ex0 b6 (by omega) (by omega); have gc := g_if_y gx (by omega); have gb := g_cb_of hz17 hz16 hz15 hy6 hx0 rfl; have ge : s0 87 (z17.toInt * 7 + b6) = σ 87 (g_cb a0 b6 * 7 + b6) := (by rw [gb, ex2]); have gp := pr0 b6 (by omega) (by omega) (by rw [Bool.and_eq_true] at gc; exact gc.1); exact g_rw_y ex1 (by omega) gc (by omega)) ex2 (by omega) (by omega))
set_option maxHeartbeats 100000000 in
set_option maxHeartbeats 100000000 in
theorem n_row {ns : Nat} (σ : h_S) (hI : h_I σ) (x0 : Int32) (a0 : Int) (hx0 : x0.toInt = a0) (ra0 : 0 ≤ a0 ∧ a0 ≤ 63) (x1 : Int32) (a1 : Int) (hx1 : x1.toInt = a1) (ra1 : 0 ≤ a1 ∧ a1 ≤ 6) (pr0 : ∀ p, 0 ≤ p → p < σ 85 4 → g_bi a0 p = true → 0 ≤ σ 87 (g_cb a0 p * 7 + p) ∧ σ 87 (g_cb a0 p * 7 + p) ≤ 6) {Q : Option Value → h_S → Prop} (kk : ∀ (τ : h_S), h_I τ → h_F (k_in kf_n_row) τ σ → (τ 87 = g_set (σ 87) (a0 * 7 + a1) (g_rw (σ 86) (σ 87) a0 a1 (σ 85 4).toNat)) → Q none τ) : h_T g_P (g_Y ns) 35 0 [(0, .ref 85), (1, .int x0), (2, .int x1)] [] σ Q := by
  have F00 : h_F (k_in kf_n_row) σ σ := h_F.rf
  refine h_iconst (pc' := 1) (x := (Int32.ofInt 0)) rfl rfl rfl ?_
  refine h_istore_n (pc' := 2) (M := [(3, .int (Int32.ofInt 0)), (0, .ref 85), (1, .int x0), (2, .int x1)]) rfl rfl rfl rfl ?_
  refine h_iconst (pc' := 3) (x := (Int32.ofInt 1)) rfl rfl rfl ?_
  refine h_istore (pc' := 5) (M := [(4, .int (Int32.ofInt 1)), (3, .int (Int32.ofInt 0)), (0, .ref 85), (1, .int x0), (2, .int x1)]) rfl rfl rfl rfl ?_
  refine h_iload_n (pc' := 6) rfl rfl rfl ?_
  refine h_aload_n (pc' := 7) rfl rfl rfl ?_
  refine h_getR (pc' := 10) rfl rfl rfl rfl rfl ?_
  refine h_iload_n (pc' := 11) rfl rfl rfl ?_
  refine h_iald (pc' := 12) (v := σ 86 a1) rfl rfl rfl hx1 (by omega) (by omega) rfl (fun z1 hz1 => ?_)
  have tz1 := ty_86 hI a1
  refine h_iand (pc' := 13) rfl rfl (fun z2 hz2 uz2 vz2 => ?_)
  rw [hx0] at uz2
  have wz2 := uz2 (by omega)
  clear vz2
  refine h_istore (pc' := 15) (M := [(5, .int z2), (4, .int (Int32.ofInt 1)), (3, .int (Int32.ofInt 0)), (0, .ref 85), (1, .int x0), (2, .int x1)]) rfl rfl rfl rfl ?_
  refine h_iconst (pc' := 16) (x := (Int32.ofInt 0)) rfl rfl rfl ?_
  refine h_istore (pc' := 18) (M := [(6, .int (Int32.ofInt 0)), (5, .int z2), (4, .int (Int32.ofInt 1)), (3, .int (Int32.ofInt 0)), (0, .ref 85), (1, .int x0), (2, .int x1)]) rfl rfl rfl rfl ?_
  exact h_wk [(0, .ref 85), (1, .int x0), (2, .int x1), (3, .int (Int32.ofInt 0)), (4, .int (Int32.ofInt 1)), (5, .int z2), (6, .int (Int32.ofInt 0))] ⟨rfl, rfl, rfl, rfl, rfl, rfl, rfl, trivial⟩ ((n_row_l ns σ hI x0 a0 hx0 ra0 x1 a1 hx1 ra1 pr0 kk 1000000000000) _ hI F00 (Int32.ofInt 0) _ ci_0 (by omega) (Int32.ofInt 1) _ ci_1 z2 _ rfl (by omega) (Int32.ofInt 0) _ ci_0 (by omega) (fun p p0 p1 => g_hb_and hz2 hx0 hz1 p0 p1) rfl rfl (by omega) (by omega))
def kf_n_chart : List Nat := [90111, 91135]
set_option maxHeartbeats 100000000 in
set_option maxHeartbeats 100000000 in
theorem n_chart_l (ns : Nat) (σ : h_S) (hI : h_I σ) {Q : Option Value → h_S → Prop} (kk : ∀ (τ : h_S), h_I τ → h_F (k_in kf_n_chart) τ σ → (τ 87 ((g_2p (σ 85 4) - 1) * 7 + 6) = g_T (σ 85 4).toNat (fun l p => g_bi (σ 86 l) p) 6 (fun _ => true) 6) → Q none τ) : ∀ n : Nat, (∀ (s0 : h_S), h_I s0 → h_F (k_in kf_n_chart) s0 σ → ∀ (y1 : Int32) (b1 : Int), y1.toInt = b1 → (0 ≤ b1 ∧ b1 ≤ 64) → (g_tb (σ 85 4).toNat (fun l p => g_bi (σ 86 l) p) (s0 87) b1 0) → (b1 ≤ g_2p (σ 85 4)) → (64 + 1 - b1) * 1000000 + 1000000000 ≤ (n : Int) → h_T g_P (g_Y ns) 33 2 [(0, .ref 85), (1, .int y1)] [] s0 Q) ∧ (∀ (s0 : h_S), h_I s0 → h_F (k_in kf_n_chart) s0 σ → ∀ (y1 : Int32) (b1 : Int), y1.toInt = b1 → (0 ≤ b1 ∧ b1 ≤ 63) → ∀ (y2 : Int32) (b2 : Int), y2.toInt = b2 → (0 ≤ b2 ∧ b2 ≤ 6) → (g_tb (σ 85 4).toNat (fun l p => g_bi (σ 86 l) p) (s0 87) b1 b2) → (b1 ≤ g_2p (σ 85 4) - 1) → (b2 ≤ σ 85 4) → ((64 + 1 - b1) - 1) * 1000000 + 1000000000 + (6 + 1 - b2) * 1000 + 100000 ≤ (n : Int) → h_T g_P (g_Y ns) 33 12 [(0, .ref 85), (1, .int y1), (2, .int y2)] [] s0 Q) := by
  intro n
  induction n with
  | zero => exact ⟨by intro s0 I0 F0_ y1 b1 hy1 ry1 ex0 ex1 hm; have gh0 := tf_85_4 hI; have gh1 := g_2p_b (n := σ 85 4) (by have t := tf_85_4 hI; omega) (by have t := tf_85_4 hI; omega); exfalso; omega, by intro s0 I0 F0_ y1 b1 hy1 ry1 y2 b2 hy2 ry2 ex0 ex1 ex2 hm; have gh0 := tf_85_4 hI; have gh1 := g_2p_b (n := σ 85 4) (by have t := tf_85_4 hI; omega) (by have t := tf_85_4 hI; omega); exfalso; omega⟩
  | succ n ih =>
    refine ⟨?_, ?_⟩
    · intro s0 I0 F0_ y1 b1 hy1 ry1 ex0 ex1 hm; have gh0 := tf_85_4 hI; have gh1 := g_2p_b (n := σ 85 4) (by have t := tf_85_4 hI; omega) (by have t := tf_85_4 hI; omega)
      refine h_iload_n (pc' := 3) rfl rfl rfl ?_
      refine h_aload_n (pc' := 4) rfl rfl rfl ?_
      refine h_call (sp := false) (pc' := 7) (M := [(0, .ref 85)]) rfl rfl rfl rfl rfl rfl rfl rfl ?_
      refine h_iconst (pc' := 1) (x := (Int32.ofInt 1)) rfl rfl rfl ?_
      refine h_aload_n (pc' := 2) rfl rfl rfl ?_
      refine h_getI (pc' := 5) (v := σ 85 4) rfl rfl rfl rfl rfl (F0_ 85 4 rfl) (fun z1 hz1 => ?_)
      have tz1 := tf_85_4 hI
      refine h_shl1 (pc' := 6) rfl rfl ci_1 hz1 (by omega) (by omega) (fun z2 hz2 vz2 => ?_)
      refine h_iconst (pc' := 7) (x := (Int32.ofInt 1)) rfl rfl rfl ?_
      refine h_isub (pc' := 8) rfl rfl rfl ci_1 rfl (by omega) (by omega) (fun z3 hz3 => ?_)
      refine h_iret rfl rfl (h_Kv ?_)
      refine h_cgt (tg := 46) (pc' := 10) rfl rfl rfl hy1 hz3 (fun c4 => ?_) (fun c4 => ?_)
      · refine h_aload_n (pc' := 47) rfl rfl rfl ?_
        refine h_aload_n (pc' := 48) rfl rfl rfl ?_
        refine h_call (sp := false) (pc' := 51) (M := [(0, .ref 85)]) rfl rfl rfl rfl rfl rfl rfl rfl ?_
        refine h_iconst (pc' := 1) (x := (Int32.ofInt 1)) rfl rfl rfl ?_
        refine h_aload_n (pc' := 2) rfl rfl rfl ?_
        refine h_getI (pc' := 5) (v := σ 85 4) rfl rfl rfl rfl rfl (F0_ 85 4 rfl) (fun z5 hz5 => ?_)
        have tz5 := tf_85_4 hI
        refine h_shl1 (pc' := 6) rfl rfl ci_1 hz5 (by omega) (by omega) (fun z6 hz6 vz6 => ?_)
        refine h_iconst (pc' := 7) (x := (Int32.ofInt 1)) rfl rfl rfl ?_
        refine h_isub (pc' := 8) rfl rfl rfl ci_1 rfl (by omega) (by omega) (fun z7 hz7 => ?_)
        refine h_iret rfl rfl (h_Kv ?_)
        refine h_bipush (pc' := 53) (x := (Int32.ofInt 6)) rfl rfl cb_6 ?_
        refine h_call (sp := false) (pc' := 56) (M := [(0, .ref 85), (1, .int z7), (2, .int (Int32.ofInt 6))]) rfl rfl rfl rfl rfl rfl rfl rfl ?_
        refine n_row _ I0 z7 _ hz7 (by omega) (Int32.ofInt 6) _ ci_6 (by omega) (fun p p0 p1 d => by rw [show s0 85 4 = σ 85 4 from F0_ 85 4 rfl] at p1; have gs := g_2p_of hz6 hz5; exact g_tb_p (by omega) ex0 (by omega) (by omega) (by omega) p p0 (by omega) d) (fun s9 Is9 Gs9 ps9_0 => h_Kn ?_)
        have Fs9 := (Gs9.mono (B := kf_n_chart) rfl).tr F0_
        have es9_0 : s9 98 13 = s0 98 13 := (Gs9 98 13 rfl).trans rfl
        exact h_vret rfl rfl (kk _ Is9 Fs9 (by have gs := g_2p_of hz6 hz5; have gb := g_2p_b (n := σ 85 4) (by omega) (by omega); have gr := ps9_0; rw [show s0 86 = σ 86 from (funext (fun j => F0_ 86 j rfl)), show s0 85 4 = σ 85 4 from F0_ 85 4 rfl] at gr; rw [gr, g_set_p (by omega), g_rw_T (by omega) ex0 (by omega) (by omega) (by omega), show z6.toInt - 1 = g_2p (σ 85 4) - 1 by omega]; exact g_T_e (fun _ _ _ _ _ _ => rfl) 6 _ _ 6 6 (fun q q0 q1 => ⟨g_ev (by omega) (by omega) q0 (by omega), rfl⟩)))
      · refine h_iconst (pc' := 11) (x := (Int32.ofInt 0)) rfl rfl rfl ?_
        refine h_istore_n (pc' := 12) (M := [(2, .int (Int32.ofInt 0)), (0, .ref 85), (1, .int y1)]) rfl rfl rfl rfl ?_
        exact h_wk [(0, .ref 85), (1, .int y1), (2, .int (Int32.ofInt 0))] ⟨rfl, rfl, rfl, trivial⟩ (ih.2 _ I0 F0_ y1 _ hy1 (by omega) (Int32.ofInt 0) _ ci_0 (by omega) ex0 (by have gs := g_2p_of hz2 hz1; have gb := g_2p_b (n := σ 85 4) (by omega) (by omega); omega) (by omega) (by omega))
    · intro s0 I0 F0_ y1 b1 hy1 ry1 y2 b2 hy2 ry2 ex0 ex1 ex2 hm; have gh0 := tf_85_4 hI; have gh1 := g_2p_b (n := σ 85 4) (by have t := tf_85_4 hI; omega) (by have t := tf_85_4 hI; omega)
      refine h_iload_n (pc' := 13) rfl rfl rfl ?_
      refine h_aload_n (pc' := 14) rfl rfl rfl ?_
      refine h_getI (pc' := 17) (v := σ 85 4) rfl rfl rfl rfl rfl (F0_ 85 4 rfl) (fun z1 hz1 => ?_)
      have tz1 := tf_85_4 hI
      refine h_cge (tg := 40) (pc' := 20) rfl rfl rfl hy2 hz1 (fun c2 => ?_) (fun c2 => ?_)
      · refine h_iinc (pc' := 43) (M := fun z3 => [(1, .int z3), (0, .ref 85), (2, .int y2)]) rfl rfl rfl rfl hy1 ci_1 rfl (by omega) (by omega) (fun _ => rfl) (fun z3 hz3 => ?_)
        refine h_goto (pc' := 2) rfl rfl ?_
        exact h_wk [(0, .ref 85), (1, .int z3)] ⟨rfl, rfl, trivial⟩ (ih.1 _ I0 F0_ z3 _ hz3 (by omega) (g_tb_r ex0 rfl (by omega)) (by have gb := g_2p_b (n := σ 85 4) (by omega) (by omega); omega) (by omega))
      · refine h_iload_n (pc' := 21) rfl rfl rfl ?_
        refine h_iload_n (pc' := 22) rfl rfl rfl ?_
        refine h_calls (pc' := 25) (M := [(0, .int y1), (1, .int y2)]) rfl rfl rfl rfl rfl rfl ?_
        refine h_iload_n (pc' := 1) rfl rfl rfl ?_
        refine h_iload_n (pc' := 2) rfl rfl rfl ?_
        refine h_ishr (pc' := 3) rfl rfl (fun z4 hz4 => ?_)
        refine h_iconst (pc' := 4) (x := (Int32.ofInt 1)) rfl rfl rfl ?_
        refine h_iand (pc' := 5) rfl rfl (fun z5 hz5 uz5 vz5 => ?_)
        clear uz5
        rw [ci_1] at vz5
        have yz5 := vz5 (by omega)
        refine h_zeq (tg := 12) (pc' := 8) rfl rfl rfl rfl (fun c6 => ?_) (fun c6 => ?_)
        · refine h_iconst (pc' := 13) (x := (Int32.ofInt 0)) rfl rfl rfl ?_
          refine h_zret rfl rfl ci_0 (by omega) (h_Kv ?_)
          refine h_zne (tg := 34) (pc' := 28) rfl rfl rfl ci_0 (fun c7 => absurd c7 (by omega)) (fun c7 => ?_)
          refine h_aload_n (pc' := 29) rfl rfl rfl ?_
          refine h_iload_n (pc' := 30) rfl rfl rfl ?_
          refine h_iload_n (pc' := 31) rfl rfl rfl ?_
          refine h_call (sp := false) (pc' := 34) (M := [(0, .ref 85), (1, .int y1), (2, .int y2)]) rfl rfl rfl rfl rfl rfl rfl rfl ?_
          refine n_row _ I0 y1 _ hy1 (by omega) y2 _ hy2 (by omega) (fun p p0 p1 d => by rw [show s0 85 4 = σ 85 4 from F0_ 85 4 rfl] at p1; exact g_tb_p (by omega) ex0 (by omega) (by omega) (by omega) p p0 (by omega) d) (fun s9 Is9 Gs9 ps9_0 => h_Kn ?_)
          have Fs9 := (Gs9.mono (B := kf_n_chart) rfl).tr F0_
          have es9_0 : s9 98 13 = s0 98 13 := (Gs9 98 13 rfl).trans rfl
          refine h_iinc (pc' := 37) (M := fun z10 => [(2, .int z10), (0, .ref 85), (1, .int y1)]) rfl rfl rfl rfl hy2 ci_1 rfl (by omega) (by omega) (fun _ => rfl) (fun z10 hz10 => ?_)
          refine h_goto (pc' := 12) rfl rfl ?_
          exact h_wk [(0, .ref 85), (1, .int y1), (2, .int z10)] ⟨rfl, rfl, rfl, trivial⟩ (ih.2 _ Is9 Fs9 y1 _ hy1 (by omega) z10 _ hz10 (by omega) (g_tb_y (by omega) ex0 (by omega) (by omega) (by omega) (by omega) (ps9_0.trans (by rw [show s0 86 = σ 86 from (funext (fun j => F0_ 86 j rfl)), show s0 85 4 = σ 85 4 from F0_ 85 4 rfl])) rfl rfl) ex1 (by omega) (by omega))
        · refine h_iconst (pc' := 9) (x := (Int32.ofInt 1)) rfl rfl rfl ?_
          refine h_goto (pc' := 13) rfl rfl ?_
          refine h_zret rfl rfl ci_1 (by omega) (h_Kv ?_)
          refine h_zne (tg := 34) (pc' := 28) rfl rfl rfl ci_1 (fun c11 => ?_) (fun c11 => absurd c11 (by omega))
          refine h_iinc (pc' := 37) (M := fun z12 => [(2, .int z12), (0, .ref 85), (1, .int y1)]) rfl rfl rfl rfl hy2 ci_1 rfl (by omega) (by omega) (fun _ => rfl) (fun z12 hz12 => ?_)
          refine h_goto (pc' := 12) rfl rfl ?_
          exact h_wk [(0, .ref 85), (1, .int y1), (2, .int z12)] ⟨rfl, rfl, rfl, trivial⟩ (ih.2 _ I0 F0_ y1 _ hy1 (by omega) z12 _ hz12 (by omega) (by have gz := g_hb_of hz5 hz4 hy2; rw [g_hb_bt (by omega) (by omega)] at gz; have gi : g_bi b1 b2 = g_bt y1 b2.toNat := (by unfold g_bi; rw [g_ofi hy1]); exact g_tb_n ex0 rfl (gi.trans (g_if_y gz (by omega)))) ex1 (by omega) (by omega))
set_option maxHeartbeats 100000000 in
set_option maxHeartbeats 100000000 in
theorem n_chart {ns : Nat} (σ : h_S) (hI : h_I σ) {Q : Option Value → h_S → Prop} (kk : ∀ (τ : h_S), h_I τ → h_F (k_in kf_n_chart) τ σ → (τ 87 ((g_2p (σ 85 4) - 1) * 7 + 6) = g_T (σ 85 4).toNat (fun l p => g_bi (σ 86 l) p) 6 (fun _ => true) 6) → Q none τ) : h_T g_P (g_Y ns) 33 0 [(0, .ref 85)] [] σ Q := by
  have F00 : h_F (k_in kf_n_chart) σ σ := h_F.rf
  refine h_iconst (pc' := 1) (x := (Int32.ofInt 0)) rfl rfl rfl ?_
  refine h_istore_n (pc' := 2) (M := [(1, .int (Int32.ofInt 0)), (0, .ref 85)]) rfl rfl rfl rfl ?_
  exact h_wk [(0, .ref 85), (1, .int (Int32.ofInt 0))] ⟨rfl, rfl, trivial⟩ ((n_chart_l ns σ hI  kk 1000000000000).1 _ hI F00 (Int32.ofInt 0) _ ci_0 (by omega) g_tb_0 (by have gb := g_2p_b (n := σ 85 4) (by omega) (by omega); omega) (by omega))
