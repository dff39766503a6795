/-- the search -/
def g_nd (row : Int → Int) (x : Int) : Nat → Bool
  | 0 => true
  | m + 1 => g_nd row x m && !decide (x = row (m : Int))
def g_pv (row : Int → Int) (L : Int) : Nat → Int
  | 0 => L
  | j + 1 => row (j : Int)
def g_lv (n : Nat) (E : Int → Int → Bool) (row : Int → Int) (L : Int) (j : Nat) : Int := g_mx (fun p => decide (row (j : Int) < p) && (g_nd row p j && E (g_pv row L j) p)) (fun p => g_T n E (6 - j) (fun x => g_nd row x j && !decide (x = p)) p + ((j : Int) + 1)) n
def g_rm (n : Nat) (E : Int → Int → Bool) (row : Int → Int) (L : Int) : Nat → Int
  | 0 => 0
  | j + 1 => g_Mx (g_rm n E row L j) (g_lv n E row L j)
section DFS
variable {n : Nat} {E : Int → Int → Bool} {row row' row1 : Int → Int} {L M most most' v a a' : Int}
theorem g_nd_e {x : Int} : ∀ m : Nat, (∀ k : Int, 0 ≤ k → k < m → row k = row' k) → g_nd row x m = g_nd row' x m
  | 0, _ => rfl
  | m + 1, h => by
    show (g_nd row x m && !decide (x = row (m : Int))) = (g_nd row' x m && !decide (x = row' (m : Int)))
    rw [g_nd_e m (fun k a b => h k a (by omega)), h (m : Int) (by omega) (by omega)]
theorem g_nd_t {x : Int} : ∀ m : Nat, (∀ k : Int, 0 ≤ k → k < m → ¬ x = row k) → g_nd row x m = true
  | 0, _ => rfl
  | m + 1, h => by
    show (g_nd row x m && !decide (x = row (m : Int))) = true
    rw [g_nd_t m (fun k a b => h k a (by omega)), decide_eq_false (h (m : Int) (by omega) (by omega))]
    rfl
theorem g_nd_f {x k : Int} (k0 : 0 ≤ k) (e : x = row k) : ∀ m : Nat, k < m → g_nd row x m = false
  | 0, h => by omega
  | m + 1, h => by
    show (g_nd row x m && !decide (x = row (m : Int))) = false
    by_cases c : k < (m : Int)
    · rw [g_nd_f k0 e m c, Bool.false_and]
    · rw [show (m : Int) = k by omega, decide_eq_true e]
      exact Bool.and_false _
theorem g_pv_e : ∀ m : Nat, (∀ k : Int, 0 ≤ k → k < m → row k = row' k) → g_pv row L m = g_pv row' L m
  | 0, _ => rfl
  | m + 1, h => h (m : Int) (by omega) (by omega)
theorem g_lv_e (j : Nat) (h : ∀ k : Int, 0 ≤ k → k ≤ j → row k = row' k) : g_lv n E row L j = g_lv n E row' L j := by
  have nd : ∀ x, g_nd row x j = g_nd row' x j := fun x => g_nd_e j (fun k a b => h k a (by omega))
  have pv : g_pv row L j = g_pv row' L j := g_pv_e j (fun k a b => h k a (by omega))
  unfold g_lv
  refine g_mx_e n (fun k k0 k1 => ⟨?_, fun _ => ?_⟩)
  · show (decide (row (j : Int) < k) && (g_nd row k j && E (g_pv row L j) k)) = (decide (row' (j : Int) < k) && (g_nd row' k j && E (g_pv row' L j) k))
    rw [h (j : Int) (by omega) (by omega), nd k, pv]
  · exact congrArg (fun S => g_T n E (6 - j) S k + ((j : Int) + 1)) (funext (fun x => by rw [nd x]))
theorem g_rm_e : ∀ j : Nat, (∀ k : Int, 0 ≤ k → k < j → row k = row' k) → g_rm n E row L j = g_rm n E row' L j
  | 0, _ => rfl
  | j + 1, h => by
    show g_Mx (g_rm n E row L j) (g_lv n E row L j) = g_Mx (g_rm n E row' L j) (g_lv n E row' L j)
    rw [g_rm_e j (fun k a b => h k a (by omega)), g_lv_e j (fun k a b => h k a (by omega))]
theorem g_rm_0 : ∀ j : Nat, 0 ≤ g_rm n E row L j
  | 0 => by
    show (0 : Int) ≤ 0
    omega
  | j + 1 => by
    have z := g_rm_0 j
    have d := g_M_d (g_rm n E row L j) (g_lv n E row L j)
    show 0 ≤ g_Mx (g_rm n E row L j) (g_lv n E row L j)
    omega
theorem g_ln_a {A : Nat} (h : g_Mx most (g_rm n E row L (A + 1)) = M) (h0 : 0 ≤ most) (ha : a = (A : Int)) (hr : row' = g_set row a v) (hv : v = row a + 1) (hn : (n : Int) ≤ v) (hm : most' = most) : g_Mx most' (g_rm n E row' L A) = M := by
  subst ha; subst hm
  have e1 : g_rm n E row' L A = g_rm n E row L A := g_rm_e A (fun k k0 k1 => by rw [hr, g_set_n (by omega)])
  have e2 : g_lv n E row L A = 0 := g_mx_f n (fun k k0 k1 => by
    show (decide (row (A : Int) < k) && (g_nd row k A && E (g_pv row L A) k)) = false
    rw [decide_eq_false (by omega), Bool.false_and])
  have h' : g_Mx most' (g_Mx (g_rm n E row L A) (g_lv n E row L A)) = M := h
  rw [e2] at h'
  rw [e1]
  have r0 := g_rm_0 (n := n) (E := E) (row := row) (L := L) A
  have d1 := g_M_d (g_rm n E row L A) 0
  have d2 := g_M_d most' (g_Mx (g_rm n E row L A) 0)
  have d3 := g_M_d most' (g_rm n E row L A)
  omega
theorem g_ln_c {A : Nat} (h : g_Mx most (g_rm n E row L (A + 1)) = M) (ha : a = (A : Int)) (hr : row' = g_set row a v) (hv : v = row a + 1) (hst : (g_nd row' v A && E (g_pv row' L A) v) = false) (hm : most' = most) : g_Mx most' (g_rm n E row' L (A + 1)) = M := by
  subst ha; subst hm; subst hv
  have lo : ∀ k : Int, 0 ≤ k → k < A → row' k = row k := fun k k0 k1 => by rw [hr, g_set_n (by omega)]
  have rA : row' (A : Int) = row (A : Int) + 1 := by rw [hr, g_set_p rfl]
  have nd : ∀ x, g_nd row' x A = g_nd row x A := fun x => g_nd_e A lo
  have pv : g_pv row' L A = g_pv row L A := g_pv_e A lo
  have e1 : g_rm n E row' L A = g_rm n E row L A := g_rm_e A lo
  have e2 : g_lv n E row' L A = g_lv n E row L A := by
    unfold g_lv
    refine g_mx_e n (fun k k0 k1 => ⟨?_, fun _ => ?_⟩)
    · show (decide (row' (A : Int) < k) && (g_nd row' k A && E (g_pv row' L A) k)) = (decide (row (A : Int) < k) && (g_nd row k A && E (g_pv row L A) k))
      by_cases z : k = row (A : Int) + 1
      · subst z
        rw [← nd, ← pv, hst, Bool.and_false, Bool.and_false]
      · rw [rA, nd k, pv, show decide (row (A : Int) + 1 < k) = decide (row (A : Int) < k) from decide_eq_decide.mpr (by omega)]
    · exact congrArg (fun S => g_T n E (6 - A) S k + ((A : Int) + 1)) (funext (fun x => by rw [nd x]))
  show g_Mx most' (g_Mx (g_rm n E row' L A) (g_lv n E row' L A)) = M
  rw [e1, e2]
  exact h
theorem g_ln_b {A : Nat} (hA : A ≤ 5) (h : g_Mx most (g_rm n E row L (A + 1)) = M) (ha : a = (A : Int)) (ha' : a' = (A : Int) + 1) (h1 : row1 = g_set row a v) (hr : row' = g_set row1 a' (-1)) (hv : v = row a + 1) (v0 : 0 ≤ v) (hn : v < (n : Int)) (hst : (g_nd row1 v A && E (g_pv row1 L A) v) = true) (hm : (most < (A : Int) + 1 ∧ most' = (A : Int) + 1) ∨ ((A : Int) + 1 ≤ most ∧ most' = most)) : g_Mx most' (g_rm n E row' L (A + 2)) = M := by
  subst ha; subst ha'; subst hv
  have lo : ∀ k : Int, 0 ≤ k → k < A → row' k = row k := fun k k0 k1 => by rw [hr, g_set_n (by omega), h1, g_set_n (by omega)]
  have lo1 : ∀ k : Int, 0 ≤ k → k < A → row1 k = row k := fun k k0 k1 => by rw [h1, g_set_n (by omega)]
  have rA : row' (A : Int) = row (A : Int) + 1 := by rw [hr, g_set_n (by omega), h1, g_set_p rfl]
  have rB : row' ((A : Int) + 1) = -1 := by rw [hr, g_set_p rfl]
  have nd : ∀ x, g_nd row' x A = g_nd row x A := fun x => g_nd_e A lo
  have pv : g_pv row' L A = g_pv row L A := g_pv_e A lo
  rw [g_nd_e A lo1, g_pv_e A lo1] at hst
  have e1 : g_rm n E row' L A = g_rm n E row L A := g_rm_e A lo
  have e2 : g_lv n E row' L A = g_mx (fun p => decide (row (A : Int) + 1 < p) && (g_nd row p A && E (g_pv row L A) p)) (fun p => g_T n E (6 - A) (fun x => g_nd row x A && !decide (x = p)) p + ((A : Int) + 1)) n := by
    unfold g_lv
    refine g_mx_e n (fun k k0 k1 => ⟨?_, fun _ => ?_⟩)
    · show (decide (row' (A : Int) < k) && (g_nd row' k A && E (g_pv row' L A) k)) = (decide (row (A : Int) + 1 < k) && (g_nd row k A && E (g_pv row L A) k))
      rw [rA, nd k, pv]
    · exact congrArg (fun S => g_T n E (6 - A) S k + ((A : Int) + 1)) (funext (fun x => by rw [nd x]))
  have e3 : g_lv n E row L A = g_Mx (g_T n E (6 - A) (fun x => g_nd row x A && !decide (x = row (A : Int) + 1)) (row (A : Int) + 1) + ((A : Int) + 1)) (g_lv n E row' L A) := by
    rw [e2]
    exact g_mx_p (r := row (A : Int)) (w := fun p => g_nd row p A && E (g_pv row L A) p) (v := fun p => g_T n E (6 - A) (fun x => g_nd row x A && !decide (x = p)) p + ((A : Int) + 1)) v0 hst n hn
  have e4 : g_Mx ((A : Int) + 1) (g_lv n E row' L (A + 1)) = g_T n E (6 - A) (fun x => g_nd row x A && !decide (x = row (A : Int) + 1)) (row (A : Int) + 1) + ((A : Int) + 1) := by
    obtain ⟨f, hf⟩ : ∃ f, 6 - A = f + 1 := ⟨5 - A, by omega⟩
    have hf2 : 6 - (A + 1) = f := by omega
    have q1 : row' (((A + 1 : Nat)) : Int) = -1 := by
      rw [show (((A + 1 : Nat)) : Int) = (A : Int) + 1 by omega]
      exact rB
    have q2 : ∀ x, g_nd row' x (A + 1) = (g_nd row x A && !decide (x = row (A : Int) + 1)) := fun x => by
      show (g_nd row' x A && !decide (x = row' (A : Int))) = _
      rw [nd x, rA]
    have q3 : g_pv row' L (A + 1) = row (A : Int) + 1 := rA
    have q4 : g_lv n E row' L (A + 1) = g_mx (fun p => (g_nd row p A && !decide (p = row (A : Int) + 1)) && E (row (A : Int) + 1) p) (fun p => (g_T n E f (fun x => (g_nd row x A && !decide (x = row (A : Int) + 1)) && !decide (x = p)) p + 1) + ((A : Int) + 1)) n := by
      unfold g_lv
      refine g_mx_e n (fun k k0 k1 => ⟨?_, fun _ => ?_⟩)
      · show (decide (row' (((A + 1 : Nat)) : Int) < k) && (g_nd row' k (A + 1) && E (g_pv row' L (A + 1)) k)) = ((g_nd row k A && !decide (k = row (A : Int) + 1)) && E (row (A : Int) + 1) k)
        rw [q1, q2, q3, decide_eq_true (by omega), Bool.true_and]
      · show g_T n E (6 - (A + 1)) (fun x => g_nd row' x (A + 1) && !decide (x = k)) k + ((((A + 1 : Nat)) : Int) + 1) = (g_T n E f (fun x => (g_nd row x A && !decide (x = row (A : Int) + 1)) && !decide (x = k)) k + 1) + ((A : Int) + 1)
        rw [hf2, show (fun x => g_nd row' x (A + 1) && !decide (x = k)) = (fun x => (g_nd row x A && !decide (x = row (A : Int) + 1)) && !decide (x = k)) from funext (fun x => by rw [q2 x])]
        omega
    rw [q4, hf, g_mx_b (v := fun p => g_T n E f (fun x => (g_nd row x A && !decide (x = row (A : Int) + 1)) && !decide (x = p)) p + 1) (by omega) n]
    rfl
  have h' : g_Mx most (g_Mx (g_rm n E row L A) (g_lv n E row L A)) = M := h
  rw [e3] at h'
  show g_Mx most' (g_Mx (g_Mx (g_rm n E row' L A) (g_lv n E row' L A)) (g_lv n E row' L (A + 1))) = M
  rw [e1]
  rw [← e4] at h'
  have hm' : most' = g_Mx most ((A : Int) + 1) := by
    have d := g_M_d most ((A : Int) + 1)
    omega
  generalize g_rm n E row L A = X at h' ⊢
  generalize g_lv n E row' L A = Y at h' ⊢
  generalize g_lv n E row' L (A + 1) = Z at h' ⊢
  rw [hm', ← h', g_M_a most, g_M_a X Y Z, g_M_a ((A : Int) + 1) Z Y, g_M_l X ((A : Int) + 1), g_M_c Z Y]
theorem g_ln_0 (h : row 0 = -1) (hm : most = 0) : g_Mx most (g_rm n E row L 1) = g_T n E 7 (fun _ => true) L := by
  subst hm
  have e : g_lv n E row L 0 = g_T n E 7 (fun _ => true) L := by
    show g_mx (fun p => decide (row ((0 : Nat) : Int) < p) && (true && E L p)) (fun p => g_T n E 6 (fun x => true && !decide (x = p)) p + (((0 : Nat) : Int) + 1)) n = g_mx (fun p => true && E L p) (fun p => g_T n E 6 (fun x => true && !decide (x = p)) p + 1) n
    refine g_mx_e n (fun k k0 k1 => ⟨?_, fun _ => rfl⟩)
    show (decide (row ((0 : Nat) : Int) < k) && (true && E L k)) = (true && E L k)
    rw [show row ((0 : Nat) : Int) = -1 from h, decide_eq_true (by omega), Bool.true_and]
  show g_Mx 0 (g_Mx 0 (g_lv n E row L 0)) = g_T n E 7 (fun _ => true) L
  rw [e]
  have t := (g_T_0 (n := n) (E := E) 7 (fun _ => true) L).1
  have d1 := g_M_d 0 (g_T n E 7 (fun _ => true) L)
  have d2 := g_M_d 0 (g_Mx 0 (g_T n E 7 (fun _ => true) L))
  omega
theorem g_ln_z (h : g_Mx most (g_rm n E row L 0) = M) (h0 : 0 ≤ most) : most = M := by
  have h' : g_Mx most 0 = M := h
  have d := g_M_d most 0
  omega
end DFS
