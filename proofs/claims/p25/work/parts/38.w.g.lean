/-- the best of the pairs -/
def g_vp (n j : Int) : Bool := decide (j / 6 < j % 6 ∧ j % 6 < n)
def g_mf (V : Int → Int) (n b0 : Int) : Nat → Int × Int
  | 0 => (b0, -4)
  | k + 1 => if g_vp n (k : Int) = true ∧ (g_mf V n b0 k).1 < V (k : Int) then (V (k : Int), 10 * ((k : Int) / 6) + (k : Int) % 6) else g_mf V n b0 k
theorem g_mf_1 {V : Int → Int} {n b0 k : Int} (k0 : 0 ≤ k) : g_mf V n b0 (k + 1).toNat = if g_vp n k = true ∧ (g_mf V n b0 k.toNat).1 < V k then (V k, 10 * (k / 6) + k % 6) else g_mf V n b0 k.toNat := by
  rw [show (k + 1).toNat = k.toNat + 1 by omega]
  show (if g_vp n ((k.toNat : Nat) : Int) = true ∧ (g_mf V n b0 k.toNat).1 < V ((k.toNat : Nat) : Int) then (V ((k.toNat : Nat) : Int), 10 * (((k.toNat : Nat) : Int) / 6) + ((k.toNat : Nat) : Int) % 6) else g_mf V n b0 k.toNat) = _
  rw [show ((k.toNat : Nat) : Int) = k by omega]
theorem g_mf_e {V V' : Int → Int} {n b0 : Int} : ∀ m : Nat, (∀ k : Int, 0 ≤ k → k < m → g_vp n k = true → V k = V' k) → g_mf V n b0 m = g_mf V' n b0 m
  | 0, _ => rfl
  | m + 1, h => by
    show (if g_vp n (m : Int) = true ∧ (g_mf V n b0 m).1 < V (m : Int) then (V (m : Int), 10 * ((m : Int) / 6) + (m : Int) % 6) else g_mf V n b0 m) = (if g_vp n (m : Int) = true ∧ (g_mf V' n b0 m).1 < V' (m : Int) then (V' (m : Int), 10 * ((m : Int) / 6) + (m : Int) % 6) else g_mf V' n b0 m)
    rw [g_mf_e m (fun k a b => h k a (by omega))]
    by_cases z : g_vp n (m : Int) = true
    · rw [h (m : Int) (by omega) (by omega) z]
    · rw [if_neg (fun q => z q.1), if_neg (fun q => z q.1)]
theorem g_mf_k {V : Int → Int} {n b0 : Int} (k : Nat) : ∀ d : Nat, (∀ j : Int, k ≤ j → j < k + d → g_vp n j = false) → g_mf V n b0 (k + d) = g_mf V n b0 k
  | 0, _ => rfl
  | d + 1, h => by
    show (if g_vp n ((k + d : Nat) : Int) = true ∧ (g_mf V n b0 (k + d)).1 < V ((k + d : Nat) : Int) then (V ((k + d : Nat) : Int), 10 * (((k + d : Nat) : Int) / 6) + ((k + d : Nat) : Int) % 6) else g_mf V n b0 (k + d)) = g_mf V n b0 k
    rw [if_neg (fun q => by
      have z := q.1
      rw [h ((k + d : Nat) : Int) (by omega) (by omega)] at z
      exact Bool.noConfusion z)]
    exact g_mf_k k d (fun j a b => h j a (by omega))
def g_mi (R : Int → Int → Prop) (R0 : Int → Prop) (n k b w : Int) : Prop := ∃ (V : Int → Int) (b0 : Int), R0 b0 ∧ (∀ j, 0 ≤ j → j < k → g_vp n j = true → R j (V j)) ∧ (b, w) = g_mf V n b0 k.toNat
section MI
variable {R R' : Int → Int → Prop} {R0 R0' : Int → Prop} {n k k' b w b' w' v : Int}
theorem g_mi_0 (h : R0 b) (hk : k = 0) (hw : w = -4) : g_mi R R0 n k b w := by
  subst hk; subst hw
  exact ⟨fun _ => 0, b, h, fun j a c => by omega, rfl⟩
theorem g_mi_y (h : g_mi R R0 n k b w) (k0 : 0 ≤ k) (hk : k' = k + 1) (hv : R k v) (hp : g_vp n k = true) (hc : (b < v ∧ b' = v ∧ w' = 10 * (k / 6) + k % 6) ∨ (¬ b < v ∧ b' = b ∧ w' = w)) : g_mi R R0 n k' b' w' := by
  subst hk
  obtain ⟨V, b0, h0, h1, h2⟩ := h
  have e : g_mf (fun j => if j = k then v else V j) n b0 k.toNat = (b, w) := by
    rw [h2]
    refine g_mf_e k.toNat (fun j a c _ => ?_)
    show (if j = k then v else V j) = V j
    rw [if_neg (by omega)]
  refine ⟨fun j => if j = k then v else V j, b0, h0, fun j a c d => ?_, ?_⟩
  · show R j (if j = k then v else V j)
    by_cases z : j = k
    · rw [if_pos z, z]
      exact hv
    · rw [if_neg z]
      exact h1 j a (by omega) d
  · rw [g_mf_1 k0, e]
    show (b', w') = if g_vp n k = true ∧ b < (if k = k then v else V k) then (if k = k then v else V k, 10 * (k / 6) + k % 6) else (b, w)
    rw [if_pos (rfl : k = k)]
    rcases hc with ⟨c, d, f⟩ | ⟨c, d, f⟩
    · rw [if_pos ⟨hp, c⟩, d, f]
    · rw [if_neg (fun q => c q.2), d, f]
theorem g_mi_k (h : g_mi R R0 n k b w) (k0 : 0 ≤ k) (hk : k ≤ k') (hn : ∀ j, k ≤ j → j < k' → ¬ (j / 6 < j % 6 ∧ j % 6 < n)) : g_mi R R0 n k' b w := by
  obtain ⟨V, b0, h0, h1, h2⟩ := h
  have no : ∀ j, k ≤ j → j < k' → g_vp n j = false := fun j a c => decide_eq_false (hn j a c)
  refine ⟨V, b0, h0, fun j a c d => ?_, ?_⟩
  · by_cases z : j < k
    · exact h1 j a z d
    · rw [no j (by omega) c] at d
      exact Bool.noConfusion d
  · have e := g_mf_k (V := V) (n := n) (b0 := b0) k.toNat (k' - k).toNat (fun j a c => no j (by omega) (by omega))
    rw [show k.toNat + (k' - k).toNat = k'.toNat by omega] at e
    rw [e]
    exact h2
theorem g_mi_e (h : g_mi R R0 n k b w) (h' : g_mi R' R0' n k b' w') (e0 : ∀ x y, R0 x → R0' y → x = y) (e : ∀ j x y, 0 ≤ j → j < k → g_vp n j = true → R j x → R' j y → x = y) : b = b' ∧ w = w' := by
  obtain ⟨V, b0, h0, h1, h2⟩ := h
  obtain ⟨V', b0', h0', h1', h2'⟩ := h'
  have eb := e0 _ _ h0 h0'
  subst eb
  have z : (b, w) = (b', w') := by
    rw [h2, h2']
    exact g_mf_e k.toNat (fun j a c d => e j _ _ a (by omega) d (h1 j a (by omega) d) (h1' j a (by omega) d))
  exact ⟨congrArg Prod.fst z, congrArg Prod.snd z⟩
end MI
def g_mo (what b w : Int) : Int := if what = 0 ∨ w = -4 then w else b
theorem g_mo_of {what b w z : Int} (hz : ((what = 0 ∨ w = -4) ∧ z = w) ∨ (¬ (what = 0 ∨ w = -4) ∧ z = b)) : z = g_mo what b w := by
  unfold g_mo
  rcases hz with c | c
  · rw [if_pos c.1]
    exact c.2
  · rw [if_neg c.1]
    exact c.2
