theorem g_ev_b : ∀ n : Fin 7, ∀ q : Fin 6, q.val < n.val → g_bi (((Int32.ofInt 1) <<< ((Int32.ofInt ((n.val : Nat) : Int)) &&& 31)).toInt - 1) ((q.val : Nat) : Int) = true := by decide +kernel
theorem g_rw_y {B f : Int → Int} {x l k b b' : Int} (h : b = g_rw B f x l k.toNat) (k0 : 0 ≤ k) (hc : (g_bi x k && g_bi (B l) k) = true) (hv : (b < f (g_cb x k * 7 + k) + 1 ∧ b' = f (g_cb x k * 7 + k) + 1) ∨ (f (g_cb x k * 7 + k) + 1 ≤ b ∧ b' = b)) : b' = g_rw B f x l (k + 1).toNat := by
  unfold g_rw at *
  rw [g_mx_i k0, if_pos hc, ← h]
  have d := g_M_d b (f (g_cb x k * 7 + k) + 1)
  show b' = g_Mx b (f (g_cb x k * 7 + k) + 1)
  omega
theorem g_rw_n {B f : Int → Int} {x l k b b' : Int} (h : b = g_rw B f x l k.toNat) (k0 : 0 ≤ k) (hc : (g_bi x k && g_bi (B l) k) = false) (hv : b' = b) : b' = g_rw B f x l (k + 1).toNat := by
  unfold g_rw at *
  rw [g_mx_i k0, if_neg (show ¬ (g_bi x k && g_bi (B l) k) = true by rw [hc]; decide), hv, h]
theorem g_tb_p {n : Nat} {B f : Int → Int} {k x j : Int} (n6 : n ≤ 6) (h : g_tb n (fun l p => g_bi (B l) p) f k j) (x0 : 0 ≤ x) (x6 : x ≤ 63) (hx : x ≤ k) : ∀ p : Int, 0 ≤ p → p < n → g_bi x p = true → 0 ≤ f (g_cb x p * 7 + p) ∧ f (g_cb x p * 7 + p) ≤ 6 := fun p p0 p1 d => by
  rw [g_rw_v n6 h x0 x6 hx p0 p1 d]
  have t := g_T_0 (n := n) (E := fun l p => g_bi (B l) p) 5 (fun q => g_bi x q && !decide (q = p)) p
  omega
theorem g_ev {n q : Int} (n0 : 0 ≤ n) (n6 : n ≤ 6) (q0 : 0 ≤ q) (q1 : q < n) : g_bi (g_2p n - 1) q = true := by
  have z : g_bi (g_2p ((n.toNat : Nat) : Int) - 1) ((q.toNat : Nat) : Int) = true := g_ev_b ⟨n.toNat, by omega⟩ ⟨q.toNat, by omega⟩ (by show q.toNat < n.toNat; omega)
  rw [show ((n.toNat : Nat) : Int) = n by omega, show ((q.toNat : Nat) : Int) = q by omega] at z
  exact z
theorem g_bi_bs {n p : Int} {c : Int → Bool} (n6 : n ≤ 6) (p0 : 0 ≤ p) (p1 : p < n) : g_bi ((g_bs n c 6 0 0).toInt) p = c p := by
  unfold g_bi
  rw [Int32.ofInt_toInt, g_bt_bs n6 6 0 0 (by omega) (by omega) p.toNat (by omega), g_bt_0, Bool.false_or, decide_eq_true (show (0 : Int) ≤ ((p.toNat : Nat) : Int) ∧ ((p.toNat : Nat) : Int) < n by omega), Bool.true_and, show ((p.toNat : Nat) : Int) = p by omega]
def g_nxb (z : Int32) (x b : Int) : Prop := ∀ p, 0 ≤ p → p ≤ 9 → g_hb z p = if (g_bi x p && g_bi b p) = true then 1 else 0
theorem g_lq_x {n p l r : Int} {d f : Int → Int} (hl : l = -4 ∨ (0 ≤ l ∧ l < n)) : g_lq n d f l r p = g_yX n d f p l r := by
  unfold g_lq g_yX
  by_cases c : l = -4
  · rw [decide_eq_true (show ¬ (0 ≤ l ∧ l < n) by omega), decide_eq_true c, Bool.true_or]
  · rw [decide_eq_false (show ¬ ¬ (0 ≤ l ∧ l < n) by omega), decide_eq_false c]
