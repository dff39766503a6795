/-- the table's longest is the search's -/
theorem g_TT {n m nf r R l0 L : Int} {D G f c d A B : Int → Int} (n0 : 0 ≤ n) (n6 : n ≤ 6) (gd : g_ph n 256 D G) (hf : g_FX n c d nf f) (hm : m = nf) (hfe : ∀ j, 0 ≤ j → j < nf → c j = A j ∧ d j = B j) (hl : l0 = L) (hL : l0 = -4 ∨ (0 ≤ l0 ∧ l0 < n)) (hr : r = R) (r9 : r ≤ 999) : g_T n.toNat (fun l p => g_lq n D f (if l = 6 then l0 else l) r p) 6 (fun _ => true) 6 = g_T n.toNat (fun l p => g_yM G A B m p l R) 7 (fun _ => true) L := by
  have e : ∀ l p, (l = -4 ∨ (0 ≤ l ∧ l < n)) → 0 ≤ p → p < n → g_lq n D f l r p = g_yM G A B m p l R := fun l p h p0 p1 => by
    rw [g_lq_x h, ← hr]
    exact g_y_eq gd n6 hf hm hfe h p0 p1 r9
  rw [g_T_s 6 (fun _ => true) 6 (by have z := g_ct_le (S := fun _ : Int => true) n.toNat; omega)]
  refine g_T_e (fun p q p0 p1 q0 q1 => ?_) 7 _ _ 6 L (fun p p0 p1 => ⟨rfl, ?_⟩)
  · show g_lq n D f (if p = 6 then l0 else p) r q = g_yM G A B m q p R
    rw [if_neg (by omega)]
    exact e p q (by omega) q0 (by omega)
  · show g_lq n D f (if (6 : Int) = 6 then l0 else 6) r p = g_yM G A B m p L R
    rw [if_pos rfl, e l0 p hL p0 (by omega), hl]
