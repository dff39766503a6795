def g_cb (x q : Int) : Int := ((Int32.ofInt x) &&& (((Int32.ofInt 1) <<< ((Int32.ofInt q) &&& 31)) ^^^ (Int32.ofInt (-1)))).toInt
theorem g_cb_lt {x q : Int} (x0 : 0 ≤ x) (x6 : x ≤ 63) (q0 : 0 ≤ q) (q5 : q ≤ 5) (h : g_bi x q = true) : 0 ≤ g_cb x q ∧ g_cb x q < x := by
  have z := g_cl' ⟨x.toNat, by omega⟩ ⟨q.toNat, by omega⟩
  have ex : ((x.toNat : Nat) : Int) = x := by omega
  have eq : ((q.toNat : Nat) : Int) = q := by omega
  have z' : g_bi ((x.toNat : Nat) : Int) ((q.toNat : Nat) : Int) = true → 0 ≤ g_cb ((x.toNat : Nat) : Int) ((q.toNat : Nat) : Int) ∧ g_cb ((x.toNat : Nat) : Int) ((q.toNat : Nat) : Int) < ((x.toNat : Nat) : Int) := z
  rw [ex, eq] at z'
  exact z' h
theorem g_cb_bi {x q r : Int} (q0 : 0 ≤ q) (q9 : q ≤ 9) (r0 : 0 ≤ r) (r9 : r ≤ 9) : g_bi (g_cb x q) r = (g_bi x r && !decide (r = q)) := by
  unfold g_bi g_cb
  rw [Int32.ofInt_toInt, g_bt_and, g_bt_xn _ (by omega), g_bt_sh q0 q9 (by omega), show ((r.toNat : Nat) : Int) = r by omega]
theorem g_cb_of {x q : Int} {z w u y : Int32} (hz : z = y &&& w) (hw : w = u ^^^ (Int32.ofInt (-1))) {t k : Int32} (hu : u = (Int32.ofInt 1) <<< (k &&& 31)) (hk : k.toInt = q) (hy : y.toInt = x) (ht : t = z) : t.toInt = g_cb x q := by
  unfold g_cb
  rw [ht, hz, hw, hu, g_ofi hk, g_ofi hy]
theorem g_hb_and {x b p : Int} {y w z : Int32} (hz : z = y &&& w) (hy : y.toInt = x) (hw : w.toInt = b) (p0 : 0 ≤ p) (p9 : p ≤ 9) : g_hb z p = if (g_bi x p && g_bi b p) = true then 1 else 0 := by
  rw [g_hb_bt p0 p9, hz, g_bt_and]
  unfold g_bi
  rw [g_ofi hy, g_ofi hw]
def g_tb (n : Nat) (E : Int → Int → Bool) (f : Int → Int) (k j : Int) : Prop := ∀ x p : Int, 0 ≤ x → 0 ≤ p → p < n → (x < k ∨ (x = k ∧ p < j)) → g_bi x p = false → f (x * 7 + p) = g_T n E 6 (fun q => g_bi x q) p
def g_rw (B f : Int → Int) (x l : Int) : Nat → Int := g_mx (fun p => g_bi x p && g_bi (B l) p) (fun p => f (g_cb x p * 7 + p) + 1)
theorem g_rw_v {n : Nat} {B f : Int → Int} {k x j : Int} (n6 : n ≤ 6) (h : g_tb n (fun l p => g_bi (B l) p) f k j) (x0 : 0 ≤ x) (x6 : x ≤ 63) (hx : x ≤ k) {p : Int} (p0 : 0 ≤ p) (p1 : p < n) (hp : g_bi x p = true) : f (g_cb x p * 7 + p) = g_T n (fun l p => g_bi (B l) p) 5 (fun q => g_bi x q && !decide (q = p)) p := by
  have c := g_cb_lt x0 x6 p0 (by omega) hp
  have e := h (g_cb x p) p c.1 p0 p1 (Or.inl (by omega)) (by rw [g_cb_bi p0 (by omega) p0 (by omega), decide_eq_true (show p = p from rfl)]; exact Bool.and_false _)
  rw [e]
  have e2 : g_T n (fun l p => g_bi (B l) p) 6 (fun q => g_bi (g_cb x p) q) p = g_T n (fun l p => g_bi (B l) p) 6 (fun q => g_bi x q && !decide (q = p)) p := g_T_e (fun _ _ _ _ _ _ => rfl) 6 _ _ p p (fun r r0 r1 => ⟨g_cb_bi p0 (by omega) r0 (by omega), rfl⟩)
  rw [e2]
  have ct := (g_ct_rm (S := fun q => g_bi x q) p0 hp n).1 p1
  have cl := g_ct_le (S := fun q => g_bi x q) n
  exact (g_T_s 5 (fun q => g_bi x q && !decide (q = p)) p (by omega)).symm
theorem g_rw_T {n : Nat} {B f : Int → Int} {k x j l : Int} (n6 : n ≤ 6) (h : g_tb n (fun l p => g_bi (B l) p) f k j) (x0 : 0 ≤ x) (x6 : x ≤ 63) (hx : x ≤ k) : g_rw B f x l n = g_T n (fun l p => g_bi (B l) p) 6 (fun q => g_bi x q) l := by
  show g_mx (fun p => g_bi x p && g_bi (B l) p) (fun p => f (g_cb x p * 7 + p) + 1) n = g_mx (fun p => g_bi x p && g_bi (B l) p) (fun p => g_T n (fun l p => g_bi (B l) p) 5 (fun q => g_bi x q && !decide (q = p)) p + 1) n
  refine g_mx_e n (fun p p0 p1 => ⟨rfl, fun hp => ?_⟩)
  have hp' : (g_bi x p && g_bi (B l) p) = true := hp
  rw [Bool.and_eq_true] at hp'
  show f (g_cb x p * 7 + p) + 1 = _ + 1
  rw [g_rw_v n6 h x0 x6 hx p0 p1 hp'.1]
theorem g_tb_0 {n : Nat} {E : Int → Int → Bool} {f : Int → Int} : g_tb n E f 0 0 := fun x p x0 p0 p1 c _ => by omega
theorem g_tb_r {n : Nat} {E : Int → Int → Bool} {f f' : Int → Int} {k j : Int} (h : g_tb n E f k j) (e : f' = f) (hj : n ≤ j) : g_tb n E f' (k + 1) 0 := fun x p x0 p0 p1 c d => by
  rw [e]
  exact h x p x0 p0 p1 (by omega) d
theorem g_tb_n {n : Nat} {E : Int → Int → Bool} {f f' : Int → Int} {k j : Int} (h : g_tb n E f k j) (e : f' = f) (hb : g_bi k j = true) : g_tb n E f' k (j + 1) := fun x p x0 p0 p1 c d => by
  rw [e]
  refine h x p x0 p0 p1 ?_ d
  by_cases z : x = k ∧ p = j
  · rw [z.1, z.2, hb] at d
    exact Bool.noConfusion d
  · omega
theorem g_tb_y {n : Nat} {B f f' : Int → Int} {k j e w : Int} (n6 : n ≤ 6) (h : g_tb n (fun l p => g_bi (B l) p) f k j) (k0 : 0 ≤ k) (k6 : k ≤ 63) (j0 : 0 ≤ j) (j6 : j ≤ 5) (hf : f' = g_set f e w) (he : e = k * 7 + j) (hw : w = g_rw B f k j n) : g_tb n (fun l p => g_bi (B l) p) f' k (j + 1) := fun x p x0 p0 p1 c d => by
  subst hf; subst he
  by_cases z : x = k ∧ p = j
  · rw [z.1, z.2, g_set_p rfl, hw]
    exact g_rw_T n6 h k0 k6 (by omega)
  · rw [g_set_n (by omega)]
    exact h x p x0 p0 p1 (by omega) d
