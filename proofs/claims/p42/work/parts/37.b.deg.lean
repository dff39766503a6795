/-! DEGREES: rows of 36 as functions -/
def g_set (f : Int → Int) (e v : Int) : Int → Int := fun j => if j = e then v else f j
theorem g_set_c {f f' : Int → Int} {e v : Int} (h : f = f') : g_set f e v = g_set f' e v := by rw [h]
theorem g_set_p {f : Int → Int} {e v j : Int} (h : j = e) : g_set f e v j = v := if_pos h
theorem g_set_n {f : Int → Int} {e v j : Int} (h : ¬ j = e) : g_set f e v j = f j := if_neg h
theorem h_upf {s s' : h_S} {q : Nat} {e v : Int} (u : s' = h_up s q e v) : s' q = g_set (s q) e v := funext (fun j => h_upi u j)
theorem h_upg {s s' : h_S} {q p : Nat} {e v : Int} (u : s' = h_up s q e v) (h : Nat.beq p q = false) : s' p = s p := funext (fun j => h_upo u h j)
def g_tie (k : Int) : Int := if k = 0 then 1 else if k = 1 then 2 else if k = 2 then 0 else 4
theorem g_tie_r (k : Int) : 0 ≤ g_tie k ∧ g_tie k ≤ 4 := by
  unfold g_tie
  split
  · omega
  · split
    · omega
    · split <;> omega
theorem g_tie_0 {k v : Int} (h : k = 0) (hv : v = 1) : v = g_tie k := by subst h; subst hv; rfl
theorem g_tie_1 {k v : Int} (h : k = 1) (hv : v = 2) : v = g_tie k := by subst h; subst hv; rfl
theorem g_tie_2 {k v : Int} (h : k = 2) (hv : v = 0) : v = g_tie k := by subst h; subst hv; rfl
theorem g_tie_3 {k v : Int} (h : k = 3) (hv : v = 4) : v = g_tie k := by subst h; subst hv; rfl
/-- the class's join -/
def g_jn (f : Int → Int) (p q v : Int) : Int → Int := if v < f (p * 6 + q) then g_set (g_set f (p * 6 + q) v) (q * 6 + p) v else f
theorem g_jn_y {f f' : Int → Int} {p q v e1 e2 v1 v2 : Int} (h : f' = g_set (g_set f e1 v1) e2 v2) (c : v < f (p * 6 + q)) (h1 : e1 = p * 6 + q) (h2 : e2 = q * 6 + p) (h3 : v1 = v) (h4 : v2 = v) : f' = g_jn f p q v := by
  subst h1; subst h2; subst h3; subst h4
  unfold g_jn
  rw [if_pos c]
  exact h
theorem g_jn_n {f : Int → Int} {p q v : Int} (c : f (p * 6 + q) ≤ v) : f = g_jn f p q v := by
  unfold g_jn
  rw [if_neg (by omega)]
/-- the reference's links -/
def g_mn (f : Int → Int) (k v : Int) : Int → Int := g_set f k (if v < f k then v else f k)
def g_lk (f : Int → Int) (p q v : Int) : Int → Int := g_mn (g_mn f (6 * p + q) v) (6 * q + p) v
theorem g_mn_y {f : Int → Int} {k v e w : Int} (he : e = k) (hc : v < f k) (hw : w = v) : g_set f e w = g_mn f k v := by
  subst he; subst hw
  unfold g_mn
  rw [if_pos hc]
theorem g_mn_n {f : Int → Int} {k v e w : Int} (he : e = k) (hc : f k ≤ v) (hw : w = f k) : g_set f e w = g_mn f k v := by
  subst he; subst hw
  unfold g_mn
  rw [if_neg (by omega)]
theorem g_mn_c {f f' : Int → Int} {k v : Int} (h : f = f') : g_mn f k v = g_mn f' k v := by rw [h]
/-- the class's rows of links -/
def g_l1 (n : Int) (par knd : Int → Int) : Nat → Int → (Int → Int) → (Int → Int)
  | 0, _, f => f
  | m + 1, p, f => if p < n then g_l1 n par knd m (p + 1) (if 0 ≤ par p ∧ par p < n then g_jn f p (par p) (g_tie (knd p)) else f) else f
def g_l2 (n : Int) (a b : Int → Int) : Nat → Int → (Int → Int) → (Int → Int)
  | 0, _, f => f
  | m + 1, i, f => if i < n then g_l2 n a b m (i + 1) (g_jn f (a i) (b i) 1) else f
def g_n1 (n : Int) (par knd : Int → Int) (m : Int) (a b : Int → Int) (p : Int) (f : Int → Int) : Int → Int := g_l2 m a b 3 0 (g_l1 n par knd (6 - p).toNat p f)
def g_n2 (m : Int) (a b : Int → Int) (i : Int) (f : Int → Int) : Int → Int := g_l2 m a b (3 - i).toNat i f
section DN
variable {n m : Int} {par knd a b f f' T : Int → Int} {p i : Int}
theorem g_n1_y (h : g_n1 n par knd m a b p f = T) (p0 : 0 ≤ p) (p1 : p < n) (p2 : n ≤ 6) {x v : Int} (hx : x = par p) (c0 : 0 ≤ x) (c1 : x < n) (hv : v = g_tie (knd p)) (hf : f' = g_jn f p x v) : g_n1 n par knd m a b (p + 1) f' = T := by
  subst hx; subst hv; subst hf
  rw [← h]
  unfold g_n1
  rw [show (6 - p).toNat = (6 - (p + 1)).toNat + 1 by omega]
  show _ = g_l2 m a b 3 0 (if p < n then g_l1 n par knd (6 - (p + 1)).toNat (p + 1) (if 0 ≤ par p ∧ par p < n then g_jn f p (par p) (g_tie (knd p)) else f) else f)
  rw [if_pos p1, if_pos ⟨c0, c1⟩]
theorem g_n1_n (h : g_n1 n par knd m a b p f = T) (p0 : 0 ≤ p) (p1 : p < n) (p2 : n ≤ 6) {x : Int} (hx : x = par p) (c : x < 0 ∨ n ≤ x) (hf : f' = f) : g_n1 n par knd m a b (p + 1) f' = T := by
  subst hx; subst hf
  rw [← h]
  unfold g_n1
  rw [show (6 - p).toNat = (6 - (p + 1)).toNat + 1 by omega]
  show _ = g_l2 m a b 3 0 (if p < n then g_l1 n par knd (6 - (p + 1)).toNat (p + 1) (if 0 ≤ par p ∧ par p < n then g_jn f' p (par p) (g_tie (knd p)) else f') else f')
  rw [if_pos p1, if_neg (by omega)]
theorem g_n1_o (h : g_n1 n par knd m a b p f = T) (p1 : n ≤ p) (hf : f' = f) : g_n2 m a b 0 f' = T := by
  subst hf
  rw [← h]
  unfold g_n1 g_n2
  have e : g_l1 n par knd (6 - p).toNat p f' = f' := by
    cases (6 - p).toNat with
    | zero => rfl
    | succ k =>
      show (if p < n then _ else f') = f'
      rw [if_neg (by omega)]
  rw [e]
  rfl
theorem g_n2_y (h : g_n2 m a b i f = T) (i0 : 0 ≤ i) (i1 : i < m) (i2 : m ≤ 3) {x y : Int} (hx : x = a i) (hy : y = b i) (hf : f' = g_jn f x y 1) : g_n2 m a b (i + 1) f' = T := by
  subst hx; subst hy; subst hf
  rw [← h]
  unfold g_n2
  rw [show (3 - i).toNat = (3 - (i + 1)).toNat + 1 by omega]
  show _ = (if i < m then g_l2 m a b (3 - (i + 1)).toNat (i + 1) (g_jn f (a i) (b i) 1) else f)
  rw [if_pos i1]
theorem g_n2_o (h : g_n2 m a b i f = T) (i1 : m ≤ i) (hf : f' = f) : f' = T := by
  subst hf
  rw [← h]
  unfold g_n2
  cases (3 - i).toNat with
  | zero => rfl
  | succ k =>
    show f' = (if i < m then _ else f')
    rw [if_neg (by omega)]
end DN
/-- the class's ways over a third -/
def g_x3 (n r p t : Int) : Nat → Int → (Int → Int) → (Int → Int)
  | 0, _, f => f
  | m + 1, q, f => if q < n ∧ t < 1000 then g_x3 n r p t m (q + 1) (if t + f (r * 6 + q) < f (p * 6 + q) then g_set f (p * 6 + q) (t + f (r * 6 + q)) else f) else f
def g_x2 (n r : Int) : Nat → Int → (Int → Int) → (Int → Int)
  | 0, _, f => f
  | m + 1, p, f => if p < n then g_x2 n r m (p + 1) (g_x3 n r p (f (p * 6 + r)) 6 0 f) else f
def g_x1 (n : Int) : Nat → Int → (Int → Int) → (Int → Int)
  | 0, _, f => f
  | m + 1, r, f => if r < n then g_x1 n m (r + 1) (g_x2 n r 6 0 f) else f
def g_w1 (n r : Int) (f : Int → Int) : Int → Int := g_x1 n (6 - r).toNat r f
def g_w2 (n r p : Int) (f : Int → Int) : Int → Int := g_w1 n (r + 1) (g_x2 n r (6 - p).toNat p f)
def g_w3 (n r p t q : Int) (f : Int → Int) : Int → Int := g_w2 n r (p + 1) (g_x3 n r p t (6 - q).toNat q f)
section DW
variable {n r p t q : Int} {f f' T : Int → Int}
theorem g_w1_y (h : g_w1 n r f = T) (r0 : 0 ≤ r) (r1 : r < n) (r2 : n ≤ 6) (hf : f' = f) : g_w2 n r 0 f' = T := by
  subst hf
  rw [← h]
  unfold g_w2 g_w1
  rw [show (6 - r).toNat = (6 - (r + 1)).toNat + 1 by omega]
  show _ = (if r < n then g_x1 n (6 - (r + 1)).toNat (r + 1) (g_x2 n r 6 0 f') else f')
  rw [if_pos r1]
  rfl
theorem g_w1_o (h : g_w1 n r f = T) (r1 : n ≤ r) (hf : f' = f) : f' = T := by
  subst hf
  rw [← h]
  unfold g_w1
  cases (6 - r).toNat with
  | zero => rfl
  | succ k =>
    show f' = (if r < n then _ else f')
    rw [if_neg (by omega)]
theorem g_w2_y (h : g_w2 n r p f = T) (p0 : 0 ≤ p) (p1 : p < n) (p2 : n ≤ 6) (ht : t = f (p * 6 + r)) (hf : f' = f) : g_w3 n r p t 0 f' = T := by
  subst hf; subst ht
  rw [← h]
  unfold g_w3 g_w2
  rw [show (6 - p).toNat = (6 - (p + 1)).toNat + 1 by omega]
  show _ = g_w1 n (r + 1) (if p < n then g_x2 n r (6 - (p + 1)).toNat (p + 1) (g_x3 n r p (f' (p * 6 + r)) 6 0 f') else f')
  rw [if_pos p1]
  rfl
theorem g_w2_o (h : g_w2 n r p f = T) (p1 : n ≤ p) (hf : f' = f) : g_w1 n (r + 1) f' = T := by
  subst hf
  rw [← h]
  unfold g_w2
  have e : g_x2 n r (6 - p).toNat p f' = f' := by
    cases (6 - p).toNat with
    | zero => rfl
    | succ k =>
      show (if p < n then _ else f') = f'
      rw [if_neg (by omega)]
  rw [e]
theorem g_w3_y (h : g_w3 n r p t q f = T) (q0 : 0 ≤ q) (q1 : q < n) (q2 : n ≤ 6) (ht : t < 1000) {e v x : Int} (he : e = p * 6 + q) (hx : x = f (r * 6 + q)) (hv : v = t + x) (hc : v < f (p * 6 + q)) (hf : f' = g_set f e v) : g_w3 n r p t (q + 1) f' = T := by
  subst hf; subst hv; subst he; subst hx
  rw [← h]
  unfold g_w3
  rw [show (6 - q).toNat = (6 - (q + 1)).toNat + 1 by omega]
  show _ = g_w2 n r (p + 1) (if q < n ∧ t < 1000 then g_x3 n r p t (6 - (q + 1)).toNat (q + 1) (if t + f (r * 6 + q) < f (p * 6 + q) then g_set f (p * 6 + q) (t + f (r * 6 + q)) else f) else f)
  rw [if_pos ⟨q1, ht⟩, if_pos hc]
theorem g_w3_n (h : g_w3 n r p t q f = T) (q0 : 0 ≤ q) (q1 : q < n) (q2 : n ≤ 6) (ht : t < 1000) {x : Int} (hx : x = f (r * 6 + q)) (hc : f (p * 6 + q) ≤ t + x) (hf : f' = f) : g_w3 n r p t (q + 1) f' = T := by
  subst hf; subst hx
  rw [← h]
  unfold g_w3
  rw [show (6 - q).toNat = (6 - (q + 1)).toNat + 1 by omega]
  show _ = g_w2 n r (p + 1) (if q < n ∧ t < 1000 then g_x3 n r p t (6 - (q + 1)).toNat (q + 1) (if t + f' (r * 6 + q) < f' (p * 6 + q) then g_set f' (p * 6 + q) (t + f' (r * 6 + q)) else f') else f')
  rw [if_pos ⟨q1, ht⟩, if_neg (by omega)]
theorem g_w3_o (h : g_w3 n r p t q f = T) (c : n ≤ q ∨ 1000 ≤ t) (hf : f' = f) : g_w2 n r (p + 1) f' = T := by
  subst hf
  rw [← h]
  unfold g_w3
  have e : g_x3 n r p t (6 - q).toNat q f' = f' := by
    cases (6 - q).toNat with
    | zero => rfl
    | succ k =>
      show (if q < n ∧ t < 1000 then _ else f') = f'
      rw [if_neg (by omega)]
  rw [e]
end DW
/-- the rows before any link -/
def g_ix (n b c : Int) (f : Int → Int) : Prop := ∀ p q, 0 ≤ p → 0 ≤ q → (p < b ∧ q < n) ∨ (p = b ∧ q < c) → f (p * 6 + q) = if p = q then 0 else 1000
theorem g_ix_0 {n : Int} {f : Int → Int} : g_ix n 0 0 f := fun p q a b c => by omega
theorem g_ix_e {n b c b' c' : Int} {f f' : Int → Int} (h : g_ix n b c f) (hf : f' = f) (hb : b' = b) (hc : c' = c) : g_ix n b' c' f' := by
  subst hf; subst hb; subst hc
  exact h
theorem g_ix_s {n b c e v : Int} {f f' : Int → Int} (h : g_ix n b c f) (b0 : 0 ≤ b) (c0 : 0 ≤ c) (c1 : c < n) (n6 : n ≤ 6) (he : e = b * 6 + c) (hv : (b = c ∧ v = 0) ∨ (¬ b = c ∧ v = 1000)) (hf : f' = g_set f e v) : g_ix n b (c + 1) f' := by
  subst hf; subst he
  intro p q p0 q0 z
  by_cases x : p = b ∧ q = c
  · obtain ⟨x1, x2⟩ := x
    subst x1; subst x2
    rw [g_set_p rfl]
    rcases hv with y | y
    · rw [if_pos y.1, y.2]
    · rw [if_neg y.1, y.2]
  · rw [g_set_n (by omega)]
    exact h p q p0 q0 (by omega)
theorem g_ix_r {n b c : Int} {f f' : Int → Int} (h : g_ix n b c f) (hc : n ≤ c) (hf : f' = f) : g_ix n (b + 1) 0 f' := by
  subst hf
  intro p q p0 q0 z
  exact h p q p0 q0 (by omega)
def g_DX (n : Int) (par knd : Int → Int) (m : Int) (a b F : Int → Int) : Prop := ∃ f0, g_ix n n 0 f0 ∧ F = g_w1 n 0 (g_n1 n par knd m a b 0 f0)
/-- the reference's rows -/
def g_im (c : Int) (f : Int → Int) : Prop := ∀ k, 0 ≤ k → k < c → f k = if k / 6 = k % 6 then 0 else 1000000
theorem g_im_0 {f : Int → Int} : g_im 0 f := fun k a b => by omega
theorem g_im_s {c e v : Int} {f f' : Int → Int} (h : g_im c f) (he : e = c) (hv : (c / 6 = c % 6 ∧ v = 0) ∨ (¬ c / 6 = c % 6 ∧ v = 1000000)) (hf : f' = g_set f e v) : g_im (c + 1) f' := by
  subst hf; subst he
  intro k k0 k1
  by_cases x : k = e
  · subst x
    rw [g_set_p rfl]
    rcases hv with y | y
    · rw [if_pos y.1, y.2]
    · rw [if_neg y.1, y.2]
  · rw [g_set_n x]
    exact h k k0 (by omega)
def g_q1 (n : Int) (S t : Int → Int) : Nat → Int → (Int → Int) → (Int → Int)
  | 0, _, f => f
  | m + 1, p, f => if p < n then g_q1 n S t m (p + 1) (if 0 < S (6 + p) then g_lk f p (S (6 + p) - 1) (t (S p)) else f) else f
def g_q2 (n : Int) (S : Int → Int) : Nat → Int → (Int → Int) → (Int → Int)
  | 0, _, f => f
  | m + 1, i, f => if i < n then g_q2 n S m (i + 1) (g_lk f (S (12 + 2 * i)) (S (12 + 2 * i + 1)) 1) else f
def gd_m2 (r : Int) : Nat → Int → (Int → Int) → (Int → Int)
  | 0, _, f => f
  | m + 1, k, f => gd_m2 r m (k + 1) (g_mn f k (f (6 * (k / 6) + r) + f (6 * r + k % 6)))
def gd_m1 (n : Int) : Nat → Int → (Int → Int) → (Int → Int)
  | 0, _, f => f
  | m + 1, r, f => if r < n then gd_m1 n m (r + 1) (gd_m2 r 36 0 f) else f
def gd_v4 (n r : Int) (f : Int → Int) : Int → Int := gd_m1 n (6 - r).toNat r f
def gd_v5 (n r k : Int) (f : Int → Int) : Int → Int := gd_v4 n (r + 1) (gd_m2 r (36 - k).toNat k f)
def gd_v2 (n m : Int) (S : Int → Int) (i : Int) (f : Int → Int) : Int → Int := gd_v4 n 0 (g_q2 m S (3 - i).toNat i f)
def gd_v1 (n m : Int) (S t : Int → Int) (p : Int) (f : Int → Int) : Int → Int := gd_v2 n m S 0 (g_q1 n S t (6 - p).toNat p f)
section DV
variable {n m r p i k : Int} {S t f f' T : Int → Int}
theorem gd_v1_y (h : gd_v1 n m S t p f = T) (p0 : 0 ≤ p) (p1 : p < n) (p2 : n ≤ 6) {x v : Int} (hx : x = S (6 + p) - 1) (c : 0 ≤ x) (hv : v = t (S p)) (hf : f' = g_lk f p x v) : gd_v1 n m S t (p + 1) f' = T := by
  subst hf; subst hv; subst hx
  rw [← h]
  unfold gd_v1
  rw [show (6 - p).toNat = (6 - (p + 1)).toNat + 1 by omega]
  show _ = gd_v2 n m S 0 (if p < n then g_q1 n S t (6 - (p + 1)).toNat (p + 1) (if 0 < S (6 + p) then g_lk f p (S (6 + p) - 1) (t (S p)) else f) else f)
  rw [if_pos p1, if_pos (by omega)]
theorem gd_v1_n (h : gd_v1 n m S t p f = T) (p0 : 0 ≤ p) (p1 : p < n) (p2 : n ≤ 6) {x : Int} (hx : x = S (6 + p)) (c : x ≤ 0) (hf : f' = f) : gd_v1 n m S t (p + 1) f' = T := by
  subst hf; subst hx
  rw [← h]
  unfold gd_v1
  rw [show (6 - p).toNat = (6 - (p + 1)).toNat + 1 by omega]
  show _ = gd_v2 n m S 0 (if p < n then g_q1 n S t (6 - (p + 1)).toNat (p + 1) (if 0 < S (6 + p) then g_lk f' p (S (6 + p) - 1) (t (S p)) else f') else f')
  rw [if_pos p1, if_neg (by omega)]
theorem gd_v1_o (h : gd_v1 n m S t p f = T) (p1 : n ≤ p) (hf : f' = f) : gd_v2 n m S 0 f' = T := by
  subst hf
  rw [← h]
  unfold gd_v1
  have e : g_q1 n S t (6 - p).toNat p f' = f' := by
    cases (6 - p).toNat with
    | zero => rfl
    | succ k =>
      show (if p < n then _ else f') = f'
      rw [if_neg (by omega)]
  rw [e]
theorem gd_v2_y (h : gd_v2 n m S i f = T) (i0 : 0 ≤ i) (i1 : i < m) (i2 : m ≤ 3) {x y : Int} (hx : x = S (12 + 2 * i)) (hy : y = S (12 + 2 * i + 1)) (hf : f' = g_lk f x y 1) : gd_v2 n m S (i + 1) f' = T := by
  subst hf; subst hx; subst hy
  rw [← h]
  unfold gd_v2
  rw [show (3 - i).toNat = (3 - (i + 1)).toNat + 1 by omega]
  show _ = gd_v4 n 0 (if i < m then g_q2 m S (3 - (i + 1)).toNat (i + 1) (g_lk f (S (12 + 2 * i)) (S (12 + 2 * i + 1)) 1) else f)
  rw [if_pos i1]
theorem gd_v2_o (h : gd_v2 n m S i f = T) (i1 : m ≤ i) (hf : f' = f) : gd_v4 n 0 f' = T := by
  subst hf
  rw [← h]
  unfold gd_v2
  have e : g_q2 m S (3 - i).toNat i f' = f' := by
    cases (3 - i).toNat with
    | zero => rfl
    | succ k =>
      show (if i < m then _ else f') = f'
      rw [if_neg (by omega)]
  rw [e]
theorem gd_v4_y (h : gd_v4 n r f = T) (r0 : 0 ≤ r) (r1 : r < n) (r2 : n ≤ 6) (hf : f' = f) : gd_v5 n r 0 f' = T := by
  subst hf
  rw [← h]
  unfold gd_v5 gd_v4
  rw [show (6 - r).toNat = (6 - (r + 1)).toNat + 1 by omega]
  show _ = (if r < n then gd_m1 n (6 - (r + 1)).toNat (r + 1) (gd_m2 r 36 0 f') else f')
  rw [if_pos r1]
  rfl
theorem gd_v4_o (h : gd_v4 n r f = T) (r1 : n ≤ r) (hf : f' = f) : f' = T := by
  subst hf
  rw [← h]
  unfold gd_v4
  cases (6 - r).toNat with
  | zero => rfl
  | succ k =>
    show f' = (if r < n then _ else f')
    rw [if_neg (by omega)]
theorem gd_v5_s (h : gd_v5 n r k f = T) (k0 : 0 ≤ k) (k1 : k < 36) {x y w : Int} (hx : x = f (6 * (k / 6) + r)) (hy : y = f (6 * r + k % 6)) (hw : w = x + y) (hf : f' = g_mn f k w) : gd_v5 n r (k + 1) f' = T := by
  subst hf; subst hw; subst hx; subst hy
  rw [← h]
  unfold gd_v5
  rw [show (36 - k).toNat = (36 - (k + 1)).toNat + 1 by omega]
  rfl
theorem gd_v5_o (h : gd_v5 n r k f = T) (k1 : 36 ≤ k) (hf : f' = f) : gd_v4 n (r + 1) f' = T := by
  subst hf
  rw [← h]
  unfold gd_v5
  rw [show (36 - k).toNat = 0 by omega]
  rfl
end DV
def g_DM (n m : Int) (S t F : Int → Int) : Prop := ∃ f0, g_im 36 f0 ∧ F = gd_v1 n m S t 0 f0
theorem g_ix_x {n b : Int} {f : Int → Int} (h : g_ix n b 0 f) (hb : n ≤ b) : g_ix n n 0 f := fun p q p0 q0 z => h p q p0 q0 (by omega)
theorem g_im_x {c : Int} {f : Int → Int} (h : g_im c f) (hc : 36 ≤ c) : g_im 36 f := fun k k0 k1 => h k k0 (by omega)
theorem g_DX_mk {n n' k m m' : Int} {par par' knd knd' a a' b b' f0 F G : Int → Int} (h0 : g_ix n n 0 f0) (h : F = g_w1 n' 0 G) (hn : n' = n) (hG : G = g_n1 k par' knd' m' a' b' 0 f0) (hk : k = n) (e1 : par' = par) (e2 : knd' = knd) (e3 : m' = m) (e4 : a' = a) (e5 : b' = b) : g_DX n par knd m a b F := by
  subst hn; subst hk; subst e1; subst e2; subst e3; subst e4; subst e5; subst hG
  exact ⟨f0, h0, h⟩
theorem g_DM_e {n m : Int} {S t X Y : Int → Int} (h : g_DM n m S t X) (e : Y = X) : g_DM n m S t Y := e ▸ h
def kf_n_join : List Nat := [82943]
set_option maxHeartbeats 100000000 in
set_option maxHeartbeats 100000000 in
theorem n_join {ns : Nat} (σ : h_S) (hI : h_I σ) (x0 : Int32) (a0 : Int) (hx0 : x0.toInt = a0) (ra0 : 0 ≤ a0 ∧ a0 ≤ 5) (x1 : Int32) (a1 : Int) (hx1 : x1.toInt = a1) (ra1 : 0 ≤ a1 ∧ a1 ≤ 5) (x2 : Int32) (a2 : Int) (hx2 : x2.toInt = a2) (ra2 : 0 ≤ a2 ∧ a2 ≤ 4) {Q : Option Value → h_S → Prop} (kk : ∀ (τ : h_S), h_I τ → h_F (k_in kf_n_join) τ σ → (τ 80 = g_jn (σ 80) a0 a1 a2) → Q none τ) : h_T g_P (g_Y ns) 25 0 [(0, .ref 79), (1, .int x0), (2, .int x1), (3, .int x2)] [] σ Q := by
  have F00 : h_F (k_in kf_n_join) σ σ := h_F.rf
  refine h_iload_n (pc' := 1) rfl rfl rfl ?_
  refine h_aload_n (pc' := 2) rfl rfl rfl ?_
  refine h_getR (pc' := 5) rfl rfl rfl rfl rfl ?_
  refine h_iload_n (pc' := 6) rfl rfl rfl ?_
  refine h_bipush (pc' := 8) (x := (Int32.ofInt 6)) rfl rfl cb_6 ?_
  refine h_imul (pc' := 9) rfl rfl hx0 ci_6 rfl (by omega) (by omega) (fun z1 hz1 => ?_)
  refine h_iload_n (pc' := 10) rfl rfl rfl ?_
  refine h_iadd (pc' := 11) rfl rfl hz1 hx1 rfl (by omega) (by omega) (fun z2 hz2 => ?_)
  refine h_iald (pc' := 12) (v := σ 80 ((a0 * 6) + a1)) rfl rfl rfl hz2 (by omega) (by omega) rfl (fun z3 hz3 => ?_)
  have tz3 := ty_80 hI ((a0 * 6) + a1)
  refine h_cge (tg := 39) (pc' := 15) rfl rfl rfl hx2 hz3 (fun c4 => ?_) (fun c4 => ?_)
  · exact h_vret rfl rfl (kk _ hI F00 (g_jn_n (by omega)))
  · refine h_aload_n (pc' := 16) rfl rfl rfl ?_
    refine h_getR (pc' := 19) rfl rfl rfl rfl rfl ?_
    refine h_iload_n (pc' := 20) rfl rfl rfl ?_
    refine h_bipush (pc' := 22) (x := (Int32.ofInt 6)) rfl rfl cb_6 ?_
    refine h_imul (pc' := 23) rfl rfl hx0 ci_6 rfl (by omega) (by omega) (fun z5 hz5 => ?_)
    refine h_iload_n (pc' := 24) rfl rfl rfl ?_
    refine h_iadd (pc' := 25) rfl rfl hz5 hx1 rfl (by omega) (by omega) (fun z6 hz6 => ?_)
    refine h_iload_n (pc' := 26) rfl rfl rfl ?_
    refine h_iast (pc' := 27) rfl rfl rfl rfl hz6 (by omega) (by omega) hx2 (h_fgt (E := fun s => s 98 13 = σ 98 13 ∧ s = h_up σ 80 ((a0 * 6) + a1) a2) _ (in_80 hI (by omega)) (F00.up rfl) ⟨rfl, rfl⟩ (fun s7 Is7 Fs7 (es7 : s7 98 13 = σ 98 13 ∧ s7 = h_up σ 80 ((a0 * 6) + a1) a2) => ?_))
    have us7 := es7.2
    refine h_aload_n (pc' := 28) rfl rfl rfl ?_
    refine h_getR (pc' := 31) rfl rfl rfl rfl rfl ?_
    refine h_iload_n (pc' := 32) rfl rfl rfl ?_
    refine h_bipush (pc' := 34) (x := (Int32.ofInt 6)) rfl rfl cb_6 ?_
    refine h_imul (pc' := 35) rfl rfl hx1 ci_6 rfl (by omega) (by omega) (fun z8 hz8 => ?_)
    refine h_iload_n (pc' := 36) rfl rfl rfl ?_
    refine h_iadd (pc' := 37) rfl rfl hz8 hx0 rfl (by omega) (by omega) (fun z9 hz9 => ?_)
    refine h_iload_n (pc' := 38) rfl rfl rfl ?_
    refine h_iast (pc' := 39) rfl rfl rfl rfl hz9 (by omega) (by omega) hx2 (h_fgt (E := fun s => s 98 13 = σ 98 13 ∧ s = h_up s7 80 ((a1 * 6) + a0) a2) _ (in_80 Is7 (by omega)) (Fs7.up rfl) ⟨es7.1, rfl⟩ (fun s10 Is10 Fs10 (es10 : s10 98 13 = σ 98 13 ∧ s10 = h_up s7 80 ((a1 * 6) + a0) a2) => ?_))
    clear es7
    have us10 := es10.2
    exact h_vret rfl rfl (kk _ Is10 Fs10 (g_jn_y (f := σ 80) ((h_upf us10).trans (g_set_c (h_upf us7))) (by omega) rfl rfl rfl rfl))
def kf_n_shorten : List Nat := [82943]
set_option maxHeartbeats 100000000 in
set_option maxHeartbeats 100000000 in
theorem n_shorten_l (ns : Nat) (σ : h_S) (hI : h_I σ) {Q : Option Value → h_S → Prop} (kk : ∀ (τ : h_S), h_I τ → h_F (k_in kf_n_shorten) τ σ → (τ 80 = g_w1 (σ 79 2) 0 (σ 80)) → Q none τ) : ∀ n : Nat, (∀ (s0 : h_S), h_I s0 → h_F (k_in kf_n_shorten) s0 σ → ∀ (y1 : Int32) (b1 : Int), y1.toInt = b1 → (0 ≤ b1 ∧ b1 ≤ 6) → (g_w1 (σ 79 2) b1 (s0 80) = g_w1 (σ 79 2) 0 (σ 80)) → (6 + 1 - b1) * 1000000 + 1000000000 ≤ (n : Int) → h_T g_P (g_Y ns) 26 2 [(0, .ref 79), (1, .int y1)] [] s0 Q) ∧ (∀ (s0 : h_S), h_I s0 → h_F (k_in kf_n_shorten) s0 σ → ∀ (y1 : Int32) (b1 : Int), y1.toInt = b1 → (0 ≤ b1 ∧ b1 ≤ 5) → ∀ (y2 : Int32) (b2 : Int), y2.toInt = b2 → (0 ≤ b2 ∧ b2 ≤ 6) → (b1 < σ 79 2) → (g_w2 (σ 79 2) b1 b2 (s0 80) = g_w1 (σ 79 2) 0 (σ 80)) → ((6 + 1 - b1) - 1) * 1000000 + 1000000000 + (6 + 1 - b2) * 1000 + 100000 ≤ (n : Int) → h_T g_P (g_Y ns) 26 12 [(0, .ref 79), (1, .int y1), (2, .int y2)] [] s0 Q) ∧ (∀ (s0 : h_S), h_I s0 → h_F (k_in kf_n_shorten) s0 σ → ∀ (y1 : Int32) (b1 : Int), y1.toInt = b1 → (0 ≤ b1 ∧ b1 ≤ 5) → ∀ (y2 : Int32) (b2 : Int), y2.toInt = b2 → (0 ≤ b2 ∧ b2 ≤ 5) → ∀ (y3 : Int32) (b3 : Int), y3.toInt = b3 → (0 ≤ b3 ∧ b3 ≤ 1000) → ∀ (y4 : Int32) (b4 : Int), y4.toInt = b4 → (0 ≤ b4 ∧ b4 ≤ 6) → (b1 < σ 79 2) → (b2 < σ 79 2) → (g_w3 (σ 79 2) b1 b2 b3 b4 (s0 80) = g_w1 (σ 79 2) 0 (σ 80)) → ((6 + 1 - b1) - 1) * 1000000 + 1000000000 + ((6 + 1 - b2) - 1) * 1000 + 100000 + (6 + 1 - b4) * 1 + 200 ≤ (n : Int) → h_T g_P (g_Y ns) 26 35 [(0, .ref 79), (1, .int y1), (2, .int y2), (3, .int y3), (4, .int y4)] [] s0 Q) := by
  intro n
  induction n with
  | zero => exact ⟨by intro s0 I0 F0_ y1 b1 hy1 ry1 ex0 hm; have gh0 := F0_ 79 2 rfl; have gh1 := tf_79_2 hI; exfalso; omega, by intro s0 I0 F0_ y1 b1 hy1 ry1 y2 b2 hy2 ry2 ex0 ex1 hm; have gh0 := F0_ 79 2 rfl; have gh1 := tf_79_2 hI; exfalso; omega, by intro s0 I0 F0_ y1 b1 hy1 ry1 y2 b2 hy2 ry2 y3 b3 hy3 ry3 y4 b4 hy4 ry4 ex0 ex1 ex2 hm; have gh0 := F0_ 79 2 rfl; have gh1 := tf_79_2 hI; exfalso; omega⟩
  | succ n ih =>
    refine ⟨?_, ?_, ?_⟩
    · intro s0 I0 F0_ y1 b1 hy1 ry1 ex0 hm; have gh0 := F0_ 79 2 rfl; have gh1 := tf_79_2 hI
      refine h_iload_n (pc' := 3) rfl rfl rfl ?_
      refine h_aload_n (pc' := 4) rfl rfl rfl ?_
      refine h_getI (pc' := 7) (v := σ 79 2) rfl rfl rfl rfl rfl (F0_ 79 2 rfl) (fun z1 hz1 => ?_)
      have tz1 := tf_79_2 hI
      refine h_cge (tg := 116) (pc' := 10) rfl rfl rfl hy1 hz1 (fun c2 => ?_) (fun c2 => ?_)
      · exact h_vret rfl rfl (kk _ I0 F0_ (g_w1_o ex0 (by omega) rfl))
      · refine h_iconst (pc' := 11) (x := (Int32.ofInt 0)) rfl rfl rfl ?_
        refine h_istore_n (pc' := 12) (M := [(2, .int (Int32.ofInt 0)), (0, .ref 79), (1, .int y1)]) rfl rfl rfl rfl ?_
        exact h_wk [(0, .ref 79), (1, .int y1), (2, .int (Int32.ofInt 0))] ⟨rfl, rfl, rfl, trivial⟩ (ih.2.1 _ I0 F0_ y1 _ hy1 (by omega) (Int32.ofInt 0) _ ci_0 (by omega) (by omega) (g_w1_y ex0 (by omega) (by omega) (by omega) rfl) (by omega))
    · intro s0 I0 F0_ y1 b1 hy1 ry1 y2 b2 hy2 ry2 ex0 ex1 hm; have gh0 := F0_ 79 2 rfl; have gh1 := tf_79_2 hI
      refine h_iload_n (pc' := 13) rfl rfl rfl ?_
      refine h_aload_n (pc' := 14) rfl rfl rfl ?_
      refine h_getI (pc' := 17) (v := σ 79 2) rfl rfl rfl rfl rfl (F0_ 79 2 rfl) (fun z1 hz1 => ?_)
      have tz1 := tf_79_2 hI
      refine h_cge (tg := 110) (pc' := 20) rfl rfl rfl hy2 hz1 (fun c2 => ?_) (fun c2 => ?_)
      · refine h_iinc (pc' := 113) (M := fun z3 => [(1, .int z3), (0, .ref 79), (2, .int y2)]) rfl rfl rfl rfl hy1 ci_1 rfl (by omega) (by omega) (fun _ => rfl) (fun z3 hz3 => ?_)
        refine h_goto (pc' := 2) rfl rfl ?_
        exact h_wk [(0, .ref 79), (1, .int z3)] ⟨rfl, rfl, trivial⟩ (ih.1 _ I0 F0_ z3 _ hz3 (by omega) (g_w2_o ex1 (by omega) rfl) (by omega))
      · refine h_aload_n (pc' := 21) rfl rfl rfl ?_
        refine h_getR (pc' := 24) rfl rfl rfl rfl rfl ?_
        refine h_iload_n (pc' := 25) rfl rfl rfl ?_
        refine h_bipush (pc' := 27) (x := (Int32.ofInt 6)) rfl rfl cb_6 ?_
        refine h_imul (pc' := 28) rfl rfl hy2 ci_6 rfl (by omega) (by omega) (fun z4 hz4 => ?_)
        refine h_iload_n (pc' := 29) rfl rfl rfl ?_
        refine h_iadd (pc' := 30) rfl rfl hz4 hy1 rfl (by omega) (by omega) (fun z5 hz5 => ?_)
        refine h_iald (pc' := 31) (v := s0 80 ((b2 * 6) + b1)) rfl rfl rfl hz5 (by omega) (by omega) rfl (fun z6 hz6 => ?_)
        have tz6 := ty_80 I0 ((b2 * 6) + b1)
        refine h_istore_n (pc' := 32) (M := [(3, .int z6), (0, .ref 79), (1, .int y1), (2, .int y2)]) rfl rfl rfl rfl ?_
        refine h_iconst (pc' := 33) (x := (Int32.ofInt 0)) rfl rfl rfl ?_
        refine h_istore (pc' := 35) (M := [(4, .int (Int32.ofInt 0)), (3, .int z6), (0, .ref 79), (1, .int y1), (2, .int y2)]) rfl rfl rfl rfl ?_
        exact h_wk [(0, .ref 79), (1, .int y1), (2, .int y2), (3, .int z6), (4, .int (Int32.ofInt 0))] ⟨rfl, rfl, rfl, rfl, rfl, trivial⟩ (ih.2.2 _ I0 F0_ y1 _ hy1 (by omega) y2 _ hy2 (by omega) z6 _ hz6 (by omega) (Int32.ofInt 0) _ ci_0 (by omega) (by omega) (by omega) (g_w2_y ex1 (by omega) (by omega) (by omega) rfl rfl) (by omega))
    · intro s0 I0 F0_ y1 b1 hy1 ry1 y2 b2 hy2 ry2 y3 b3 hy3 ry3 y4 b4 hy4 ry4 ex0 ex1 ex2 hm; have gh0 := F0_ 79 2 rfl; have gh1 := tf_79_2 hI
      refine h_iload (pc' := 37) rfl rfl rfl ?_
      refine h_aload_n (pc' := 38) rfl rfl rfl ?_
      refine h_getI (pc' := 41) (v := σ 79 2) rfl rfl rfl rfl rfl (F0_ 79 2 rfl) (fun z1 hz1 => ?_)
      have tz1 := tf_79_2 hI
      refine h_cge (tg := 104) (pc' := 44) rfl rfl rfl hy4 hz1 (fun c2 => ?_) (fun c2 => ?_)
      · refine h_iinc (pc' := 107) (M := fun z3 => [(2, .int z3), (0, .ref 79), (1, .int y1), (3, .int y3), (4, .int y4)]) rfl rfl rfl rfl hy2 ci_1 rfl (by omega) (by omega) (fun _ => rfl) (fun z3 hz3 => ?_)
        refine h_goto (pc' := 12) rfl rfl ?_
        exact h_wk [(0, .ref 79), (1, .int y1), (2, .int z3)] ⟨rfl, rfl, rfl, trivial⟩ (ih.2.1 _ I0 F0_ y1 _ hy1 (by omega) z3 _ hz3 (by omega) (by omega) (g_w3_o ex2 (by omega) rfl) (by omega))
      · refine h_iload_n (pc' := 45) rfl rfl rfl ?_
        refine h_sipush (pc' := 48) (x := (Int32.ofInt 1000)) rfl rfl cs_1000 ?_
        refine h_cge (tg := 104) (pc' := 51) rfl rfl rfl hy3 ci_1000 (fun c4 => ?_) (fun c4 => ?_)
        · refine h_iinc (pc' := 107) (M := fun z5 => [(2, .int z5), (0, .ref 79), (1, .int y1), (3, .int y3), (4, .int y4)]) rfl rfl rfl rfl hy2 ci_1 rfl (by omega) (by omega) (fun _ => rfl) (fun z5 hz5 => ?_)
          refine h_goto (pc' := 12) rfl rfl ?_
          exact h_wk [(0, .ref 79), (1, .int y1), (2, .int z5)] ⟨rfl, rfl, rfl, trivial⟩ (ih.2.1 _ I0 F0_ y1 _ hy1 (by omega) z5 _ hz5 (by omega) (by omega) (g_w3_o ex2 (by omega) rfl) (by omega))
        · refine h_iload_n (pc' := 52) rfl rfl rfl ?_
          refine h_aload_n (pc' := 53) rfl rfl rfl ?_
          refine h_getR (pc' := 56) rfl rfl rfl rfl rfl ?_
          refine h_iload_n (pc' := 57) rfl rfl rfl ?_
          refine h_bipush (pc' := 59) (x := (Int32.ofInt 6)) rfl rfl cb_6 ?_
          refine h_imul (pc' := 60) rfl rfl hy1 ci_6 rfl (by omega) (by omega) (fun z6 hz6 => ?_)
          refine h_iload (pc' := 62) rfl rfl rfl ?_
          refine h_iadd (pc' := 63) rfl rfl hz6 hy4 rfl (by omega) (by omega) (fun z7 hz7 => ?_)
          refine h_iald (pc' := 64) (v := s0 80 ((b1 * 6) + b4)) rfl rfl rfl hz7 (by omega) (by omega) rfl (fun z8 hz8 => ?_)
          have tz8 := ty_80 I0 ((b1 * 6) + b4)
          refine h_iadd (pc' := 65) rfl rfl hy3 hz8 rfl (by omega) (by omega) (fun z9 hz9 => ?_)
          refine h_istore (pc' := 67) (M := [(5, .int z9), (0, .ref 79), (1, .int y1), (2, .int y2), (3, .int y3), (4, .int y4)]) rfl rfl rfl rfl ?_
          refine h_iload (pc' := 69) rfl rfl rfl ?_
          refine h_aload_n (pc' := 70) rfl rfl rfl ?_
          refine h_getR (pc' := 73) rfl rfl rfl rfl rfl ?_
          refine h_iload_n (pc' := 74) rfl rfl rfl ?_
          refine h_bipush (pc' := 76) (x := (Int32.ofInt 6)) rfl rfl cb_6 ?_
          refine h_imul (pc' := 77) rfl rfl hy2 ci_6 rfl (by omega) (by omega) (fun z10 hz10 => ?_)
          refine h_iload (pc' := 79) rfl rfl rfl ?_
          refine h_iadd (pc' := 80) rfl rfl hz10 hy4 rfl (by omega) (by omega) (fun z11 hz11 => ?_)
          refine h_iald (pc' := 81) (v := s0 80 ((b2 * 6) + b4)) rfl rfl rfl hz11 (by omega) (by omega) rfl (fun z12 hz12 => ?_)
          have tz12 := ty_80 I0 ((b2 * 6) + b4)
          refine h_cge (tg := 98) (pc' := 84) rfl rfl rfl hz9 hz12 (fun c13 => ?_) (fun c13 => ?_)
          · refine h_iinc (pc' := 101) (M := fun z14 => [(4, .int z14), (5, .int z9), (0, .ref 79), (1, .int y1), (2, .int y2), (3, .int y3)]) rfl rfl rfl rfl hy4 ci_1 rfl (by omega) (by omega) (fun _ => rfl) (fun z14 hz14 => ?_)
            refine h_goto (pc' := 35) rfl rfl ?_
            exact h_wk [(0, .ref 79), (1, .int y1), (2, .int y2), (3, .int y3), (4, .int z14)] ⟨rfl, rfl, rfl, rfl, rfl, trivial⟩ (ih.2.2 _ I0 F0_ y1 _ hy1 (by omega) y2 _ hy2 (by omega) y3 _ hy3 (by omega) z14 _ hz14 (by omega) (by omega) (by omega) (g_w3_n ex2 (by omega) (by omega) (by omega) (by omega) rfl (by omega) rfl) (by omega))
          · refine h_aload_n (pc' := 85) rfl rfl rfl ?_
            refine h_getR (pc' := 88) rfl rfl rfl rfl rfl ?_
            refine h_iload_n (pc' := 89) rfl rfl rfl ?_
            refine h_bipush (pc' := 91) (x := (Int32.ofInt 6)) rfl rfl cb_6 ?_
            refine h_imul (pc' := 92) rfl rfl hy2 ci_6 rfl (by omega) (by omega) (fun z15 hz15 => ?_)
            refine h_iload (pc' := 94) rfl rfl rfl ?_
            refine h_iadd (pc' := 95) rfl rfl hz15 hy4 rfl (by omega) (by omega) (fun z16 hz16 => ?_)
            refine h_iload (pc' := 97) rfl rfl rfl ?_
            refine h_iast (pc' := 98) rfl rfl rfl rfl hz16 (by omega) (by omega) hz9 (h_fgt (E := fun s => s 98 13 = s0 98 13 ∧ s = h_up s0 80 ((b2 * 6) + b4) (b3 + (s0 80 ((b1 * 6) + b4)))) _ (in_80 I0 (by omega)) (F0_.up rfl) ⟨rfl, rfl⟩ (fun s17 Is17 Fs17 (es17 : s17 98 13 = s0 98 13 ∧ s17 = h_up s0 80 ((b2 * 6) + b4) (b3 + (s0 80 ((b1 * 6) + b4)))) => ?_))
            have us17 := es17.2
            refine h_iinc (pc' := 101) (M := fun z18 => [(4, .int z18), (5, .int z9), (0, .ref 79), (1, .int y1), (2, .int y2), (3, .int y3)]) rfl rfl rfl rfl hy4 ci_1 rfl (by omega) (by omega) (fun _ => rfl) (fun z18 hz18 => ?_)
            refine h_goto (pc' := 35) rfl rfl ?_
            exact h_wk [(0, .ref 79), (1, .int y1), (2, .int y2), (3, .int y3), (4, .int z18)] ⟨rfl, rfl, rfl, rfl, rfl, trivial⟩ (ih.2.2 _ Is17 Fs17 y1 _ hy1 (by omega) y2 _ hy2 (by omega) y3 _ hy3 (by omega) z18 _ hz18 (by omega) (by omega) (by omega) (g_w3_y ex2 (by omega) (by omega) (by omega) (by omega) rfl rfl rfl (by omega) (h_upf us17)) (by omega))
set_option maxHeartbeats 100000000 in
set_option maxHeartbeats 100000000 in
theorem n_shorten {ns : Nat} (σ : h_S) (hI : h_I σ) {Q : Option Value → h_S → Prop} (kk : ∀ (τ : h_S), h_I τ → h_F (k_in kf_n_shorten) τ σ → (τ 80 = g_w1 (σ 79 2) 0 (σ 80)) → Q none τ) : h_T g_P (g_Y ns) 26 0 [(0, .ref 79)] [] σ Q := by
  have F00 : h_F (k_in kf_n_shorten) σ σ := h_F.rf
  refine h_iconst (pc' := 1) (x := (Int32.ofInt 0)) rfl rfl rfl ?_
  refine h_istore_n (pc' := 2) (M := [(1, .int (Int32.ofInt 0)), (0, .ref 79)]) rfl rfl rfl rfl ?_
  exact h_wk [(0, .ref 79), (1, .int (Int32.ofInt 0))] ⟨rfl, rfl, trivial⟩ ((n_shorten_l ns σ hI  kk 1000000000000).1 _ hI F00 (Int32.ofInt 0) _ ci_0 (by omega) rfl (by omega))
def kf_n_links : List Nat := [108543]
set_option maxHeartbeats 100000000 in
set_option maxHeartbeats 100000000 in
theorem n_links {ns : Nat} (σ : h_S) (hI : h_I σ) (x0 : Int32) (a0 : Int) (hx0 : x0.toInt = a0) (ra0 : 0 ≤ a0 ∧ a0 ≤ 5) (x1 : Int32) (a1 : Int) (hx1 : x1.toInt = a1) (ra1 : 0 ≤ a1 ∧ a1 ≤ 5) (x2 : Int32) (a2 : Int) (hx2 : x2.toInt = a2) (ra2 : 0 ≤ a2 ∧ a2 ≤ 4) {Q : Option Value → h_S → Prop} (kk : ∀ (τ : h_S), h_I τ → h_F (k_in kf_n_links) τ σ → (τ 105 = g_lk (σ 105) a0 a1 a2) → Q none τ) : h_T g_P (g_Y ns) 161 0 [(0, .ref 98), (1, .int x0), (2, .int x1), (3, .int x2)] [] σ Q := by
  have F00 : h_F (k_in kf_n_links) σ σ := h_F.rf
  refine h_aload_n (pc' := 1) rfl rfl rfl ?_
  refine h_getR (pc' := 4) rfl rfl rfl rfl rfl ?_
  refine h_bipush (pc' := 6) (x := (Int32.ofInt 6)) rfl rfl cb_6 ?_
  refine h_iload_n (pc' := 7) rfl rfl rfl ?_
  refine h_imul (pc' := 8) rfl rfl ci_6 hx0 rfl (by omega) (by omega) (fun z1 hz1 => ?_)
  refine h_iload_n (pc' := 9) rfl rfl rfl ?_
  refine h_iadd (pc' := 10) rfl rfl hz1 hx1 rfl (by omega) (by omega) (fun z2 hz2 => ?_)
  refine h_iload_n (pc' := 11) rfl rfl rfl ?_
  refine h_aload_n (pc' := 12) rfl rfl rfl ?_
  refine h_getR (pc' := 15) rfl rfl rfl rfl rfl ?_
  refine h_bipush (pc' := 17) (x := (Int32.ofInt 6)) rfl rfl cb_6 ?_
  refine h_iload_n (pc' := 18) rfl rfl rfl ?_
  refine h_imul (pc' := 19) rfl rfl ci_6 hx0 rfl (by omega) (by omega) (fun z3 hz3 => ?_)
  refine h_iload_n (pc' := 20) rfl rfl rfl ?_
  refine h_iadd (pc' := 21) rfl rfl hz3 hx1 rfl (by omega) (by omega) (fun z4 hz4 => ?_)
  refine h_iald (pc' := 22) (v := σ 105 ((6 * a0) + a1)) rfl rfl rfl hz4 (by omega) (by omega) rfl (fun z5 hz5 => ?_)
  have tz5 := ty_105 hI ((6 * a0) + a1)
  refine h_cge (tg := 29) (pc' := 25) rfl rfl rfl hx2 hz5 (fun c6 => ?_) (fun c6 => ?_)
  · refine h_aload_n (pc' := 30) rfl rfl rfl ?_
    refine h_getR (pc' := 33) rfl rfl rfl rfl rfl ?_
    refine h_bipush (pc' := 35) (x := (Int32.ofInt 6)) rfl rfl cb_6 ?_
    refine h_iload_n (pc' := 36) rfl rfl rfl ?_
    refine h_imul (pc' := 37) rfl rfl ci_6 hx0 rfl (by omega) (by omega) (fun z7 hz7 => ?_)
    refine h_iload_n (pc' := 38) rfl rfl rfl ?_
    refine h_iadd (pc' := 39) rfl rfl hz7 hx1 rfl (by omega) (by omega) (fun z8 hz8 => ?_)
    refine h_iald (pc' := 40) (v := σ 105 ((6 * a0) + a1)) rfl rfl rfl hz8 (by omega) (by omega) rfl (fun z9 hz9 => ?_)
    have tz9 := ty_105 hI ((6 * a0) + a1)
    refine h_iast (pc' := 41) rfl rfl rfl rfl hz2 (by omega) (by omega) hz9 (h_fgt (E := fun s => s 98 13 = σ 98 13 ∧ s = h_up σ 105 ((6 * a0) + a1) (σ 105 ((6 * a0) + a1))) _ (in_105 hI (by omega)) (F00.up rfl) ⟨rfl, rfl⟩ (fun s10 Is10 Fs10 (es10 : s10 98 13 = σ 98 13 ∧ s10 = h_up σ 105 ((6 * a0) + a1) (σ 105 ((6 * a0) + a1))) => ?_))
    have us10 := es10.2
    refine h_aload_n (pc' := 42) rfl rfl rfl ?_
    refine h_getR (pc' := 45) rfl rfl rfl rfl rfl ?_
    refine h_bipush (pc' := 47) (x := (Int32.ofInt 6)) rfl rfl cb_6 ?_
    refine h_iload_n (pc' := 48) rfl rfl rfl ?_
    refine h_imul (pc' := 49) rfl rfl ci_6 hx1 rfl (by omega) (by omega) (fun z11 hz11 => ?_)
    refine h_iload_n (pc' := 50) rfl rfl rfl ?_
    refine h_iadd (pc' := 51) rfl rfl hz11 hx0 rfl (by omega) (by omega) (fun z12 hz12 => ?_)
    refine h_iload_n (pc' := 52) rfl rfl rfl ?_
    refine h_aload_n (pc' := 53) rfl rfl rfl ?_
    refine h_getR (pc' := 56) rfl rfl rfl rfl rfl ?_
    refine h_bipush (pc' := 58) (x := (Int32.ofInt 6)) rfl rfl cb_6 ?_
    refine h_iload_n (pc' := 59) rfl rfl rfl ?_
    refine h_imul (pc' := 60) rfl rfl ci_6 hx1 rfl (by omega) (by omega) (fun z13 hz13 => ?_)
    refine h_iload_n (pc' := 61) rfl rfl rfl ?_
    refine h_iadd (pc' := 62) rfl rfl hz13 hx0 rfl (by omega) (by omega) (fun z14 hz14 => ?_)
    refine h_iald (pc' := 63) (v := s10 105 ((6 * a1) + a0)) rfl rfl rfl hz14 (by omega) (by omega) rfl (fun z15 hz15 => ?_)
    have tz15 := ty_105 Is10 ((6 * a1) + a0)
    refine h_cge (tg := 70) (pc' := 66) rfl rfl rfl hx2 hz15 (fun c16 => ?_) (fun c16 => ?_)
    · refine h_aload_n (pc' := 71) rfl rfl rfl ?_
      refine h_getR (pc' := 74) rfl rfl rfl rfl rfl ?_
      refine h_bipush (pc' := 76) (x := (Int32.ofInt 6)) rfl rfl cb_6 ?_
      refine h_iload_n (pc' := 77) rfl rfl rfl ?_
      refine h_imul (pc' := 78) rfl rfl ci_6 hx1 rfl (by omega) (by omega) (fun z17 hz17 => ?_)
      refine h_iload_n (pc' := 79) rfl rfl rfl ?_
      refine h_iadd (pc' := 80) rfl rfl hz17 hx0 rfl (by omega) (by omega) (fun z18 hz18 => ?_)
      refine h_iald (pc' := 81) (v := s10 105 ((6 * a1) + a0)) rfl rfl rfl hz18 (by omega) (by omega) rfl (fun z19 hz19 => ?_)
      have tz19 := ty_105 Is10 ((6 * a1) + a0)
      refine h_iast (pc' := 82) rfl rfl rfl rfl hz12 (by omega) (by omega) hz19 (h_fgt (E := fun s => s 98 13 = σ 98 13 ∧ s = h_up s10 105 ((6 * a1) + a0) (s10 105 ((6 * a1) + a0))) _ (in_105 Is10 (by omega)) (Fs10.up rfl) ⟨es10.1, rfl⟩ (fun s20 Is20 Fs20 (es20 : s20 98 13 = σ 98 13 ∧ s20 = h_up s10 105 ((6 * a1) + a0) (s10 105 ((6 * a1) + a0))) => ?_))
      clear es10
      have us20 := es20.2
      exact h_vret rfl rfl (kk _ Is20 Fs20 (((h_upf us20).trans (show g_set _ _ _ = g_mn _ (6 * a1 + a0) a2 from (by first | exact g_mn_y rfl (by omega) rfl | exact g_mn_n rfl (by omega) rfl))).trans (g_mn_c ((h_upf us10).trans (show g_set _ _ _ = g_mn _ (6 * a0 + a1) a2 from (by first | exact g_mn_y rfl (by omega) rfl | exact g_mn_n rfl (by omega) rfl))))))
    · refine h_iload_n (pc' := 67) rfl rfl rfl ?_
      refine h_goto (pc' := 81) rfl rfl ?_
      refine h_iast (pc' := 82) rfl rfl rfl rfl hz12 (by omega) (by omega) hx2 (h_fgt (E := fun s => s 98 13 = σ 98 13 ∧ s = h_up s10 105 ((6 * a1) + a0) a2) _ (in_105 Is10 (by omega)) (Fs10.up rfl) ⟨es10.1, rfl⟩ (fun s21 Is21 Fs21 (es21 : s21 98 13 = σ 98 13 ∧ s21 = h_up s10 105 ((6 * a1) + a0) a2) => ?_))
      clear es10
      have us21 := es21.2
      exact h_vret rfl rfl (kk _ Is21 Fs21 (((h_upf us21).trans (show g_set _ _ _ = g_mn _ (6 * a1 + a0) a2 from (by first | exact g_mn_y rfl (by omega) rfl | exact g_mn_n rfl (by omega) rfl))).trans (g_mn_c ((h_upf us10).trans (show g_set _ _ _ = g_mn _ (6 * a0 + a1) a2 from (by first | exact g_mn_y rfl (by omega) rfl | exact g_mn_n rfl (by omega) rfl))))))
  · refine h_iload_n (pc' := 26) rfl rfl rfl ?_
    refine h_goto (pc' := 40) rfl rfl ?_
    refine h_iast (pc' := 41) rfl rfl rfl rfl hz2 (by omega) (by omega) hx2 (h_fgt (E := fun s => s 98 13 = σ 98 13 ∧ s = h_up σ 105 ((6 * a0) + a1) a2) _ (in_105 hI (by omega)) (F00.up rfl) ⟨rfl, rfl⟩ (fun s22 Is22 Fs22 (es22 : s22 98 13 = σ 98 13 ∧ s22 = h_up σ 105 ((6 * a0) + a1) a2) => ?_))
    have us22 := es22.2
    refine h_aload_n (pc' := 42) rfl rfl rfl ?_
    refine h_getR (pc' := 45) rfl rfl rfl rfl rfl ?_
    refine h_bipush (pc' := 47) (x := (Int32.ofInt 6)) rfl rfl cb_6 ?_
    refine h_iload_n (pc' := 48) rfl rfl rfl ?_
    refine h_imul (pc' := 49) rfl rfl ci_6 hx1 rfl (by omega) (by omega) (fun z23 hz23 => ?_)
    refine h_iload_n (pc' := 50) rfl rfl rfl ?_
    refine h_iadd (pc' := 51) rfl rfl hz23 hx0 rfl (by omega) (by omega) (fun z24 hz24 => ?_)
    refine h_iload_n (pc' := 52) rfl rfl rfl ?_
    refine h_aload_n (pc' := 53) rfl rfl rfl ?_
    refine h_getR (pc' := 56) rfl rfl rfl rfl rfl ?_
    refine h_bipush (pc' := 58) (x := (Int32.ofInt 6)) rfl rfl cb_6 ?_
    refine h_iload_n (pc' := 59) rfl rfl rfl ?_
    refine h_imul (pc' := 60) rfl rfl ci_6 hx1 rfl (by omega) (by omega) (fun z25 hz25 => ?_)
    refine h_iload_n (pc' := 61) rfl rfl rfl ?_
    refine h_iadd (pc' := 62) rfl rfl hz25 hx0 rfl (by omega) (by omega) (fun z26 hz26 => ?_)
    refine h_iald (pc' := 63) (v := s22 105 ((6 * a1) + a0)) rfl rfl rfl hz26 (by omega) (by omega) rfl (fun z27 hz27 => ?_)
    have tz27 := ty_105 Is22 ((6 * a1) + a0)
    refine h_cge (tg := 70) (pc' := 66) rfl rfl rfl hx2 hz27 (fun c28 => ?_) (fun c28 => ?_)
    · refine h_aload_n (pc' := 71) rfl rfl rfl ?_
      refine h_getR (pc' := 74) rfl rfl rfl rfl rfl ?_
      refine h_bipush (pc' := 76) (x := (Int32.ofInt 6)) rfl rfl cb_6 ?_
      refine h_iload_n (pc' := 77) rfl rfl rfl ?_
      refine h_imul (pc' := 78) rfl rfl ci_6 hx1 rfl (by omega) (by omega) (fun z29 hz29 => ?_)
      refine h_iload_n (pc' := 79) rfl rfl rfl ?_
      refine h_iadd (pc' := 80) rfl rfl hz29 hx0 rfl (by omega) (by omega) (fun z30 hz30 => ?_)
      refine h_iald (pc' := 81) (v := s22 105 ((6 * a1) + a0)) rfl rfl rfl hz30 (by omega) (by omega) rfl (fun z31 hz31 => ?_)
      have tz31 := ty_105 Is22 ((6 * a1) + a0)
      refine h_iast (pc' := 82) rfl rfl rfl rfl hz24 (by omega) (by omega) hz31 (h_fgt (E := fun s => s 98 13 = σ 98 13 ∧ s = h_up s22 105 ((6 * a1) + a0) (s22 105 ((6 * a1) + a0))) _ (in_105 Is22 (by omega)) (Fs22.up rfl) ⟨es22.1, rfl⟩ (fun s32 Is32 Fs32 (es32 : s32 98 13 = σ 98 13 ∧ s32 = h_up s22 105 ((6 * a1) + a0) (s22 105 ((6 * a1) + a0))) => ?_))
      clear es22
      have us32 := es32.2
      exact h_vret rfl rfl (kk _ Is32 Fs32 (((h_upf us32).trans (show g_set _ _ _ = g_mn _ (6 * a1 + a0) a2 from (by first | exact g_mn_y rfl (by omega) rfl | exact g_mn_n rfl (by omega) rfl))).trans (g_mn_c ((h_upf us22).trans (show g_set _ _ _ = g_mn _ (6 * a0 + a1) a2 from (by first | exact g_mn_y rfl (by omega) rfl | exact g_mn_n rfl (by omega) rfl))))))
    · refine h_iload_n (pc' := 67) rfl rfl rfl ?_
      refine h_goto (pc' := 81) rfl rfl ?_
      refine h_iast (pc' := 82) rfl rfl rfl rfl hz24 (by omega) (by omega) hx2 (h_fgt (E := fun s => s 98 13 = σ 98 13 ∧ s = h_up s22 105 ((6 * a1) + a0) a2) _ (in_105 Is22 (by omega)) (Fs22.up rfl) ⟨es22.1, rfl⟩ (fun s33 Is33 Fs33 (es33 : s33 98 13 = σ 98 13 ∧ s33 = h_up s22 105 ((6 * a1) + a0) a2) => ?_))
      clear es22
      have us33 := es33.2
      exact h_vret rfl rfl (kk _ Is33 Fs33 (((h_upf us33).trans (show g_set _ _ _ = g_mn _ (6 * a1 + a0) a2 from (by first | exact g_mn_y rfl (by omega) rfl | exact g_mn_n rfl (by omega) rfl))).trans (g_mn_c ((h_upf us22).trans (show g_set _ _ _ = g_mn _ (6 * a0 + a1) a2 from (by first | exact g_mn_y rfl (by omega) rfl | exact g_mn_n rfl (by omega) rfl))))))
def kf_n_lays : List Nat := [108543]
set_option maxHeartbeats 100000000 in
set_option maxHeartbeats 100000000 in
theorem n_lays_l (ns : Nat) (σ : h_S) (hI : h_I σ) {Q : Option Value → h_S → Prop} (kk : ∀ (τ : h_S), h_I τ → h_F (k_in kf_n_lays) τ σ → (g_DM (σ 98 1) (σ 99 18) (σ 99) (σ 100) (τ 105)) → Q none τ) : ∀ n : Nat, (∀ (s0 : h_S), h_I s0 → h_F (k_in kf_n_lays) s0 σ → ∀ (y2 : Int32) (b2 : Int), y2.toInt = b2 → (0 ≤ b2 ∧ b2 ≤ 36) → (g_im b2 (s0 105)) → (36 + 1 - b2) * 1000000 + 4000000000 ≤ (n : Int) → h_T g_P (g_Y ns) 162 2 [(0, .ref 98), (1, .int (Int32.ofInt 0)), (2, .int y2)] [] s0 Q) ∧ (∀ (s0 : h_S), h_I s0 → h_F (k_in kf_n_lays) s0 σ → ∀ (y2 : Int32) (b2 : Int), y2.toInt = b2 → (0 ≤ b2 ∧ b2 ≤ 6) → (g_DM (σ 98 1) (σ 99 18) (σ 99) (σ 100) (gd_v1 (σ 98 1) (σ 99 18) (σ 99) (σ 100) b2 (s0 105))) → (6 + 1 - b2) * 1000000 + 3000000000 ≤ (n : Int) → h_T g_P (g_Y ns) 162 39 [(0, .ref 98), (1, .int (Int32.ofInt 0)), (2, .int y2)] [] s0 Q) ∧ (∀ (s0 : h_S), h_I s0 → h_F (k_in kf_n_lays) s0 σ → ∀ (y2 : Int32) (b2 : Int), y2.toInt = b2 → (0 ≤ b2 ∧ b2 ≤ 3) → (g_DM (σ 98 1) (σ 99 18) (σ 99) (σ 100) (gd_v2 (σ 98 1) (σ 99 18) (σ 99) b2 (s0 105))) → (3 + 1 - b2) * 1000000 + 2000000000 ≤ (n : Int) → h_T g_P (g_Y ns) 162 100 [(0, .ref 98), (1, .int (Int32.ofInt 0)), (2, .int y2)] [] s0 Q) ∧ (∀ (s0 : h_S), h_I s0 → h_F (k_in kf_n_lays) s0 σ → ∀ (y2 : Int32) (b2 : Int), y2.toInt = b2 → (0 ≤ b2 ∧ b2 ≤ 6) → (g_DM (σ 98 1) (σ 99 18) (σ 99) (σ 100) (gd_v4 (σ 98 1) b2 (s0 105))) → (6 + 1 - b2) * 1000000 + 1000000000 ≤ (n : Int) → h_T g_P (g_Y ns) 162 157 [(0, .ref 98), (1, .int (Int32.ofInt 0)), (2, .int y2)] [] s0 Q) ∧ (∀ (s0 : h_S), h_I s0 → h_F (k_in kf_n_lays) s0 σ → ∀ (y2 : Int32) (b2 : Int), y2.toInt = b2 → (0 ≤ b2 ∧ b2 ≤ 5) → ∀ (y3 : Int32) (b3 : Int), y3.toInt = b3 → (0 ≤ b3 ∧ b3 ≤ 36) → (b2 < σ 98 1) → (g_DM (σ 98 1) (σ 99 18) (σ 99) (σ 100) (gd_v5 (σ 98 1) b2 b3 (s0 105))) → ((6 + 1 - b2) - 1) * 1000000 + 1000000000 + (36 + 1 - b3) * 1000 + 100000 ≤ (n : Int) → h_T g_P (g_Y ns) 162 167 [(0, .ref 98), (1, .int (Int32.ofInt 0)), (2, .int y2), (3, .int y3)] [] s0 Q) := by
  intro n
  induction n with
  | zero => exact ⟨by intro s0 I0 F0_ y2 b2 hy2 ry2 ex0 hm; have gh0 := F0_ 98 1 rfl; have gh1 := F0_ 99 18 rfl; have gh2 := tf_98_1 hI; have gh3 := ty_99_3 hI 18 (by omega); exfalso; omega, by intro s0 I0 F0_ y2 b2 hy2 ry2 ex0 hm; have gh0 := F0_ 98 1 rfl; have gh1 := F0_ 99 18 rfl; have gh2 := tf_98_1 hI; have gh3 := ty_99_3 hI 18 (by omega); exfalso; omega, by intro s0 I0 F0_ y2 b2 hy2 ry2 ex0 hm; have gh0 := F0_ 98 1 rfl; have gh1 := F0_ 99 18 rfl; have gh2 := tf_98_1 hI; have gh3 := ty_99_3 hI 18 (by omega); exfalso; omega, by intro s0 I0 F0_ y2 b2 hy2 ry2 ex0 hm; have gh0 := F0_ 98 1 rfl; have gh1 := F0_ 99 18 rfl; have gh2 := tf_98_1 hI; have gh3 := ty_99_3 hI 18 (by omega); exfalso; omega, by intro s0 I0 F0_ y2 b2 hy2 ry2 y3 b3 hy3 ry3 ex0 ex1 hm; have gh0 := F0_ 98 1 rfl; have gh1 := F0_ 99 18 rfl; have gh2 := tf_98_1 hI; have gh3 := ty_99_3 hI 18 (by omega); exfalso; omega⟩
  | succ n ih =>
    refine ⟨?_, ?_, ?_, ?_, ?_⟩
    · intro s0 I0 F0_ y2 b2 hy2 ry2 ex0 hm; have gh0 := F0_ 98 1 rfl; have gh1 := F0_ 99 18 rfl; have gh2 := tf_98_1 hI; have gh3 := ty_99_3 hI 18 (by omega)
      refine h_iload_n (pc' := 3) rfl rfl rfl ?_
      refine h_bipush (pc' := 5) (x := (Int32.ofInt 36)) rfl rfl cb_36 ?_
      refine h_cge (tg := 37) (pc' := 8) rfl rfl rfl hy2 ci_36 (fun c1 => ?_) (fun c1 => ?_)
      · refine h_iconst (pc' := 38) (x := (Int32.ofInt 0)) rfl rfl rfl ?_
        refine h_istore_n (pc' := 39) (M := [(2, .int (Int32.ofInt 0)), (0, .ref 98), (1, .int (Int32.ofInt 0))]) rfl rfl rfl rfl ?_
        exact h_wk [(0, .ref 98), (1, .int (Int32.ofInt 0)), (2, .int (Int32.ofInt 0))] ⟨rfl, rfl, rfl, trivial⟩ (ih.2.1 _ I0 F0_ (Int32.ofInt 0) _ ci_0 (by omega) ⟨s0 105, g_im_x ex0 (by omega), rfl⟩ (by omega))
      · refine h_aload_n (pc' := 9) rfl rfl rfl ?_
        refine h_getR (pc' := 12) rfl rfl rfl rfl rfl ?_
        refine h_iload_n (pc' := 13) rfl rfl rfl ?_
        refine h_iload_n (pc' := 14) rfl rfl rfl ?_
        refine h_bipush (pc' := 16) (x := (Int32.ofInt 6)) rfl rfl cb_6 ?_
        refine h_idiv (pc' := 17) rfl rfl hy2 ci_6 (by omega) (by omega) (fun z2 hz2 => ?_)
        refine h_iload_n (pc' := 18) rfl rfl rfl ?_
        refine h_bipush (pc' := 20) (x := (Int32.ofInt 6)) rfl rfl cb_6 ?_
        refine h_irem (pc' := 21) rfl rfl hy2 ci_6 (by omega) (by omega) (fun z3 hz3 => ?_)
        refine h_cne (tg := 28) (pc' := 24) rfl rfl rfl hz2 hz3 (fun c4 => ?_) (fun c4 => ?_)
        · refine h_ldc (pc' := 30) (x := (Int32.ofInt 1000000)) rfl rfl rfl ?_
          refine h_iast (pc' := 31) rfl rfl rfl rfl hy2 (by omega) (by omega) ci_1000000 (h_fgt (E := fun s => s 98 13 = s0 98 13 ∧ s = h_up s0 105 b2 1000000) _ (in_105 I0 (by omega)) (F0_.up rfl) ⟨rfl, rfl⟩ (fun s5 Is5 Fs5 (es5 : s5 98 13 = s0 98 13 ∧ s5 = h_up s0 105 b2 1000000) => ?_))
          have us5 := es5.2
          refine h_iinc (pc' := 34) (M := fun z6 => [(2, .int z6), (0, .ref 98), (1, .int (Int32.ofInt 0))]) rfl rfl rfl rfl hy2 ci_1 rfl (by omega) (by omega) (fun _ => rfl) (fun z6 hz6 => ?_)
          refine h_goto (pc' := 2) rfl rfl ?_
          exact h_wk [(0, .ref 98), (1, .int (Int32.ofInt 0)), (2, .int z6)] ⟨rfl, rfl, rfl, trivial⟩ (ih.1 _ Is5 Fs5 z6 _ hz6 (by omega) (g_im_s ex0 rfl (by omega) (h_upf us5)) (by omega))
        · refine h_iconst (pc' := 25) (x := (Int32.ofInt 0)) rfl rfl rfl ?_
          refine h_goto (pc' := 30) rfl rfl ?_
          refine h_iast (pc' := 31) rfl rfl rfl rfl hy2 (by omega) (by omega) ci_0 (h_fgt (E := fun s => s 98 13 = s0 98 13 ∧ s = h_up s0 105 b2 0) _ (in_105 I0 (by omega)) (F0_.up rfl) ⟨rfl, rfl⟩ (fun s7 Is7 Fs7 (es7 : s7 98 13 = s0 98 13 ∧ s7 = h_up s0 105 b2 0) => ?_))
          have us7 := es7.2
          refine h_iinc (pc' := 34) (M := fun z8 => [(2, .int z8), (0, .ref 98), (1, .int (Int32.ofInt 0))]) rfl rfl rfl rfl hy2 ci_1 rfl (by omega) (by omega) (fun _ => rfl) (fun z8 hz8 => ?_)
          refine h_goto (pc' := 2) rfl rfl ?_
          exact h_wk [(0, .ref 98), (1, .int (Int32.ofInt 0)), (2, .int z8)] ⟨rfl, rfl, rfl, trivial⟩ (ih.1 _ Is7 Fs7 z8 _ hz8 (by omega) (g_im_s ex0 rfl (by omega) (h_upf us7)) (by omega))
    · intro s0 I0 F0_ y2 b2 hy2 ry2 ex0 hm; have gh0 := F0_ 98 1 rfl; have gh1 := F0_ 99 18 rfl; have gh2 := tf_98_1 hI; have gh3 := ty_99_3 hI 18 (by omega)
      refine h_iload_n (pc' := 40) rfl rfl rfl ?_
      refine h_aload_n (pc' := 41) rfl rfl rfl ?_
      refine h_getI (pc' := 44) (v := σ 98 1) rfl rfl rfl rfl rfl (F0_ 98 1 rfl) (fun z1 hz1 => ?_)
      have tz1 := tf_98_1 hI
      refine h_cge (tg := 98) (pc' := 47) rfl rfl rfl hy2 hz1 (fun c2 => ?_) (fun c2 => ?_)
      · refine h_iconst (pc' := 99) (x := (Int32.ofInt 0)) rfl rfl rfl ?_
        refine h_istore_n (pc' := 100) (M := [(2, .int (Int32.ofInt 0)), (0, .ref 98), (1, .int (Int32.ofInt 0))]) rfl rfl rfl rfl ?_
        exact h_wk [(0, .ref 98), (1, .int (Int32.ofInt 0)), (2, .int (Int32.ofInt 0))] ⟨rfl, rfl, rfl, trivial⟩ (ih.2.2.1 _ I0 F0_ (Int32.ofInt 0) _ ci_0 (by omega) (g_DM_e ex0 (gd_v1_o rfl (by omega) rfl)) (by omega))
      · refine h_aload_n (pc' := 48) rfl rfl rfl ?_
        refine h_getR (pc' := 51) rfl rfl rfl rfl rfl ?_
        refine h_iload_n (pc' := 52) rfl rfl rfl ?_
        refine h_bipush (pc' := 54) (x := (Int32.ofInt 6)) rfl rfl cb_6 ?_
        refine h_iadd (pc' := 55) (c := 6) rfl rfl ci_0 ci_6 rfl (by omega) (by omega) (fun z3 hz3 => ?_)
        refine h_iload_n (pc' := 56) rfl rfl rfl ?_
        refine h_iadd (pc' := 57) rfl rfl hz3 hy2 rfl (by omega) (by omega) (fun z4 hz4 => ?_)
        refine h_iald (pc' := 58) (v := σ 99 (6 + b2)) rfl rfl rfl hz4 (by omega) (by omega) (F0_ 99 _ rfl) (fun z5 hz5 => ?_)
        have tz5 := ty_99_1 hI (6 + b2) (by omega)
        refine h_zle (tg := 92) (pc' := 61) rfl rfl rfl hz5 (fun c6 => ?_) (fun c6 => ?_)
        · refine h_iinc (pc' := 95) (M := fun z7 => [(2, .int z7), (0, .ref 98), (1, .int (Int32.ofInt 0))]) rfl rfl rfl rfl hy2 ci_1 rfl (by omega) (by omega) (fun _ => rfl) (fun z7 hz7 => ?_)
          refine h_goto (pc' := 39) rfl rfl ?_
          exact h_wk [(0, .ref 98), (1, .int (Int32.ofInt 0)), (2, .int z7)] ⟨rfl, rfl, rfl, trivial⟩ (ih.2.1 _ I0 F0_ z7 _ hz7 (by omega) (g_DM_e ex0 (gd_v1_n rfl (by omega) (by omega) (by omega) rfl (by omega) rfl)) (by omega))
        · refine h_aload_n (pc' := 62) rfl rfl rfl ?_
          refine h_iload_n (pc' := 63) rfl rfl rfl ?_
          refine h_aload_n (pc' := 64) rfl rfl rfl ?_
          refine h_getR (pc' := 67) rfl rfl rfl rfl rfl ?_
          refine h_iload_n (pc' := 68) rfl rfl rfl ?_
          refine h_bipush (pc' := 70) (x := (Int32.ofInt 6)) rfl rfl cb_6 ?_
          refine h_iadd (pc' := 71) (c := 6) rfl rfl ci_0 ci_6 rfl (by omega) (by omega) (fun z8 hz8 => ?_)
          refine h_iload_n (pc' := 72) rfl rfl rfl ?_
          refine h_iadd (pc' := 73) rfl rfl hz8 hy2 rfl (by omega) (by omega) (fun z9 hz9 => ?_)
          refine h_iald (pc' := 74) (v := σ 99 (6 + b2)) rfl rfl rfl hz9 (by omega) (by omega) (F0_ 99 _ rfl) (fun z10 hz10 => ?_)
          have tz10 := ty_99_1 hI (6 + b2) (by omega)
          refine h_iconst (pc' := 75) (x := (Int32.ofInt 1)) rfl rfl rfl ?_
          refine h_isub (pc' := 76) rfl rfl hz10 ci_1 rfl (by omega) (by omega) (fun z11 hz11 => ?_)
          refine h_aload_n (pc' := 77) rfl rfl rfl ?_
          refine h_getR (pc' := 80) rfl rfl rfl rfl rfl ?_
          refine h_aload_n (pc' := 81) rfl rfl rfl ?_
          refine h_getR (pc' := 84) rfl rfl rfl rfl rfl ?_
          refine h_iload_n (pc' := 85) rfl rfl rfl ?_
          refine h_iload_n (pc' := 86) rfl rfl rfl ?_
          refine h_iadd (pc' := 87) rfl rfl ci_0 hy2 rfl (by omega) (by omega) (fun z12 hz12 => ?_)
          refine h_iald (pc' := 88) (v := σ 99 (0 + b2)) rfl rfl rfl hz12 (by omega) (by omega) (F0_ 99 _ rfl) (fun z13 hz13 => ?_)
          have tz13 := ty_99_0 hI (0 + b2) (by omega)
          refine h_iald (pc' := 89) (v := σ 100 (σ 99 (0 + b2))) rfl rfl rfl hz13 (by omega) (by omega) (F0_ 100 _ rfl) (fun z14 hz14 => ?_)
          have tz14 := ty_100 hI (σ 99 (0 + b2))
          refine h_call (sp := false) (pc' := 92) (M := [(0, .ref 98), (1, .int y2), (2, .int z11), (3, .int z14)]) rfl rfl rfl rfl rfl rfl rfl rfl ?_
          refine n_links _ I0 y2 _ hy2 (by omega) z11 _ hz11 (by omega) z14 _ hz14 (by omega) (fun s16 Is16 Gs16 ps16_0 => h_Kn ?_)
          have Fs16 := (Gs16.mono (B := kf_n_lays) rfl).tr F0_
          have es16_0 : s16 98 13 = s0 98 13 := (Gs16 98 13 rfl).trans rfl
          refine h_iinc (pc' := 95) (M := fun z17 => [(2, .int z17), (0, .ref 98), (1, .int (Int32.ofInt 0))]) rfl rfl rfl rfl hy2 ci_1 rfl (by omega) (by omega) (fun _ => rfl) (fun z17 hz17 => ?_)
          refine h_goto (pc' := 39) rfl rfl ?_
          exact h_wk [(0, .ref 98), (1, .int (Int32.ofInt 0)), (2, .int z17)] ⟨rfl, rfl, rfl, trivial⟩ (ih.2.1 _ Is16 Fs16 z17 _ hz17 (by omega) (g_DM_e ex0 (gd_v1_y rfl (by omega) (by omega) (by omega) rfl (by omega) (congrArg (fun z => σ 100 (σ 99 z)) (Int.zero_add b2)) ps16_0)) (by omega))
    · intro s0 I0 F0_ y2 b2 hy2 ry2 ex0 hm; have gh0 := F0_ 98 1 rfl; have gh1 := F0_ 99 18 rfl; have gh2 := tf_98_1 hI; have gh3 := ty_99_3 hI 18 (by omega)
      refine h_iload_n (pc' := 101) rfl rfl rfl ?_
      refine h_aload_n (pc' := 102) rfl rfl rfl ?_
      refine h_getR (pc' := 105) rfl rfl rfl rfl rfl ?_
      refine h_iload_n (pc' := 106) rfl rfl rfl ?_
      refine h_bipush (pc' := 108) (x := (Int32.ofInt 12)) rfl rfl cb_12 ?_
      refine h_iadd (pc' := 109) (c := 12) rfl rfl ci_0 ci_12 rfl (by omega) (by omega) (fun z1 hz1 => ?_)
      refine h_bipush (pc' := 111) (x := (Int32.ofInt 6)) rfl rfl cb_6 ?_
      refine h_iadd (pc' := 112) (c := 18) rfl rfl hz1 ci_6 rfl (by omega) (by omega) (fun z2 hz2 => ?_)
      refine h_iald (pc' := 113) (v := σ 99 18) rfl rfl rfl hz2 (by omega) (by omega) (F0_ 99 _ rfl) (fun z3 hz3 => ?_)
      have tz3 := ty_99_3 hI 18 (by omega)
      refine h_cge (tg := 155) (pc' := 116) rfl rfl rfl hy2 hz3 (fun c4 => ?_) (fun c4 => ?_)
      · refine h_iconst (pc' := 156) (x := (Int32.ofInt 0)) rfl rfl rfl ?_
        refine h_istore_n (pc' := 157) (M := [(2, .int (Int32.ofInt 0)), (0, .ref 98), (1, .int (Int32.ofInt 0))]) rfl rfl rfl rfl ?_
        exact h_wk [(0, .ref 98), (1, .int (Int32.ofInt 0)), (2, .int (Int32.ofInt 0))] ⟨rfl, rfl, rfl, trivial⟩ (ih.2.2.2.1 _ I0 F0_ (Int32.ofInt 0) _ ci_0 (by omega) (g_DM_e ex0 (gd_v2_o rfl (by omega) rfl)) (by omega))
      · refine h_aload_n (pc' := 117) rfl rfl rfl ?_
        refine h_aload_n (pc' := 118) rfl rfl rfl ?_
        refine h_getR (pc' := 121) rfl rfl rfl rfl rfl ?_
        refine h_iload_n (pc' := 122) rfl rfl rfl ?_
        refine h_bipush (pc' := 124) (x := (Int32.ofInt 12)) rfl rfl cb_12 ?_
        refine h_iadd (pc' := 125) (c := 12) rfl rfl ci_0 ci_12 rfl (by omega) (by omega) (fun z5 hz5 => ?_)
        refine h_iconst (pc' := 126) (x := (Int32.ofInt 2)) rfl rfl rfl ?_
        refine h_iload_n (pc' := 127) rfl rfl rfl ?_
        refine h_imul (pc' := 128) rfl rfl ci_2 hy2 rfl (by omega) (by omega) (fun z6 hz6 => ?_)
        refine h_iadd (pc' := 129) rfl rfl hz5 hz6 rfl (by omega) (by omega) (fun z7 hz7 => ?_)
        refine h_iald (pc' := 130) (v := σ 99 (12 + (2 * b2))) rfl rfl rfl hz7 (by omega) (by omega) (F0_ 99 _ rfl) (fun z8 hz8 => ?_)
        have tz8 := ty_99_2 hI (12 + (2 * b2)) (by omega)
        refine h_aload_n (pc' := 131) rfl rfl rfl ?_
        refine h_getR (pc' := 134) rfl rfl rfl rfl rfl ?_
        refine h_iload_n (pc' := 135) rfl rfl rfl ?_
        refine h_bipush (pc' := 137) (x := (Int32.ofInt 12)) rfl rfl cb_12 ?_
        refine h_iadd (pc' := 138) (c := 12) rfl rfl ci_0 ci_12 rfl (by omega) (by omega) (fun z9 hz9 => ?_)
        refine h_iconst (pc' := 139) (x := (Int32.ofInt 2)) rfl rfl rfl ?_
        refine h_iload_n (pc' := 140) rfl rfl rfl ?_
        refine h_imul (pc' := 141) rfl rfl ci_2 hy2 rfl (by omega) (by omega) (fun z10 hz10 => ?_)
        refine h_iadd (pc' := 142) rfl rfl hz9 hz10 rfl (by omega) (by omega) (fun z11 hz11 => ?_)
        refine h_iconst (pc' := 143) (x := (Int32.ofInt 1)) rfl rfl rfl ?_
        refine h_iadd (pc' := 144) rfl rfl hz11 ci_1 rfl (by omega) (by omega) (fun z12 hz12 => ?_)
        refine h_iald (pc' := 145) (v := σ 99 ((12 + (2 * b2)) + 1)) rfl rfl rfl hz12 (by omega) (by omega) (F0_ 99 _ rfl) (fun z13 hz13 => ?_)
        have tz13 := ty_99_2 hI ((12 + (2 * b2)) + 1) (by omega)
        refine h_iconst (pc' := 146) (x := (Int32.ofInt 1)) rfl rfl rfl ?_
        refine h_call (sp := false) (pc' := 149) (M := [(0, .ref 98), (1, .int z8), (2, .int z13), (3, .int (Int32.ofInt 1))]) rfl rfl rfl rfl rfl rfl rfl rfl ?_
        refine n_links _ I0 z8 _ hz8 (by omega) z13 _ hz13 (by omega) (Int32.ofInt 1) _ ci_1 (by omega) (fun s15 Is15 Gs15 ps15_0 => h_Kn ?_)
        have Fs15 := (Gs15.mono (B := kf_n_lays) rfl).tr F0_
        have es15_0 : s15 98 13 = s0 98 13 := (Gs15 98 13 rfl).trans rfl
        refine h_iinc (pc' := 152) (M := fun z16 => [(2, .int z16), (0, .ref 98), (1, .int (Int32.ofInt 0))]) rfl rfl rfl rfl hy2 ci_1 rfl (by omega) (by omega) (fun _ => rfl) (fun z16 hz16 => ?_)
        refine h_goto (pc' := 100) rfl rfl ?_
        exact h_wk [(0, .ref 98), (1, .int (Int32.ofInt 0)), (2, .int z16)] ⟨rfl, rfl, rfl, trivial⟩ (ih.2.2.1 _ Is15 Fs15 z16 _ hz16 (by omega) (g_DM_e ex0 (gd_v2_y rfl (by omega) (by omega) (by omega) rfl rfl ps15_0)) (by omega))
    · intro s0 I0 F0_ y2 b2 hy2 ry2 ex0 hm; have gh0 := F0_ 98 1 rfl; have gh1 := F0_ 99 18 rfl; have gh2 := tf_98_1 hI; have gh3 := ty_99_3 hI 18 (by omega)
      refine h_iload_n (pc' := 158) rfl rfl rfl ?_
      refine h_aload_n (pc' := 159) rfl rfl rfl ?_
      refine h_getI (pc' := 162) (v := σ 98 1) rfl rfl rfl rfl rfl (F0_ 98 1 rfl) (fun z1 hz1 => ?_)
      have tz1 := tf_98_1 hI
      refine h_cge (tg := 244) (pc' := 165) rfl rfl rfl hy2 hz1 (fun c2 => ?_) (fun c2 => ?_)
      · exact h_vret rfl rfl (kk _ I0 F0_ (g_DM_e ex0 (gd_v4_o rfl (by omega) rfl)))
      · refine h_iconst (pc' := 166) (x := (Int32.ofInt 0)) rfl rfl rfl ?_
        refine h_istore_n (pc' := 167) (M := [(3, .int (Int32.ofInt 0)), (0, .ref 98), (1, .int (Int32.ofInt 0)), (2, .int y2)]) rfl rfl rfl rfl ?_
        exact h_wk [(0, .ref 98), (1, .int (Int32.ofInt 0)), (2, .int y2), (3, .int (Int32.ofInt 0))] ⟨rfl, rfl, rfl, rfl, trivial⟩ (ih.2.2.2.2 _ I0 F0_ y2 _ hy2 (by omega) (Int32.ofInt 0) _ ci_0 (by omega) (by omega) (g_DM_e ex0 (gd_v4_y rfl (by omega) (by omega) (by omega) rfl)) (by omega))
    · intro s0 I0 F0_ y2 b2 hy2 ry2 y3 b3 hy3 ry3 ex0 ex1 hm; have gh0 := F0_ 98 1 rfl; have gh1 := F0_ 99 18 rfl; have gh2 := tf_98_1 hI; have gh3 := ty_99_3 hI 18 (by omega)
      refine h_iload_n (pc' := 168) rfl rfl rfl ?_
      refine h_bipush (pc' := 170) (x := (Int32.ofInt 36)) rfl rfl cb_36 ?_
      refine h_cge (tg := 238) (pc' := 173) rfl rfl rfl hy3 ci_36 (fun c1 => ?_) (fun c1 => ?_)
      · refine h_iinc (pc' := 241) (M := fun z2 => [(2, .int z2), (0, .ref 98), (1, .int (Int32.ofInt 0)), (3, .int y3)]) rfl rfl rfl rfl hy2 ci_1 rfl (by omega) (by omega) (fun _ => rfl) (fun z2 hz2 => ?_)
        refine h_goto (pc' := 157) rfl rfl ?_
        exact h_wk [(0, .ref 98), (1, .int (Int32.ofInt 0)), (2, .int z2)] ⟨rfl, rfl, rfl, trivial⟩ (ih.2.2.2.1 _ I0 F0_ z2 _ hz2 (by omega) (g_DM_e ex1 (gd_v5_o rfl (by omega) rfl)) (by omega))
      · refine h_aload_n (pc' := 174) rfl rfl rfl ?_
        refine h_getR (pc' := 177) rfl rfl rfl rfl rfl ?_
        refine h_bipush (pc' := 179) (x := (Int32.ofInt 6)) rfl rfl cb_6 ?_
        refine h_iload_n (pc' := 180) rfl rfl rfl ?_
        refine h_bipush (pc' := 182) (x := (Int32.ofInt 6)) rfl rfl cb_6 ?_
        refine h_idiv (pc' := 183) rfl rfl hy3 ci_6 (by omega) (by omega) (fun z3 hz3 => ?_)
        refine h_imul (pc' := 184) rfl rfl ci_6 hz3 rfl (by omega) (by omega) (fun z4 hz4 => ?_)
        refine h_iload_n (pc' := 185) rfl rfl rfl ?_
        refine h_iadd (pc' := 186) rfl rfl hz4 hy2 rfl (by omega) (by omega) (fun z5 hz5 => ?_)
        refine h_iald (pc' := 187) (v := s0 105 ((6 * (b3 / 6)) + b2)) rfl rfl rfl hz5 (by omega) (by omega) rfl (fun z6 hz6 => ?_)
        have tz6 := ty_105 I0 ((6 * (b3 / 6)) + b2)
        refine h_aload_n (pc' := 188) rfl rfl rfl ?_
        refine h_getR (pc' := 191) rfl rfl rfl rfl rfl ?_
        refine h_bipush (pc' := 193) (x := (Int32.ofInt 6)) rfl rfl cb_6 ?_
        refine h_iload_n (pc' := 194) rfl rfl rfl ?_
        refine h_imul (pc' := 195) rfl rfl ci_6 hy2 rfl (by omega) (by omega) (fun z7 hz7 => ?_)
        refine h_iload_n (pc' := 196) rfl rfl rfl ?_
        refine h_bipush (pc' := 198) (x := (Int32.ofInt 6)) rfl rfl cb_6 ?_
        refine h_irem (pc' := 199) rfl rfl hy3 ci_6 (by omega) (by omega) (fun z8 hz8 => ?_)
        refine h_iadd (pc' := 200) rfl rfl hz7 hz8 rfl (by omega) (by omega) (fun z9 hz9 => ?_)
        refine h_iald (pc' := 201) (v := s0 105 ((6 * b2) + (b3 % 6))) rfl rfl rfl hz9 (by omega) (by omega) rfl (fun z10 hz10 => ?_)
        have tz10 := ty_105 I0 ((6 * b2) + (b3 % 6))
        refine h_iadd (pc' := 202) rfl rfl hz6 hz10 rfl (by omega) (by omega) (fun z11 hz11 => ?_)
        refine h_istore (pc' := 204) (M := [(4, .int z11), (0, .ref 98), (1, .int (Int32.ofInt 0)), (2, .int y2), (3, .int y3)]) rfl rfl rfl rfl ?_
        refine h_aload_n (pc' := 205) rfl rfl rfl ?_
        refine h_getR (pc' := 208) rfl rfl rfl rfl rfl ?_
        refine h_iload_n (pc' := 209) rfl rfl rfl ?_
        refine h_iload (pc' := 211) rfl rfl rfl ?_
        refine h_aload_n (pc' := 212) rfl rfl rfl ?_
        refine h_getR (pc' := 215) rfl rfl rfl rfl rfl ?_
        refine h_iload_n (pc' := 216) rfl rfl rfl ?_
        refine h_iald (pc' := 217) (v := s0 105 b3) rfl rfl rfl hy3 (by omega) (by omega) rfl (fun z12 hz12 => ?_)
        have tz12 := ty_105 I0 b3
        refine h_cge (tg := 225) (pc' := 220) rfl rfl rfl hz11 hz12 (fun c13 => ?_) (fun c13 => ?_)
        · refine h_aload_n (pc' := 226) rfl rfl rfl ?_
          refine h_getR (pc' := 229) rfl rfl rfl rfl rfl ?_
          refine h_iload_n (pc' := 230) rfl rfl rfl ?_
          refine h_iald (pc' := 231) (v := s0 105 b3) rfl rfl rfl hy3 (by omega) (by omega) rfl (fun z14 hz14 => ?_)
          have tz14 := ty_105 I0 b3
          refine h_iast (pc' := 232) rfl rfl rfl rfl hy3 (by omega) (by omega) hz14 (h_fgt (E := fun s => s 98 13 = s0 98 13 ∧ s = h_up s0 105 b3 (s0 105 b3)) _ (in_105 I0 (by omega)) (F0_.up rfl) ⟨rfl, rfl⟩ (fun s15 Is15 Fs15 (es15 : s15 98 13 = s0 98 13 ∧ s15 = h_up s0 105 b3 (s0 105 b3)) => ?_))
          have us15 := es15.2
          refine h_iinc (pc' := 235) (M := fun z16 => [(3, .int z16), (4, .int z11), (0, .ref 98), (1, .int (Int32.ofInt 0)), (2, .int y2)]) rfl rfl rfl rfl hy3 ci_1 rfl (by omega) (by omega) (fun _ => rfl) (fun z16 hz16 => ?_)
          refine h_goto (pc' := 167) rfl rfl ?_
          exact h_wk [(0, .ref 98), (1, .int (Int32.ofInt 0)), (2, .int y2), (3, .int z16)] ⟨rfl, rfl, rfl, rfl, trivial⟩ (ih.2.2.2.2 _ Is15 Fs15 y2 _ hy2 (by omega) z16 _ hz16 (by omega) (by omega) (g_DM_e ex1 (gd_v5_s rfl (by omega) (by omega) rfl rfl rfl ((h_upf us15).trans (by first | exact g_mn_y rfl (by omega) rfl | exact g_mn_n rfl (by omega) rfl)))) (by omega))
        · refine h_iload (pc' := 222) rfl rfl rfl ?_
          refine h_goto (pc' := 231) rfl rfl ?_
          refine h_iast (pc' := 232) rfl rfl rfl rfl hy3 (by omega) (by omega) hz11 (h_fgt (E := fun s => s 98 13 = s0 98 13 ∧ s = h_up s0 105 b3 ((s0 105 ((6 * (b3 / 6)) + b2)) + (s0 105 ((6 * b2) + (b3 % 6))))) _ (in_105 I0 (by omega)) (F0_.up rfl) ⟨rfl, rfl⟩ (fun s17 Is17 Fs17 (es17 : s17 98 13 = s0 98 13 ∧ s17 = h_up s0 105 b3 ((s0 105 ((6 * (b3 / 6)) + b2)) + (s0 105 ((6 * b2) + (b3 % 6))))) => ?_))
          have us17 := es17.2
          refine h_iinc (pc' := 235) (M := fun z18 => [(3, .int z18), (4, .int z11), (0, .ref 98), (1, .int (Int32.ofInt 0)), (2, .int y2)]) rfl rfl rfl rfl hy3 ci_1 rfl (by omega) (by omega) (fun _ => rfl) (fun z18 hz18 => ?_)
          refine h_goto (pc' := 167) rfl rfl ?_
          exact h_wk [(0, .ref 98), (1, .int (Int32.ofInt 0)), (2, .int y2), (3, .int z18)] ⟨rfl, rfl, rfl, rfl, trivial⟩ (ih.2.2.2.2 _ Is17 Fs17 y2 _ hy2 (by omega) z18 _ hz18 (by omega) (by omega) (g_DM_e ex1 (gd_v5_s rfl (by omega) (by omega) rfl rfl rfl ((h_upf us17).trans (by first | exact g_mn_y rfl (by omega) rfl | exact g_mn_n rfl (by omega) rfl)))) (by omega))
set_option maxHeartbeats 100000000 in
set_option maxHeartbeats 100000000 in
theorem n_lays {ns : Nat} (σ : h_S) (hI : h_I σ) {Q : Option Value → h_S → Prop} (kk : ∀ (τ : h_S), h_I τ → h_F (k_in kf_n_lays) τ σ → (g_DM (σ 98 1) (σ 99 18) (σ 99) (σ 100) (τ 105)) → Q none τ) : h_T g_P (g_Y ns) 162 0 [(0, .ref 98), (1, .int (Int32.ofInt 0))] [] σ Q := by
  have F00 : h_F (k_in kf_n_lays) σ σ := h_F.rf
  refine h_iconst (pc' := 1) (x := (Int32.ofInt 0)) rfl rfl rfl ?_
  refine h_istore_n (pc' := 2) (M := [(2, .int (Int32.ofInt 0)), (0, .ref 98), (1, .int (Int32.ofInt 0))]) rfl rfl rfl rfl ?_
  exact h_wk [(0, .ref 98), (1, .int (Int32.ofInt 0)), (2, .int (Int32.ofInt 0))] ⟨rfl, rfl, rfl, trivial⟩ ((n_lays_l ns σ hI  kk 1000000000000).1 _ hI F00 (Int32.ofInt 0) _ ci_0 (by omega) g_im_0 (by omega))
