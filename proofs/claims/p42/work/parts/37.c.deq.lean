/-! DEGREES OF BOTH SIDES -/
def g_ph (n c : Int) (f g : Int → Int) : Prop := ∀ p q, 0 ≤ p → p < n → 0 ≤ q → q < n → (f (p * 6 + q) = g (6 * p + q) ∧ 0 ≤ f (p * 6 + q) ∧ f (p * 6 + q) ≤ c) ∨ (f (p * 6 + q) = 1000 ∧ g (6 * p + q) = 1000000)
def g_sy (n : Int) (f : Int → Int) : Prop := ∀ p q, 0 ≤ p → p < n → 0 ≤ q → q < n → f (p * 6 + q) = f (q * 6 + p)
def g_nn (g : Int → Int) : Prop := ∀ k, 0 ≤ k → k < 36 → 0 ≤ g k
theorem g_ph_i {n : Int} {f g : Int → Int} (n6 : n ≤ 6) (hf : g_ix n n 0 f) (hg : g_im 36 g) : g_ph n 4 f g ∧ g_sy n f ∧ g_nn g := by
  refine ⟨fun p q p0 p1 q0 q1 => ?_, fun p q p0 p1 q0 q1 => ?_, fun k k0 k1 => ?_⟩
  · rw [hf p q p0 q0 (Or.inl ⟨p1, q1⟩), hg (6 * p + q) (by omega) (by omega)]
    by_cases x : p = q
    · rw [if_pos x, if_pos (by omega)]
      exact Or.inl ⟨rfl, by omega, by omega⟩
    · rw [if_neg x, if_neg (by omega)]
      exact Or.inr ⟨rfl, rfl⟩
  · rw [hf p q p0 q0 (Or.inl ⟨p1, q1⟩), hf q p q0 p0 (Or.inl ⟨q1, p1⟩)]
    by_cases x : p = q
    · rw [if_pos x, if_pos x.symm]
    · rw [if_neg x, if_neg (fun y => x y.symm)]
  · rw [hg k k0 k1]
    split <;> omega
section DJ
variable {n x y v p q : Int} {f g : Int → Int}
theorem g_jn_at (hp : 0 ≤ p ∧ p < 6) (hq : 0 ≤ q ∧ q < 6) (hx : 0 ≤ x ∧ x < 6) (hy : 0 ≤ y ∧ y < 6) (h : (p = x ∧ q = y) ∨ (p = y ∧ q = x)) (c : v < f (x * 6 + y)) : g_jn f x y v (p * 6 + q) = v := by
  unfold g_jn
  rw [if_pos c]
  by_cases z : p * 6 + q = y * 6 + x
  · rw [g_set_p z]
  · rw [g_set_n z, g_set_p (by omega)]
theorem g_jn_no (hp : 0 ≤ p ∧ p < 6) (hq : 0 ≤ q ∧ q < 6) (hx : 0 ≤ x ∧ x < 6) (hy : 0 ≤ y ∧ y < 6) (h : ¬ ((p = x ∧ q = y) ∨ (p = y ∧ q = x)) ∨ f (x * 6 + y) ≤ v) : g_jn f x y v (p * 6 + q) = f (p * 6 + q) := by
  unfold g_jn
  by_cases c : v < f (x * 6 + y)
  · rw [if_pos c]
    have h : ¬ ((p = x ∧ q = y) ∨ (p = y ∧ q = x)) := by
      rcases h with h | h
      · exact h
      · omega
    rw [g_set_n (by omega), g_set_n (by omega)]
  · rw [if_neg c]
theorem g_mn_at {k j : Int} (h : j = k) : g_mn g k v j = if v < g j then v else g j := by
  subst h
  unfold g_mn
  rw [g_set_p rfl]
theorem g_mn_no {k j : Int} (h : ¬ j = k) : g_mn g k v j = g j := by
  unfold g_mn
  rw [g_set_n h]
theorem g_lk_at (hp : 0 ≤ p ∧ p < 6) (hq : 0 ≤ q ∧ q < 6) (hx : 0 ≤ x ∧ x < 6) (hy : 0 ≤ y ∧ y < 6) (h : (p = x ∧ q = y) ∨ (p = y ∧ q = x)) : g_lk g x y v (6 * p + q) = if v < g (6 * p + q) then v else g (6 * p + q) := by
  unfold g_lk
  by_cases z : 6 * p + q = 6 * y + x
  · rw [g_mn_at z]
    by_cases w : 6 * p + q = 6 * x + y
    · rw [g_mn_at w]
      by_cases u : v < g (6 * p + q)
      · rw [if_pos u, if_neg (by omega)]
      · rw [if_neg u, if_neg u]
    · rw [g_mn_no w]
  · rw [g_mn_no z, g_mn_at (by omega)]
theorem g_lk_no (hp : 0 ≤ p ∧ p < 6) (hq : 0 ≤ q ∧ q < 6) (hx : 0 ≤ x ∧ x < 6) (hy : 0 ≤ y ∧ y < 6) (h : ¬ ((p = x ∧ q = y) ∨ (p = y ∧ q = x))) : g_lk g x y v (6 * p + q) = g (6 * p + q) := by
  unfold g_lk
  rw [g_mn_no (by omega), g_mn_no (by omega)]
theorem g_mn_nn {k : Int} (h : g_nn g) (v0 : 0 ≤ v) : g_nn (g_mn g k v) := by
  intro j j0 j1
  have y := h j j0 j1
  by_cases z : j = k
  · rw [g_mn_at z]
    split <;> omega
  · rw [g_mn_no z]
    exact y
theorem g_ph_l (n6 : n ≤ 6) (h : g_ph n 4 f g ∧ g_sy n f ∧ g_nn g) (x0 : 0 ≤ x) (x1 : x < n) (y0 : 0 ≤ y) (y1 : y < n) (v0 : 0 ≤ v) (v4 : v ≤ 4) : g_ph n 4 (g_jn f x y v) (g_lk g x y v) ∧ g_sy n (g_jn f x y v) ∧ g_nn (g_lk g x y v) := by
  obtain ⟨h1, h2, h3⟩ := h
  have hs := h2 x y x0 x1 y0 y1
  have hx : 0 ≤ x ∧ x < 6 := ⟨x0, by omega⟩
  have hy : 0 ≤ y ∧ y < 6 := ⟨y0, by omega⟩
  refine ⟨fun p q p0 p1 q0 q1 => ?_, fun p q p0 p1 q0 q1 => ?_, g_mn_nn (g_mn_nn h3 v0) v0⟩
  · have hp : 0 ≤ p ∧ p < 6 := ⟨p0, by omega⟩
    have hq : 0 ≤ q ∧ q < 6 := ⟨q0, by omega⟩
    have z := h1 p q p0 p1 q0 q1
    by_cases w : (p = x ∧ q = y) ∨ (p = y ∧ q = x)
    · have e : f (x * 6 + y) = f (p * 6 + q) := by
        rcases w with ⟨w1, w2⟩ | ⟨w1, w2⟩
        · rw [w1, w2]
        · rw [w1, w2]; exact hs
      rw [g_lk_at hp hq hx hy w]
      by_cases c : v < f (x * 6 + y)
      · rw [g_jn_at hp hq hx hy w c, if_pos (by omega)]
        exact Or.inl ⟨rfl, v0, v4⟩
      · rw [g_jn_no hp hq hx hy (Or.inr (by omega)), if_neg (by omega)]
        exact z
    · rw [g_lk_no hp hq hx hy w, g_jn_no hp hq hx hy (Or.inl w)]
      exact z
  · have hp : 0 ≤ p ∧ p < 6 := ⟨p0, by omega⟩
    have hq : 0 ≤ q ∧ q < 6 := ⟨q0, by omega⟩
    have z := h2 p q p0 p1 q0 q1
    by_cases w : (p = x ∧ q = y) ∨ (p = y ∧ q = x)
    · have w' : (q = x ∧ p = y) ∨ (q = y ∧ p = x) := by omega
      by_cases c : v < f (x * 6 + y)
      · rw [g_jn_at hp hq hx hy w c, g_jn_at hq hp hx hy w' c]
      · rw [g_jn_no hp hq hx hy (Or.inr (by omega)), g_jn_no hq hp hx hy (Or.inr (by omega))]
        exact z
    · rw [g_jn_no hp hq hx hy (Or.inl w), g_jn_no hq hp hx hy (Or.inl (by omega))]
      exact z
end DJ
theorem g_ph_l1 {n : Int} {par knd S t : Int → Int} (n6 : n ≤ 6) (hp : ∀ j, 0 ≤ j → j < n → ((par j = -4 ∧ S (6 + j) = 0) ∨ (0 ≤ par j ∧ par j < n ∧ S (6 + j) = par j + 1)) ∧ t (S j) = g_tie (knd j)) : ∀ (m : Nat) (p : Int) (f g : Int → Int), 0 ≤ p → g_ph n 4 f g ∧ g_sy n f ∧ g_nn g → g_ph n 4 (g_l1 n par knd m p f) (g_q1 n S t m p g) ∧ g_sy n (g_l1 n par knd m p f) ∧ g_nn (g_q1 n S t m p g)
  | 0, _, _, _, _, h => h
  | m + 1, p, f, g, p0, h => by
    show g_ph n 4 (if p < n then g_l1 n par knd m (p + 1) (if 0 ≤ par p ∧ par p < n then g_jn f p (par p) (g_tie (knd p)) else f) else f) (if p < n then g_q1 n S t m (p + 1) (if 0 < S (6 + p) then g_lk g p (S (6 + p) - 1) (t (S p)) else g) else g) ∧ g_sy n (if p < n then g_l1 n par knd m (p + 1) (if 0 ≤ par p ∧ par p < n then g_jn f p (par p) (g_tie (knd p)) else f) else f) ∧ g_nn (if p < n then g_q1 n S t m (p + 1) (if 0 < S (6 + p) then g_lk g p (S (6 + p) - 1) (t (S p)) else g) else g)
    by_cases c : p < n
    · rw [if_pos c, if_pos c]
      obtain ⟨y, e⟩ := hp p p0 c
      refine g_ph_l1 n6 hp m (p + 1) _ _ (by omega) ?_
      rcases y with y | y
      · rw [if_neg (by omega), if_neg (by omega)]
        exact h
      · rw [if_pos ⟨y.1, y.2.1⟩, if_pos (by omega), e, show S (6 + p) - 1 = par p by omega]
        exact g_ph_l n6 h p0 c y.1 y.2.1 (g_tie_r _).1 (g_tie_r _).2
    · rw [if_neg c, if_neg c]
      exact h
theorem g_ph_l2 {n k : Int} {a b S : Int → Int} (n6 : n ≤ 6) (hp : ∀ j, 0 ≤ j → j < k → a j = S (12 + 2 * j) ∧ b j = S (12 + 2 * j + 1) ∧ 0 ≤ a j ∧ a j < n ∧ 0 ≤ b j ∧ b j < n) : ∀ (m : Nat) (p : Int) (f g : Int → Int), 0 ≤ p → g_ph n 4 f g ∧ g_sy n f ∧ g_nn g → g_ph n 4 (g_l2 k a b m p f) (g_q2 k S m p g) ∧ g_sy n (g_l2 k a b m p f) ∧ g_nn (g_q2 k S m p g)
  | 0, _, _, _, _, h => h
  | m + 1, p, f, g, p0, h => by
    show g_ph n 4 (if p < k then g_l2 k a b m (p + 1) (g_jn f (a p) (b p) 1) else f) (if p < k then g_q2 k S m (p + 1) (g_lk g (S (12 + 2 * p)) (S (12 + 2 * p + 1)) 1) else g) ∧ g_sy n (if p < k then g_l2 k a b m (p + 1) (g_jn f (a p) (b p) 1) else f) ∧ g_nn (if p < k then g_q2 k S m (p + 1) (g_lk g (S (12 + 2 * p)) (S (12 + 2 * p + 1)) 1) else g)
    by_cases c : p < k
    · rw [if_pos c, if_pos c]
      obtain ⟨y1, y2, y3, y4, y5, y6⟩ := hp p p0 c
      rw [← y1, ← y2]
      exact g_ph_l2 n6 hp m (p + 1) _ _ (by omega) (g_ph_l n6 h y3 y4 y5 y6 (by omega) (by omega))
    · rw [if_neg c, if_neg c]
      exact h
/-- a row of ways over r, all at once -/
def g_cf (f : Int → Int) (r p q : Int) : Int := if f (p * 6 + r) + f (r * 6 + q) < f (p * 6 + q) then f (p * 6 + r) + f (r * 6 + q) else f (p * 6 + q)
def gd_ca (n : Int) (f : Int → Int) (r p q : Int) (f' : Int → Int) : Prop := ∀ x y, 0 ≤ x → x < n → 0 ≤ y → y < n → f' (x * 6 + y) = if x < p ∨ (x = p ∧ y < q) then g_cf f r x y else f (x * 6 + y)
theorem g_cf_r {n r : Int} {f : Int → Int} (n6 : n ≤ 6) (hf : ∀ p q, 0 ≤ p → p < n → 0 ≤ q → q < n → 0 ≤ f (p * 6 + q) ∧ f (p * 6 + q) ≤ 1000) (r0 : 0 ≤ r) (r1 : r < n) {q : Int} (q0 : 0 ≤ q) (q1 : q < n) : g_cf f r r q = f (r * 6 + q) := by
  have := hf r r r0 r1 r0 r1
  unfold g_cf
  rw [if_neg (by omega)]
theorem g_x3_c {n r : Int} {f : Int → Int} (n6 : n ≤ 6) (hf : ∀ p q, 0 ≤ p → p < n → 0 ≤ q → q < n → 0 ≤ f (p * 6 + q) ∧ f (p * 6 + q) ≤ 1000) (r0 : 0 ≤ r) (r1 : r < n) {p t : Int} (p0 : 0 ≤ p) (p1 : p < n) (ht : t = f (p * 6 + r)) : ∀ (m : Nat) (q : Int) (f' : Int → Int), 0 ≤ q → n - q ≤ m → gd_ca n f r p q f' → gd_ca n f r (p + 1) 0 (g_x3 n r p t m q f')
  | 0, q, f', q0, hm, h => fun x y x0 x1 y0 y1 => by
    have z := h x y x0 x1 y0 y1
    show f' (x * 6 + y) = _
    rw [z]
    by_cases c : x < p ∨ (x = p ∧ y < q)
    · rw [if_pos c, if_pos (by omega)]
    · rw [if_neg c, if_neg (by omega)]
  | m + 1, q, f', q0, hm, h => by
    show gd_ca n f r (p + 1) 0 (if q < n ∧ t < 1000 then g_x3 n r p t m (q + 1) (if t + f' (r * 6 + q) < f' (p * 6 + q) then g_set f' (p * 6 + q) (t + f' (r * 6 + q)) else f') else f')
    by_cases c : q < n ∧ t < 1000
    · rw [if_pos c]
      refine g_x3_c n6 hf r0 r1 p0 p1 ht m (q + 1) _ (by omega) (by omega) ?_
      have e1 : f' (r * 6 + q) = f (r * 6 + q) := by
        rw [h r q r0 r1 q0 c.1]
        by_cases z : r < p ∨ (r = p ∧ q < q)
        · rw [if_pos z, g_cf_r n6 hf r0 r1 q0 c.1]
        · rw [if_neg z]
      have e2 : f' (p * 6 + q) = f (p * 6 + q) := by
        rw [h p q p0 p1 q0 c.1, if_neg (by omega)]
      intro x y x0 x1 y0 y1
      have z := h x y x0 x1 y0 y1
      rw [e1, e2, ht]
      by_cases w : x = p ∧ y = q
      · obtain ⟨w1, w2⟩ := w
        subst w1; subst w2
        rw [if_pos (show x < x ∨ x = x ∧ y < y + 1 by omega)]
        unfold g_cf
        by_cases u : f (x * 6 + r) + f (r * 6 + y) < f (x * 6 + y)
        · rw [if_pos u, if_pos u, g_set_p rfl]
        · rw [if_neg u, if_neg u]
          exact e2
      · have e3 : (if f (p * 6 + r) + f (r * 6 + q) < f (p * 6 + q) then g_set f' (p * 6 + q) (f (p * 6 + r) + f (r * 6 + q)) else f') (x * 6 + y) = f' (x * 6 + y) := by
          by_cases u : f (p * 6 + r) + f (r * 6 + q) < f (p * 6 + q)
          · rw [if_pos u, g_set_n (by omega)]
          · rw [if_neg u]
        rw [e3, z]
        by_cases u : x < p ∨ (x = p ∧ y < q)
        · rw [if_pos u, if_pos (by omega)]
        · rw [if_neg u, if_neg (by omega)]
    · rw [if_neg c]
      intro x y x0 x1 y0 y1
      have z := h x y x0 x1 y0 y1
      rw [z]
      by_cases u : x < p ∨ (x = p ∧ y < q)
      · rw [if_pos u, if_pos (by omega)]
      · rw [if_neg u]
        by_cases w : x < p + 1 ∨ (x = p + 1 ∧ y < 0)
        · rw [if_pos w]
          have w1 : x = p := by omega
          subst w1
          have b1 := hf r y r0 r1 y0 y1
          have b2 := hf x y x0 x1 y0 y1
          unfold g_cf
          rw [if_neg (by omega)]
        · rw [if_neg w]
theorem g_x2_c {n r : Int} {f : Int → Int} (n6 : n ≤ 6) (hf : ∀ p q, 0 ≤ p → p < n → 0 ≤ q → q < n → 0 ≤ f (p * 6 + q) ∧ f (p * 6 + q) ≤ 1000) (r0 : 0 ≤ r) (r1 : r < n) : ∀ (m : Nat) (p : Int) (f' : Int → Int), 0 ≤ p → n - p ≤ m → gd_ca n f r p 0 f' → gd_ca n f r n 0 (g_x2 n r m p f')
  | 0, p, f', p0, hm, h => fun x y x0 x1 y0 y1 => by
    show f' (x * 6 + y) = _
    rw [h x y x0 x1 y0 y1, if_pos (by omega), if_pos (by omega)]
  | m + 1, p, f', p0, hm, h => by
    show gd_ca n f r n 0 (if p < n then g_x2 n r m (p + 1) (g_x3 n r p (f' (p * 6 + r)) 6 0 f') else f')
    by_cases c : p < n
    · rw [if_pos c]
      refine g_x2_c n6 hf r0 r1 m (p + 1) _ (by omega) (by omega) (g_x3_c n6 hf r0 r1 p0 c ?_ 6 0 f' (by omega) (by omega) h)
      rw [h p r p0 c r0 r1, if_neg (by omega)]
    · rw [if_neg c]
      intro x y x0 x1 y0 y1
      rw [h x y x0 x1 y0 y1, if_pos (by omega), if_pos (by omega)]
theorem g_x2_e {n r : Int} {f : Int → Int} (n6 : n ≤ 6) (hf : ∀ p q, 0 ≤ p → p < n → 0 ≤ q → q < n → 0 ≤ f (p * 6 + q) ∧ f (p * 6 + q) ≤ 1000) (r0 : 0 ≤ r) (r1 : r < n) {p q : Int} (p0 : 0 ≤ p) (p1 : p < n) (q0 : 0 ≤ q) (q1 : q < n) : g_x2 n r 6 0 f (p * 6 + q) = g_cf f r p q := by
  have z := g_x2_c n6 hf r0 r1 6 0 f (by omega) (by omega) (fun x y x0 x1 y0 y1 => by rw [if_neg (by omega)]) p q p0 p1 q0 q1
  rw [z, if_pos (by omega)]
def g_cm (g : Int → Int) (r k : Int) : Int := if g (6 * (k / 6) + r) + g (6 * r + k % 6) < g k then g (6 * (k / 6) + r) + g (6 * r + k % 6) else g k
def gd_cb (g : Int → Int) (r c : Int) (g' : Int → Int) : Prop := ∀ k, 0 ≤ k → k < 36 → g' k = if k < c then g_cm g r k else g k
theorem g_cm_k {g : Int → Int} {r k : Int} (h : g_nn g) (r0 : 0 ≤ r) (r1 : r < 6) (k0 : 0 ≤ k) (k1 : k < 36) (hk : k / 6 = r ∨ k % 6 = r) : g_cm g r k = g k := by
  have b1 := h (6 * r + r) (by omega) (by omega)
  unfold g_cm
  rcases hk with z | z
  · rw [z, show 6 * r + k % 6 = k by omega, if_neg (by omega)]
  · rw [z, show 6 * (k / 6) + r = k by omega, if_neg (by omega)]
theorem gd_m2_c {g : Int → Int} {r : Int} (hg : g_nn g) (r0 : 0 ≤ r) (r1 : r < 6) : ∀ (m : Nat) (k : Int) (g' : Int → Int), 0 ≤ k → k + m = 36 → gd_cb g r k g' → gd_cb g r 36 (gd_m2 r m k g')
  | 0, k, g', k0, hm, h => by
    have e : k = 36 := by omega
    subst e
    exact h
  | m + 1, k, g', k0, hm, h => by
    show gd_cb g r 36 (gd_m2 r m (k + 1) (g_mn g' k (g' (6 * (k / 6) + r) + g' (6 * r + k % 6))))
    refine gd_m2_c hg r0 r1 m (k + 1) _ (by omega) (by omega) ?_
    have e1 : g' (6 * (k / 6) + r) = g (6 * (k / 6) + r) := by
      rw [h _ (by omega) (by omega)]
      by_cases z : 6 * (k / 6) + r < k
      · rw [if_pos z, g_cm_k hg r0 r1 (by omega) (by omega) (Or.inr (by omega))]
      · rw [if_neg z]
    have e2 : g' (6 * r + k % 6) = g (6 * r + k % 6) := by
      rw [h _ (by omega) (by omega)]
      by_cases z : 6 * r + k % 6 < k
      · rw [if_pos z, g_cm_k hg r0 r1 (by omega) (by omega) (Or.inl (by omega))]
      · rw [if_neg z]
    intro j j0 j1
    rw [e1, e2]
    by_cases z : j = k
    · subst z
      have e3 : g' j = g j := by rw [h j j0 j1, if_neg (by omega)]
      rw [g_mn_at rfl, if_pos (show j < j + 1 by omega), e3]
      rfl
    · rw [g_mn_no z, h j j0 j1]
      by_cases u : j < k
      · rw [if_pos u, if_pos (by omega)]
      · rw [if_neg u, if_neg (by omega)]
theorem gd_m2_e {g : Int → Int} {r k : Int} (hg : g_nn g) (r0 : 0 ≤ r) (r1 : r < 6) (k0 : 0 ≤ k) (k1 : k < 36) : gd_m2 r 36 0 g k = g_cm g r k := by
  have z := gd_m2_c hg r0 r1 36 0 g (by omega) (by omega) (fun j j0 j1 => by rw [if_neg (by omega)]) k k0 k1
  rw [z, if_pos k1]
theorem g_ph_s {n c r : Int} {f g : Int → Int} (n6 : n ≤ 6) (c0 : 0 ≤ c) (c1 : c ≤ 499) (r0 : 0 ≤ r) (r1 : r < n) (h : g_ph n c f g) (hg : g_nn g) : g_ph n (2 * c) (g_x2 n r 6 0 f) (gd_m2 r 36 0 g) ∧ g_nn (gd_m2 r 36 0 g) := by
  have hf : ∀ p q, 0 ≤ p → p < n → 0 ≤ q → q < n → 0 ≤ f (p * 6 + q) ∧ f (p * 6 + q) ≤ 1000 := fun p q p0 p1 q0 q1 => by
    have := h p q p0 p1 q0 q1
    omega
  refine ⟨fun p q p0 p1 q0 q1 => ?_, fun k k0 k1 => ?_⟩
  · rw [g_x2_e n6 hf r0 r1 p0 p1 q0 q1, gd_m2_e hg r0 (by omega) (by omega) (by omega)]
    have a1 := h p q p0 p1 q0 q1
    have a2 := h p r p0 p1 r0 r1
    have a3 := h r q r0 r1 q0 q1
    unfold g_cf g_cm
    rw [show (6 * p + q) / 6 = p by omega, show (6 * p + q) % 6 = q by omega]
    by_cases u : f (p * 6 + r) + f (r * 6 + q) < f (p * 6 + q)
    · rw [if_pos u]
      by_cases w : g (6 * p + r) + g (6 * r + q) < g (6 * p + q)
      · rw [if_pos w]
        omega
      · exfalso
        omega
    · rw [if_neg u]
      by_cases w : g (6 * p + r) + g (6 * r + q) < g (6 * p + q)
      · exfalso
        omega
      · rw [if_neg w]
        omega
  · rw [gd_m2_e hg r0 (by omega) k0 k1]
    have a1 := hg k k0 k1
    have a2 := hg (6 * (k / 6) + r) (by omega) (by omega)
    have a3 := hg (6 * r + k % 6) (by omega) (by omega)
    unfold g_cm
    split <;> omega
def g_dbl : Nat → Int → Int
  | 0, c => c
  | m + 1, c => g_dbl m (2 * c)
theorem g_dbl_le : ∀ (m : Nat) (c : Int), 0 ≤ c → c ≤ g_dbl m c
  | 0, _, _ => Int.le_refl _
  | m + 1, c, h => by
    have := g_dbl_le m (2 * c) (by omega)
    show c ≤ g_dbl m (2 * c)
    omega
theorem g_ph_w {n c c' : Int} {f g : Int → Int} (h : g_ph n c f g) (hc : c ≤ c') : g_ph n c' f g := fun p q p0 p1 q0 q1 => by
  have := h p q p0 p1 q0 q1
  omega
theorem g_ph_1 {n : Int} (n6 : n ≤ 6) : ∀ (m : Nat) (r c : Int) (f g : Int → Int), 0 ≤ r → 0 ≤ c → g_dbl m c ≤ 999 → g_ph n c f g → g_nn g → g_ph n (g_dbl m c) (g_x1 n m r f) (gd_m1 n m r g)
  | 0, _, _, _, _, _, _, _, h, _ => h
  | m + 1, r, c, f, g, r0, c0, hc, h, hg => by
    have b1 := g_dbl_le m (2 * c) (by omega)
    have hc : g_dbl m (2 * c) ≤ 999 := hc
    show g_ph n (g_dbl m (2 * c)) (if r < n then g_x1 n m (r + 1) (g_x2 n r 6 0 f) else f) (if r < n then gd_m1 n m (r + 1) (gd_m2 r 36 0 g) else g)
    by_cases z : r < n
    · rw [if_pos z, if_pos z]
      have y := g_ph_s n6 c0 (by omega) r0 z h hg
      exact g_ph_1 n6 m (r + 1) (2 * c) _ _ (by omega) (by omega) hc y.1 y.2
    · rw [if_neg z, if_neg z]
      exact g_ph_w h (by omega)
theorem g_deg {n k : Int} {par knd a b S t F G : Int → Int} (n6 : n ≤ 6) (hp : ∀ j, 0 ≤ j → j < n → ((par j = -4 ∧ S (6 + j) = 0) ∨ (0 ≤ par j ∧ par j < n ∧ S (6 + j) = par j + 1)) ∧ t (S j) = g_tie (knd j)) (hm : ∀ j, 0 ≤ j → j < k → a j = S (12 + 2 * j) ∧ b j = S (12 + 2 * j + 1) ∧ 0 ≤ a j ∧ a j < n ∧ 0 ≤ b j ∧ b j < n) (hF : g_DX n par knd k a b F) (hG : g_DM n k S t G) : g_ph n 256 F G := by
  obtain ⟨f0, hf, eF⟩ := hF
  obtain ⟨g0, hg, eG⟩ := hG
  subst eF; subst eG
  have h1 := g_ph_l1 n6 hp 6 0 f0 g0 (by omega) (g_ph_i n6 hf hg)
  have h2 := g_ph_l2 n6 hm 3 0 _ _ (by omega) h1
  exact g_ph_1 n6 6 0 4 _ _ (by omega) (by omega) (by decide) h2.1 h2.2.2
