/-! FEUDS, WHOM A GATE LETS THROUGH -/
def g_bi (v y : Int) : Bool := g_bt (Int32.ofInt v) y.toNat
def g_fo (a b : Int → Int) (x y : Int) : Nat → Bool
  | 0 => false
  | m + 1 => g_fo a b x y m || (decide (a (m : Int) = x ∧ b (m : Int) = y) || decide (a (m : Int) = y ∧ b (m : Int) = x))
theorem g_fo_sy {a b : Int → Int} {x y : Int} : ∀ m : Nat, g_fo a b x y m = g_fo a b y x m
  | 0 => rfl
  | m + 1 => by
    show (g_fo a b x y m || (decide (a (m : Int) = x ∧ b (m : Int) = y) || decide (a (m : Int) = y ∧ b (m : Int) = x))) = (g_fo a b y x m || (decide (a (m : Int) = y ∧ b (m : Int) = x) || decide (a (m : Int) = x ∧ b (m : Int) = y)))
    rw [g_fo_sy m, Bool.or_comm (decide (a (m : Int) = x ∧ b (m : Int) = y))]
theorem g_fo_eq {a b a' b' : Int → Int} {x y : Int} : ∀ m : Nat, (∀ j : Int, 0 ≤ j → j < m → a j = a' j ∧ b j = b' j) → g_fo a b x y m = g_fo a' b' x y m
  | 0, _ => rfl
  | m + 1, h => by
    show (g_fo a b x y m || _) = (g_fo a' b' x y m || _)
    have e := h (m : Int) (by omega) (by omega)
    rw [g_fo_eq m (fun j j0 j1 => h j j0 (by omega)), e.1, e.2]
theorem g_fo_s {a b : Int → Int} {x y k : Int} (k0 : 0 ≤ k) : g_fo a b x y (k + 1).toNat = (g_fo a b x y k.toNat || (decide (a k = x ∧ b k = y) || decide (a k = y ∧ b k = x))) := by
  rw [show (k + 1).toNat = k.toNat + 1 by omega]
  show (g_fo a b x y k.toNat || (decide (a (k.toNat : Int) = x ∧ b (k.toNat : Int) = y) || decide (a (k.toNat : Int) = y ∧ b (k.toNat : Int) = x))) = _
  rw [show (k.toNat : Int) = k by omega]
/-- one bit more in a number -/
theorem g_bi_or {z y w u : Int32} {q v i : Int} (hz : z = y ||| w) (hw : w = (Int32.ofInt 1) <<< (u &&& 31)) (hu : u.toInt = q) (hy : y.toInt = v) (q0 : 0 ≤ q) (q9 : q ≤ 9) (i0 : 0 ≤ i) (i9 : i ≤ 9) : g_bi z.toInt i = (g_bi v i || decide (i = q)) := by
  unfold g_bi
  rw [g_or_of hz hw hu, Int32.ofInt_toInt, g_ofi hy, g_bt_gor q0 q9 (by omega), show ((i.toNat : Nat) : Int) = i by omega]
def g_fk (a b : Int → Int) (k : Int) (f0 f : Int → Int) : Prop := ∀ x y, 0 ≤ x → x ≤ 5 → 0 ≤ y → y ≤ 5 → g_bi (f x) y = (g_bi (f0 x) y || g_fo a b x y k.toNat)
theorem g_fk_0 {a b f f' : Int → Int} (e : f' = f) : g_fk a b 0 f f' := fun x y _ _ _ _ => by
  subst e
  show _ = (g_bi (f' x) y || false)
  rw [Bool.or_false]
theorem g_fk_s {a b f0 f f1 f2 : Int → Int} {k p q v1 v2 e1 e2 : Int} (h : g_fk a b k f0 f) (k0 : 0 ≤ k) (hp : p = a k) (hq : q = b k) (p0 : 0 ≤ p ∧ p ≤ 5) (q0 : 0 ≤ q ∧ q ≤ 5) (h1 : f1 = g_set f e1 v1) (he1 : e1 = p) (g1 : ∀ i, 0 ≤ i → i ≤ 9 → g_bi v1 i = (g_bi (f p) i || decide (i = q))) (h2 : f2 = g_set f1 e2 v2) (he2 : e2 = q) (g2 : ∀ i, 0 ≤ i → i ≤ 9 → g_bi v2 i = (g_bi (f1 q) i || decide (i = p))) : g_fk a b (k + 1) f0 f2 := by
  subst he1; subst he2; subst h2
  intro x y x0 x5 y0 y5
  have z := h x y x0 x5 y0 y5
  have k1 : ∀ i, 0 ≤ i → i ≤ 9 → g_bi (f1 x) i = (g_bi (f x) i || decide (x = e1 ∧ i = e2)) := fun i i0 i9 => by
    subst h1
    by_cases c : x = e1
    · rw [g_set_p c, g1 i i0 i9, c]
      by_cases d : i = e2
      · rw [decide_eq_true d, decide_eq_true (show e1 = e1 ∧ i = e2 from ⟨rfl, d⟩)]
      · rw [decide_eq_false d, decide_eq_false (fun w => d w.2)]
    · rw [g_set_n c, decide_eq_false (fun w => c w.1), Bool.or_false]
  have k2 : g_bi (g_set f1 e2 v2 x) y = (g_bi (f1 x) y || decide (x = e2 ∧ y = e1)) := by
    by_cases c : x = e2
    · rw [g_set_p c, g2 y y0 (by omega), c]
      by_cases d : y = e1
      · rw [decide_eq_true d, decide_eq_true (show e2 = e2 ∧ y = e1 from ⟨rfl, d⟩)]
      · rw [decide_eq_false d, decide_eq_false (fun w => d w.2)]
    · rw [g_set_n c, decide_eq_false (fun w => c w.1), Bool.or_false]
  rw [k2, k1 y y0 (by omega), z, g_fo_s k0, ← hp, ← hq, Bool.or_assoc, Bool.or_assoc, show decide (x = e1 ∧ y = e2) = decide (e1 = x ∧ e2 = y) from decide_eq_decide.mpr ⟨fun w => ⟨w.1.symm, w.2.symm⟩, fun w => ⟨w.1.symm, w.2.symm⟩⟩, show decide (x = e2 ∧ y = e1) = decide (e1 = y ∧ e2 = x) from decide_eq_decide.mpr ⟨fun w => ⟨w.2.symm, w.1.symm⟩, fun w => ⟨w.2.symm, w.1.symm⟩⟩]
/-- whom a gate lets through -/
def g_lq (n : Int) (d f : Int → Int) (l r q : Int) : Bool := decide (¬ (0 ≤ l ∧ l < n)) || (decide (d (l * 6 + q) ≤ r) && ! g_bi (f l) q)
theorem g_lb_1 {n l r : Int} {d f : Int → Int} {z w x y : Int32} (n6 : n ≤ 6) (hl : 0 ≤ l ∧ l < n) (hw : w = g_bs n (fun q => decide (d (l * 6 + q) ≤ r)) 6 0 0) (hy : y.toInt = f l) (hx : x = y ^^^ (Int32.ofInt (-1))) (hz : z = w &&& x) : z = g_bs n (g_lq n d f l r) 6 0 0 := by
  refine g_bt_ext (fun i hi => ?_)
  rw [hz, g_bt_and, hx, g_bt_xn _ hi, hw, g_bt_bs n6 6 0 0 (by omega) (by omega) i hi, g_bt_bs n6 6 0 0 (by omega) (by omega) i hi, g_bt_0, Bool.false_or, Bool.false_or]
  unfold g_lq g_bi
  rw [decide_eq_false (show ¬ ¬ (0 ≤ l ∧ l < n) from fun c => c hl), Bool.false_or, ← hy, Int32.ofInt_toInt, show ((i : Int).toNat) = i by omega, Bool.and_assoc]
theorem g_lb_0 {n l r : Int} {d f : Int → Int} {z w y : Int32} (n0 : 0 ≤ n) (n6 : n ≤ 6) (hl : ¬ (0 ≤ l ∧ l < n)) (hw : w = (Int32.ofInt 1) <<< (y &&& 31)) (hy : y.toInt = n) (hz : z.toInt = w.toInt - 1) : z = g_bs n (g_lq n d f l r) 6 0 0 := by
  have e : g_bs n (g_lq n d f l r) 6 0 0 = g_bs n (fun _ => true) 6 0 0 := g_bs_eq (fun q _ _ => by
    unfold g_lq
    rw [decide_eq_true hl, Bool.true_or]) 6 0 0 (by omega)
  rw [e, ← g_ofi hz, hw, ← g_ofi hy]
  have c : n = 0 ∨ n = 1 ∨ n = 2 ∨ n = 3 ∨ n = 4 ∨ n = 5 ∨ n = 6 := by omega
  rcases c with c | c | c | c | c | c | c <;> subst c <;> decide
/-- the rows of a course -/
def g_op (n : Int) (d f rc : Int → Int) (k j : Int) (h : Int → Int) : Prop := ∀ g l, 0 ≤ g → 0 ≤ l → (g < k ∧ l ≤ 6) ∨ (g = k ∧ l < j) → h (g * 7 + l) = (g_bs n (g_lq n d f l (rc g)) 6 0 0).toInt
theorem g_op_0 {n : Int} {d f rc h : Int → Int} : g_op n d f rc 0 0 h := fun g l a b c => by omega
theorem g_op_s {n k j e v : Int} {d f rc h h' : Int → Int} (z : g_op n d f rc k j h) (j0 : 0 ≤ j) (j6 : j ≤ 6) (k0 : 0 ≤ k) (hh : h' = g_set h e v) (he : e = k * 7 + j) (hv : v = (g_bs n (g_lq n d f j (rc k)) 6 0 0).toInt) : g_op n d f rc k (j + 1) h' := by
  subst hh; subst he
  intro g l g0 l0 c
  by_cases x : g = k ∧ l = j
  · obtain ⟨x1, x2⟩ := x
    subst x1; subst x2
    rw [g_set_p rfl, hv]
  · rw [g_set_n (by omega)]
    exact z g l g0 l0 (by omega)
theorem g_op_r {n k j : Int} {d f rc h h' : Int → Int} (z : g_op n d f rc k j h) (j6 : 6 < j) (e : h' = h) : g_op n d f rc (k + 1) 0 h' := by
  subst e
  intro g l g0 l0 c
  exact z g l g0 l0 (by omega)
/-- what the class asks of a goer -/
def g_yX (n : Int) (d f : Int → Int) (p l r : Int) : Bool := decide (l = -4) || (decide (d (l * 6 + p) ≤ r) && ! g_bi (f l) p)
theorem g_lq_y {n p l l' r : Int} {d f : Int → Int} (n6 : n ≤ 6) (hl : l = -4 ∨ (0 ≤ l ∧ l < n)) (hl' : (l = -4 ∧ l' = 6) ∨ (¬ l = -4 ∧ l' = l)) : g_lq n d f l' r p = g_yX n d f p l r := by
  unfold g_lq g_yX
  rcases hl' with c | c
  · rw [decide_eq_true (show ¬ (0 ≤ l' ∧ l' < n) by omega), decide_eq_true c.1, Bool.true_or, Bool.true_or]
  · rw [decide_eq_false (show ¬ ¬ (0 ≤ l' ∧ l' < n) by omega), decide_eq_false c.1, c.2]
/-- the bit that is looked at -/
theorem g_adm {n g l l' p : Int} {d f rc h : Int → Int} {k : Int} (z : g_op n d f rc k 0 h) (n6 : n ≤ 6) (g0 : 0 ≤ g) (g1 : g < k) (hl : l = -4 ∨ (0 ≤ l ∧ l < n)) (hl' : (l = -4 ∧ l' = 6) ∨ (¬ l = -4 ∧ l' = l)) (p0 : 0 ≤ p) (p1 : p < n) {y : Int32} (hy : y.toInt = h (g * 7 + l')) : g_hb y p = if g_yX n d f p l (rc g) = true then 1 else 0 := by
  have e := z g l' g0 (by omega) (Or.inl ⟨g1, by omega⟩)
  have e2 : y = g_bs n (g_lq n d f l' (rc g)) 6 0 0 := h_ieq.mpr (by rw [hy, e])
  rw [g_hb_bt p0 (by omega), e2, g_bt_bs n6 6 0 0 (by omega) (by omega) p.toNat (by omega), g_bt_0, Bool.false_or, show ((p.toNat : Nat) : Int) = p by omega, decide_eq_true (show 0 ≤ p ∧ p < n from ⟨p0, p1⟩), Bool.true_and, g_lq_y n6 hl hl']
/-- what the reference asks -/
def g_yM (d A B : Int → Int) (m p l r : Int) : Bool := decide (l = -4) || (decide (d (6 * l + p) ≤ r) && ! g_fo A B p l m.toNat)
theorem g_y_eq {n m m' p l r : Int} {F G f c e A B : Int → Int} (h : g_ph n 256 F G) (n6 : n ≤ 6) (hf : ∀ x y, 0 ≤ x → x < n → 0 ≤ y → y ≤ 5 → g_bi (f x) y = g_fo c e x y m.toNat) (hm : m' = m) (hc : ∀ j, 0 ≤ j → j < m → c j = A j ∧ e j = B j) (hl : l = -4 ∨ (0 ≤ l ∧ l < n)) (p0 : 0 ≤ p) (p1 : p < n) (r1 : r ≤ 999) : g_yX n F f p l r = g_yM G A B m' p l r := by
  unfold g_yX g_yM
  by_cases z : l = -4
  · rw [decide_eq_true z, Bool.true_or, Bool.true_or]
  · have hl : 0 ≤ l ∧ l < n := by omega
    rw [decide_eq_false z, Bool.false_or, Bool.false_or, hm, hf l p hl.1 hl.2 p0 (by omega), g_fo_sy (a := c) (b := e) (x := l) (y := p) m.toNat, g_fo_eq m.toNat (fun j j0 j1 => hc j j0 (by omega))]
    have y := h l p hl.1 hl.2 p0 p1
    rw [show decide (F (l * 6 + p) ≤ r) = decide (G (6 * l + p) ≤ r) from decide_eq_decide.mpr (by omega)]
theorem g_fk_k {a b f0 f : Int → Int} {k k' : Int} (h : g_fk a b k f0 f) (h1 : k ≤ k') (h2 : k' ≤ k) : g_fk a b k' f0 f := by
  have e : k = k' := by omega
  exact e ▸ h
def g_z0 (b : Int) (f : Int → Int) : Prop := ∀ x, 0 ≤ x → x < b → f x = 0
theorem g_z0_0 {f : Int → Int} : g_z0 0 f := fun x a b => by omega
theorem g_z0_e {b : Int} {f f' : Int → Int} (h : g_z0 b f) (e : f' = f) : g_z0 b f' := e ▸ h
theorem g_z0_s {b e v : Int} {f f' : Int → Int} (h : g_z0 b f) (he : e = b) (hv : v = 0) (hf : f' = g_set f e v) : g_z0 (b + 1) f' := fun x x0 x1 => by
  subst hf; subst he
  by_cases c : x = e
  · rw [g_set_p c, hv]
  · rw [g_set_n c]
    exact h x x0 (by omega)
def g_FX (n : Int) (c d : Int → Int) (m : Int) (f : Int → Int) : Prop := ∀ x y, 0 ≤ x → x < n → 0 ≤ y → y ≤ 5 → g_bi (f x) y = g_fo c d x y m.toNat
theorem g_bi_0 (y : Int) : g_bi 0 y = false := by
  unfold g_bi
  exact g_bt_0 _
theorem g_FX_mk {n b m m' : Int} {c d c' d' f0 f f' : Int → Int} (h : g_fk c' d' m' f0 f) (e : f' = f) (h0 : g_z0 b f0) (hb : n ≤ b ∧ n ≤ 6) (ec : c' = c) (ed : d' = d) (em : m' = m) : g_FX n c d m f' := by
  subst e; subst ec; subst ed; subst em
  intro x y x0 x1 y0 y1
  rw [h x y x0 (by omega) y0 y1, h0 x x0 (by omega), g_bi_0, Bool.false_or]
def kf_n_linkAll_10 : List Nat := [82943, 83967]
set_option maxHeartbeats 100000000 in
set_option maxHeartbeats 100000000 in
theorem n_linkAll_10_l (ns : Nat) (σ : h_S) (hI : h_I σ) (pr0 : σ 79 2 = σ 10 8) {Q : Option Value → h_S → Prop} (kk : ∀ (τ : h_S), h_I τ → h_F (k_in kf_n_linkAll_10) τ σ → (τ 80 = g_n1 (σ 10 8) (σ 12) (σ 11) (σ 13 2) (σ 14) (σ 15) 0 (σ 80)) → (g_fk (σ 17) (σ 18) (σ 16 2) (σ 81) (τ 81)) → Q none τ) : ∀ n : Nat, (∀ (s0 : h_S), h_I s0 → h_F (k_in kf_n_linkAll_10) s0 σ → ∀ (y2 : Int32) (b2 : Int), y2.toInt = b2 → (0 ≤ b2 ∧ b2 ≤ 6) → (g_n1 (σ 10 8) (σ 12) (σ 11) (σ 13 2) (σ 14) (σ 15) b2 (s0 80) = g_n1 (σ 10 8) (σ 12) (σ 11) (σ 13 2) (σ 14) (σ 15) 0 (σ 80)) → (s0 81 = σ 81) → (6 + 1 - b2) * 1000000 + 3000000000 ≤ (n : Int) → h_T g_P (g_Y ns) 24 2 [(0, .ref 79), (1, .ref 10), (2, .int y2)] [] s0 Q) ∧ (∀ (s0 : h_S), h_I s0 → h_F (k_in kf_n_linkAll_10) s0 σ → ∀ (y2 : Int32) (b2 : Int), y2.toInt = b2 → (0 ≤ b2 ∧ b2 ≤ 3) → (g_n2 (σ 13 2) (σ 14) (σ 15) b2 (s0 80) = g_n1 (σ 10 8) (σ 12) (σ 11) (σ 13 2) (σ 14) (σ 15) 0 (σ 80)) → (s0 81 = σ 81) → (3 + 1 - b2) * 1000000 + 2000000000 ≤ (n : Int) → h_T g_P (g_Y ns) 24 51 [(0, .ref 79), (1, .ref 10), (2, .int y2)] [] s0 Q) ∧ (∀ (s0 : h_S), h_I s0 → h_F (k_in kf_n_linkAll_10) s0 σ → ∀ (y2 : Int32) (b2 : Int), y2.toInt = b2 → (0 ≤ b2 ∧ b2 ≤ 3) → (s0 80 = g_n1 (σ 10 8) (σ 12) (σ 11) (σ 13 2) (σ 14) (σ 15) 0 (σ 80)) → (g_fk (σ 17) (σ 18) b2 (σ 81) (s0 81)) → (b2 ≤ σ 16 2) → (3 + 1 - b2) * 1000000 + 1000000000 ≤ (n : Int) → h_T g_P (g_Y ns) 24 93 [(0, .ref 79), (1, .ref 10), (2, .int y2)] [] s0 Q) := by
  intro n
  induction n with
  | zero => exact ⟨by intro s0 I0 F0_ y2 b2 hy2 ry2 ex0 ex1 hm; have gh0 := F0_ 79 2 rfl; have gh1 := F0_ 10 8 rfl; have gh2 := F0_ 13 2 rfl; have gh3 := F0_ 16 2 rfl; have gh4 := tf_10_8 hI; have gh5 := tf_13_2 hI; have gh6 := tf_16_2 hI; have gh7 := pr0; exfalso; omega, by intro s0 I0 F0_ y2 b2 hy2 ry2 ex0 ex1 hm; have gh0 := F0_ 79 2 rfl; have gh1 := F0_ 10 8 rfl; have gh2 := F0_ 13 2 rfl; have gh3 := F0_ 16 2 rfl; have gh4 := tf_10_8 hI; have gh5 := tf_13_2 hI; have gh6 := tf_16_2 hI; have gh7 := pr0; exfalso; omega, by intro s0 I0 F0_ y2 b2 hy2 ry2 ex0 ex1 ex2 hm; have gh0 := F0_ 79 2 rfl; have gh1 := F0_ 10 8 rfl; have gh2 := F0_ 13 2 rfl; have gh3 := F0_ 16 2 rfl; have gh4 := tf_10_8 hI; have gh5 := tf_13_2 hI; have gh6 := tf_16_2 hI; have gh7 := pr0; exfalso; omega⟩
  | succ n ih =>
    refine ⟨?_, ?_, ?_⟩
    · intro s0 I0 F0_ y2 b2 hy2 ry2 ex0 ex1 hm; have gh0 := F0_ 79 2 rfl; have gh1 := F0_ 10 8 rfl; have gh2 := F0_ 13 2 rfl; have gh3 := F0_ 16 2 rfl; have gh4 := tf_10_8 hI; have gh5 := tf_13_2 hI; have gh6 := tf_16_2 hI; have gh7 := pr0
      refine h_iload_n (pc' := 3) rfl rfl rfl ?_
      refine h_aload_n (pc' := 4) rfl rfl rfl ?_
      refine h_getI (pc' := 7) (v := σ 79 2) rfl rfl rfl rfl rfl (F0_ 79 2 rfl) (fun z1 hz1 => ?_)
      have tz1 := tf_79_2 hI
      refine h_cge (tg := 49) (pc' := 10) rfl rfl rfl hy2 hz1 (fun c2 => ?_) (fun c2 => ?_)
      · refine h_iconst (pc' := 50) (x := (Int32.ofInt 0)) rfl rfl rfl ?_
        refine h_istore_n (pc' := 51) (M := [(2, .int (Int32.ofInt 0)), (0, .ref 79), (1, .ref 10)]) rfl rfl rfl rfl ?_
        exact h_wk [(0, .ref 79), (1, .ref 10), (2, .int (Int32.ofInt 0))] ⟨rfl, rfl, rfl, trivial⟩ (ih.2.1 _ I0 F0_ (Int32.ofInt 0) _ ci_0 (by omega) (g_n1_o ex0 (by omega) rfl) ex1 (by omega))
      · refine h_aload_n (pc' := 11) rfl rfl rfl ?_
        refine h_aload_n (pc' := 12) rfl rfl rfl ?_
        refine h_getR (pc' := 15) rfl rfl rfl rfl rfl ?_
        refine h_iload_n (pc' := 16) rfl rfl rfl ?_
        refine h_iald (pc' := 17) (v := σ 12 b2) rfl rfl rfl hy2 (by omega) (by omega) (F0_ 12 _ rfl) (fun z3 hz3 => ?_)
        have tz3 := ty_12 hI b2
        refine h_call (sp := false) (pc' := 20) (M := [(0, .ref 10), (1, .int z3)]) rfl rfl rfl rfl rfl rfl rfl rfl ?_
        refine h_iload_n (pc' := 1) rfl rfl rfl ?_
        refine h_zlt (tg := 16) (pc' := 4) rfl rfl rfl hz3 (fun c4 => ?_) (fun c4 => ?_)
        · refine h_iconst (pc' := 17) (x := (Int32.ofInt 0)) rfl rfl rfl ?_
          refine h_zret rfl rfl ci_0 (by omega) (h_Kv ?_)
          refine h_zeq (tg := 43) (pc' := 23) rfl rfl rfl ci_0 (fun c5 => ?_) (fun c5 => absurd c5 (by omega))
          refine h_iinc (pc' := 46) (M := fun z6 => [(2, .int z6), (0, .ref 79), (1, .ref 10)]) rfl rfl rfl rfl hy2 ci_1 rfl (by omega) (by omega) (fun _ => rfl) (fun z6 hz6 => ?_)
          refine h_goto (pc' := 2) rfl rfl ?_
          exact h_wk [(0, .ref 79), (1, .ref 10), (2, .int z6)] ⟨rfl, rfl, rfl, trivial⟩ (ih.1 _ I0 F0_ z6 _ hz6 (by omega) (g_n1_n ex0 (by omega) (by omega) (by omega) rfl (by omega) rfl) ex1 (by omega))
        · refine h_iload_n (pc' := 5) rfl rfl rfl ?_
          refine h_aload_n (pc' := 6) rfl rfl rfl ?_
          refine h_getI (pc' := 9) (v := σ 10 8) rfl rfl rfl rfl rfl (F0_ 10 8 rfl) (fun z7 hz7 => ?_)
          have tz7 := tf_10_8 hI
          refine h_cge (tg := 16) (pc' := 12) rfl rfl rfl hz3 hz7 (fun c8 => ?_) (fun c8 => ?_)
          · refine h_iconst (pc' := 17) (x := (Int32.ofInt 0)) rfl rfl rfl ?_
            refine h_zret rfl rfl ci_0 (by omega) (h_Kv ?_)
            refine h_zeq (tg := 43) (pc' := 23) rfl rfl rfl ci_0 (fun c9 => ?_) (fun c9 => absurd c9 (by omega))
            refine h_iinc (pc' := 46) (M := fun z10 => [(2, .int z10), (0, .ref 79), (1, .ref 10)]) rfl rfl rfl rfl hy2 ci_1 rfl (by omega) (by omega) (fun _ => rfl) (fun z10 hz10 => ?_)
            refine h_goto (pc' := 2) rfl rfl ?_
            exact h_wk [(0, .ref 79), (1, .ref 10), (2, .int z10)] ⟨rfl, rfl, rfl, trivial⟩ (ih.1 _ I0 F0_ z10 _ hz10 (by omega) (g_n1_n ex0 (by omega) (by omega) (by omega) rfl (by omega) rfl) ex1 (by omega))
          · refine h_iconst (pc' := 13) (x := (Int32.ofInt 1)) rfl rfl rfl ?_
            refine h_goto (pc' := 17) rfl rfl ?_
            refine h_zret rfl rfl ci_1 (by omega) (h_Kv ?_)
            refine h_zeq (tg := 43) (pc' := 23) rfl rfl rfl ci_1 (fun c11 => absurd c11 (by omega)) (fun c11 => ?_)
            refine h_aload_n (pc' := 24) rfl rfl rfl ?_
            refine h_iload_n (pc' := 25) rfl rfl rfl ?_
            refine h_aload_n (pc' := 26) rfl rfl rfl ?_
            refine h_getR (pc' := 29) rfl rfl rfl rfl rfl ?_
            refine h_iload_n (pc' := 30) rfl rfl rfl ?_
            refine h_iald (pc' := 31) (v := σ 12 b2) rfl rfl rfl hy2 (by omega) (by omega) (F0_ 12 _ rfl) (fun z12 hz12 => ?_)
            have tz12 := ty_12 hI b2
            refine h_aload_n (pc' := 32) rfl rfl rfl ?_
            refine h_getR (pc' := 35) rfl rfl rfl rfl rfl ?_
            refine h_iload_n (pc' := 36) rfl rfl rfl ?_
            refine h_iald (pc' := 37) (v := σ 11 b2) rfl rfl rfl hy2 (by omega) (by omega) (F0_ 11 _ rfl) (fun z13 hz13 => ?_)
            have tz13 := ty_11 hI b2
            refine h_calls (pc' := 40) (M := [(0, .int z13)]) rfl rfl rfl rfl rfl rfl ?_
            refine h_iload_n (pc' := 1) rfl rfl rfl ?_
            refine h_tsw (dt := 34) (ts := [28, 30, 32]) rfl rfl rfl rfl hz13 (fun c14 => ?_) ⟨fun c14 => ?_, fun c14 => ?_, fun c14 => ?_, trivial⟩
            · refine h_iconst (pc' := 35) (x := (Int32.ofInt 4)) rfl rfl rfl ?_
              refine h_iret rfl rfl (h_Kv ?_)
              refine h_call (sp := false) (pc' := 43) (M := [(0, .ref 79), (1, .int y2), (2, .int z12), (3, .int (Int32.ofInt 4))]) rfl rfl rfl rfl rfl rfl rfl rfl ?_
              refine n_join _ I0 y2 _ hy2 (by omega) z12 _ hz12 (by omega) (Int32.ofInt 4) _ ci_4 (by omega) (fun s16 Is16 Gs16 ps16_0 => h_Kn ?_)
              have Fs16 := (Gs16.mono (B := kf_n_linkAll_10) rfl).tr F0_
              have es16_0 : s16 98 13 = s0 98 13 := (Gs16 98 13 rfl).trans rfl
              refine h_iinc (pc' := 46) (M := fun z17 => [(2, .int z17), (0, .ref 79), (1, .ref 10)]) rfl rfl rfl rfl hy2 ci_1 rfl (by omega) (by omega) (fun _ => rfl) (fun z17 hz17 => ?_)
              refine h_goto (pc' := 2) rfl rfl ?_
              exact h_wk [(0, .ref 79), (1, .ref 10), (2, .int z17)] ⟨rfl, rfl, rfl, trivial⟩ (ih.1 _ Is16 Fs16 z17 _ hz17 (by omega) (g_n1_y ex0 (by omega) (by omega) (by omega) rfl (by omega) (by omega) (by first | exact g_tie_0 (Int.le_antisymm (by omega) (by omega)) rfl | exact g_tie_1 (Int.le_antisymm (by omega) (by omega)) rfl | exact g_tie_2 (Int.le_antisymm (by omega) (by omega)) rfl | exact g_tie_3 (Int.le_antisymm (by omega) (by omega)) rfl) ps16_0) ((funext (fun j => Gs16 81 j rfl)).trans ex1) (by omega))
            · refine h_iconst (pc' := 29) (x := (Int32.ofInt 1)) rfl rfl rfl ?_
              refine h_iret rfl rfl (h_Kv ?_)
              refine h_call (sp := false) (pc' := 43) (M := [(0, .ref 79), (1, .int y2), (2, .int z12), (3, .int (Int32.ofInt 1))]) rfl rfl rfl rfl rfl rfl rfl rfl ?_
              refine n_join _ I0 y2 _ hy2 (by omega) z12 _ hz12 (by omega) (Int32.ofInt 1) _ ci_1 (by omega) (fun s19 Is19 Gs19 ps19_0 => h_Kn ?_)
              have Fs19 := (Gs19.mono (B := kf_n_linkAll_10) rfl).tr F0_
              have es19_0 : s19 98 13 = s0 98 13 := (Gs19 98 13 rfl).trans rfl
              refine h_iinc (pc' := 46) (M := fun z20 => [(2, .int z20), (0, .ref 79), (1, .ref 10)]) rfl rfl rfl rfl hy2 ci_1 rfl (by omega) (by omega) (fun _ => rfl) (fun z20 hz20 => ?_)
              refine h_goto (pc' := 2) rfl rfl ?_
              exact h_wk [(0, .ref 79), (1, .ref 10), (2, .int z20)] ⟨rfl, rfl, rfl, trivial⟩ (ih.1 _ Is19 Fs19 z20 _ hz20 (by omega) (g_n1_y ex0 (by omega) (by omega) (by omega) rfl (by omega) (by omega) (by first | exact g_tie_0 (Int.le_antisymm (by omega) (by omega)) rfl | exact g_tie_1 (Int.le_antisymm (by omega) (by omega)) rfl | exact g_tie_2 (Int.le_antisymm (by omega) (by omega)) rfl | exact g_tie_3 (Int.le_antisymm (by omega) (by omega)) rfl) ps19_0) ((funext (fun j => Gs19 81 j rfl)).trans ex1) (by omega))
            · refine h_iconst (pc' := 31) (x := (Int32.ofInt 2)) rfl rfl rfl ?_
              refine h_iret rfl rfl (h_Kv ?_)
              refine h_call (sp := false) (pc' := 43) (M := [(0, .ref 79), (1, .int y2), (2, .int z12), (3, .int (Int32.ofInt 2))]) rfl rfl rfl rfl rfl rfl rfl rfl ?_
              refine n_join _ I0 y2 _ hy2 (by omega) z12 _ hz12 (by omega) (Int32.ofInt 2) _ ci_2 (by omega) (fun s22 Is22 Gs22 ps22_0 => h_Kn ?_)
              have Fs22 := (Gs22.mono (B := kf_n_linkAll_10) rfl).tr F0_
              have es22_0 : s22 98 13 = s0 98 13 := (Gs22 98 13 rfl).trans rfl
              refine h_iinc (pc' := 46) (M := fun z23 => [(2, .int z23), (0, .ref 79), (1, .ref 10)]) rfl rfl rfl rfl hy2 ci_1 rfl (by omega) (by omega) (fun _ => rfl) (fun z23 hz23 => ?_)
              refine h_goto (pc' := 2) rfl rfl ?_
              exact h_wk [(0, .ref 79), (1, .ref 10), (2, .int z23)] ⟨rfl, rfl, rfl, trivial⟩ (ih.1 _ Is22 Fs22 z23 _ hz23 (by omega) (g_n1_y ex0 (by omega) (by omega) (by omega) rfl (by omega) (by omega) (by first | exact g_tie_0 (Int.le_antisymm (by omega) (by omega)) rfl | exact g_tie_1 (Int.le_antisymm (by omega) (by omega)) rfl | exact g_tie_2 (Int.le_antisymm (by omega) (by omega)) rfl | exact g_tie_3 (Int.le_antisymm (by omega) (by omega)) rfl) ps22_0) ((funext (fun j => Gs22 81 j rfl)).trans ex1) (by omega))
            · refine h_iconst (pc' := 33) (x := (Int32.ofInt 0)) rfl rfl rfl ?_
              refine h_iret rfl rfl (h_Kv ?_)
              refine h_call (sp := false) (pc' := 43) (M := [(0, .ref 79), (1, .int y2), (2, .int z12), (3, .int (Int32.ofInt 0))]) rfl rfl rfl rfl rfl rfl rfl rfl ?_
              refine n_join _ I0 y2 _ hy2 (by omega) z12 _ hz12 (by omega) (Int32.ofInt 0) _ ci_0 (by omega) (fun s25 Is25 Gs25 ps25_0 => h_Kn ?_)
              have Fs25 := (Gs25.mono (B := kf_n_linkAll_10) rfl).tr F0_
              have es25_0 : s25 98 13 = s0 98 13 := (Gs25 98 13 rfl).trans rfl
              refine h_iinc (pc' := 46) (M := fun z26 => [(2, .int z26), (0, .ref 79), (1, .ref 10)]) rfl rfl rfl rfl hy2 ci_1 rfl (by omega) (by omega) (fun _ => rfl) (fun z26 hz26 => ?_)
              refine h_goto (pc' := 2) rfl rfl ?_
              exact h_wk [(0, .ref 79), (1, .ref 10), (2, .int z26)] ⟨rfl, rfl, rfl, trivial⟩ (ih.1 _ Is25 Fs25 z26 _ hz26 (by omega) (g_n1_y ex0 (by omega) (by omega) (by omega) rfl (by omega) (by omega) (by first | exact g_tie_0 (Int.le_antisymm (by omega) (by omega)) rfl | exact g_tie_1 (Int.le_antisymm (by omega) (by omega)) rfl | exact g_tie_2 (Int.le_antisymm (by omega) (by omega)) rfl | exact g_tie_3 (Int.le_antisymm (by omega) (by omega)) rfl) ps25_0) ((funext (fun j => Gs25 81 j rfl)).trans ex1) (by omega))
    · intro s0 I0 F0_ y2 b2 hy2 ry2 ex0 ex1 hm; have gh0 := F0_ 79 2 rfl; have gh1 := F0_ 10 8 rfl; have gh2 := F0_ 13 2 rfl; have gh3 := F0_ 16 2 rfl; have gh4 := tf_10_8 hI; have gh5 := tf_13_2 hI; have gh6 := tf_16_2 hI; have gh7 := pr0
      refine h_iload_n (pc' := 52) rfl rfl rfl ?_
      refine h_aload_n (pc' := 53) rfl rfl rfl ?_
      refine h_getR (pc' := 56) rfl rfl rfl rfl rfl ?_
      refine h_getI (pc' := 59) (v := σ 13 2) rfl rfl rfl rfl rfl (F0_ 13 2 rfl) (fun z1 hz1 => ?_)
      have tz1 := tf_13_2 hI
      refine h_cge (tg := 91) (pc' := 62) rfl rfl rfl hy2 hz1 (fun c2 => ?_) (fun c2 => ?_)
      · refine h_iconst (pc' := 92) (x := (Int32.ofInt 0)) rfl rfl rfl ?_
        refine h_istore_n (pc' := 93) (M := [(2, .int (Int32.ofInt 0)), (0, .ref 79), (1, .ref 10)]) rfl rfl rfl rfl ?_
        exact h_wk [(0, .ref 79), (1, .ref 10), (2, .int (Int32.ofInt 0))] ⟨rfl, rfl, rfl, trivial⟩ (ih.2.2 _ I0 F0_ (Int32.ofInt 0) _ ci_0 (by omega) (g_n2_o ex0 (by omega) rfl) (g_fk_0 ex1) (by omega) (by omega))
      · refine h_aload_n (pc' := 63) rfl rfl rfl ?_
        refine h_aload_n (pc' := 64) rfl rfl rfl ?_
        refine h_getR (pc' := 67) rfl rfl rfl rfl rfl ?_
        refine h_getR (pc' := 70) rfl rfl rfl rfl rfl ?_
        refine h_iload_n (pc' := 71) rfl rfl rfl ?_
        refine h_iald (pc' := 72) (v := σ 14 b2) rfl rfl rfl hy2 (by omega) (by omega) (F0_ 14 _ rfl) (fun z3 hz3 => ?_)
        have tz3 := ty_14 hI b2
        refine h_aload_n (pc' := 73) rfl rfl rfl ?_
        refine h_getR (pc' := 76) rfl rfl rfl rfl rfl ?_
        refine h_getR (pc' := 79) rfl rfl rfl rfl rfl ?_
        refine h_iload_n (pc' := 80) rfl rfl rfl ?_
        refine h_iald (pc' := 81) (v := σ 15 b2) rfl rfl rfl hy2 (by omega) (by omega) (F0_ 15 _ rfl) (fun z4 hz4 => ?_)
        have tz4 := ty_15 hI b2
        refine h_iconst (pc' := 82) (x := (Int32.ofInt 1)) rfl rfl rfl ?_
        refine h_call (sp := false) (pc' := 85) (M := [(0, .ref 79), (1, .int z3), (2, .int z4), (3, .int (Int32.ofInt 1))]) rfl rfl rfl rfl rfl rfl rfl rfl ?_
        refine n_join _ I0 z3 _ hz3 (by omega) z4 _ hz4 (by omega) (Int32.ofInt 1) _ ci_1 (by omega) (fun s6 Is6 Gs6 ps6_0 => h_Kn ?_)
        have Fs6 := (Gs6.mono (B := kf_n_linkAll_10) rfl).tr F0_
        have es6_0 : s6 98 13 = s0 98 13 := (Gs6 98 13 rfl).trans rfl
        refine h_iinc (pc' := 88) (M := fun z7 => [(2, .int z7), (0, .ref 79), (1, .ref 10)]) rfl rfl rfl rfl hy2 ci_1 rfl (by omega) (by omega) (fun _ => rfl) (fun z7 hz7 => ?_)
        refine h_goto (pc' := 51) rfl rfl ?_
        exact h_wk [(0, .ref 79), (1, .ref 10), (2, .int z7)] ⟨rfl, rfl, rfl, trivial⟩ (ih.2.1 _ Is6 Fs6 z7 _ hz7 (by omega) (g_n2_y ex0 (by omega) (by omega) (by omega) rfl rfl ps6_0) ((funext (fun j => Gs6 81 j rfl)).trans ex1) (by omega))
    · intro s0 I0 F0_ y2 b2 hy2 ry2 ex0 ex1 ex2 hm; have gh0 := F0_ 79 2 rfl; have gh1 := F0_ 10 8 rfl; have gh2 := F0_ 13 2 rfl; have gh3 := F0_ 16 2 rfl; have gh4 := tf_10_8 hI; have gh5 := tf_13_2 hI; have gh6 := tf_16_2 hI; have gh7 := pr0
      refine h_iload_n (pc' := 94) rfl rfl rfl ?_
      refine h_aload_n (pc' := 95) rfl rfl rfl ?_
      refine h_getR (pc' := 98) rfl rfl rfl rfl rfl ?_
      refine h_getI (pc' := 101) (v := σ 16 2) rfl rfl rfl rfl rfl (F0_ 16 2 rfl) (fun z1 hz1 => ?_)
      have tz1 := tf_16_2 hI
      refine h_cge (tg := 157) (pc' := 104) rfl rfl rfl hy2 hz1 (fun c2 => ?_) (fun c2 => ?_)
      · exact h_vret rfl rfl (kk _ I0 F0_ ex0 (g_fk_k ex1 (by omega) (by omega)))
      · refine h_aload_n (pc' := 105) rfl rfl rfl ?_
        refine h_getR (pc' := 108) rfl rfl rfl rfl rfl ?_
        refine h_getR (pc' := 111) rfl rfl rfl rfl rfl ?_
        refine h_iload_n (pc' := 112) rfl rfl rfl ?_
        refine h_iald (pc' := 113) (v := σ 17 b2) rfl rfl rfl hy2 (by omega) (by omega) (F0_ 17 _ rfl) (fun z3 hz3 => ?_)
        have tz3 := ty_17 hI b2
        refine h_istore_n (pc' := 114) (M := [(3, .int z3), (0, .ref 79), (1, .ref 10), (2, .int y2)]) rfl rfl rfl rfl ?_
        refine h_aload_n (pc' := 115) rfl rfl rfl ?_
        refine h_getR (pc' := 118) rfl rfl rfl rfl rfl ?_
        refine h_getR (pc' := 121) rfl rfl rfl rfl rfl ?_
        refine h_iload_n (pc' := 122) rfl rfl rfl ?_
        refine h_iald (pc' := 123) (v := σ 18 b2) rfl rfl rfl hy2 (by omega) (by omega) (F0_ 18 _ rfl) (fun z4 hz4 => ?_)
        have tz4 := ty_18 hI b2
        refine h_istore (pc' := 125) (M := [(4, .int z4), (3, .int z3), (0, .ref 79), (1, .ref 10), (2, .int y2)]) rfl rfl rfl rfl ?_
        refine h_aload_n (pc' := 126) rfl rfl rfl ?_
        refine h_getR (pc' := 129) rfl rfl rfl rfl rfl ?_
        refine h_iload_n (pc' := 130) rfl rfl rfl ?_
        refine h_dup2 (pc' := 131) rfl rfl rfl ?_
        refine h_iald (pc' := 132) (v := s0 81 (σ 17 b2)) rfl rfl rfl hz3 (by omega) (by omega) rfl (fun z5 hz5 => ?_)
        have tz5 := ty_81 I0 (σ 17 b2)
        refine h_iconst (pc' := 133) (x := (Int32.ofInt 1)) rfl rfl rfl ?_
        refine h_iload (pc' := 135) rfl rfl rfl ?_
        refine h_shl1 (pc' := 136) rfl rfl ci_1 hz4 (by omega) (by omega) (fun z6 hz6 vz6 => ?_)
        refine h_ior (pc' := 137) rfl rfl (fun z7 hz7 => ?_)
        refine h_iast (pc' := 138) rfl rfl rfl rfl hz3 (by omega) (by omega) rfl (h_fgt (E := fun s => s 98 13 = s0 98 13 ∧ s = h_up s0 81 (σ 17 b2) z7.toInt) _ (in_81 I0 (h_rgv rfl)) (F0_.up rfl) ⟨rfl, rfl⟩ (fun s8 Is8 Fs8 (es8 : s8 98 13 = s0 98 13 ∧ s8 = h_up s0 81 (σ 17 b2) z7.toInt) => ?_))
        have us8 := es8.2
        refine h_aload_n (pc' := 139) rfl rfl rfl ?_
        refine h_getR (pc' := 142) rfl rfl rfl rfl rfl ?_
        refine h_iload (pc' := 144) rfl rfl rfl ?_
        refine h_dup2 (pc' := 145) rfl rfl rfl ?_
        refine h_iald (pc' := 146) (v := s8 81 (σ 18 b2)) rfl rfl rfl hz4 (by omega) (by omega) rfl (fun z9 hz9 => ?_)
        have tz9 := ty_81 Is8 (σ 18 b2)
        refine h_iconst (pc' := 147) (x := (Int32.ofInt 1)) rfl rfl rfl ?_
        refine h_iload_n (pc' := 148) rfl rfl rfl ?_
        refine h_shl1 (pc' := 149) rfl rfl ci_1 hz3 (by omega) (by omega) (fun z10 hz10 vz10 => ?_)
        refine h_ior (pc' := 150) rfl rfl (fun z11 hz11 => ?_)
        refine h_iast (pc' := 151) rfl rfl rfl rfl hz4 (by omega) (by omega) rfl (h_fgt (E := fun s => s 98 13 = s0 98 13 ∧ s = h_up s8 81 (σ 18 b2) z11.toInt) _ (in_81 Is8 (h_rgv rfl)) (Fs8.up rfl) ⟨es8.1, rfl⟩ (fun s12 Is12 Fs12 (es12 : s12 98 13 = s0 98 13 ∧ s12 = h_up s8 81 (σ 18 b2) z11.toInt) => ?_))
        clear es8
        have us12 := es12.2
        refine h_iinc (pc' := 154) (M := fun z13 => [(2, .int z13), (4, .int z4), (3, .int z3), (0, .ref 79), (1, .ref 10)]) rfl rfl rfl rfl hy2 ci_1 rfl (by omega) (by omega) (fun _ => rfl) (fun z13 hz13 => ?_)
        refine h_goto (pc' := 93) rfl rfl ?_
        exact h_wk [(0, .ref 79), (1, .ref 10), (2, .int z13)] ⟨rfl, rfl, rfl, trivial⟩ (ih.2.2 _ Is12 Fs12 z13 _ hz13 (by omega) ((h_upg us12 rfl).trans ((h_upg us8 rfl).trans ex0)) (g_fk_s ex1 (by omega) rfl rfl (by omega) (by omega) (h_upf us8) rfl (fun i i0 i9 => g_bi_or hz7 hz6 hz4 hz5 (by omega) (by omega) i0 i9) (h_upf us12) rfl (fun i i0 i9 => g_bi_or hz11 hz10 hz3 hz9 (by omega) (by omega) i0 i9)) (by omega) (by omega))
set_option maxHeartbeats 100000000 in
set_option maxHeartbeats 100000000 in
theorem n_linkAll_10 {ns : Nat} (σ : h_S) (hI : h_I σ) (pr0 : σ 79 2 = σ 10 8) {Q : Option Value → h_S → Prop} (kk : ∀ (τ : h_S), h_I τ → h_F (k_in kf_n_linkAll_10) τ σ → (τ 80 = g_n1 (σ 10 8) (σ 12) (σ 11) (σ 13 2) (σ 14) (σ 15) 0 (σ 80)) → (g_fk (σ 17) (σ 18) (σ 16 2) (σ 81) (τ 81)) → Q none τ) : h_T g_P (g_Y ns) 24 0 [(0, .ref 79), (1, .ref 10)] [] σ Q := by
  have F00 : h_F (k_in kf_n_linkAll_10) σ σ := h_F.rf
  refine h_iconst (pc' := 1) (x := (Int32.ofInt 0)) rfl rfl rfl ?_
  refine h_istore_n (pc' := 2) (M := [(2, .int (Int32.ofInt 0)), (0, .ref 79), (1, .ref 10)]) rfl rfl rfl rfl ?_
  exact h_wk [(0, .ref 79), (1, .ref 10), (2, .int (Int32.ofInt 0))] ⟨rfl, rfl, rfl, trivial⟩ ((n_linkAll_10_l ns σ hI pr0 kk 1000000000000).1 _ hI F00 (Int32.ofInt 0) _ ci_0 (by omega) rfl rfl (by omega))
def kf_n_measure_10 : List Nat := [80898, 82943, 83967]
set_option maxHeartbeats 100000000 in
set_option maxHeartbeats 100000000 in
theorem n_measure_10_l (ns : Nat) (σ : h_S) (hI : h_I σ) {Q : Option Value → h_S → Prop} (kk : ∀ (τ : h_S), h_I τ → h_F (k_in kf_n_measure_10) τ σ → (g_DX (σ 10 8) (σ 12) (σ 11) (σ 13 2) (σ 14) (σ 15) (τ 80)) → (τ 79 2 = σ 10 8) → (g_FX (σ 10 8) (σ 17) (σ 18) (σ 16 2) (τ 81)) → Q none τ) : ∀ n : Nat, (∀ (s0 : h_S), h_I s0 → h_F (k_in kf_n_measure_10) s0 σ → ∀ (y2 : Int32) (b2 : Int), y2.toInt = b2 → (0 ≤ b2 ∧ b2 ≤ 6) → (s0 79 2 = σ 10 8) → (g_ix (σ 10 8) b2 0 (s0 80)) → (g_z0 b2 (s0 81)) → (6 + 1 - b2) * 1000000 + 1000000000 ≤ (n : Int) → h_T g_P (g_Y ns) 23 10 [(0, .ref 79), (1, .ref 10), (2, .int y2)] [] s0 Q) ∧ (∀ (s0 : h_S), h_I s0 → h_F (k_in kf_n_measure_10) s0 σ → ∀ (y2 : Int32) (b2 : Int), y2.toInt = b2 → (0 ≤ b2 ∧ b2 ≤ 5) → ∀ (y3 : Int32) (b3 : Int), y3.toInt = b3 → (0 ≤ b3 ∧ b3 ≤ 6) → (s0 79 2 = σ 10 8) → (b2 < σ 10 8) → (g_ix (σ 10 8) b2 b3 (s0 80)) → (g_z0 (b2 + 1) (s0 81)) → ((6 + 1 - b2) - 1) * 1000000 + 1000000000 + (6 + 1 - b3) * 1000 + 100000 ≤ (n : Int) → h_T g_P (g_Y ns) 23 27 [(0, .ref 79), (1, .ref 10), (2, .int y2), (3, .int y3)] [] s0 Q) := by
  intro n
  induction n with
  | zero => exact ⟨by intro s0 I0 F0_ y2 b2 hy2 ry2 ex0 ex1 ex2 hm; have gh0 := F0_ 10 8 rfl; have gh1 := tf_10_8 hI; exfalso; omega, by intro s0 I0 F0_ y2 b2 hy2 ry2 y3 b3 hy3 ry3 ex0 ex1 ex2 ex3 hm; have gh0 := F0_ 10 8 rfl; have gh1 := tf_10_8 hI; exfalso; omega⟩
  | succ n ih =>
    refine ⟨?_, ?_⟩
    · intro s0 I0 F0_ y2 b2 hy2 ry2 ex0 ex1 ex2 hm; have gh0 := F0_ 10 8 rfl; have gh1 := tf_10_8 hI
      refine h_iload_n (pc' := 11) rfl rfl rfl ?_
      refine h_aload_n (pc' := 12) rfl rfl rfl ?_
      refine h_getI (pc' := 15) (v := s0 79 2) rfl rfl rfl rfl rfl rfl (fun z1 hz1 => ?_)
      have tz1 := tf_79_2 I0
      refine h_cge (tg := 70) (pc' := 18) rfl rfl rfl hy2 hz1 (fun c2 => ?_) (fun c2 => ?_)
      · refine h_aload_n (pc' := 71) rfl rfl rfl ?_
        refine h_aload_n (pc' := 72) rfl rfl rfl ?_
        refine h_call (sp := false) (pc' := 75) (M := [(0, .ref 79), (1, .ref 10)]) rfl rfl rfl rfl rfl rfl rfl rfl ?_
        refine n_linkAll_10 _ I0  (by omega) (fun s4 Is4 Gs4 ps4_0 ps4_1 => h_Kn ?_)
        have Fs4 := (Gs4.mono (B := kf_n_measure_10) rfl).tr F0_
        have es4_0 : s4 79 2 = s0 79 2 := (Gs4 79 2 rfl).trans rfl
        refine h_aload_n (pc' := 76) rfl rfl rfl ?_
        refine h_call (sp := false) (pc' := 79) (M := [(0, .ref 79)]) rfl rfl rfl rfl rfl rfl rfl rfl ?_
        refine n_shorten _ Is4  (fun s6 Is6 Gs6 ps6_0 => h_Kn ?_)
        have Fs6 := (Gs6.mono (B := kf_n_measure_10) rfl).tr Fs4
        have es6_0 : s6 79 2 = s0 79 2 := (Gs6 79 2 rfl).trans es4_0
        exact h_vret rfl rfl (kk _ Is6 Fs6 (g_DX_mk (g_ix_x ex1 (by omega)) ps6_0 (by omega) ps4_0 (F0_ 10 8 rfl) (funext (fun j => F0_ 12 j rfl)) (funext (fun j => F0_ 11 j rfl)) (F0_ 13 2 rfl) (funext (fun j => F0_ 14 j rfl)) (funext (fun j => F0_ 15 j rfl))) (by omega) (g_FX_mk ps4_1 (funext (fun j => Gs6 81 j rfl)) ex2 (by omega) (funext (fun j => F0_ 17 j rfl)) (funext (fun j => F0_ 18 j rfl)) (F0_ 16 2 rfl)))
      · refine h_aload_n (pc' := 19) rfl rfl rfl ?_
        refine h_getR (pc' := 22) rfl rfl rfl rfl rfl ?_
        refine h_iload_n (pc' := 23) rfl rfl rfl ?_
        refine h_iconst (pc' := 24) (x := (Int32.ofInt 0)) rfl rfl rfl ?_
        refine h_iast (pc' := 25) rfl rfl rfl rfl hy2 (by omega) (by omega) ci_0 (h_fgt (E := fun s => s 79 2 = s0 79 2 ∧ s = h_up s0 81 b2 0) _ (in_81 I0 (h_rgv ci_0)) (F0_.up rfl) ⟨rfl, rfl⟩ (fun s7 Is7 Fs7 (es7 : s7 79 2 = s0 79 2 ∧ s7 = h_up s0 81 b2 0) => ?_))
        have us7 := es7.2
        refine h_iconst (pc' := 26) (x := (Int32.ofInt 0)) rfl rfl rfl ?_
        refine h_istore_n (pc' := 27) (M := [(3, .int (Int32.ofInt 0)), (0, .ref 79), (1, .ref 10), (2, .int y2)]) rfl rfl rfl rfl ?_
        exact h_wk [(0, .ref 79), (1, .ref 10), (2, .int y2), (3, .int (Int32.ofInt 0))] ⟨rfl, rfl, rfl, rfl, trivial⟩ (ih.2 _ Is7 Fs7 y2 _ hy2 (by omega) (Int32.ofInt 0) _ ci_0 (by omega) (by omega) (by omega) (g_ix_e ex1 (h_upg us7 rfl) rfl rfl) (g_z0_s ex2 rfl rfl (h_upf us7)) (by omega))
    · intro s0 I0 F0_ y2 b2 hy2 ry2 y3 b3 hy3 ry3 ex0 ex1 ex2 ex3 hm; have gh0 := F0_ 10 8 rfl; have gh1 := tf_10_8 hI
      refine h_iload_n (pc' := 28) rfl rfl rfl ?_
      refine h_aload_n (pc' := 29) rfl rfl rfl ?_
      refine h_getI (pc' := 32) (v := s0 79 2) rfl rfl rfl rfl rfl rfl (fun z1 hz1 => ?_)
      have tz1 := tf_79_2 I0
      refine h_cge (tg := 64) (pc' := 35) rfl rfl rfl hy3 hz1 (fun c2 => ?_) (fun c2 => ?_)
      · refine h_iinc (pc' := 67) (M := fun z3 => [(2, .int z3), (0, .ref 79), (1, .ref 10), (3, .int y3)]) rfl rfl rfl rfl hy2 ci_1 rfl (by omega) (by omega) (fun _ => rfl) (fun z3 hz3 => ?_)
        refine h_goto (pc' := 10) rfl rfl ?_
        exact h_wk [(0, .ref 79), (1, .ref 10), (2, .int z3)] ⟨rfl, rfl, rfl, trivial⟩ (ih.1 _ I0 F0_ z3 _ hz3 (by omega) (by omega) (g_ix_r ex2 (by omega) rfl) ex3 (by omega))
      · refine h_aload_n (pc' := 36) rfl rfl rfl ?_
        refine h_getR (pc' := 39) rfl rfl rfl rfl rfl ?_
        refine h_iload_n (pc' := 40) rfl rfl rfl ?_
        refine h_bipush (pc' := 42) (x := (Int32.ofInt 6)) rfl rfl cb_6 ?_
        refine h_imul (pc' := 43) rfl rfl hy2 ci_6 rfl (by omega) (by omega) (fun z4 hz4 => ?_)
        refine h_iload_n (pc' := 44) rfl rfl rfl ?_
        refine h_iadd (pc' := 45) rfl rfl hz4 hy3 rfl (by omega) (by omega) (fun z5 hz5 => ?_)
        refine h_iload_n (pc' := 46) rfl rfl rfl ?_
        refine h_iload_n (pc' := 47) rfl rfl rfl ?_
        refine h_cne (tg := 54) (pc' := 50) rfl rfl rfl hy2 hy3 (fun c6 => ?_) (fun c6 => ?_)
        · refine h_sipush (pc' := 57) (x := (Int32.ofInt 1000)) rfl rfl cs_1000 ?_
          refine h_iast (pc' := 58) rfl rfl rfl rfl hz5 (by omega) (by omega) ci_1000 (h_fgt (E := fun s => s 79 2 = s0 79 2 ∧ s = h_up s0 80 ((b2 * 6) + b3) 1000) _ (in_80 I0 (by omega)) (F0_.up rfl) ⟨rfl, rfl⟩ (fun s7 Is7 Fs7 (es7 : s7 79 2 = s0 79 2 ∧ s7 = h_up s0 80 ((b2 * 6) + b3) 1000) => ?_))
          have us7 := es7.2
          refine h_iinc (pc' := 61) (M := fun z8 => [(3, .int z8), (0, .ref 79), (1, .ref 10), (2, .int y2)]) rfl rfl rfl rfl hy3 ci_1 rfl (by omega) (by omega) (fun _ => rfl) (fun z8 hz8 => ?_)
          refine h_goto (pc' := 27) rfl rfl ?_
          exact h_wk [(0, .ref 79), (1, .ref 10), (2, .int y2), (3, .int z8)] ⟨rfl, rfl, rfl, rfl, trivial⟩ (ih.2 _ Is7 Fs7 y2 _ hy2 (by omega) z8 _ hz8 (by omega) (by omega) (by omega) (g_ix_s ex2 (by omega) (by omega) (by omega) (by omega) rfl (by omega) (h_upf us7)) (g_z0_e ex3 (h_upg us7 rfl)) (by omega))
        · refine h_iconst (pc' := 51) (x := (Int32.ofInt 0)) rfl rfl rfl ?_
          refine h_goto (pc' := 57) rfl rfl ?_
          refine h_iast (pc' := 58) rfl rfl rfl rfl hz5 (by omega) (by omega) ci_0 (h_fgt (E := fun s => s 79 2 = s0 79 2 ∧ s = h_up s0 80 ((b2 * 6) + b3) 0) _ (in_80 I0 (by omega)) (F0_.up rfl) ⟨rfl, rfl⟩ (fun s9 Is9 Fs9 (es9 : s9 79 2 = s0 79 2 ∧ s9 = h_up s0 80 ((b2 * 6) + b3) 0) => ?_))
          have us9 := es9.2
          refine h_iinc (pc' := 61) (M := fun z10 => [(3, .int z10), (0, .ref 79), (1, .ref 10), (2, .int y2)]) rfl rfl rfl rfl hy3 ci_1 rfl (by omega) (by omega) (fun _ => rfl) (fun z10 hz10 => ?_)
          refine h_goto (pc' := 27) rfl rfl ?_
          exact h_wk [(0, .ref 79), (1, .ref 10), (2, .int y2), (3, .int z10)] ⟨rfl, rfl, rfl, rfl, trivial⟩ (ih.2 _ Is9 Fs9 y2 _ hy2 (by omega) z10 _ hz10 (by omega) (by omega) (by omega) (g_ix_s ex2 (by omega) (by omega) (by omega) (by omega) rfl (by omega) (h_upf us9)) (g_z0_e ex3 (h_upg us9 rfl)) (by omega))
set_option maxHeartbeats 100000000 in
set_option maxHeartbeats 100000000 in
theorem n_measure_10 {ns : Nat} (σ : h_S) (hI : h_I σ) {Q : Option Value → h_S → Prop} (kk : ∀ (τ : h_S), h_I τ → h_F (k_in kf_n_measure_10) τ σ → (g_DX (σ 10 8) (σ 12) (σ 11) (σ 13 2) (σ 14) (σ 15) (τ 80)) → (τ 79 2 = σ 10 8) → (g_FX (σ 10 8) (σ 17) (σ 18) (σ 16 2) (τ 81)) → Q none τ) : h_T g_P (g_Y ns) 23 0 [(0, .ref 79), (1, .ref 10)] [] σ Q := by
  have F00 : h_F (k_in kf_n_measure_10) σ σ := h_F.rf
  have ge0 := tf_10_8 hI
  refine h_aload_n (pc' := 1) rfl rfl rfl ?_
  refine h_aload_n (pc' := 2) rfl rfl rfl ?_
  refine h_getI (pc' := 5) (v := σ 10 8) rfl rfl rfl rfl rfl rfl (fun z1 hz1 => ?_)
  have tz1 := tf_10_8 hI
  refine h_put (pc' := 8) rfl rfl rfl rfl rfl rfl hz1 rfl (h_fgt (E := fun s => s 79 2 = (σ 10 8) ∧ s = h_up σ 79 2 (σ 10 8)) _ (if_79_2 hI (by omega)) (F00.up rfl) ⟨rfl, rfl⟩ (fun s2 Is2 Fs2 (es2 : s2 79 2 = (σ 10 8) ∧ s2 = h_up σ 79 2 (σ 10 8)) => ?_))
  have us2 := es2.2
  refine h_iconst (pc' := 9) (x := (Int32.ofInt 0)) rfl rfl rfl ?_
  refine h_istore_n (pc' := 10) (M := [(2, .int (Int32.ofInt 0)), (0, .ref 79), (1, .ref 10)]) rfl rfl rfl rfl ?_
  exact h_wk [(0, .ref 79), (1, .ref 10), (2, .int (Int32.ofInt 0))] ⟨rfl, rfl, rfl, trivial⟩ ((n_measure_10_l ns σ hI  kk 1000000000000).1 _ Is2 Fs2 (Int32.ofInt 0) _ ci_0 (by omega) (by omega) g_ix_0 g_z0_0 (by omega))
set_option maxHeartbeats 100000000 in
theorem n_let {ns : Nat} (σ : h_S) (hI : h_I σ) (x0 : Int32) (a0 : Int) (hx0 : x0.toInt = a0) (x1 : Int32) (a1 : Int) (hx1 : x1.toInt = a1) {Q : Option Value → h_S → Prop} (kk : ∀ (r : Int32) (b : Int) (hb : r.toInt = b), (r = g_bs (σ 79 2) (g_lq (σ 79 2) (σ 80) (σ 81) a0 a1) 6 0 0) → Q (some (.int r)) σ) : h_T g_P (g_Y ns) 29 0 [(0, .ref 79), (1, .int x0), (2, .int x1)] [] σ Q := by
  have ge0 := tf_79_2 hI
  refine h_iload_n (pc' := 1) rfl rfl rfl ?_
  refine h_zlt (tg := 12) (pc' := 4) rfl rfl rfl hx0 (fun c1 => ?_) (fun c1 => ?_)
  · refine h_iconst (pc' := 13) (x := (Int32.ofInt 1)) rfl rfl rfl ?_
    refine h_aload_n (pc' := 14) rfl rfl rfl ?_
    refine h_getI (pc' := 17) (v := σ 79 2) rfl rfl rfl rfl rfl rfl (fun z2 hz2 => ?_)
    have tz2 := tf_79_2 hI
    refine h_shl1 (pc' := 18) rfl rfl ci_1 hz2 (by omega) (by omega) (fun z3 hz3 vz3 => ?_)
    refine h_iconst (pc' := 19) (x := (Int32.ofInt 1)) rfl rfl rfl ?_
    refine h_isub (pc' := 20) rfl rfl rfl ci_1 rfl (by omega) (by omega) (fun z4 hz4 => ?_)
    exact h_iret rfl rfl (kk _ _ hz4 (g_lb_0 (by omega) (by omega) (by omega) hz3 (by assumption) hz4))
  · refine h_iload_n (pc' := 5) rfl rfl rfl ?_
    refine h_aload_n (pc' := 6) rfl rfl rfl ?_
    refine h_getI (pc' := 9) (v := σ 79 2) rfl rfl rfl rfl rfl rfl (fun z5 hz5 => ?_)
    have tz5 := tf_79_2 hI
    refine h_clt (tg := 21) (pc' := 12) rfl rfl rfl hx0 hz5 (fun c6 => ?_) (fun c6 => ?_)
    · refine h_aload_n (pc' := 22) rfl rfl rfl ?_
      refine h_iload_n (pc' := 23) rfl rfl rfl ?_
      refine h_iload_n (pc' := 24) rfl rfl rfl ?_
      refine h_call (sp := false) (pc' := 27) (M := [(0, .ref 79), (1, .int x0), (2, .int x1)]) rfl rfl rfl rfl rfl rfl rfl rfl ?_
      refine n_wiX _ hI x0 _ hx0 (by omega) x1 _ hx1 (fun r7 br7 hr7 ps8_0 => h_Kv ?_)
      refine h_aload_n (pc' := 28) rfl rfl rfl ?_
      refine h_getR (pc' := 31) rfl rfl rfl rfl rfl ?_
      refine h_iload_n (pc' := 32) rfl rfl rfl ?_
      refine h_iald (pc' := 33) (v := σ 81 a0) rfl rfl rfl hx0 (by omega) (by omega) rfl (fun z9 hz9 => ?_)
      have tz9 := ty_81 hI a0
      refine h_iconst (pc' := 34) (x := (Int32.ofInt (-1))) rfl rfl rfl ?_
      refine h_ixor (pc' := 35) rfl rfl (fun z10 hz10 => ?_)
      refine h_iand (pc' := 36) rfl rfl (fun z11 hz11 uz11 vz11 => ?_)
      clear uz11
      clear vz11
      exact h_iret rfl rfl (kk _ _ rfl (g_lb_1 (by omega) (by omega) ps8_0 hz9 hz10 hz11))
    · refine h_iconst (pc' := 13) (x := (Int32.ofInt 1)) rfl rfl rfl ?_
      refine h_aload_n (pc' := 14) rfl rfl rfl ?_
      refine h_getI (pc' := 17) (v := σ 79 2) rfl rfl rfl rfl rfl rfl (fun z12 hz12 => ?_)
      have tz12 := tf_79_2 hI
      refine h_shl1 (pc' := 18) rfl rfl ci_1 hz12 (by omega) (by omega) (fun z13 hz13 vz13 => ?_)
      refine h_iconst (pc' := 19) (x := (Int32.ofInt 1)) rfl rfl rfl ?_
      refine h_isub (pc' := 20) rfl rfl rfl ci_1 rfl (by omega) (by omega) (fun z14 hz14 => ?_)
      exact h_iret rfl rfl (kk _ _ hz14 (g_lb_0 (by omega) (by omega) (by omega) hz13 (by assumption) hz14))
theorem g_bl_e {n n' l r : Int} {d d' f f' : Int → Int} (e1 : n' = n) (e2 : d' = d) (e3 : f' = f) : g_bs n' (g_lq n' d' f' l r) 6 0 0 = g_bs n (g_lq n d f l r) 6 0 0 := by rw [e1, e2, e3]
theorem g_op_k {n k k' : Int} {d f rc h : Int → Int} (z : g_op n d f rc k 0 h) (hk : k' ≤ k) : g_op n d f rc k' 0 h := fun g l g0 l0 c => z g l g0 l0 (by omega)
def g_cq (b : Int) (L h : Int → Int) : Prop := ∀ g, 0 ≤ g → g < b → h g = L g
theorem g_cq_0 {L h : Int → Int} : g_cq 0 L h := fun g a b => by omega
theorem g_cq_k {b b' : Int} {L h : Int → Int} (z : g_cq b L h) (hb : b' ≤ b) : g_cq b' L h := fun g a c => z g a (by omega)
theorem g_cq_s {b e v : Int} {L h h' : Int → Int} (z : g_cq b L h) (hh : h' = g_set h e v) (he : e = b) (hv : v = L b) : g_cq (b + 1) L h' := fun g a c => by
  subst hh; subst he
  by_cases x : g = e
  · rw [g_set_p x, hv, x]
  · rw [g_set_n x]
    exact z g a (by omega)
theorem g_fo_b {A B : Int → Int} {x y k b b' : Int} (h : b = if g_fo A B x y k.toNat = true then 1 else 0) (k0 : 0 ≤ k) (hb : (b' = 1 ∧ (b = 1 ∨ (A k = x ∧ B k = y) ∨ (A k = y ∧ B k = x))) ∨ (b' = 0 ∧ b = 0 ∧ ¬ (A k = x ∧ B k = y) ∧ ¬ (A k = y ∧ B k = x))) : b' = if g_fo A B x y (k + 1).toNat = true then 1 else 0 := by
  rw [g_fo_s k0]
  rcases hb with ⟨c, d⟩ | ⟨c, d, d1, d2⟩
  · rw [if_pos]
    · exact c
    · rcases d with d | d | d
      · by_cases z : g_fo A B x y k.toNat = true
        · rw [z, Bool.true_or]
        · rw [if_neg z] at h
          exfalso
          omega
      · rw [decide_eq_true d, Bool.true_or, Bool.or_true]
      · rw [decide_eq_true d, Bool.or_true, Bool.or_true]
  · by_cases z : g_fo A B x y k.toNat = true
    · rw [if_pos z] at h
      exfalso
      omega
    · rw [Bool.eq_false_iff.mpr z, decide_eq_false d1, decide_eq_false d2]
      exact c
theorem g_yM_a {d A B : Int → Int} {m p l r b : Int} (h : (l = -4 ∧ b = 1) ∨ (¬ l = -4 ∧ r < d (6 * l + p) ∧ b = 0)) : b = if g_yM d A B m p l r = true then 1 else 0 := by
  unfold g_yM
  rcases h with c | c
  · rw [decide_eq_true c.1, Bool.true_or]
    exact c.2
  · rw [decide_eq_false c.1, decide_eq_false (show ¬ d (6 * l + p) ≤ r by omega), Bool.false_or, Bool.false_and]
    exact c.2.2
theorem g_yM_b {d A B : Int → Int} {m p l r b x : Int} (hl : ¬ l = -4) (hd : d (6 * l + p) ≤ r) (hx : x = if g_fo A B p l m.toNat = true then 1 else 0) (hb : (x = 0 ∧ b = 1) ∨ (¬ x = 0 ∧ b = 0)) : b = if g_yM d A B m p l r = true then 1 else 0 := by
  unfold g_yM
  rw [decide_eq_false hl, decide_eq_true hd, Bool.false_or, Bool.true_and]
  by_cases z : g_fo A B p l m.toNat = true
  · rw [if_pos z] at hx
    rw [z]
    show b = 0
    omega
  · rw [if_neg z] at hx
    rw [Bool.eq_false_iff.mpr z]
    show b = 1
    omega
def kf_n_open_10 : List Nat := [86015]
set_option maxHeartbeats 100000000 in
set_option maxHeartbeats 100000000 in
theorem n_open_10_l (ns : Nat) (σ : h_S) (hI : h_I σ) {Q : Option Value → h_S → Prop} (kk : ∀ (τ : h_S), h_I τ → h_F (k_in kf_n_open_10) τ σ → (g_op (σ 79 2) (σ 80) (σ 81) (σ 19) (σ 10 9) 0 (τ 83)) → Q none τ) : ∀ n : Nat, (∀ (s0 : h_S), h_I s0 → h_F (k_in kf_n_open_10) s0 σ → ∀ (y3 : Int32) (b3 : Int), y3.toInt = b3 → (0 ≤ b3 ∧ b3 ≤ 3) → (g_op (σ 79 2) (σ 80) (σ 81) (σ 19) b3 0 (s0 83)) → (3 + 1 - b3) * 1000000 + 1000000000 ≤ (n : Int) → h_T g_P (g_Y ns) 18 2 [(0, .ref 82), (1, .ref 10), (2, .ref 79), (3, .int y3)] [] s0 Q) ∧ (∀ (s0 : h_S), h_I s0 → h_F (k_in kf_n_open_10) s0 σ → ∀ (y3 : Int32) (b3 : Int), y3.toInt = b3 → (0 ≤ b3 ∧ b3 ≤ 2) → ∀ (y4 : Int32) (b4 : Int), y4.toInt = b4 → (0 ≤ b4 ∧ b4 ≤ 7) → (b3 < σ 10 9) → (g_op (σ 79 2) (σ 80) (σ 81) (σ 19) b3 b4 (s0 83)) → ((3 + 1 - b3) - 1) * 1000000 + 1000000000 + (7 + 1 - b4) * 1000 + 100000 ≤ (n : Int) → h_T g_P (g_Y ns) 18 13 [(0, .ref 82), (1, .ref 10), (2, .ref 79), (3, .int y3), (4, .int y4)] [] s0 Q) := by
  intro n
  induction n with
  | zero => exact ⟨by intro s0 I0 F0_ y3 b3 hy3 ry3 ex0 hm; have gh0 := F0_ 10 9 rfl; have gh1 := tf_10_9 hI; exfalso; omega, by intro s0 I0 F0_ y3 b3 hy3 ry3 y4 b4 hy4 ry4 ex0 ex1 hm; have gh0 := F0_ 10 9 rfl; have gh1 := tf_10_9 hI; exfalso; omega⟩
  | succ n ih =>
    refine ⟨?_, ?_⟩
    · intro s0 I0 F0_ y3 b3 hy3 ry3 ex0 hm; have gh0 := F0_ 10 9 rfl; have gh1 := tf_10_9 hI
      refine h_iload_n (pc' := 3) rfl rfl rfl ?_
      refine h_aload_n (pc' := 4) rfl rfl rfl ?_
      refine h_getI (pc' := 7) (v := σ 10 9) rfl rfl rfl rfl rfl (F0_ 10 9 rfl) (fun z1 hz1 => ?_)
      have tz1 := tf_10_9 hI
      refine h_cge (tg := 56) (pc' := 10) rfl rfl rfl hy3 hz1 (fun c2 => ?_) (fun c2 => ?_)
      · exact h_vret rfl rfl (kk _ I0 F0_ (g_op_k ex0 (by omega)))
      · refine h_iconst (pc' := 11) (x := (Int32.ofInt 0)) rfl rfl rfl ?_
        refine h_istore (pc' := 13) (M := [(4, .int (Int32.ofInt 0)), (0, .ref 82), (1, .ref 10), (2, .ref 79), (3, .int y3)]) rfl rfl rfl rfl ?_
        exact h_wk [(0, .ref 82), (1, .ref 10), (2, .ref 79), (3, .int y3), (4, .int (Int32.ofInt 0))] ⟨rfl, rfl, rfl, rfl, rfl, trivial⟩ (ih.2 _ I0 F0_ y3 _ hy3 (by omega) (Int32.ofInt 0) _ ci_0 (by omega) (by omega) ex0 (by omega))
    · intro s0 I0 F0_ y3 b3 hy3 ry3 y4 b4 hy4 ry4 ex0 ex1 hm; have gh0 := F0_ 10 9 rfl; have gh1 := tf_10_9 hI
      refine h_iload (pc' := 15) rfl rfl rfl ?_
      refine h_bipush (pc' := 17) (x := (Int32.ofInt 6)) rfl rfl cb_6 ?_
      refine h_cgt (tg := 50) (pc' := 20) rfl rfl rfl hy4 ci_6 (fun c1 => ?_) (fun c1 => ?_)
      · refine h_iinc (pc' := 53) (M := fun z2 => [(3, .int z2), (0, .ref 82), (1, .ref 10), (2, .ref 79), (4, .int y4)]) rfl rfl rfl rfl hy3 ci_1 rfl (by omega) (by omega) (fun _ => rfl) (fun z2 hz2 => ?_)
        refine h_goto (pc' := 2) rfl rfl ?_
        exact h_wk [(0, .ref 82), (1, .ref 10), (2, .ref 79), (3, .int z2)] ⟨rfl, rfl, rfl, rfl, trivial⟩ (ih.1 _ I0 F0_ z2 _ hz2 (by omega) (g_op_r ex1 (by omega) rfl) (by omega))
      · refine h_aload_n (pc' := 21) rfl rfl rfl ?_
        refine h_getR (pc' := 24) rfl rfl rfl rfl rfl ?_
        refine h_iload_n (pc' := 25) rfl rfl rfl ?_
        refine h_bipush (pc' := 27) (x := (Int32.ofInt 7)) rfl rfl cb_7 ?_
        refine h_imul (pc' := 28) rfl rfl hy3 ci_7 rfl (by omega) (by omega) (fun z3 hz3 => ?_)
        refine h_iload (pc' := 30) rfl rfl rfl ?_
        refine h_iadd (pc' := 31) rfl rfl hz3 hy4 rfl (by omega) (by omega) (fun z4 hz4 => ?_)
        refine h_aload_n (pc' := 32) rfl rfl rfl ?_
        refine h_iload (pc' := 34) rfl rfl rfl ?_
        refine h_aload_n (pc' := 35) rfl rfl rfl ?_
        refine h_getR (pc' := 38) rfl rfl rfl rfl rfl ?_
        refine h_iload_n (pc' := 39) rfl rfl rfl ?_
        refine h_iald (pc' := 40) (v := σ 19 b3) rfl rfl rfl hy3 (by omega) (by omega) (F0_ 19 _ rfl) (fun z5 hz5 => ?_)
        have tz5 := ty_19 hI b3
        refine h_call (sp := false) (pc' := 43) (M := [(0, .ref 79), (1, .int y4), (2, .int z5)]) rfl rfl rfl rfl rfl rfl rfl rfl ?_
        refine n_let _ I0 y4 _ hy4 z5 _ hz5 (fun r6 br6 hr6 ps7_0 => h_Kv ?_)
        refine h_iast (pc' := 44) rfl rfl rfl rfl hz4 (by omega) (by omega) hr6 (h_fgt (E := fun s => s 98 13 = s0 98 13 ∧ s = h_up s0 83 ((b3 * 7) + b4) br6) _ (in_83 I0 (h_rgv hr6)) (F0_.up rfl) ⟨rfl, rfl⟩ (fun s8 Is8 Fs8 (es8 : s8 98 13 = s0 98 13 ∧ s8 = h_up s0 83 ((b3 * 7) + b4) br6) => ?_))
        have us8 := es8.2
        refine h_iinc (pc' := 47) (M := fun z9 => [(4, .int z9), (0, .ref 82), (1, .ref 10), (2, .ref 79), (3, .int y3)]) rfl rfl rfl rfl hy4 ci_1 rfl (by omega) (by omega) (fun _ => rfl) (fun z9 hz9 => ?_)
        refine h_goto (pc' := 13) rfl rfl ?_
        exact h_wk [(0, .ref 82), (1, .ref 10), (2, .ref 79), (3, .int y3), (4, .int z9)] ⟨rfl, rfl, rfl, rfl, rfl, trivial⟩ (ih.2 _ Is8 Fs8 y3 _ hy3 (by omega) z9 _ hz9 (by omega) (by omega) (g_op_s ex1 (by omega) (by omega) (by omega) (h_upf us8) rfl (hr6.symm.trans (congrArg Int32.toInt (ps7_0.trans (g_bl_e (F0_ 79 2 rfl) (funext (fun j => F0_ 80 j rfl)) (funext (fun j => F0_ 81 j rfl))))))) (by omega))
set_option maxHeartbeats 100000000 in
set_option maxHeartbeats 100000000 in
theorem n_open_10 {ns : Nat} (σ : h_S) (hI : h_I σ) {Q : Option Value → h_S → Prop} (kk : ∀ (τ : h_S), h_I τ → h_F (k_in kf_n_open_10) τ σ → (g_op (σ 79 2) (σ 80) (σ 81) (σ 19) (σ 10 9) 0 (τ 83)) → Q none τ) : h_T g_P (g_Y ns) 18 0 [(0, .ref 82), (1, .ref 10), (2, .ref 79)] [] σ Q := by
  have F00 : h_F (k_in kf_n_open_10) σ σ := h_F.rf
  refine h_iconst (pc' := 1) (x := (Int32.ofInt 0)) rfl rfl rfl ?_
  refine h_istore_n (pc' := 2) (M := [(3, .int (Int32.ofInt 0)), (0, .ref 82), (1, .ref 10), (2, .ref 79)]) rfl rfl rfl rfl ?_
  exact h_wk [(0, .ref 82), (1, .ref 10), (2, .ref 79), (3, .int (Int32.ofInt 0))] ⟨rfl, rfl, rfl, rfl, trivial⟩ ((n_open_10_l ns σ hI  kk 1000000000000).1 _ hI F00 (Int32.ofInt 0) _ ci_0 (by omega) g_op_0 (by omega))
def kf_n_restart_10 : List Nat := [83970, 87039]
set_option maxHeartbeats 100000000 in
set_option maxHeartbeats 100000000 in
theorem n_restart_10_l (ns : Nat) (σ : h_S) (hI : h_I σ) {Q : Option Value → h_S → Prop} (kk : ∀ (τ : h_S), h_I τ → h_F (k_in kf_n_restart_10) τ σ → (τ 82 2 = 0) → (g_cq (σ 10 9) (σ 20) (τ 84)) → Q none τ) : ∀ n : Nat, (∀ (s0 : h_S), h_I s0 → h_F (k_in kf_n_restart_10) s0 σ → ∀ (y2 : Int32) (b2 : Int), y2.toInt = b2 → (0 ≤ b2 ∧ b2 ≤ 3) → (s0 82 2 = 0) → (g_cq b2 (σ 20) (s0 84)) → (3 + 1 - b2) * 1000000 + 1000000000 ≤ (n : Int) → h_T g_P (g_Y ns) 19 7 [(0, .ref 82), (1, .ref 10), (2, .int y2)] [] s0 Q) := by
  intro n
  induction n with
  | zero => exact by intro s0 I0 F0_ y2 b2 hy2 ry2 ex0 ex1 hm; have gh0 := F0_ 10 9 rfl; have gh1 := tf_10_9 hI; exfalso; omega
  | succ n ih =>
    intro s0 I0 F0_ y2 b2 hy2 ry2 ex0 ex1 hm; have gh0 := F0_ 10 9 rfl; have gh1 := tf_10_9 hI
    refine h_iload_n (pc' := 8) rfl rfl rfl ?_
    refine h_aload_n (pc' := 9) rfl rfl rfl ?_
    refine h_getI (pc' := 12) (v := σ 10 9) rfl rfl rfl rfl rfl (F0_ 10 9 rfl) (fun z1 hz1 => ?_)
    have tz1 := tf_10_9 hI
    refine h_cge (tg := 33) (pc' := 15) rfl rfl rfl hy2 hz1 (fun c2 => ?_) (fun c2 => ?_)
    · exact h_vret rfl rfl (kk _ I0 F0_ (by omega) (g_cq_k ex1 (by omega)))
    · refine h_aload_n (pc' := 16) rfl rfl rfl ?_
      refine h_getR (pc' := 19) rfl rfl rfl rfl rfl ?_
      refine h_iload_n (pc' := 20) rfl rfl rfl ?_
      refine h_aload_n (pc' := 21) rfl rfl rfl ?_
      refine h_getR (pc' := 24) rfl rfl rfl rfl rfl ?_
      refine h_iload_n (pc' := 25) rfl rfl rfl ?_
      refine h_iald (pc' := 26) (v := σ 20 b2) rfl rfl rfl hy2 (by omega) (by omega) (F0_ 20 _ rfl) (fun z3 hz3 => ?_)
      have tz3 := ty_20 hI b2
      refine h_iast (pc' := 27) rfl rfl rfl rfl hy2 (by omega) (by omega) hz3 (h_fgt (E := fun s => s 82 2 = s0 82 2 ∧ s = h_up s0 84 b2 (σ 20 b2)) _ (in_84 I0 (by omega)) (F0_.up rfl) ⟨rfl, rfl⟩ (fun s4 Is4 Fs4 (es4 : s4 82 2 = s0 82 2 ∧ s4 = h_up s0 84 b2 (σ 20 b2)) => ?_))
      have us4 := es4.2
      refine h_iinc (pc' := 30) (M := fun z5 => [(2, .int z5), (0, .ref 82), (1, .ref 10)]) rfl rfl rfl rfl hy2 ci_1 rfl (by omega) (by omega) (fun _ => rfl) (fun z5 hz5 => ?_)
      refine h_goto (pc' := 7) rfl rfl ?_
      exact h_wk [(0, .ref 82), (1, .ref 10), (2, .int z5)] ⟨rfl, rfl, rfl, trivial⟩ (ih _ Is4 Fs4 z5 _ hz5 (by omega) (by omega) (g_cq_s ex1 (h_upf us4) rfl rfl) (by omega))
set_option maxHeartbeats 100000000 in
set_option maxHeartbeats 100000000 in
theorem n_restart_10 {ns : Nat} (σ : h_S) (hI : h_I σ) {Q : Option Value → h_S → Prop} (kk : ∀ (τ : h_S), h_I τ → h_F (k_in kf_n_restart_10) τ σ → (τ 82 2 = 0) → (g_cq (σ 10 9) (σ 20) (τ 84)) → Q none τ) : h_T g_P (g_Y ns) 19 0 [(0, .ref 82), (1, .ref 10)] [] σ Q := by
  have F00 : h_F (k_in kf_n_restart_10) σ σ := h_F.rf
  refine h_aload_n (pc' := 1) rfl rfl rfl ?_
  refine h_iconst (pc' := 2) (x := (Int32.ofInt 0)) rfl rfl rfl ?_
  refine h_put (pc' := 5) rfl rfl rfl rfl rfl rfl ci_0 rfl (h_fgt (E := fun s => s 82 2 = 0 ∧ s = h_up σ 82 2 0) _ (if_82_2 hI (h_rgv ci_0)) (F00.up rfl) ⟨rfl, rfl⟩ (fun s1 Is1 Fs1 (es1 : s1 82 2 = 0 ∧ s1 = h_up σ 82 2 0) => ?_))
  have us1 := es1.2
  refine h_iconst (pc' := 6) (x := (Int32.ofInt 0)) rfl rfl rfl ?_
  refine h_istore_n (pc' := 7) (M := [(2, .int (Int32.ofInt 0)), (0, .ref 82), (1, .ref 10)]) rfl rfl rfl rfl ?_
  exact h_wk [(0, .ref 82), (1, .ref 10), (2, .int (Int32.ofInt 0))] ⟨rfl, rfl, rfl, trivial⟩ ((n_restart_10_l ns σ hI  kk 1000000000000) _ Is1 Fs1 (Int32.ofInt 0) _ ci_0 (by omega) (by omega) g_cq_0 (by omega))
set_option maxHeartbeats 100000000 in
theorem n_foe_l (ns : Nat) (σ : h_S) (hI : h_I σ) (x0 : Int32) (a0 : Int) (hx0 : x0.toInt = a0) (x1 : Int32) (a1 : Int) (hx1 : x1.toInt = a1) {Q : Option Value → h_S → Prop} (kk : ∀ (r : Int32) (b : Int) (hb : r.toInt = b), (0 ≤ b ∧ b ≤ 1) → (b = if g_fo (fun i => σ 99 (19 + 2 * i)) (fun i => σ 99 (19 + 2 * i + 1)) a0 a1 (σ 99 25).toNat = true then 1 else 0) → Q (some (.int r)) σ) : ∀ n : Nat, (∀ (y3 : Int32) (b3 : Int), y3.toInt = b3 → (0 ≤ b3 ∧ b3 ≤ 1) → ∀ (y4 : Int32) (b4 : Int), y4.toInt = b4 → (0 ≤ b4 ∧ b4 ≤ 3) → (b4 ≤ σ 99 25) → (b3 = if g_fo (fun i => σ 99 (19 + 2 * i)) (fun i => σ 99 (19 + 2 * i + 1)) a0 a1 b4.toNat = true then 1 else 0) → (3 + 1 - b4) * 1000000 + 1000000000 ≤ (n : Int) → h_T g_P (g_Y ns) 163 5 [(0, .ref 98), (1, .int x0), (2, .int x1), (3, .int y3), (4, .int y4)] [] σ Q) := by
  intro n
  induction n with
  | zero => exact by intro  y3 b3 hy3 ry3 y4 b4 hy4 ry4 ex0 ex1 hm; have gg0 := ty_99_5 hI 25 (by omega); exfalso; omega
  | succ n ih =>
    intro  y3 b3 hy3 ry3 y4 b4 hy4 ry4 ex0 ex1 hm; have gg0 := ty_99_5 hI 25 (by omega)
    refine h_iload (pc' := 7) rfl rfl rfl ?_
    refine h_aload_n (pc' := 8) rfl rfl rfl ?_
    refine h_getR (pc' := 11) rfl rfl rfl rfl rfl ?_
    refine h_bipush (pc' := 13) (x := (Int32.ofInt 25)) rfl rfl cb_25 ?_
    refine h_iald (pc' := 14) (v := σ 99 25) rfl rfl rfl ci_25 (by omega) (by omega) rfl (fun z1 hz1 => ?_)
    have tz1 := ty_99_5 hI 25 (by omega)
    refine h_cge (tg := 87) (pc' := 17) rfl rfl rfl hy4 hz1 (fun c2 => ?_) (fun c2 => ?_)
    · refine h_iload_n (pc' := 88) rfl rfl rfl ?_
      exact h_zret rfl rfl hy3 (by omega) (kk _ _ hy3 (by omega) (by rw [show σ 99 25 = b4 by omega]; exact ex1))
    · refine h_aload_n (pc' := 18) rfl rfl rfl ?_
      refine h_getR (pc' := 21) rfl rfl rfl rfl rfl ?_
      refine h_bipush (pc' := 23) (x := (Int32.ofInt 19)) rfl rfl cb_19 ?_
      refine h_iconst (pc' := 24) (x := (Int32.ofInt 2)) rfl rfl rfl ?_
      refine h_iload (pc' := 26) rfl rfl rfl ?_
      refine h_imul (pc' := 27) rfl rfl ci_2 hy4 rfl (by omega) (by omega) (fun z3 hz3 => ?_)
      refine h_iadd (pc' := 28) rfl rfl ci_19 hz3 rfl (by omega) (by omega) (fun z4 hz4 => ?_)
      refine h_iald (pc' := 29) (v := σ 99 (19 + (2 * b4))) rfl rfl rfl hz4 (by omega) (by omega) rfl (fun z5 hz5 => ?_)
      have tz5 := ty_99_4 hI (19 + (2 * b4)) (by omega)
      refine h_istore (pc' := 31) (M := [(5, .int z5), (0, .ref 98), (1, .int x0), (2, .int x1), (3, .int y3), (4, .int y4)]) rfl rfl rfl rfl ?_
      refine h_aload_n (pc' := 32) rfl rfl rfl ?_
      refine h_getR (pc' := 35) rfl rfl rfl rfl rfl ?_
      refine h_bipush (pc' := 37) (x := (Int32.ofInt 19)) rfl rfl cb_19 ?_
      refine h_iconst (pc' := 38) (x := (Int32.ofInt 2)) rfl rfl rfl ?_
      refine h_iload (pc' := 40) rfl rfl rfl ?_
      refine h_imul (pc' := 41) rfl rfl ci_2 hy4 rfl (by omega) (by omega) (fun z6 hz6 => ?_)
      refine h_iadd (pc' := 42) rfl rfl ci_19 hz6 rfl (by omega) (by omega) (fun z7 hz7 => ?_)
      refine h_iconst (pc' := 43) (x := (Int32.ofInt 1)) rfl rfl rfl ?_
      refine h_iadd (pc' := 44) rfl rfl hz7 ci_1 rfl (by omega) (by omega) (fun z8 hz8 => ?_)
      refine h_iald (pc' := 45) (v := σ 99 ((19 + (2 * b4)) + 1)) rfl rfl rfl hz8 (by omega) (by omega) rfl (fun z9 hz9 => ?_)
      have tz9 := ty_99_4 hI ((19 + (2 * b4)) + 1) (by omega)
      refine h_istore (pc' := 47) (M := [(6, .int z9), (5, .int z5), (0, .ref 98), (1, .int x0), (2, .int x1), (3, .int y3), (4, .int y4)]) rfl rfl rfl rfl ?_
      refine h_iload_n (pc' := 48) rfl rfl rfl ?_
      refine h_zne (tg := 75) (pc' := 51) rfl rfl rfl hy3 (fun c10 => ?_) (fun c10 => ?_)
      · refine h_iconst (pc' := 76) (x := (Int32.ofInt 1)) rfl rfl rfl ?_
        refine h_goto (pc' := 80) rfl rfl ?_
        refine h_istore_n (pc' := 81) (M := [(3, .int (Int32.ofInt 1)), (6, .int z9), (5, .int z5), (0, .ref 98), (1, .int x0), (2, .int x1), (4, .int y4)]) rfl rfl rfl rfl ?_
        refine h_iinc (pc' := 84) (M := fun z11 => [(4, .int z11), (3, .int (Int32.ofInt 1)), (6, .int z9), (5, .int z5), (0, .ref 98), (1, .int x0), (2, .int x1)]) rfl rfl rfl rfl hy4 ci_1 rfl (by omega) (by omega) (fun _ => rfl) (fun z11 hz11 => ?_)
        refine h_goto (pc' := 5) rfl rfl ?_
        exact h_wk [(0, .ref 98), (1, .int x0), (2, .int x1), (3, .int (Int32.ofInt 1)), (4, .int z11)] ⟨rfl, rfl, rfl, rfl, rfl, trivial⟩ (ih (Int32.ofInt 1) _ ci_1 (by omega) z11 _ hz11 (by omega) (by omega) (g_fo_b ex1 (by omega) (by omega)) (by omega))
      · refine h_iload (pc' := 53) rfl rfl rfl ?_
        refine h_iload_n (pc' := 54) rfl rfl rfl ?_
        refine h_cne (tg := 63) (pc' := 57) rfl rfl rfl hz5 hx0 (fun c12 => ?_) (fun c12 => ?_)
        · refine h_iload (pc' := 65) rfl rfl rfl ?_
          refine h_iload_n (pc' := 66) rfl rfl rfl ?_
          refine h_cne (tg := 79) (pc' := 69) rfl rfl rfl hz5 hx1 (fun c13 => ?_) (fun c13 => ?_)
          · refine h_iconst (pc' := 80) (x := (Int32.ofInt 0)) rfl rfl rfl ?_
            refine h_istore_n (pc' := 81) (M := [(3, .int (Int32.ofInt 0)), (6, .int z9), (5, .int z5), (0, .ref 98), (1, .int x0), (2, .int x1), (4, .int y4)]) rfl rfl rfl rfl ?_
            refine h_iinc (pc' := 84) (M := fun z14 => [(4, .int z14), (3, .int (Int32.ofInt 0)), (6, .int z9), (5, .int z5), (0, .ref 98), (1, .int x0), (2, .int x1)]) rfl rfl rfl rfl hy4 ci_1 rfl (by omega) (by omega) (fun _ => rfl) (fun z14 hz14 => ?_)
            refine h_goto (pc' := 5) rfl rfl ?_
            exact h_wk [(0, .ref 98), (1, .int x0), (2, .int x1), (3, .int (Int32.ofInt 0)), (4, .int z14)] ⟨rfl, rfl, rfl, rfl, rfl, trivial⟩ (ih (Int32.ofInt 0) _ ci_0 (by omega) z14 _ hz14 (by omega) (by omega) (g_fo_b ex1 (by omega) (by omega)) (by omega))
          · refine h_iload (pc' := 71) rfl rfl rfl ?_
            refine h_iload_n (pc' := 72) rfl rfl rfl ?_
            refine h_cne (tg := 79) (pc' := 75) rfl rfl rfl hz9 hx0 (fun c15 => ?_) (fun c15 => ?_)
            · refine h_iconst (pc' := 80) (x := (Int32.ofInt 0)) rfl rfl rfl ?_
              refine h_istore_n (pc' := 81) (M := [(3, .int (Int32.ofInt 0)), (6, .int z9), (5, .int z5), (0, .ref 98), (1, .int x0), (2, .int x1), (4, .int y4)]) rfl rfl rfl rfl ?_
              refine h_iinc (pc' := 84) (M := fun z16 => [(4, .int z16), (3, .int (Int32.ofInt 0)), (6, .int z9), (5, .int z5), (0, .ref 98), (1, .int x0), (2, .int x1)]) rfl rfl rfl rfl hy4 ci_1 rfl (by omega) (by omega) (fun _ => rfl) (fun z16 hz16 => ?_)
              refine h_goto (pc' := 5) rfl rfl ?_
              exact h_wk [(0, .ref 98), (1, .int x0), (2, .int x1), (3, .int (Int32.ofInt 0)), (4, .int z16)] ⟨rfl, rfl, rfl, rfl, rfl, trivial⟩ (ih (Int32.ofInt 0) _ ci_0 (by omega) z16 _ hz16 (by omega) (by omega) (g_fo_b ex1 (by omega) (by omega)) (by omega))
            · refine h_iconst (pc' := 76) (x := (Int32.ofInt 1)) rfl rfl rfl ?_
              refine h_goto (pc' := 80) rfl rfl ?_
              refine h_istore_n (pc' := 81) (M := [(3, .int (Int32.ofInt 1)), (6, .int z9), (5, .int z5), (0, .ref 98), (1, .int x0), (2, .int x1), (4, .int y4)]) rfl rfl rfl rfl ?_
              refine h_iinc (pc' := 84) (M := fun z17 => [(4, .int z17), (3, .int (Int32.ofInt 1)), (6, .int z9), (5, .int z5), (0, .ref 98), (1, .int x0), (2, .int x1)]) rfl rfl rfl rfl hy4 ci_1 rfl (by omega) (by omega) (fun _ => rfl) (fun z17 hz17 => ?_)
              refine h_goto (pc' := 5) rfl rfl ?_
              exact h_wk [(0, .ref 98), (1, .int x0), (2, .int x1), (3, .int (Int32.ofInt 1)), (4, .int z17)] ⟨rfl, rfl, rfl, rfl, rfl, trivial⟩ (ih (Int32.ofInt 1) _ ci_1 (by omega) z17 _ hz17 (by omega) (by omega) (g_fo_b ex1 (by omega) (by omega)) (by omega))
        · refine h_iload (pc' := 59) rfl rfl rfl ?_
          refine h_iload_n (pc' := 60) rfl rfl rfl ?_
          refine h_ceq (tg := 75) (pc' := 63) rfl rfl rfl hz9 hx1 (fun c18 => ?_) (fun c18 => ?_)
          · refine h_iconst (pc' := 76) (x := (Int32.ofInt 1)) rfl rfl rfl ?_
            refine h_goto (pc' := 80) rfl rfl ?_
            refine h_istore_n (pc' := 81) (M := [(3, .int (Int32.ofInt 1)), (6, .int z9), (5, .int z5), (0, .ref 98), (1, .int x0), (2, .int x1), (4, .int y4)]) rfl rfl rfl rfl ?_
            refine h_iinc (pc' := 84) (M := fun z19 => [(4, .int z19), (3, .int (Int32.ofInt 1)), (6, .int z9), (5, .int z5), (0, .ref 98), (1, .int x0), (2, .int x1)]) rfl rfl rfl rfl hy4 ci_1 rfl (by omega) (by omega) (fun _ => rfl) (fun z19 hz19 => ?_)
            refine h_goto (pc' := 5) rfl rfl ?_
            exact h_wk [(0, .ref 98), (1, .int x0), (2, .int x1), (3, .int (Int32.ofInt 1)), (4, .int z19)] ⟨rfl, rfl, rfl, rfl, rfl, trivial⟩ (ih (Int32.ofInt 1) _ ci_1 (by omega) z19 _ hz19 (by omega) (by omega) (g_fo_b ex1 (by omega) (by omega)) (by omega))
          · refine h_iload (pc' := 65) rfl rfl rfl ?_
            refine h_iload_n (pc' := 66) rfl rfl rfl ?_
            refine h_cne (tg := 79) (pc' := 69) rfl rfl rfl hz5 hx1 (fun c20 => ?_) (fun c20 => ?_)
            · refine h_iconst (pc' := 80) (x := (Int32.ofInt 0)) rfl rfl rfl ?_
              refine h_istore_n (pc' := 81) (M := [(3, .int (Int32.ofInt 0)), (6, .int z9), (5, .int z5), (0, .ref 98), (1, .int x0), (2, .int x1), (4, .int y4)]) rfl rfl rfl rfl ?_
              refine h_iinc (pc' := 84) (M := fun z21 => [(4, .int z21), (3, .int (Int32.ofInt 0)), (6, .int z9), (5, .int z5), (0, .ref 98), (1, .int x0), (2, .int x1)]) rfl rfl rfl rfl hy4 ci_1 rfl (by omega) (by omega) (fun _ => rfl) (fun z21 hz21 => ?_)
              refine h_goto (pc' := 5) rfl rfl ?_
              exact h_wk [(0, .ref 98), (1, .int x0), (2, .int x1), (3, .int (Int32.ofInt 0)), (4, .int z21)] ⟨rfl, rfl, rfl, rfl, rfl, trivial⟩ (ih (Int32.ofInt 0) _ ci_0 (by omega) z21 _ hz21 (by omega) (by omega) (g_fo_b ex1 (by omega) (by omega)) (by omega))
            · refine h_iload (pc' := 71) rfl rfl rfl ?_
              refine h_iload_n (pc' := 72) rfl rfl rfl ?_
              refine h_cne (tg := 79) (pc' := 75) rfl rfl rfl hz9 hx0 (fun c22 => ?_) (fun c22 => ?_)
              · refine h_iconst (pc' := 80) (x := (Int32.ofInt 0)) rfl rfl rfl ?_
                refine h_istore_n (pc' := 81) (M := [(3, .int (Int32.ofInt 0)), (6, .int z9), (5, .int z5), (0, .ref 98), (1, .int x0), (2, .int x1), (4, .int y4)]) rfl rfl rfl rfl ?_
                refine h_iinc (pc' := 84) (M := fun z23 => [(4, .int z23), (3, .int (Int32.ofInt 0)), (6, .int z9), (5, .int z5), (0, .ref 98), (1, .int x0), (2, .int x1)]) rfl rfl rfl rfl hy4 ci_1 rfl (by omega) (by omega) (fun _ => rfl) (fun z23 hz23 => ?_)
                refine h_goto (pc' := 5) rfl rfl ?_
                exact h_wk [(0, .ref 98), (1, .int x0), (2, .int x1), (3, .int (Int32.ofInt 0)), (4, .int z23)] ⟨rfl, rfl, rfl, rfl, rfl, trivial⟩ (ih (Int32.ofInt 0) _ ci_0 (by omega) z23 _ hz23 (by omega) (by omega) (g_fo_b ex1 (by omega) (by omega)) (by omega))
              · refine h_iconst (pc' := 76) (x := (Int32.ofInt 1)) rfl rfl rfl ?_
                refine h_goto (pc' := 80) rfl rfl ?_
                refine h_istore_n (pc' := 81) (M := [(3, .int (Int32.ofInt 1)), (6, .int z9), (5, .int z5), (0, .ref 98), (1, .int x0), (2, .int x1), (4, .int y4)]) rfl rfl rfl rfl ?_
                refine h_iinc (pc' := 84) (M := fun z24 => [(4, .int z24), (3, .int (Int32.ofInt 1)), (6, .int z9), (5, .int z5), (0, .ref 98), (1, .int x0), (2, .int x1)]) rfl rfl rfl rfl hy4 ci_1 rfl (by omega) (by omega) (fun _ => rfl) (fun z24 hz24 => ?_)
                refine h_goto (pc' := 5) rfl rfl ?_
                exact h_wk [(0, .ref 98), (1, .int x0), (2, .int x1), (3, .int (Int32.ofInt 1)), (4, .int z24)] ⟨rfl, rfl, rfl, rfl, rfl, trivial⟩ (ih (Int32.ofInt 1) _ ci_1 (by omega) z24 _ hz24 (by omega) (by omega) (g_fo_b ex1 (by omega) (by omega)) (by omega))
set_option maxHeartbeats 100000000 in
theorem n_foe {ns : Nat} (σ : h_S) (hI : h_I σ) (x0 : Int32) (a0 : Int) (hx0 : x0.toInt = a0) (x1 : Int32) (a1 : Int) (hx1 : x1.toInt = a1) {Q : Option Value → h_S → Prop} (kk : ∀ (r : Int32) (b : Int) (hb : r.toInt = b), (0 ≤ b ∧ b ≤ 1) → (b = if g_fo (fun i => σ 99 (19 + 2 * i)) (fun i => σ 99 (19 + 2 * i + 1)) a0 a1 (σ 99 25).toNat = true then 1 else 0) → Q (some (.int r)) σ) : h_T g_P (g_Y ns) 163 0 [(0, .ref 98), (1, .int x0), (2, .int x1)] [] σ Q := by
  have gg0 := ty_99_5 hI 25 (by omega)
  refine h_iconst (pc' := 1) (x := (Int32.ofInt 0)) rfl rfl rfl ?_
  refine h_istore_n (pc' := 2) (M := [(3, .int (Int32.ofInt 0)), (0, .ref 98), (1, .int x0), (2, .int x1)]) rfl rfl rfl rfl ?_
  refine h_iconst (pc' := 3) (x := (Int32.ofInt 0)) rfl rfl rfl ?_
  refine h_istore (pc' := 5) (M := [(4, .int (Int32.ofInt 0)), (3, .int (Int32.ofInt 0)), (0, .ref 98), (1, .int x0), (2, .int x1)]) rfl rfl rfl rfl ?_
  exact h_wk [(0, .ref 98), (1, .int x0), (2, .int x1), (3, .int (Int32.ofInt 0)), (4, .int (Int32.ofInt 0))] ⟨rfl, rfl, rfl, rfl, rfl, trivial⟩ ((n_foe_l ns σ hI x0 a0 hx0 x1 a1 hx1 kk 1000000000000) (Int32.ofInt 0) _ ci_0 (by omega) (Int32.ofInt 0) _ ci_0 (by omega) (by omega) rfl (by omega))
set_option maxHeartbeats 100000000 in
theorem n_may {ns : Nat} (σ : h_S) (hI : h_I σ) (x0 : Int32) (a0 : Int) (hx0 : x0.toInt = a0) (ra0 : 0 ≤ a0 ∧ a0 ≤ 5) (x1 : Int32) (a1 : Int) (hx1 : x1.toInt = a1) (ra1 : -4 ≤ a1 ∧ a1 ≤ 5 ∧ (a1 = -4 ∨ 0 ≤ a1)) (x2 : Int32) (a2 : Int) (hx2 : x2.toInt = a2) {Q : Option Value → h_S → Prop} (kk : ∀ (r : Int32) (b : Int) (hb : r.toInt = b), (0 ≤ b ∧ b ≤ 1) → (b = if g_yM (σ 105) (fun i => σ 99 (19 + 2 * i)) (fun i => σ 99 (19 + 2 * i + 1)) (σ 99 25) a0 a1 a2 = true then 1 else 0) → Q (some (.int r)) σ) : h_T g_P (g_Y ns) 164 0 [(0, .ref 98), (1, .int x0), (2, .int x1), (3, .int x2)] [] σ Q := by
  refine h_iload_n (pc' := 1) rfl rfl rfl ?_
  refine h_bipush (pc' := 3) (x := (Int32.ofInt (-4))) rfl rfl cb_m4 ?_
  refine h_ceq (tg := 30) (pc' := 6) rfl rfl rfl hx1 ci_m4 (fun c1 => ?_) (fun c1 => ?_)
  · refine h_iconst (pc' := 31) (x := (Int32.ofInt 1)) rfl rfl rfl ?_
    refine h_goto (pc' := 35) rfl rfl ?_
    exact h_zret rfl rfl ci_1 (by omega) (kk _ _ ci_1 (by omega) (g_yM_a (by omega)))
  · refine h_aload_n (pc' := 7) rfl rfl rfl ?_
    refine h_getR (pc' := 10) rfl rfl rfl rfl rfl ?_
    refine h_bipush (pc' := 12) (x := (Int32.ofInt 6)) rfl rfl cb_6 ?_
    refine h_iload_n (pc' := 13) rfl rfl rfl ?_
    refine h_imul (pc' := 14) rfl rfl ci_6 hx1 rfl (by omega) (by omega) (fun z2 hz2 => ?_)
    refine h_iload_n (pc' := 15) rfl rfl rfl ?_
    refine h_iadd (pc' := 16) rfl rfl hz2 hx0 rfl (by omega) (by omega) (fun z3 hz3 => ?_)
    refine h_iald (pc' := 17) (v := σ 105 ((6 * a1) + a0)) rfl rfl rfl hz3 (by omega) (by omega) rfl (fun z4 hz4 => ?_)
    have tz4 := ty_105 hI ((6 * a1) + a0)
    refine h_iload_n (pc' := 18) rfl rfl rfl ?_
    refine h_cgt (tg := 34) (pc' := 21) rfl rfl rfl hz4 hx2 (fun c5 => ?_) (fun c5 => ?_)
    · refine h_iconst (pc' := 35) (x := (Int32.ofInt 0)) rfl rfl rfl ?_
      exact h_zret rfl rfl ci_0 (by omega) (kk _ _ ci_0 (by omega) (g_yM_a (by omega)))
    · refine h_aload_n (pc' := 22) rfl rfl rfl ?_
      refine h_iload_n (pc' := 23) rfl rfl rfl ?_
      refine h_iload_n (pc' := 24) rfl rfl rfl ?_
      refine h_call (sp := false) (pc' := 27) (M := [(0, .ref 98), (1, .int x0), (2, .int x1)]) rfl rfl rfl rfl rfl rfl rfl rfl ?_
      refine n_foe _ hI x0 _ hx0 x1 _ hx1 (fun r6 br6 hr6 tr6 ps7_0 => h_Kv ?_)
      refine h_zne (tg := 34) (pc' := 30) rfl rfl rfl hr6 (fun c8 => ?_) (fun c8 => ?_)
      · refine h_iconst (pc' := 35) (x := (Int32.ofInt 0)) rfl rfl rfl ?_
        exact h_zret rfl rfl ci_0 (by omega) (kk _ _ ci_0 (by omega) (g_yM_b (by omega) (by omega) ps7_0 (by omega)))
      · refine h_iconst (pc' := 31) (x := (Int32.ofInt 1)) rfl rfl rfl ?_
        refine h_goto (pc' := 35) rfl rfl ?_
        exact h_zret rfl rfl ci_1 (by omega) (kk _ _ ci_1 (by omega) (g_yM_b (by omega) (by omega) ps7_0 (by omega)))
