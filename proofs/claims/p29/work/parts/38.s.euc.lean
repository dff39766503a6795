/-! EUCLID, WEIGHTS, SUMS -/
def g_eu : Nat → Int → Int → Int
  | 0, a, _ => a
  | n + 1, a, b => if b = 0 then a else g_eu n b (a % b)
theorem g_eu_1 (n : Nat) (a b : Int) : g_eu (n + 1) a b = if b = 0 then a else g_eu n b (a % b) := rfl
theorem g_em {a b : Int} (a0 : 0 ≤ a) (b0 : 0 < b) : 0 ≤ a % b ∧ a % b < b ∧ (b ≤ a → 2 * (a % b) < a) := by
  have h1 := Int.emod_nonneg a (show b ≠ 0 by omega)
  have h2 := Int.emod_lt_of_pos a b0
  refine ⟨h1, h2, fun h => ?_⟩
  have d := Int.emod_def a b
  have q : 1 ≤ a / b := by
    rcases Int.lt_or_le (a / b) 1 with c | c
    · have m : b * (a / b) ≤ b * 0 := Int.mul_le_mul_of_nonneg_left (by omega) (by omega)
      exfalso
      omega
    · exact c
  have m : b * 1 ≤ b * (a / b) := Int.mul_le_mul_of_nonneg_left q (by omega)
  omega
theorem g_eu_st : ∀ (k n m : Nat) (a b : Int), 0 ≤ a → 0 ≤ b → b < 2 ^ k → 2 * k + 1 ≤ n → 2 * k + 1 ≤ m → g_eu n a b = g_eu m a b
  | 0, n, m, a, b, _, b0, b1, hn, hm => by
    have e : b = 0 := by
      have z : (2 : Int) ^ 0 = 1 := rfl
      omega
    obtain ⟨n', rfl⟩ : ∃ n', n = n' + 1 := ⟨n - 1, by omega⟩
    obtain ⟨m', rfl⟩ : ∃ m', m = m' + 1 := ⟨m - 1, by omega⟩
    rw [g_eu_1, g_eu_1, if_pos e, if_pos e]
  | k + 1, n, m, a, b, a0, b0, b1, hn, hm => by
    obtain ⟨n', rfl⟩ : ∃ n', n = n' + 1 + 1 := ⟨n - 2, by omega⟩
    obtain ⟨m', rfl⟩ : ∃ m', m = m' + 1 + 1 := ⟨m - 2, by omega⟩
    rw [g_eu_1 (n' + 1) a b, g_eu_1 (m' + 1) a b]
    by_cases e : b = 0
    · rw [if_pos e, if_pos e]
    · rw [if_neg e, if_neg e, g_eu_1 n' b (a % b), g_eu_1 m' b (a % b)]
      have y := g_em a0 (show 0 < b by omega)
      by_cases r : a % b = 0
      · rw [if_pos r, if_pos r]
      · rw [if_neg r, if_neg r]
        have z := g_em (a := b) (b := a % b) b0 (by omega)
        have w := z.2.2 (by omega)
        rw [Int.pow_succ] at b1
        exact g_eu_st k n' m' _ _ y.1 z.1 (by omega) (by omega) (by omega)
theorem g_eu_p : ∀ (n : Nat) (a b : Int), 0 < a → 0 ≤ b → 0 < g_eu n a b
  | 0, a, b, h, _ => h
  | n + 1, a, b, h, h0 => by
    rw [g_eu_1]
    by_cases e : b = 0
    · rw [if_pos e]
      exact h
    · rw [if_neg e]
      exact g_eu_p n b (a % b) (by omega) (g_em (by omega) (by omega)).1
theorem g_eu_p1 {n : Nat} {a b : Int} (a0 : 0 ≤ a) (b0 : 0 < b) : 0 < g_eu (n + 1) a b := by
  rw [g_eu_1, if_neg (by omega)]
  exact g_eu_p n b (a % b) b0 (g_em a0 b0).1
theorem g_eu_s {m m' : Nat} {a b r T : Int} (h : g_eu m a b = T) (hm : m = m' + 1) (hb : ¬ b = 0) (hr : r = a % b) : g_eu m' b r = T := by
  subst hm; subst hr
  rw [← h, g_eu_1, if_neg hb]
theorem g_eu_o {m : Nat} {a b T : Int} (h : g_eu m a b = T) (c : m = 0 ∨ b = 0) : a = T := by
  rw [← h]
  cases m with
  | zero => rfl
  | succ k => rw [g_eu_1, if_pos (by omega)]
theorem g_eu_m {a b r T : Int} (h : g_eu 1000 a b = T) (a0 : 0 ≤ a) (b0 : 0 < b) (b6 : b ≤ 1000000) (hr : r = a % b) : g_eu 1000 b r = T := by
  have y := g_em a0 b0
  have h' : g_eu (999 + 1) a b = T := h
  rw [g_eu_1, if_neg (by omega), ← hr] at h'
  rw [← h']
  have p : (2 : Int) ^ 20 = 1048576 := by decide
  exact g_eu_st 20 1000 999 b r (by omega) (by omega) (by omega) (by omega) (by omega)
theorem g_lr {x y z : Int64} (hz : z = x - x / y * y) (x0 : 0 ≤ x.toInt) : z.toInt = x.toInt % y.toInt := by
  have e : z.toInt = x.toInt.tmod y.toInt := by
    rw [hz, Int64.toInt_sub, Int64.toInt_mul, Int64.toInt_div, Int.sub_bmod_bmod, Int.sub_bmod, Int.mul_bmod, Int.bmod_bmod, ← Int.mul_bmod, ← Int.sub_bmod, Int.tmod_def, Int.mul_comm (x.toInt.tdiv y.toInt), ← Int.tmod_def]
    rw [← Int64.toInt_mod]
    exact h_lbm (Int64.le_toInt _) (by have := Int64.toInt_lt (x % y); omega)
  rw [e, Int.tmod_eq_emod_of_nonneg x0]
theorem g_p10 {k : Int} (h0 : 0 ≤ k) (h6 : k ≤ 6) : 1 ≤ (10 : Int) ^ k.toNat ∧ (10 : Int) ^ k.toNat ≤ 1000000 := by
  have c : k = 0 ∨ k = 1 ∨ k = 2 ∨ k = 3 ∨ k = 4 ∨ k = 5 ∨ k = 6 := by omega
  rcases c with c | c | c | c | c | c | c <;> subst c <;> decide
theorem g_p10s {k : Int} (h0 : 0 ≤ k) : (10 : Int) ^ (k + 1).toNat = (10 : Int) ^ k.toNat * 10 := by
  rw [show (k + 1).toNat = k.toNat + 1 by omega, Int.pow_succ]
def g_wt (aw : Int32) (v : Int) : Nat → Int
  | 0 => 1
  | m + 1 => g_wt aw v m * (if g_hb aw (m : Int) = 0 then 10 - v else v)
theorem g_wt_s {aw : Int32} {v k w w' f : Int} (h : w = g_wt aw v k.toNat) (k0 : 0 ≤ k) (hf : (g_hb aw k = 0 ∧ f = 10 - v) ∨ (¬ g_hb aw k = 0 ∧ f = v)) (hw : w' = w * f) : w' = g_wt aw v (k + 1).toNat := by
  rw [show (k + 1).toNat = k.toNat + 1 by omega]
  show w' = g_wt aw v k.toNat * (if g_hb aw ((k.toNat : Nat) : Int) = 0 then 10 - v else v)
  rw [show ((k.toNat : Nat) : Int) = k by omega, hw, h]
  rcases hf with c | c
  · rw [if_pos c.1, c.2]
  · rw [if_neg c.1, c.2]
theorem g_wt_b {aw : Int32} {v : Int} (v0 : 0 ≤ v ∧ v ≤ 10) : ∀ m : Nat, 0 ≤ g_wt aw v m ∧ g_wt aw v m ≤ 10 ^ m
  | 0 => by
    show 0 ≤ (1 : Int) ∧ (1 : Int) ≤ 10 ^ 0
    decide
  | m + 1 => by
    have z := g_wt_b (aw := aw) v0 m
    show 0 ≤ g_wt aw v m * (if g_hb aw (m : Int) = 0 then 10 - v else v) ∧ g_wt aw v m * (if g_hb aw (m : Int) = 0 then 10 - v else v) ≤ 10 ^ (m + 1)
    generalize hf : (if g_hb aw (m : Int) = 0 then 10 - v else v) = f
    have f0 : 0 ≤ f ∧ f ≤ 10 := by
      rw [← hf]
      split <;> omega
    rw [Int.pow_succ]
    exact ⟨Int.mul_nonneg z.1 f0.1, Int.mul_le_mul z.2 f0.2 f0.1 (by omega)⟩
theorem g_wt_6 {aw : Int32} {v k : Int} (v0 : 0 ≤ v ∧ v ≤ 10) (k0 : 0 ≤ k) (k6 : k ≤ 6) : 0 ≤ g_wt aw v k.toNat ∧ g_wt aw v k.toNat ≤ 1000000 := by
  have z := g_wt_b (aw := aw) v0 k.toNat
  have y := g_p10 k0 k6
  omega
theorem g_lm {x y z : Int64} {a b : Int} (hz : z = x * y) (hx : x.toInt = a) (hy : y.toInt = b) (a0 : 0 ≤ a ∧ a ≤ 1000000000) (b0 : 0 ≤ b ∧ b ≤ 1000000000) : z.toInt = a * b := by
  have n := Int.mul_nonneg a0.1 b0.1
  have m : a * b ≤ 1000000000 * 1000000000 := Int.mul_le_mul a0.2 b0.2 b0.1 (by omega)
  rw [hz, Int64.toInt_mul, hx, hy]
  exact h_lbm (by omega) (by omega)
theorem g_lad {x y z : Int64} {a b : Int} (hz : z = x + y) (hx : x.toInt = a) (hy : y.toInt = b) (a0 : 0 ≤ a ∧ a ≤ 1000000000000) (b0 : 0 ≤ b ∧ b ≤ 1000000000000) : z.toInt = a + b := by
  rw [hz, Int64.toInt_add, hx, hy]
  exact h_lbm (by omega) (by omega)
def g_sq (h : Int32 → Int) : Nat → Int
  | 0 => 0
  | m + 1 => g_sq h m + h (Int32.ofInt (m : Int))
theorem g_sq_s {h : Int32 → Int} {k T T' v : Int} {y : Int32} (e : T = g_sq h k.toNat) (k0 : 0 ≤ k) (hy : y.toInt = k) (hv : v = h y) (hT : T' = T + v) : T' = g_sq h (k + 1).toNat := by
  rw [show (k + 1).toNat = k.toNat + 1 by omega]
  show T' = g_sq h k.toNat + h (Int32.ofInt ((k.toNat : Nat) : Int))
  rw [show ((k.toNat : Nat) : Int) = k by omega, g_ofi hy, hT, e, hv]
theorem g_sq_b {h : Int32 → Int} {B : Int} (hb : ∀ a, 0 ≤ h a ∧ h a ≤ B) : ∀ m : Nat, 0 ≤ g_sq h m ∧ g_sq h m ≤ B * m
  | 0 => by
    show 0 ≤ (0 : Int) ∧ (0 : Int) ≤ B * ((0 : Nat) : Int)
    omega
  | m + 1 => by
    have z := g_sq_b hb m
    have y := hb (Int32.ofInt (m : Int))
    show 0 ≤ g_sq h m + h (Int32.ofInt (m : Int)) ∧ g_sq h m + h (Int32.ofInt (m : Int)) ≤ B * ((m + 1 : Nat) : Int)
    rw [show ((m + 1 : Nat) : Int) = (m : Int) + 1 by omega, Int.mul_add, Int.mul_one]
    omega
theorem g_fr {r r' t t' g g' : Int64} (h1 : t.toInt = t'.toInt) (h2 : g.toInt = g'.toInt) (hr : r = t / g) (hr' : r' = t' / g') : r = r' := by
  rw [hr, hr', Int64.toInt_inj.mp h1, Int64.toInt_inj.mp h2]
def kf_n_gcd : List Nat := []
set_option maxHeartbeats 100000000 in
set_option maxHeartbeats 100000000 in
theorem n_gcd_l (ns : Nat) (σ : h_S) (hI : h_I σ) (x0 : Int64) (x1 : Int64) (pr0 : 0 ≤ x0.toInt) (pr1 : 0 ≤ x1.toInt) {Q : Option Value → h_S → Prop} (kk : ∀ (r : Int64) (τ : h_S), h_I τ → h_F (k_in kf_n_gcd) τ σ → (r.toInt = g_eu 1000 x0.toInt x1.toInt) → Q (some (.long r)) τ) : ∀ n : Nat, (∀ (s0 : h_S), h_I s0 → h_F (k_in kf_n_gcd) s0 σ → ∀ (y0 : Int64), ∀ (y2 : Int64), ∀ (y4 : Int64), ∀ (y6 : Int64), ∀ (y8 : Int32) (b8 : Int), y8.toInt = b8 → (0 ≤ b8 ∧ b8 ≤ 1000) → (0 ≤ y4.toInt) → (0 ≤ y6.toInt) → (g_eu (1000 - b8).toNat y4.toInt y6.toInt = g_eu 1000 x0.toInt x1.toInt) → (1000 + 1 - b8) * 1000000 + 1000000000 ≤ (n : Int) → h_T g_P (g_Y ns) 134 9 [(0, .long y0), (2, .long y2), (4, .long y4), (6, .long y6), (8, .int y8)] [] s0 Q) := by
  intro n
  induction n with
  | zero => exact by intro s0 I0 F0_ y0 y2 y4 y6 y8 b8 hy8 ry8 ex0 ex1 ex2 hm; exfalso; omega
  | succ n ih =>
    intro s0 I0 F0_ y0 y2 y4 y6 y8 b8 hy8 ry8 ex0 ex1 ex2 hm
    refine h_iload (pc' := 11) rfl rfl rfl ?_
    refine h_sipush (pc' := 14) (x := (Int32.ofInt 1000)) rfl rfl cs_1000 ?_
    refine h_cge (tg := 45) (pc' := 17) rfl rfl rfl hy8 ci_1000 (fun c1 => ?_) (fun c1 => ?_)
    · refine h_lload (pc' := 47) rfl rfl rfl ?_
      exact h_lret rfl rfl (kk _ _ I0 F0_ (g_eu_o ex2 (by omega)))
    · refine h_lload (pc' := 19) rfl rfl rfl ?_
      refine h_lconst (pc' := 20) (x := (Int64.ofInt 0)) rfl rfl rfl ?_
      refine h_lcmp (pc' := 21) rfl rfl rfl cl_0 (fun z2 hz2 => ?_)
      refine h_zeq (tg := 45) (pc' := 24) rfl rfl rfl rfl (fun c3 => ?_) (fun c3 => ?_)
      · replace c3 := (h_lcr hz2).2.2.2.2.1 c3
        clear hz2
        refine h_lload (pc' := 47) rfl rfl rfl ?_
        exact h_lret rfl rfl (kk _ _ I0 F0_ (g_eu_o ex2 (by omega)))
      · replace c3 := (h_lcr hz2).2.2.2.2.2 c3
        clear hz2
        refine h_lload (pc' := 26) rfl rfl rfl ?_
        refine h_lload (pc' := 28) rfl rfl rfl ?_
        refine h_lremA (pc' := 29) rfl rfl (h_lne0 rfl (by omega)) (fun z4 hz4 => ?_)
        refine h_lstore (pc' := 31) (M := [(9, .long z4), (0, .long y0), (2, .long y2), (4, .long y4), (6, .long y6), (8, .int y8)]) rfl rfl rfl rfl ?_
        refine h_lload (pc' := 33) rfl rfl rfl ?_
        refine h_lstore (pc' := 35) (M := [(4, .long y6), (9, .long z4), (0, .long y0), (2, .long y2), (6, .long y6), (8, .int y8)]) rfl rfl rfl rfl ?_
        refine h_lload (pc' := 37) rfl rfl rfl ?_
        refine h_lstore (pc' := 39) (M := [(6, .long z4), (4, .long y6), (9, .long z4), (0, .long y0), (2, .long y2), (8, .int y8)]) rfl rfl rfl rfl ?_
        refine h_iinc (pc' := 42) (M := fun z5 => [(8, .int z5), (6, .long z4), (4, .long y6), (9, .long z4), (0, .long y0), (2, .long y2)]) rfl rfl rfl rfl hy8 ci_1 rfl (by omega) (by omega) (fun _ => rfl) (fun z5 hz5 => ?_)
        refine h_goto (pc' := 9) rfl rfl ?_
        exact h_wk [(0, .long y0), (2, .long y2), (4, .long y6), (6, .long z4), (8, .int z5)] ⟨rfl, rfl, rfl, rfl, rfl, trivial⟩ (ih _ I0 F0_ y0 y2 y6 z4 z5 _ hz5 (by omega) ex1 (by have gz := g_lr hz4 ex0; have ge := g_em (a := y4.toInt) (b := y6.toInt) ex0 (by omega); omega) (g_eu_s ex2 (by omega) (by omega) (g_lr hz4 ex0)) (by omega))
set_option maxHeartbeats 100000000 in
set_option maxHeartbeats 100000000 in
theorem n_gcd {ns : Nat} (σ : h_S) (hI : h_I σ) (x0 : Int64) (x1 : Int64) (pr0 : 0 ≤ x0.toInt) (pr1 : 0 ≤ x1.toInt) {Q : Option Value → h_S → Prop} (kk : ∀ (r : Int64) (τ : h_S), h_I τ → h_F (k_in kf_n_gcd) τ σ → (r.toInt = g_eu 1000 x0.toInt x1.toInt) → Q (some (.long r)) τ) : h_T g_P (g_Y ns) 134 0 [(0, .long x0), (2, .long x1)] [] σ Q := by
  have F00 : h_F (k_in kf_n_gcd) σ σ := h_F.rf
  refine h_lload_n (pc' := 1) rfl rfl rfl ?_
  refine h_lstore (pc' := 3) (M := [(4, .long x0), (0, .long x0), (2, .long x1)]) rfl rfl rfl rfl ?_
  refine h_lload_n (pc' := 4) rfl rfl rfl ?_
  refine h_lstore (pc' := 6) (M := [(6, .long x1), (4, .long x0), (0, .long x0), (2, .long x1)]) rfl rfl rfl rfl ?_
  refine h_iconst (pc' := 7) (x := (Int32.ofInt 0)) rfl rfl rfl ?_
  refine h_istore (pc' := 9) (M := [(8, .int (Int32.ofInt 0)), (6, .long x1), (4, .long x0), (0, .long x0), (2, .long x1)]) rfl rfl rfl rfl ?_
  exact h_wk [(0, .long x0), (2, .long x1), (4, .long x0), (6, .long x1), (8, .int (Int32.ofInt 0))] ⟨rfl, rfl, rfl, rfl, rfl, trivial⟩ ((n_gcd_l ns σ hI x0 x1 pr0 pr1 kk 1000000000000) _ hI F00 x0 x1 x0 x1 (Int32.ofInt 0) _ ci_0 (by omega) pr0 pr1 rfl (by omega))
def kf_n_low : List Nat := []
set_option maxHeartbeats 100000000 in
set_option maxHeartbeats 100000000 in
theorem n_low_l (ns : Nat) (σ : h_S) (hI : h_I σ) (x0 : Int64) (x1 : Int64) (x2 : Int32) (a2 : Int) (hx2 : x2.toInt = a2) (pr0 : ¬ x1.toInt = 0) (pr1 : 0 ≤ x0.toInt) (pr2 : 0 < x1.toInt ∧ x1.toInt ≤ 1000000) {Q : Option Value → h_S → Prop} (kk : ∀ (r : Int64) (τ : h_S), h_I τ → h_F (k_in kf_n_low) τ σ → (∃ t g : Int64, t.toInt = (if a2 = 0 then x0.toInt else x1.toInt) ∧ g.toInt = g_eu 1000 x0.toInt x1.toInt ∧ r = t / g) → Q (some (.long r)) τ) : ∀ n : Nat, (∀ (s0 : h_S), h_I s0 → h_F (k_in kf_n_low) s0 σ → ∀ (y0 : Int64), ∀ (y2 : Int64), ∀ (y5 : Int64), ∀ (y7 : Int64), (¬ y7.toInt = 0 ∨ ¬ y5.toInt = 0) → (y0 = x0) → (y2 = x1) → (0 ≤ y5.toInt) → (0 ≤ y7.toInt ∧ y7.toInt ≤ 1000000) → (g_eu 1000 y5.toInt y7.toInt = g_eu 1000 x0.toInt x1.toInt) → -y7.toInt + 1 ≤ (n : Int) ∧ y7.toInt + 1 ≤ (n : Int) → h_T g_P (g_Y ns) 205 6 [(0, .long y0), (2, .long y2), (4, .int x2), (5, .long y5), (7, .long y7)] [] s0 Q) := by
  intro n
  induction n with
  | zero => exact by intro s0 I0 F0_ y0 y2 y5 y7 ex0 ex1 ex2 ex3 ex4 ex5 hm; have gg0 := h_lrng x1; exfalso; omega
  | succ n ih =>
    intro s0 I0 F0_ y0 y2 y5 y7 ex0 ex1 ex2 ex3 ex4 ex5 hm; have gg0 := h_lrng x1
    refine h_lload (pc' := 8) rfl rfl rfl ?_
    refine h_lconst (pc' := 9) (x := (Int64.ofInt 0)) rfl rfl rfl ?_
    refine h_lcmp (pc' := 10) rfl rfl rfl cl_0 (fun z1 hz1 => ?_)
    refine h_zeq (tg := 31) (pc' := 13) rfl rfl rfl rfl (fun c2 => ?_) (fun c2 => ?_)
    · replace c2 := (h_lcr hz1).2.2.2.2.1 c2
      clear hz1
      refine h_iload (pc' := 33) rfl rfl rfl ?_
      refine h_zne (tg := 40) (pc' := 36) rfl rfl rfl hx2 (fun c3 => ?_) (fun c3 => ?_)
      · refine h_lload_n (pc' := 41) rfl rfl rfl ?_
        refine h_lload (pc' := 43) rfl rfl rfl ?_
        refine h_ldivA (pc' := 44) rfl rfl (h_lne0 rfl (by omega)) (fun z4 hz4 => ?_)
        exact h_lret rfl rfl (kk _ _ I0 F0_ ⟨_, _, (by first | exact (congrArg Int64.toInt ex1).trans (if_pos (by omega)).symm | exact (congrArg Int64.toInt ex2).trans (if_neg (by omega)).symm), g_eu_o ex5 (by omega), hz4⟩)
      · refine h_lload_n (pc' := 37) rfl rfl rfl ?_
        refine h_goto (pc' := 41) rfl rfl ?_
        refine h_lload (pc' := 43) rfl rfl rfl ?_
        refine h_ldivA (pc' := 44) rfl rfl (h_lne0 rfl (by omega)) (fun z5 hz5 => ?_)
        exact h_lret rfl rfl (kk _ _ I0 F0_ ⟨_, _, (by first | exact (congrArg Int64.toInt ex1).trans (if_pos (by omega)).symm | exact (congrArg Int64.toInt ex2).trans (if_neg (by omega)).symm), g_eu_o ex5 (by omega), hz5⟩)
    · replace c2 := (h_lcr hz1).2.2.2.2.2 c2
      clear hz1
      refine h_lload (pc' := 15) rfl rfl rfl ?_
      refine h_lload (pc' := 17) rfl rfl rfl ?_
      refine h_lremA (pc' := 18) rfl rfl (h_lne0 rfl (by omega)) (fun z6 hz6 => ?_)
      have dz6 := h_lremC (h_lne0 rfl (by omega)) hz6
      refine h_lstore (pc' := 20) (M := [(9, .long z6), (0, .long y0), (2, .long y2), (4, .int x2), (5, .long y5), (7, .long y7)]) rfl rfl rfl rfl ?_
      refine h_lload (pc' := 22) rfl rfl rfl ?_
      refine h_lstore (pc' := 24) (M := [(5, .long y7), (9, .long z6), (0, .long y0), (2, .long y2), (4, .int x2), (7, .long y7)]) rfl rfl rfl rfl ?_
      refine h_lload (pc' := 26) rfl rfl rfl ?_
      refine h_lstore (pc' := 28) (M := [(7, .long z6), (5, .long y7), (9, .long z6), (0, .long y0), (2, .long y2), (4, .int x2)]) rfl rfl rfl rfl ?_
      refine h_goto (pc' := 6) rfl rfl ?_
      exact h_wk [(0, .long y0), (2, .long y2), (4, .int x2), (5, .long y7), (7, .long z6)] ⟨rfl, rfl, rfl, rfl, rfl, trivial⟩ (ih _ I0 F0_ y0 y2 y7 z6 (by have gz := g_lr hz6 ex3; have ge := g_em (a := y5.toInt) (b := y7.toInt) ex3 (by omega); omega) ex1 ex2 (by have gz := g_lr hz6 ex3; have ge := g_em (a := y5.toInt) (b := y7.toInt) ex3 (by omega); omega) (by have gz := g_lr hz6 ex3; have ge := g_em (a := y5.toInt) (b := y7.toInt) ex3 (by omega); omega) (g_eu_m ex5 ex3 (by omega) (by omega) (g_lr hz6 ex3)) (by omega))
set_option maxHeartbeats 100000000 in
set_option maxHeartbeats 100000000 in
theorem n_low {ns : Nat} (σ : h_S) (hI : h_I σ) (x0 : Int64) (x1 : Int64) (x2 : Int32) (a2 : Int) (hx2 : x2.toInt = a2) (pr0 : ¬ x1.toInt = 0) (pr1 : 0 ≤ x0.toInt) (pr2 : 0 < x1.toInt ∧ x1.toInt ≤ 1000000) {Q : Option Value → h_S → Prop} (kk : ∀ (r : Int64) (τ : h_S), h_I τ → h_F (k_in kf_n_low) τ σ → (∃ t g : Int64, t.toInt = (if a2 = 0 then x0.toInt else x1.toInt) ∧ g.toInt = g_eu 1000 x0.toInt x1.toInt ∧ r = t / g) → Q (some (.long r)) τ) : h_T g_P (g_Y ns) 205 0 [(0, .long x0), (2, .long x1), (4, .int x2)] [] σ Q := by
  have F00 : h_F (k_in kf_n_low) σ σ := h_F.rf
  have gg0 := h_lrng x1
  refine h_lload_n (pc' := 1) rfl rfl rfl ?_
  refine h_lstore (pc' := 3) (M := [(5, .long x0), (0, .long x0), (2, .long x1), (4, .int x2)]) rfl rfl rfl rfl ?_
  refine h_lload_n (pc' := 4) rfl rfl rfl ?_
  refine h_lstore (pc' := 6) (M := [(7, .long x1), (5, .long x0), (0, .long x0), (2, .long x1), (4, .int x2)]) rfl rfl rfl rfl ?_
  exact h_wk [(0, .long x0), (2, .long x1), (4, .int x2), (5, .long x0), (7, .long x1)] ⟨rfl, rfl, rfl, rfl, rfl, trivial⟩ ((n_low_l ns σ hI x0 x1 x2 a2 hx2 pr0 pr1 pr2 kk 100000000000000000000) _ hI F00 x0 x1 x0 x1 (by omega) rfl rfl (by omega) (by omega) rfl (by omega))
def kf_n_part : List Nat := []
set_option maxHeartbeats 100000000 in
set_option maxHeartbeats 100000000 in
theorem n_part_l (ns : Nat) (σ : h_S) (hI : h_I σ) (x0 : Int64) (x1 : Int32) (a1 : Int) (hx1 : x1.toInt = a1) (pr0 : 0 ≤ x0.toInt) {Q : Option Value → h_S → Prop} (kk : ∀ (r : Int64) (τ : h_S), h_I τ → h_F (k_in kf_n_part) τ σ → (∃ t g : Int64, t.toInt = (if a1 = 0 then x0.toInt else (10 ^ (σ 10 8).toNat)) ∧ g.toInt = g_eu 1000 x0.toInt (10 ^ (σ 10 8).toNat) ∧ r = t / g) → Q (some (.long r)) τ) : ∀ n : Nat, (∀ (s0 : h_S), h_I s0 → h_F (k_in kf_n_part) s0 σ → ∀ (y1 : Int64), ∀ (y4 : Int64), ∀ (y6 : Int32) (b6 : Int), y6.toInt = b6 → (0 ≤ b6 ∧ b6 ≤ 6) → (y1 = x0) → (1 ≤ y4.toInt ∧ y4.toInt ≤ 1000000) → (y4.toInt = 10 ^ b6.toNat) → (b6 ≤ σ 10 8) → (6 + 1 - b6) * 1000000 + 1000000000 ≤ (n : Int) → h_T g_P (g_Y ns) 133 6 [(0, .ref 9), (1, .long y1), (3, .int x1), (4, .long y4), (6, .int y6)] [] s0 Q) := by
  intro n
  induction n with
  | zero => exact by intro s0 I0 F0_ y1 y4 y6 b6 hy6 ry6 ex0 ex1 ex2 ex3 hm; have gh0 := F0_ 10 8 rfl; have gh1 := tf_10_8 hI; have gh2 := g_p10 (k := b6) (by omega) (by omega); exfalso; omega
  | succ n ih =>
    intro s0 I0 F0_ y1 y4 y6 b6 hy6 ry6 ex0 ex1 ex2 ex3 hm; have gh0 := F0_ 10 8 rfl; have gh1 := tf_10_8 hI; have gh2 := g_p10 (k := b6) (by omega) (by omega)
    refine h_iload (pc' := 8) rfl rfl rfl ?_
    refine h_aload_n (pc' := 9) rfl rfl rfl ?_
    refine h_getR (pc' := 12) rfl rfl rfl rfl rfl ?_
    refine h_getI (pc' := 15) (v := σ 10 8) rfl rfl rfl rfl rfl (F0_ 10 8 rfl) (fun z1 hz1 => ?_)
    have tz1 := tf_10_8 hI
    refine h_cge (tg := 32) (pc' := 18) rfl rfl rfl hy6 hz1 (fun c2 => ?_) (fun c2 => ?_)
    · refine h_lload_n (pc' := 33) rfl rfl rfl ?_
      refine h_lload (pc' := 35) rfl rfl rfl ?_
      refine h_calls (pc' := 38) (M := [(0, .long y1), (2, .long y4)]) rfl rfl rfl rfl rfl rfl ?_
      refine n_gcd _ I0 y1 y4 (by rw [ex0]; exact pr0) (by omega) (fun r3 s4 Is4 Gs4 ps4_0 => h_Kv ?_)
      have Fs4 := (Gs4.mono (B := kf_n_part) rfl).tr F0_
      have es4_0 : s4 98 13 = s0 98 13 := (Gs4 98 13 rfl).trans rfl
      refine h_lstore (pc' := 40) (M := [(6, .long r3), (0, .ref 9), (1, .long y1), (3, .int x1), (4, .long y4)]) rfl rfl rfl rfl ?_
      refine h_lload (pc' := 42) rfl rfl rfl ?_
      refine h_lconst (pc' := 43) (x := (Int64.ofInt 0)) rfl rfl rfl ?_
      refine h_lcmp (pc' := 44) rfl rfl rfl cl_0 (fun z5 hz5 => ?_)
      refine h_zgt (tg := 51) (pc' := 47) rfl rfl rfl rfl (fun c6 => ?_) (fun c6 => ?_)
      · replace c6 := (h_lcr hz5).2.2.2.1 c6
        clear hz5
        refine h_iload_n (pc' := 52) rfl rfl rfl ?_
        refine h_zne (tg := 62) (pc' := 55) rfl rfl rfl hx1 (fun c7 => ?_) (fun c7 => ?_)
        · refine h_lload (pc' := 64) rfl rfl rfl ?_
          refine h_lload (pc' := 66) rfl rfl rfl ?_
          refine h_ldivA (pc' := 67) rfl rfl (h_lne0 rfl (by omega)) (fun z8 hz8 => ?_)
          exact h_lret rfl rfl (kk _ _ Is4 Fs4 (by have gn : b6 = σ 10 8 := (by omega); have g10 := g_p10 (k := σ 10 8) (by omega) (by omega); have gg := ps4_0; rw [ex2, gn, ex0] at gg; exact ⟨_, _, (by first | exact (congrArg Int64.toInt ex0).trans (if_pos (by omega)).symm | exact (ex2.trans (by rw [gn])).trans (if_neg (by omega)).symm), gg, hz8⟩))
        · refine h_lload_n (pc' := 56) rfl rfl rfl ?_
          refine h_lload (pc' := 58) rfl rfl rfl ?_
          refine h_ldivA (pc' := 59) rfl rfl (h_lne0 rfl (by omega)) (fun z9 hz9 => ?_)
          refine h_goto (pc' := 67) rfl rfl ?_
          exact h_lret rfl rfl (kk _ _ Is4 Fs4 (by have gn : b6 = σ 10 8 := (by omega); have g10 := g_p10 (k := σ 10 8) (by omega) (by omega); have gg := ps4_0; rw [ex2, gn, ex0] at gg; exact ⟨_, _, (by first | exact (congrArg Int64.toInt ex0).trans (if_pos (by omega)).symm | exact (ex2.trans (by rw [gn])).trans (if_neg (by omega)).symm), gg, hz9⟩))
      · replace c6 := (h_lcr hz5).2.2.1 c6
        clear hz5
        refine h_ldc2 (pc' := 50) (x := (Int64.ofInt (-1))) rfl rfl rfl ?_
        exact h_lret rfl rfl (kk _ _ Is4 Fs4 (by have gn : b6 = σ 10 8 := (by omega); have g10 := g_p10 (k := σ 10 8) (by omega) (by omega); have gg := ps4_0; rw [ex2, gn, ex0] at gg; exfalso; have gp := g_eu_p1 (n := 999) (a := x0.toInt) (b := (10 ^ (σ 10 8).toNat)) pr0 (by omega); have gq : g_eu (999 + 1) x0.toInt (10 ^ (σ 10 8).toNat) = g_eu 1000 x0.toInt (10 ^ (σ 10 8).toNat) := rfl; omega))
    · refine h_lload (pc' := 20) rfl rfl rfl ?_
      refine h_ldc2 (pc' := 23) (x := (Int64.ofInt 10)) rfl rfl rfl ?_
      refine h_lmul (pc' := 24) rfl rfl rfl cl_10 rfl (by omega) (by omega) (fun z10 hz10 => ?_)
      refine h_lstore (pc' := 26) (M := [(4, .long z10), (0, .ref 9), (1, .long y1), (3, .int x1), (6, .int y6)]) rfl rfl rfl rfl ?_
      refine h_iinc (pc' := 29) (M := fun z11 => [(6, .int z11), (4, .long z10), (0, .ref 9), (1, .long y1), (3, .int x1)]) rfl rfl rfl rfl hy6 ci_1 rfl (by omega) (by omega) (fun _ => rfl) (fun z11 hz11 => ?_)
      refine h_goto (pc' := 6) rfl rfl ?_
      exact h_wk [(0, .ref 9), (1, .long y1), (3, .int x1), (4, .long z10), (6, .int z11)] ⟨rfl, rfl, rfl, rfl, rfl, trivial⟩ (ih _ I0 F0_ y1 z10 z11 _ hz11 (by omega) ex0 (by have gp := g_p10 (k := b6 + 1) (by omega) (by omega); have gs := g_p10s (k := b6) (by omega); omega) (by have gp := g_p10s (k := b6) (by omega); omega) (by omega) (by omega))
set_option maxHeartbeats 100000000 in
set_option maxHeartbeats 100000000 in
theorem n_part {ns : Nat} (σ : h_S) (hI : h_I σ) (x0 : Int64) (x1 : Int32) (a1 : Int) (hx1 : x1.toInt = a1) (pr0 : 0 ≤ x0.toInt) {Q : Option Value → h_S → Prop} (kk : ∀ (r : Int64) (τ : h_S), h_I τ → h_F (k_in kf_n_part) τ σ → (∃ t g : Int64, t.toInt = (if a1 = 0 then x0.toInt else (10 ^ (σ 10 8).toNat)) ∧ g.toInt = g_eu 1000 x0.toInt (10 ^ (σ 10 8).toNat) ∧ r = t / g) → Q (some (.long r)) τ) : h_T g_P (g_Y ns) 133 0 [(0, .ref 9), (1, .long x0), (3, .int x1)] [] σ Q := by
  have F00 : h_F (k_in kf_n_part) σ σ := h_F.rf
  have ge0 := tf_10_8 hI
  refine h_lconst (pc' := 1) (x := (Int64.ofInt 1)) rfl rfl rfl ?_
  refine h_lstore (pc' := 3) (M := [(4, .long (Int64.ofInt 1)), (0, .ref 9), (1, .long x0), (3, .int x1)]) rfl rfl rfl rfl ?_
  refine h_iconst (pc' := 4) (x := (Int32.ofInt 0)) rfl rfl rfl ?_
  refine h_istore (pc' := 6) (M := [(6, .int (Int32.ofInt 0)), (4, .long (Int64.ofInt 1)), (0, .ref 9), (1, .long x0), (3, .int x1)]) rfl rfl rfl rfl ?_
  have gl4 := cl_1
  exact h_wk [(0, .ref 9), (1, .long x0), (3, .int x1), (4, .long (Int64.ofInt 1)), (6, .int (Int32.ofInt 0))] ⟨rfl, rfl, rfl, rfl, rfl, trivial⟩ ((n_part_l ns σ hI x0 x1 a1 hx1 pr0 kk 1000000000000) _ hI F00 x0 (Int64.ofInt 1) (Int32.ofInt 0) _ ci_0 (by omega) rfl (by decide) rfl (by omega) (by omega))
def kf_n_wt : List Nat := []
set_option maxHeartbeats 100000000 in
set_option maxHeartbeats 100000000 in
theorem n_wt_l (ns : Nat) (σ : h_S) (hI : h_I σ) (x0 : Int32) (a0 : Int) (hx0 : x0.toInt = a0) (x1 : Int32) (a1 : Int) (hx1 : x1.toInt = a1) (ra1 : 0 ≤ a1 ∧ a1 ≤ 10) {Q : Option Value → h_S → Prop} (kk : ∀ (r : Int64) (τ : h_S), h_I τ → h_F (k_in kf_n_wt) τ σ → (r.toInt = g_wt x0 a1 (σ 10 8).toNat) → Q (some (.long r)) τ) : ∀ n : Nat, (∀ (s0 : h_S), h_I s0 → h_F (k_in kf_n_wt) s0 σ → ∀ (y3 : Int64), ∀ (y5 : Int32) (b5 : Int), y5.toInt = b5 → (0 ≤ b5 ∧ b5 ≤ 6) → (y3.toInt = g_wt x0 a1 b5.toNat) → (b5 ≤ σ 10 8) → (6 + 1 - b5) * 1000000 + 1000000000 ≤ (n : Int) → h_T g_P (g_Y ns) 132 5 [(0, .ref 9), (1, .int x0), (2, .int x1), (3, .long y3), (5, .int y5)] [] s0 Q) := by
  intro n
  induction n with
  | zero => exact by intro s0 I0 F0_ y3 y5 b5 hy5 ry5 ex0 ex1 hm; have gh0 := F0_ 10 8 rfl; have gh1 := tf_10_8 hI; have gh2 := g_wt_6 (aw := x0) (v := a1) (k := b5) (by omega) (by omega) (by omega); exfalso; omega
  | succ n ih =>
    intro s0 I0 F0_ y3 y5 b5 hy5 ry5 ex0 ex1 hm; have gh0 := F0_ 10 8 rfl; have gh1 := tf_10_8 hI; have gh2 := g_wt_6 (aw := x0) (v := a1) (k := b5) (by omega) (by omega) (by omega)
    refine h_iload (pc' := 7) rfl rfl rfl ?_
    refine h_aload_n (pc' := 8) rfl rfl rfl ?_
    refine h_getR (pc' := 11) rfl rfl rfl rfl rfl ?_
    refine h_getI (pc' := 14) (v := σ 10 8) rfl rfl rfl rfl rfl (F0_ 10 8 rfl) (fun z1 hz1 => ?_)
    have tz1 := tf_10_8 hI
    refine h_cge (tg := 45) (pc' := 17) rfl rfl rfl hy5 hz1 (fun c2 => ?_) (fun c2 => ?_)
    · refine h_lload_n (pc' := 46) rfl rfl rfl ?_
      exact h_lret rfl rfl (kk _ _ I0 F0_ (by rw [show σ 10 8 = b5 by omega]; exact ex0))
    · refine h_lload_n (pc' := 18) rfl rfl rfl ?_
      refine h_iload_n (pc' := 19) rfl rfl rfl ?_
      refine h_iload (pc' := 21) rfl rfl rfl ?_
      refine h_calls (pc' := 24) (M := [(0, .int x0), (1, .int y5)]) rfl rfl rfl rfl rfl rfl ?_
      refine h_iload_n (pc' := 1) rfl rfl rfl ?_
      refine h_iload_n (pc' := 2) rfl rfl rfl ?_
      refine h_ishr (pc' := 3) rfl rfl (fun z3 hz3 => ?_)
      refine h_iconst (pc' := 4) (x := (Int32.ofInt 1)) rfl rfl rfl ?_
      refine h_iand (pc' := 5) rfl rfl (fun z4 hz4 uz4 vz4 => ?_)
      clear uz4
      rw [ci_1] at vz4
      have yz4 := vz4 (by omega)
      refine h_zeq (tg := 12) (pc' := 8) rfl rfl rfl rfl (fun c5 => ?_) (fun c5 => ?_)
      · refine h_iconst (pc' := 13) (x := (Int32.ofInt 0)) rfl rfl rfl ?_
        refine h_zret rfl rfl ci_0 (by omega) (h_Kv ?_)
        refine h_zeq (tg := 32) (pc' := 27) rfl rfl rfl ci_0 (fun c6 => ?_) (fun c6 => absurd c6 (by omega))
        refine h_bipush (pc' := 34) (x := (Int32.ofInt 10)) rfl rfl cb_10 ?_
        refine h_iload_n (pc' := 35) rfl rfl rfl ?_
        refine h_isub (pc' := 36) rfl rfl ci_10 hx1 rfl (by omega) (by omega) (fun z7 hz7 => ?_)
        refine h_i2l (pc' := 37) rfl rfl hz7 (fun z8 hz8 => ?_)
        refine h_lmulA (pc' := 38) rfl rfl (fun z9 hz9 => ?_)
        refine h_lstore_n (pc' := 39) (M := [(3, .long z9), (0, .ref 9), (1, .int x0), (2, .int x1), (5, .int y5)]) rfl rfl rfl rfl ?_
        refine h_iinc (pc' := 42) (M := fun z10 => [(5, .int z10), (3, .long z9), (0, .ref 9), (1, .int x0), (2, .int x1)]) rfl rfl rfl rfl hy5 ci_1 rfl (by omega) (by omega) (fun _ => rfl) (fun z10 hz10 => ?_)
        refine h_goto (pc' := 5) rfl rfl ?_
        exact h_wk [(0, .ref 9), (1, .int x0), (2, .int x1), (3, .long z9), (5, .int z10)] ⟨rfl, rfl, rfl, rfl, rfl, trivial⟩ (ih _ I0 F0_ z9 z10 _ hz10 (by omega) (by have gz := g_hb_of hz4 hz3 hy5; exact g_wt_s ex0 (by omega) (by omega) (g_lm hz9 rfl hz8 (by omega) (by omega))) (by omega) (by omega))
      · refine h_iconst (pc' := 9) (x := (Int32.ofInt 1)) rfl rfl rfl ?_
        refine h_goto (pc' := 13) rfl rfl ?_
        refine h_zret rfl rfl ci_1 (by omega) (h_Kv ?_)
        refine h_zeq (tg := 32) (pc' := 27) rfl rfl rfl ci_1 (fun c11 => absurd c11 (by omega)) (fun c11 => ?_)
        refine h_iload_n (pc' := 28) rfl rfl rfl ?_
        refine h_i2l (pc' := 29) rfl rfl hx1 (fun z12 hz12 => ?_)
        refine h_goto (pc' := 37) rfl rfl ?_
        refine h_lmulA (pc' := 38) rfl rfl (fun z13 hz13 => ?_)
        refine h_lstore_n (pc' := 39) (M := [(3, .long z13), (0, .ref 9), (1, .int x0), (2, .int x1), (5, .int y5)]) rfl rfl rfl rfl ?_
        refine h_iinc (pc' := 42) (M := fun z14 => [(5, .int z14), (3, .long z13), (0, .ref 9), (1, .int x0), (2, .int x1)]) rfl rfl rfl rfl hy5 ci_1 rfl (by omega) (by omega) (fun _ => rfl) (fun z14 hz14 => ?_)
        refine h_goto (pc' := 5) rfl rfl ?_
        exact h_wk [(0, .ref 9), (1, .int x0), (2, .int x1), (3, .long z13), (5, .int z14)] ⟨rfl, rfl, rfl, rfl, rfl, trivial⟩ (ih _ I0 F0_ z13 z14 _ hz14 (by omega) (by have gz := g_hb_of hz4 hz3 hy5; exact g_wt_s ex0 (by omega) (by omega) (g_lm hz13 rfl hz12 (by omega) (by omega))) (by omega) (by omega))
set_option maxHeartbeats 100000000 in
set_option maxHeartbeats 100000000 in
theorem n_wt {ns : Nat} (σ : h_S) (hI : h_I σ) (x0 : Int32) (a0 : Int) (hx0 : x0.toInt = a0) (x1 : Int32) (a1 : Int) (hx1 : x1.toInt = a1) (ra1 : 0 ≤ a1 ∧ a1 ≤ 10) {Q : Option Value → h_S → Prop} (kk : ∀ (r : Int64) (τ : h_S), h_I τ → h_F (k_in kf_n_wt) τ σ → (r.toInt = g_wt x0 a1 (σ 10 8).toNat) → Q (some (.long r)) τ) : h_T g_P (g_Y ns) 132 0 [(0, .ref 9), (1, .int x0), (2, .int x1)] [] σ Q := by
  have F00 : h_F (k_in kf_n_wt) σ σ := h_F.rf
  have ge0 := tf_10_8 hI
  refine h_lconst (pc' := 1) (x := (Int64.ofInt 1)) rfl rfl rfl ?_
  refine h_lstore_n (pc' := 2) (M := [(3, .long (Int64.ofInt 1)), (0, .ref 9), (1, .int x0), (2, .int x1)]) rfl rfl rfl rfl ?_
  refine h_iconst (pc' := 3) (x := (Int32.ofInt 0)) rfl rfl rfl ?_
  refine h_istore (pc' := 5) (M := [(5, .int (Int32.ofInt 0)), (3, .long (Int64.ofInt 1)), (0, .ref 9), (1, .int x0), (2, .int x1)]) rfl rfl rfl rfl ?_
  have gl3 := cl_1
  exact h_wk [(0, .ref 9), (1, .int x0), (2, .int x1), (3, .long (Int64.ofInt 1)), (5, .int (Int32.ofInt 0))] ⟨rfl, rfl, rfl, rfl, rfl, trivial⟩ ((n_wt_l ns σ hI x0 a0 hx0 x1 a1 hx1 ra1 kk 1000000000000) _ hI F00 (Int64.ofInt 1) (Int32.ofInt 0) _ ci_0 (by omega) rfl (by omega) (by omega))
