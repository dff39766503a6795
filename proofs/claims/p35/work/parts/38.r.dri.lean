/-! DRIFT -/
def g_nx (x : Int32) : Int32 := x * (Int32.ofInt 1103515245) + (Int32.ofInt 12345)
def g_dw (x : Int32) (n : Int) : Int := ((x >>> ((Int32.ofInt 16) &&& 31)) &&& (Int32.ofInt 32767)).toInt % n
theorem g_dw_of {x a m z v w : Int32} (h1 : m = x * (Int32.ofInt 1103515245)) (h2 : a = m + (Int32.ofInt 12345)) (hw : w = a) (h3 : v = w >>> ((Int32.ofInt 16) &&& 31)) (h4 : z = v &&& (Int32.ofInt 32767)) : a = g_nx x ∧ ∀ n, z.toInt % n = g_dw (g_nx x) n := by
  subst hw; subst h1; subst h2; subst h3; subst h4
  exact ⟨rfl, fun n => rfl⟩
theorem g_dw_r {x : Int32} {n : Int} (h : 0 < n) : 0 ≤ g_dw x n ∧ g_dw x n < n := ⟨Int.emod_nonneg _ (by omega), Int.emod_lt_of_pos _ h⟩
def g_ds (y : Int → Int → Int → Bool) (np ng : Int) (x : Int32 × (Int → Int) × Int) : Int32 × (Int → Int) × Int := if y (g_dw (g_nx x.1) np) (x.2.1 (g_dw (g_nx (g_nx x.1)) ng)) (g_dw (g_nx (g_nx x.1)) ng) = true then (g_nx (g_nx x.1), g_set x.2.1 (g_dw (g_nx (g_nx x.1)) ng) (g_dw (g_nx x.1) np), x.2.2 + 1) else (g_nx (g_nx x.1), x.2.1, x.2.2)
def g_df (y : Int → Int → Int → Bool) (np ng : Int) (x : Int32 × (Int → Int) × Int) : Nat → Int32 × (Int → Int) × Int
  | 0 => x
  | m + 1 => g_ds y np ng (g_df y np ng x m)
theorem g_df_s {y : Int → Int → Int → Bool} {np ng k : Int} {x : Int32 × (Int → Int) × Int} (k0 : 0 ≤ k) : g_df y np ng x (k + 1).toNat = g_ds y np ng (g_df y np ng x k.toNat) := by
  rw [show (k + 1).toNat = k.toNat + 1 by omega]
  rfl
theorem g_ds_y {y : Int → Int → Int → Bool} {np ng p g n n' : Int} {a b c : Int32} {L L' : Int → Int} {x : Int32 × (Int → Int) × Int} (hx : (a, L, n) = x) (hb : b = g_nx a) (hc : c = g_nx b) (hp : p = g_dw b np) (hg : g = g_dw c ng) (hy : y p (L g) g = true) (hL : L' = g_set L g p) (hn : n' = n + 1) : (c, L', n') = g_ds y np ng x := by
  subst hx; subst hb; subst hc; subst hp; subst hg; subst hL; subst hn
  unfold g_ds
  rw [if_pos hy]
theorem g_ds_n {y : Int → Int → Int → Bool} {np ng p g n n' : Int} {a b c : Int32} {L L' : Int → Int} {x : Int32 × (Int → Int) × Int} (hx : (a, L, n) = x) (hb : b = g_nx a) (hc : c = g_nx b) (hp : p = g_dw b np) (hg : g = g_dw c ng) (hy : y p (L g) g = false) (hL : L' = L) (hn : n' = n) : (c, L', n') = g_ds y np ng x := by
  subst hx; subst hb; subst hc; subst hp; subst hg; subst hL; subst hn
  unfold g_ds
  rw [if_neg (by
    intro z
    have z2 : y (g_dw (g_nx a) np) (L' (g_dw (g_nx (g_nx a)) ng)) (g_dw (g_nx (g_nx a)) ng) = true := z
    rw [hy] at z2
    exact Bool.noConfusion z2)]
def g_de (ng : Int) (x x' : Int32 × (Int → Int) × Int) : Prop := x.1 = x'.1 ∧ (∀ g, 0 ≤ g → g < ng → x.2.1 g = x'.2.1 g) ∧ x.2.2 = x'.2.2
theorem g_df_e {ng n : Int} {y y' : Int → Int → Int → Bool} {x x' : Int32 × (Int → Int) × Int} (n0 : 0 < n) (g0 : 0 < ng) (hx : g_de ng x x') (ho : ∀ g, 0 ≤ g → g < ng → x.2.1 g = -4 ∨ (0 ≤ x.2.1 g ∧ x.2.1 g < n)) (hy : ∀ p l g, 0 ≤ p → p < n → 0 ≤ g → g < ng → (l = -4 ∨ (0 ≤ l ∧ l < n)) → y p l g = y' p l g) : ∀ m : Nat, g_de ng (g_df y n ng x m) (g_df y' n ng x' m) ∧ ∀ g, 0 ≤ g → g < ng → (g_df y n ng x m).2.1 g = -4 ∨ (0 ≤ (g_df y n ng x m).2.1 g ∧ (g_df y n ng x m).2.1 g < n)
  | 0 => ⟨hx, ho⟩
  | m + 1 => by
    obtain ⟨⟨e1, e2, e3⟩, o⟩ := g_df_e n0 g0 hx ho hy m
    show g_de ng (g_ds y n ng (g_df y n ng x m)) (g_ds y' n ng (g_df y' n ng x' m)) ∧ ∀ g, 0 ≤ g → g < ng → (g_ds y n ng (g_df y n ng x m)).2.1 g = -4 ∨ (0 ≤ (g_ds y n ng (g_df y n ng x m)).2.1 g ∧ (g_ds y n ng (g_df y n ng x m)).2.1 g < n)
    generalize g_df y n ng x m = u at *
    generalize g_df y' n ng x' m = v at *
    obtain ⟨a, L, k⟩ := u
    obtain ⟨a', L', k'⟩ := v
    have f1 : a = a' := e1
    have f3 : k = k' := e3
    have f2 : ∀ g, 0 ≤ g → g < ng → L g = L' g := e2
    have fo : ∀ g, 0 ≤ g → g < ng → L g = -4 ∨ (0 ≤ L g ∧ L g < n) := o
    clear e1 e2 e3 o
    subst f1; subst f3
    have rp := g_dw_r (x := g_nx a) n0
    have rg := g_dw_r (x := g_nx (g_nx a)) g0
    have el := f2 _ rg.1 rg.2
    have ey := hy _ _ _ rp.1 rp.2 rg.1 rg.2 (fo _ rg.1 rg.2)
    show g_de ng (if y (g_dw (g_nx a) n) (L (g_dw (g_nx (g_nx a)) ng)) (g_dw (g_nx (g_nx a)) ng) = true then (g_nx (g_nx a), g_set L (g_dw (g_nx (g_nx a)) ng) (g_dw (g_nx a) n), k + 1) else (g_nx (g_nx a), L, k)) (if y' (g_dw (g_nx a) n) (L' (g_dw (g_nx (g_nx a)) ng)) (g_dw (g_nx (g_nx a)) ng) = true then (g_nx (g_nx a), g_set L' (g_dw (g_nx (g_nx a)) ng) (g_dw (g_nx a) n), k + 1) else (g_nx (g_nx a), L', k)) ∧ ∀ g, 0 ≤ g → g < ng → (if y (g_dw (g_nx a) n) (L (g_dw (g_nx (g_nx a)) ng)) (g_dw (g_nx (g_nx a)) ng) = true then (g_nx (g_nx a), g_set L (g_dw (g_nx (g_nx a)) ng) (g_dw (g_nx a) n), k + 1) else (g_nx (g_nx a), L, k)).2.1 g = -4 ∨ (0 ≤ (if y (g_dw (g_nx a) n) (L (g_dw (g_nx (g_nx a)) ng)) (g_dw (g_nx (g_nx a)) ng) = true then (g_nx (g_nx a), g_set L (g_dw (g_nx (g_nx a)) ng) (g_dw (g_nx a) n), k + 1) else (g_nx (g_nx a), L, k)).2.1 g ∧ (if y (g_dw (g_nx a) n) (L (g_dw (g_nx (g_nx a)) ng)) (g_dw (g_nx (g_nx a)) ng) = true then (g_nx (g_nx a), g_set L (g_dw (g_nx (g_nx a)) ng) (g_dw (g_nx a) n), k + 1) else (g_nx (g_nx a), L, k)).2.1 g < n)
    rw [← el, ← ey]
    by_cases c : y (g_dw (g_nx a) n) (L (g_dw (g_nx (g_nx a)) ng)) (g_dw (g_nx (g_nx a)) ng) = true
    · rw [if_pos c, if_pos c]
      refine ⟨⟨rfl, fun g a0 b0 => ?_, rfl⟩, fun g a0 b0 => ?_⟩
      · show g_set _ _ _ g = g_set _ _ _ g
        by_cases z : g = g_dw (g_nx (g_nx a)) ng
        · rw [g_set_p z, g_set_p z]
        · rw [g_set_n z, g_set_n z]
          exact f2 g a0 b0
      · show g_set _ _ _ g = -4 ∨ (0 ≤ g_set _ _ _ g ∧ g_set _ _ _ g < n)
        by_cases z : g = g_dw (g_nx (g_nx a)) ng
        · rw [g_set_p z]
          exact Or.inr rp
        · rw [g_set_n z]
          exact fo g a0 b0
    · rw [if_neg c, if_neg c]
      exact ⟨⟨rfl, f2, rfl⟩, fo⟩
def g_dmI (y : Int → Int → Int → Bool) (np ng : Int) (x0 : Int32) (L0 : Int → Int) (k : Int) (S : Int → Int) (d n : Int) : Prop := (∀ j, 0 ≤ j → j ≤ 2 → g_orn (S (161 + j)) = (g_df y np ng (x0, L0, 0) k.toNat).2.1 j) ∧ Int32.ofInt d = (g_df y np ng (x0, L0, 0) k.toNat).1 ∧ n = (g_df y np ng (x0, L0, 0) k.toNat).2.2
theorem g_dmI_0 {y : Int → Int → Int → Bool} {np ng k d n : Int} {x0 : Int32} {L0 S : Int → Int} (hk : k = 0) (hL : ∀ j, 0 ≤ j → j ≤ 2 → g_orn (S (161 + j)) = L0 j) (hd : Int32.ofInt d = x0) (hn : n = 0) : g_dmI y np ng x0 L0 k S d n := by
  subst hk
  exact ⟨hL, hd, hn⟩
theorem g_dmI_y {y y' : Int → Int → Int → Bool} {np ng k d d' n n' p g w : Int} {x0 a b b' c : Int32} {L0 S S' : Int → Int} (h : g_dmI y np ng x0 L0 k S d n) (hD : y' = y) (k0 : 0 ≤ k) (ha : a.toInt = d) (hb : b = g_nx a) (hb' : b' = b) (hc : c = g_nx b') (hp : p = g_dw b np) (hg : g = g_dw c ng) (p0 : 0 ≤ p) (g2 : 0 ≤ g ∧ g ≤ 2) (hy : y p (g_orn (S (161 + g))) g = true) (hS : S' = g_set (g_set S (161 + g) (p + 1)) (164 + g) w) (hd : d' = c.toInt) (hn : n' = n + 1) : g_dmI y' np ng x0 L0 (k + 1) S' d' n' := by
  subst hD; subst hb'
  obtain ⟨h1, h2, h3⟩ := h
  rw [← ha, Int32.ofInt_toInt] at h2
  rw [h1 g g2.1 g2.2] at hy
  unfold g_dmI
  rw [g_df_s k0]
  generalize g_df y' np ng (x0, L0, 0) k.toNat = X at *
  have z : (c, g_set X.2.1 g p, X.2.2 + 1) = g_ds y' np ng X := g_ds_y (a := a) (L := X.2.1) (n := X.2.2) (by rw [h2]) hb hc hp hg hy rfl rfl
  rw [← z]
  refine ⟨fun j j0 j2 => ?_, ?_, ?_⟩
  · show g_orn (S' (161 + j)) = g_set X.2.1 g p j
    subst hS
    by_cases e : j = g
    · rw [g_set_p e, g_set_n (by omega), g_set_p (by omega)]
      exact (g_orn_of (by omega)).symm
    · rw [g_set_n e, g_set_n (by omega), g_set_n (by omega)]
      exact h1 j j0 j2
  · show Int32.ofInt d' = c
    rw [hd, Int32.ofInt_toInt]
  · show n' = X.2.2 + 1
    rw [hn, h3]
theorem g_dmI_n {y y' : Int → Int → Int → Bool} {np ng k d d' n n' p g : Int} {x0 a b b' c : Int32} {L0 S S' : Int → Int} (h : g_dmI y np ng x0 L0 k S d n) (hD : y' = y) (k0 : 0 ≤ k) (ha : a.toInt = d) (hb : b = g_nx a) (hb' : b' = b) (hc : c = g_nx b') (hp : p = g_dw b np) (hg : g = g_dw c ng) (g2 : 0 ≤ g ∧ g ≤ 2) (hy : y p (g_orn (S (161 + g))) g = false) (hS : S' = S) (hd : d' = c.toInt) (hn : n' = n) : g_dmI y' np ng x0 L0 (k + 1) S' d' n' := by
  subst hD; subst hb'; subst hS
  obtain ⟨h1, h2, h3⟩ := h
  rw [← ha, Int32.ofInt_toInt] at h2
  rw [h1 g g2.1 g2.2] at hy
  unfold g_dmI
  rw [g_df_s k0]
  generalize g_df y' np ng (x0, L0, 0) k.toNat = X at *
  have z : (c, X.2.1, X.2.2) = g_ds y' np ng X := g_ds_n (a := a) (L := X.2.1) (n := X.2.2) (by rw [h2]) hb hc hp hg hy rfl rfl
  rw [← z]
  refine ⟨h1, ?_, ?_⟩
  · show Int32.ofInt d' = c
    rw [hd, Int32.ofInt_toInt]
  · show n' = X.2.2
    rw [hn, h3]
theorem c_R.dri {s : h_S} {F G f L1 : Int → Int} {x0 : Int32} (h : c_R true s) (hI : h_I s) (ht : g_ti s) (hF : g_DX (s 10 8) (s 12) (s 11) (s 13 2) (s 14) (s 15) F) (hG : g_DM (s 98 1) (s 99 18) (s 99) (s 100) G) (hf : g_FX (s 10 8) (s 17) (s 18) (s 16 2) f) (hL : g_cq (s 10 9) (s 20) L1) (n0 : 0 < s 10 8) (g0 : 0 < s 10 9) (m : Nat) : g_de (s 10 9) (g_df (fun p l g => g_yX (s 10 8) F f p l (s 19 g)) (s 10 8) (s 10 9) (x0, L1, 0) m) (g_df (fun p l g => g_yM G (fun i => s 99 (19 + 2 * i)) (fun i => s 99 (19 + 2 * i + 1)) (s 99 25) p l (s 99 (26 + g))) (s 98 1) (s 98 2) (x0, fun g => g_orn (s 99 (29 + g)), 0) m) := by
  have gd := h.deg hI ht hF hG
  have sz := h.sz
  have t8 := tf_10_8 hI
  rw [← sz.1, ← sz.2.1]
  refine (g_df_e (y := fun p l g => g_yX (s 10 8) F f p l (s 19 g)) (y' := fun p l g => g_yM G (fun i => s 99 (19 + 2 * i)) (fun i => s 99 (19 + 2 * i + 1)) (s 99 25) p l (s 99 (26 + g))) (x := (x0, L1, 0)) (x' := (x0, fun g => g_orn (s 99 (29 + g)), 0)) n0 g0 ⟨rfl, fun g a b => ?_, rfl⟩ (fun g a b => ?_) (fun p l g p0 p1 g0 g1 hl => ?_) m).1
  · have lw := (h.lw a b).1
    show L1 g = g_orn (s 99 (29 + g))
    rw [hL g a b]
    exact g_orn_of (by omega)
  · have lw := (h.lw a b).1
    show L1 g = -4 ∨ (0 ≤ L1 g ∧ L1 g < s 10 8)
    rw [hL g a b]
    omega
  · have y := ty_19 hI g
    show g_yX (s 10 8) F f p l (s 19 g) = g_yM G (fun i => s 99 (19 + 2 * i)) (fun i => s 99 (19 + 2 * i + 1)) (s 99 25) p l (s 99 (26 + g))
    rw [← h.rc g0 g1]
    exact g_y_eq gd t8.2 hf sz.2.2.2.2.symm (fun j a b => ⟨(h.fe a b).1, (h.fe a b).2.1⟩) hl p0 p1 (by omega)
def kf_n_driX : List Nat := [80898, 82943, 83967, 83970, 86015, 87039]
set_option maxHeartbeats 100000000 in
set_option maxHeartbeats 100000000 in
theorem n_driX_l (ns : Nat) (σ : h_S) (hI : h_I σ) (x0 : Int32) (a0 : Int) (hx0 : x0.toInt = a0) (x1 : Int32) (a1 : Int) (hx1 : x1.toInt = a1) (x2 : Int32) (a2 : Int) (hx2 : x2.toInt = a2) (pr0 : g_lk' (σ 10 8) (σ 10 9) (σ 20)) {Q : Option Value → h_S → Prop} (kk : ∀ (r : Int32) (b : Int) (hb : r.toInt = b) (τ : h_S), h_I τ → h_F (k_in kf_n_driX) τ σ → ((-4) ≤ b ∧ b ≤ 60) → ((¬ (1 ≤ a1 ∧ a1 ≤ 60 ∧ (a2 = 0 ∨ a2 = 1)) ∧ b = -1) ∨ ((1 ≤ a1 ∧ a1 ≤ 60 ∧ (a2 = 0 ∨ a2 = 1)) ∧ (σ 10 8 ≤ 0 ∨ σ 10 9 ≤ 0) ∧ b = -2) ∨ ((1 ≤ a1 ∧ a1 ≤ 60 ∧ (a2 = 0 ∨ a2 = 1)) ∧ 0 < σ 10 8 ∧ 0 < σ 10 9 ∧ ∃ D f L0, g_DX (σ 10 8) (σ 12) (σ 11) (σ 13 2) (σ 14) (σ 15) D ∧ g_FX (σ 10 8) (σ 17) (σ 18) (σ 16 2) f ∧ g_cq (σ 10 9) (σ 20) L0 ∧ ((a2 = 0 ∧ b = (g_df (fun p l g => g_yX (σ 10 8) D f p l (σ 19 g)) (σ 10 8) (σ 10 9) (x0, L0, 0) a1.toNat).2.2) ∨ (a2 = 1 ∧ b = (g_df (fun p l g => g_yX (σ 10 8) D f p l (σ 19 g)) (σ 10 8) (σ 10 9) (x0, L0, 0) a1.toNat).2.1 0)))) → Q (some (.int r)) τ) : ∀ n : Nat, (∀ (s0 : h_S), h_I s0 → h_F (k_in kf_n_driX) s0 σ → ∀ (y4 : Int32) (b4 : Int), y4.toInt = b4 → ∀ (y5 : Int32) (b5 : Int), y5.toInt = b5 → (0 ≤ b5 ∧ b5 ≤ 61) → ∀ (y6 : Int32) (b6 : Int), y6.toInt = b6 → (0 ≤ b6 ∧ b6 ≤ 60) → (1 ≤ σ 10 8 ∧ 1 ≤ σ 10 9) → (1 ≤ a1 ∧ a1 ≤ 60 ∧ (a2 = 0 ∨ a2 = 1)) → (g_op (σ 10 8) (s0 80) (s0 81) (σ 19) (σ 10 9) 0 (s0 83)) → (g_DX (σ 10 8) (σ 12) (σ 11) (σ 13 2) (σ 14) (σ 15) (s0 80)) → (g_FX (σ 10 8) (σ 17) (σ 18) (σ 16 2) (s0 81)) → (∃ L0, g_cq (σ 10 9) (σ 20) L0 ∧ (y4, s0 84, b5) = g_df (fun p l g => g_yX (σ 10 8) (s0 80) (s0 81) p l (σ 19 g)) (σ 10 8) (σ 10 9) (x0, L0, 0) b6.toNat) → (g_lk' (σ 10 8) (σ 10 9) (s0 84)) → (b6 ≤ a1) → (0 ≤ b5 ∧ b5 ≤ b6) → (60 + 1 - b6) * 1000000 + 1000000000 ≤ (n : Int) → h_T g_P (g_Y ns) 115 71 [(0, .ref 9), (1, .int x0), (2, .int x1), (3, .int x2), (4, .int y4), (5, .int y5), (6, .int y6)] [] s0 Q) := by
  intro n
  induction n with
  | zero => exact by intro s0 I0 F0_ y4 b4 hy4 y5 b5 hy5 ry5 y6 b6 hy6 ry6 ex0 ex1 ex2 ex3 ex4 ex5 ex6 ex7 ex8 hm; have gh0 := F0_ 10 8 rfl; have gh1 := F0_ 10 9 rfl; have gh2 := tf_10_8 hI; have gh3 := tf_10_9 hI; exfalso; omega
  | succ n ih =>
    intro s0 I0 F0_ y4 b4 hy4 y5 b5 hy5 ry5 y6 b6 hy6 ry6 ex0 ex1 ex2 ex3 ex4 ex5 ex6 ex7 ex8 hm; have gh0 := F0_ 10 8 rfl; have gh1 := F0_ 10 9 rfl; have gh2 := tf_10_8 hI; have gh3 := tf_10_9 hI
    refine h_iload (pc' := 73) rfl rfl rfl ?_
    refine h_iload_n (pc' := 74) rfl rfl rfl ?_
    refine h_cge (tg := 144) (pc' := 77) rfl rfl rfl hy6 hx1 (fun c1 => ?_) (fun c1 => ?_)
    · refine h_iload_n (pc' := 145) rfl rfl rfl ?_
      refine h_zne (tg := 153) (pc' := 148) rfl rfl rfl hx2 (fun c2 => ?_) (fun c2 => ?_)
      · refine h_aload_n (pc' := 154) rfl rfl rfl ?_
        refine h_getR (pc' := 157) rfl rfl rfl rfl rfl ?_
        refine h_getR (pc' := 160) rfl rfl rfl rfl rfl ?_
        refine h_iconst (pc' := 161) (x := (Int32.ofInt 0)) rfl rfl rfl ?_
        refine h_iald (pc' := 162) (v := s0 84 0) rfl rfl rfl ci_0 (by omega) (by omega) rfl (fun z3 hz3 => ?_)
        have tz3 := ty_84 I0 0
        exact h_iret rfl rfl (kk _ _ hz3 _ I0 F0_ (by omega) (by obtain ⟨L0, z1, z2⟩ := ex5; rw [show b6 = a1 by omega] at z2; refine Or.inr (Or.inr ⟨by omega, by omega, by omega, s0 80, s0 81, L0, ex3, ex4, z1, ?_⟩); rw [← z2]; first | exact Or.inl ⟨by omega, rfl⟩ | exact Or.inr ⟨by omega, rfl⟩))
      · refine h_iload (pc' := 150) rfl rfl rfl ?_
        refine h_goto (pc' := 162) rfl rfl ?_
        exact h_iret rfl rfl (kk _ _ hy5 _ I0 F0_ (by omega) (by obtain ⟨L0, z1, z2⟩ := ex5; rw [show b6 = a1 by omega] at z2; refine Or.inr (Or.inr ⟨by omega, by omega, by omega, s0 80, s0 81, L0, ex3, ex4, z1, ?_⟩); rw [← z2]; first | exact Or.inl ⟨by omega, rfl⟩ | exact Or.inr ⟨by omega, rfl⟩))
    · refine h_iload (pc' := 79) rfl rfl rfl ?_
      refine h_calls (pc' := 82) (M := [(0, .int y4)]) rfl rfl rfl rfl rfl rfl ?_
      refine h_iload_n (pc' := 1) rfl rfl rfl ?_
      refine h_ldcw (pc' := 4) (x := (Int32.ofInt 1103515245)) rfl rfl rfl ?_
      refine h_imulA (pc' := 5) rfl rfl (fun z4 hz4 => ?_)
      refine h_sipush (pc' := 8) (x := (Int32.ofInt 12345)) rfl rfl cs_12345 ?_
      refine h_iaddA (pc' := 9) rfl rfl (fun z5 hz5 => ?_)
      refine h_iret rfl rfl (h_Kv ?_)
      refine h_istore (pc' := 84) (M := [(4, .int z5), (0, .ref 9), (1, .int x0), (2, .int x1), (3, .int x2), (5, .int y5), (6, .int y6)]) rfl rfl rfl rfl ?_
      refine h_iload (pc' := 86) rfl rfl rfl ?_
      refine h_calls (pc' := 89) (M := [(0, .int z5)]) rfl rfl rfl rfl rfl rfl ?_
      refine h_iload_n (pc' := 1) rfl rfl rfl ?_
      refine h_bipush (pc' := 3) (x := (Int32.ofInt 16)) rfl rfl cb_16 ?_
      refine h_ishr (pc' := 4) rfl rfl (fun z6 hz6 => ?_)
      refine h_sipush (pc' := 7) (x := (Int32.ofInt 32767)) rfl rfl cs_32767 ?_
      refine h_iand (pc' := 8) rfl rfl (fun z7 hz7 uz7 vz7 => ?_)
      clear uz7
      rw [ci_32767] at vz7
      have yz7 := vz7 (by omega)
      refine h_iret rfl rfl (h_Kv ?_)
      refine h_aload_n (pc' := 90) rfl rfl rfl ?_
      refine h_getR (pc' := 93) rfl rfl rfl rfl rfl ?_
      refine h_getI (pc' := 96) (v := σ 10 8) rfl rfl rfl rfl rfl (F0_ 10 8 rfl) (fun z8 hz8 => ?_)
      have tz8 := tf_10_8 hI
      refine h_irem (pc' := 97) rfl rfl rfl hz8 (by omega) (by omega) (fun z9 hz9 => ?_)
      have g10 := h_remb (b := (σ 10 8)) (a := z7.toInt) (by omega)
      generalize qz9 : z7.toInt % (σ 10 8) = nz9 at hz9 g10
      refine h_istore (pc' := 99) (M := [(7, .int z9), (4, .int z5), (0, .ref 9), (1, .int x0), (2, .int x1), (3, .int x2), (5, .int y5), (6, .int y6)]) rfl rfl rfl rfl ?_
      refine h_iload (pc' := 101) rfl rfl rfl ?_
      refine h_calls (pc' := 104) (M := [(0, .int z5)]) rfl rfl rfl rfl rfl rfl ?_
      refine h_iload_n (pc' := 1) rfl rfl rfl ?_
      refine h_ldcw (pc' := 4) (x := (Int32.ofInt 1103515245)) rfl rfl rfl ?_
      refine h_imulA (pc' := 5) rfl rfl (fun z11 hz11 => ?_)
      refine h_sipush (pc' := 8) (x := (Int32.ofInt 12345)) rfl rfl cs_12345 ?_
      refine h_iaddA (pc' := 9) rfl rfl (fun z12 hz12 => ?_)
      refine h_iret rfl rfl (h_Kv ?_)
      refine h_istore (pc' := 106) (M := [(4, .int z12), (7, .int z9), (0, .ref 9), (1, .int x0), (2, .int x1), (3, .int x2), (5, .int y5), (6, .int y6)]) rfl rfl rfl rfl ?_
      refine h_iload (pc' := 108) rfl rfl rfl ?_
      refine h_calls (pc' := 111) (M := [(0, .int z12)]) rfl rfl rfl rfl rfl rfl ?_
      refine h_iload_n (pc' := 1) rfl rfl rfl ?_
      refine h_bipush (pc' := 3) (x := (Int32.ofInt 16)) rfl rfl cb_16 ?_
      refine h_ishr (pc' := 4) rfl rfl (fun z13 hz13 => ?_)
      refine h_sipush (pc' := 7) (x := (Int32.ofInt 32767)) rfl rfl cs_32767 ?_
      refine h_iand (pc' := 8) rfl rfl (fun z14 hz14 uz14 vz14 => ?_)
      clear uz14
      rw [ci_32767] at vz14
      have yz14 := vz14 (by omega)
      refine h_iret rfl rfl (h_Kv ?_)
      refine h_aload_n (pc' := 112) rfl rfl rfl ?_
      refine h_getR (pc' := 115) rfl rfl rfl rfl rfl ?_
      refine h_getI (pc' := 118) (v := σ 10 9) rfl rfl rfl rfl rfl (F0_ 10 9 rfl) (fun z15 hz15 => ?_)
      have tz15 := tf_10_9 hI
      refine h_irem (pc' := 119) rfl rfl rfl hz15 (by omega) (by omega) (fun z16 hz16 => ?_)
      have g17 := h_remb (b := (σ 10 9)) (a := z14.toInt) (by omega)
      generalize qz16 : z14.toInt % (σ 10 9) = nz16 at hz16 g17
      refine h_istore (pc' := 121) (M := [(8, .int z16), (4, .int z12), (7, .int z9), (0, .ref 9), (1, .int x0), (2, .int x1), (3, .int x2), (5, .int y5), (6, .int y6)]) rfl rfl rfl rfl ?_
      refine h_aload_n (pc' := 122) rfl rfl rfl ?_
      refine h_getR (pc' := 125) rfl rfl rfl rfl rfl ?_
      refine h_iload (pc' := 127) rfl rfl rfl ?_
      refine h_iload (pc' := 129) rfl rfl rfl ?_
      refine h_call (sp := false) (pc' := 132) (M := [(0, .ref 82), (1, .int z9), (2, .int z16)]) rfl rfl rfl rfl rfl rfl rfl rfl ?_
      refine n_admit_10 _ I0 z9 _ hz9 (by omega) z16 _ hz16 (by omega) (g_op_t ex2 (F0_ 10 8 rfl).symm rfl rfl (funext (fun j => (F0_ 19 j rfl).symm)) (F0_ 10 9 rfl).symm rfl) (by omega) (by omega) (by have gl := ex6 (nz16) (by omega) (by omega); omega) (fun r18 br18 hr18 s19 Is19 Gs19 tr18 ps19_0 => h_Kv ?_)
      have Fs19 := (Gs19.mono (B := kf_n_driX) rfl).tr F0_
      have es19_0 : s19 98 13 = s0 98 13 := (Gs19 98 13 rfl).trans rfl
      refine h_zeq (tg := 138) (pc' := 135) rfl rfl rfl hr18 (fun c20 => ?_) (fun c20 => ?_)
      · refine h_iinc (pc' := 141) (M := fun z21 => [(6, .int z21), (8, .int z16), (4, .int z12), (7, .int z9), (0, .ref 9), (1, .int x0), (2, .int x1), (3, .int x2), (5, .int y5)]) rfl rfl rfl rfl hy6 ci_1 rfl (by omega) (by omega) (fun _ => rfl) (fun z21 hz21 => ?_)
        refine h_goto (pc' := 71) rfl rfl ?_
        exact h_wk [(0, .ref 9), (1, .int x0), (2, .int x1), (3, .int x2), (4, .int z12), (5, .int y5), (6, .int z21)] ⟨rfl, rfl, rfl, rfl, rfl, rfl, rfl, trivial⟩ (ih _ Is19 Fs19 z12 _ rfl y5 _ hy5 (by omega) z21 _ hz21 (by omega) (by omega) (by omega) (g_op_t ex2 rfl (funext (fun j => Gs19 80 j rfl)).symm (funext (fun j => Gs19 81 j rfl)).symm rfl rfl (funext (fun j => Gs19 83 j rfl)).symm) (g_DX_f ex3 (funext (fun j => Gs19 80 j rfl))) (g_FX_t ex4 rfl rfl rfl rfl (funext (fun j => Gs19 81 j rfl))) (by have d0 := g_dw_of hz4 hz5 rfl hz6 hz7; have d1 := g_dw_of hz11 hz12 rfl hz13 hz14; have q0 := ps19_0; rw [show s0 10 8 = σ 10 8 from F0_ 10 8 rfl, show s0 19 = σ 19 from funext (fun j => F0_ 19 j rfl)] at q0; rw [show s19 80 = s0 80 from (funext (fun j => Gs19 80 j rfl)), show s19 81 = s0 81 from (funext (fun j => Gs19 81 j rfl))]; obtain ⟨L0, z1, z2⟩ := ex5; refine ⟨L0, z1, ?_⟩; rw [g_df_s (by omega)]; rcases q0 with q | q; (first | exact g_ds_y (p := nz9) (g := nz16) z2 d0.1 d1.1 (by rw [d0.1, ← d0.2]; exact qz9.symm) (by rw [d1.1, ← d1.2]; exact qz16.symm) q.2.1 q.2.2.1 (by omega) | (exfalso; omega)); (first | exact g_ds_n (p := nz9) (g := nz16) z2 d0.1 d1.1 (by rw [d0.1, ← d0.2]; exact qz9.symm) (by rw [d1.1, ← d1.2]; exact qz16.symm) q.2.1 q.2.2.1 rfl | (exfalso; omega))) (by have d0 := g_dw_of hz4 hz5 rfl hz6 hz7; have d1 := g_dw_of hz11 hz12 rfl hz13 hz14; exact g_lk'_s ex6 (b := True) (c := True) (p := nz9) (g := nz16) (by omega) (by rcases ps19_0 with q | q; exact Or.inl ⟨trivial, q.2.2.1⟩; exact Or.inr ⟨trivial, q.2.2.1⟩)) (by omega) (by omega) (by omega))
      · refine h_iinc (pc' := 138) (M := fun z22 => [(5, .int z22), (8, .int z16), (4, .int z12), (7, .int z9), (0, .ref 9), (1, .int x0), (2, .int x1), (3, .int x2), (6, .int y6)]) rfl rfl rfl rfl hy5 ci_1 rfl (by omega) (by omega) (fun _ => rfl) (fun z22 hz22 => ?_)
        refine h_iinc (pc' := 141) (M := fun z23 => [(6, .int z23), (5, .int z22), (8, .int z16), (4, .int z12), (7, .int z9), (0, .ref 9), (1, .int x0), (2, .int x1), (3, .int x2)]) rfl rfl rfl rfl hy6 ci_1 rfl (by omega) (by omega) (fun _ => rfl) (fun z23 hz23 => ?_)
        refine h_goto (pc' := 71) rfl rfl ?_
        exact h_wk [(0, .ref 9), (1, .int x0), (2, .int x1), (3, .int x2), (4, .int z12), (5, .int z22), (6, .int z23)] ⟨rfl, rfl, rfl, rfl, rfl, rfl, rfl, trivial⟩ (ih _ Is19 Fs19 z12 _ rfl z22 _ hz22 (by omega) z23 _ hz23 (by omega) (by omega) (by omega) (g_op_t ex2 rfl (funext (fun j => Gs19 80 j rfl)).symm (funext (fun j => Gs19 81 j rfl)).symm rfl rfl (funext (fun j => Gs19 83 j rfl)).symm) (g_DX_f ex3 (funext (fun j => Gs19 80 j rfl))) (g_FX_t ex4 rfl rfl rfl rfl (funext (fun j => Gs19 81 j rfl))) (by have d0 := g_dw_of hz4 hz5 rfl hz6 hz7; have d1 := g_dw_of hz11 hz12 rfl hz13 hz14; have q0 := ps19_0; rw [show s0 10 8 = σ 10 8 from F0_ 10 8 rfl, show s0 19 = σ 19 from funext (fun j => F0_ 19 j rfl)] at q0; rw [show s19 80 = s0 80 from (funext (fun j => Gs19 80 j rfl)), show s19 81 = s0 81 from (funext (fun j => Gs19 81 j rfl))]; obtain ⟨L0, z1, z2⟩ := ex5; refine ⟨L0, z1, ?_⟩; rw [g_df_s (by omega)]; rcases q0 with q | q; (first | exact g_ds_y (p := nz9) (g := nz16) z2 d0.1 d1.1 (by rw [d0.1, ← d0.2]; exact qz9.symm) (by rw [d1.1, ← d1.2]; exact qz16.symm) q.2.1 q.2.2.1 (by omega) | (exfalso; omega)); (first | exact g_ds_n (p := nz9) (g := nz16) z2 d0.1 d1.1 (by rw [d0.1, ← d0.2]; exact qz9.symm) (by rw [d1.1, ← d1.2]; exact qz16.symm) q.2.1 q.2.2.1 rfl | (exfalso; omega))) (by have d0 := g_dw_of hz4 hz5 rfl hz6 hz7; have d1 := g_dw_of hz11 hz12 rfl hz13 hz14; exact g_lk'_s ex6 (b := True) (c := True) (p := nz9) (g := nz16) (by omega) (by rcases ps19_0 with q | q; exact Or.inl ⟨trivial, q.2.2.1⟩; exact Or.inr ⟨trivial, q.2.2.1⟩)) (by omega) (by omega) (by omega))
set_option maxHeartbeats 100000000 in
set_option maxHeartbeats 100000000 in
theorem n_driX {ns : Nat} (σ : h_S) (hI : h_I σ) (x0 : Int32) (a0 : Int) (hx0 : x0.toInt = a0) (x1 : Int32) (a1 : Int) (hx1 : x1.toInt = a1) (x2 : Int32) (a2 : Int) (hx2 : x2.toInt = a2) (pr0 : g_lk' (σ 10 8) (σ 10 9) (σ 20)) {Q : Option Value → h_S → Prop} (kk : ∀ (r : Int32) (b : Int) (hb : r.toInt = b) (τ : h_S), h_I τ → h_F (k_in kf_n_driX) τ σ → ((-4) ≤ b ∧ b ≤ 60) → ((¬ (1 ≤ a1 ∧ a1 ≤ 60 ∧ (a2 = 0 ∨ a2 = 1)) ∧ b = -1) ∨ ((1 ≤ a1 ∧ a1 ≤ 60 ∧ (a2 = 0 ∨ a2 = 1)) ∧ (σ 10 8 ≤ 0 ∨ σ 10 9 ≤ 0) ∧ b = -2) ∨ ((1 ≤ a1 ∧ a1 ≤ 60 ∧ (a2 = 0 ∨ a2 = 1)) ∧ 0 < σ 10 8 ∧ 0 < σ 10 9 ∧ ∃ D f L0, g_DX (σ 10 8) (σ 12) (σ 11) (σ 13 2) (σ 14) (σ 15) D ∧ g_FX (σ 10 8) (σ 17) (σ 18) (σ 16 2) f ∧ g_cq (σ 10 9) (σ 20) L0 ∧ ((a2 = 0 ∧ b = (g_df (fun p l g => g_yX (σ 10 8) D f p l (σ 19 g)) (σ 10 8) (σ 10 9) (x0, L0, 0) a1.toNat).2.2) ∨ (a2 = 1 ∧ b = (g_df (fun p l g => g_yX (σ 10 8) D f p l (σ 19 g)) (σ 10 8) (σ 10 9) (x0, L0, 0) a1.toNat).2.1 0)))) → Q (some (.int r)) τ) : h_T g_P (g_Y ns) 115 0 [(0, .ref 9), (1, .int x0), (2, .int x1), (3, .int x2)] [] σ Q := by
  have F00 : h_F (k_in kf_n_driX) σ σ := h_F.rf
  refine h_iload_n (pc' := 1) rfl rfl rfl ?_
  refine h_iconst (pc' := 2) (x := (Int32.ofInt 1)) rfl rfl rfl ?_
  refine h_clt (tg := 18) (pc' := 5) rfl rfl rfl hx1 ci_1 (fun c1 => ?_) (fun c1 => ?_)
  · refine h_iconst (pc' := 19) (x := (Int32.ofInt (-1))) rfl rfl rfl ?_
    exact h_iret rfl rfl (kk _ _ ci_m1 _ hI F00 (by omega) (by first | exact Or.inl ⟨by omega, rfl⟩ | exact Or.inr (Or.inl ⟨by omega, by omega, rfl⟩)))
  · refine h_iload_n (pc' := 6) rfl rfl rfl ?_
    refine h_bipush (pc' := 8) (x := (Int32.ofInt 60)) rfl rfl cb_60 ?_
    refine h_cgt (tg := 18) (pc' := 11) rfl rfl rfl hx1 ci_60 (fun c2 => ?_) (fun c2 => ?_)
    · refine h_iconst (pc' := 19) (x := (Int32.ofInt (-1))) rfl rfl rfl ?_
      exact h_iret rfl rfl (kk _ _ ci_m1 _ hI F00 (by omega) (by first | exact Or.inl ⟨by omega, rfl⟩ | exact Or.inr (Or.inl ⟨by omega, by omega, rfl⟩)))
    · refine h_iload_n (pc' := 12) rfl rfl rfl ?_
      refine h_calls (pc' := 15) (M := [(0, .int x2)]) rfl rfl rfl rfl rfl rfl ?_
      refine h_iload_n (pc' := 1) rfl rfl rfl ?_
      refine h_zeq (tg := 9) (pc' := 4) rfl rfl rfl hx2 (fun c3 => ?_) (fun c3 => ?_)
      · refine h_iconst (pc' := 10) (x := (Int32.ofInt 1)) rfl rfl rfl ?_
        refine h_goto (pc' := 14) rfl rfl ?_
        refine h_zret rfl rfl ci_1 (by omega) (h_Kv ?_)
        refine h_zne (tg := 20) (pc' := 18) rfl rfl rfl ci_1 (fun c4 => ?_) (fun c4 => absurd c4 (by omega))
        refine h_aload_n (pc' := 21) rfl rfl rfl ?_
        refine h_getR (pc' := 24) rfl rfl rfl rfl rfl ?_
        refine h_getI (pc' := 27) (v := σ 10 8) rfl rfl rfl rfl rfl rfl (fun z5 hz5 => ?_)
        have tz5 := tf_10_8 hI
        refine h_zle (tg := 40) (pc' := 30) rfl rfl rfl hz5 (fun c6 => ?_) (fun c6 => ?_)
        · refine h_bipush (pc' := 42) (x := (Int32.ofInt (-2))) rfl rfl cb_m2 ?_
          exact h_iret rfl rfl (kk _ _ ci_m2 _ hI F00 (by omega) (by first | exact Or.inl ⟨by omega, rfl⟩ | exact Or.inr (Or.inl ⟨by omega, by omega, rfl⟩)))
        · refine h_aload_n (pc' := 31) rfl rfl rfl ?_
          refine h_getR (pc' := 34) rfl rfl rfl rfl rfl ?_
          refine h_getI (pc' := 37) (v := σ 10 9) rfl rfl rfl rfl rfl rfl (fun z7 hz7 => ?_)
          have tz7 := tf_10_9 hI
          refine h_zgt (tg := 43) (pc' := 40) rfl rfl rfl hz7 (fun c8 => ?_) (fun c8 => ?_)
          · refine h_aload_n (pc' := 44) rfl rfl rfl ?_
            refine h_aload_n (pc' := 45) rfl rfl rfl ?_
            refine h_getR (pc' := 48) rfl rfl rfl rfl rfl ?_
            refine h_call (sp := false) (pc' := 51) (M := [(0, .ref 9), (1, .ref 10)]) rfl rfl rfl rfl rfl rfl rfl rfl ?_
            refine h_aload_n (pc' := 1) rfl rfl rfl ?_
            refine h_getR (pc' := 4) rfl rfl rfl rfl rfl ?_
            refine h_aload_n (pc' := 5) rfl rfl rfl ?_
            refine h_call (sp := false) (pc' := 8) (M := [(0, .ref 79), (1, .ref 10)]) rfl rfl rfl rfl rfl rfl rfl rfl ?_
            refine n_measure_10 _ hI  (fun s10 Is10 Gs10 ps10_0 ps10_1 ps10_2 => h_Kn ?_)
            have Fs10 := (Gs10.mono (B := kf_n_driX) rfl).tr F00
            have es10_0 : s10 98 13 = σ 98 13 := (Gs10 98 13 rfl).trans rfl
            refine h_aload_n (pc' := 9) rfl rfl rfl ?_
            refine h_getR (pc' := 12) rfl rfl rfl rfl rfl ?_
            refine h_aload_n (pc' := 13) rfl rfl rfl ?_
            refine h_aload_n (pc' := 14) rfl rfl rfl ?_
            refine h_getR (pc' := 17) rfl rfl rfl rfl rfl ?_
            refine h_call (sp := false) (pc' := 20) (M := [(0, .ref 82), (1, .ref 10), (2, .ref 79)]) rfl rfl rfl rfl rfl rfl rfl rfl ?_
            refine n_open_10 _ Is10  (fun s12 Is12 Gs12 ps12_0 => h_Kn ?_)
            have Fs12 := (Gs12.mono (B := kf_n_driX) rfl).tr Fs10
            have es12_0 : s12 98 13 = σ 98 13 := (Gs12 98 13 rfl).trans es10_0
            refine h_vret rfl rfl (h_Kn ?_)
            refine h_aload_n (pc' := 52) rfl rfl rfl ?_
            refine h_getR (pc' := 55) rfl rfl rfl rfl rfl ?_
            refine h_aload_n (pc' := 56) rfl rfl rfl ?_
            refine h_getR (pc' := 59) rfl rfl rfl rfl rfl ?_
            refine h_call (sp := false) (pc' := 62) (M := [(0, .ref 82), (1, .ref 10)]) rfl rfl rfl rfl rfl rfl rfl rfl ?_
            refine n_restart_10 _ Is12  (fun s14 Is14 Gs14 ps14_0 ps14_1 => h_Kn ?_)
            have Fs14 := (Gs14.mono (B := kf_n_driX) rfl).tr Fs12
            have es14_0 : s14 98 13 = σ 98 13 := (Gs14 98 13 rfl).trans es12_0
            refine h_iload_n (pc' := 63) rfl rfl rfl ?_
            refine h_istore (pc' := 65) (M := [(4, .int x0), (0, .ref 9), (1, .int x0), (2, .int x1), (3, .int x2)]) rfl rfl rfl rfl ?_
            refine h_iconst (pc' := 66) (x := (Int32.ofInt 0)) rfl rfl rfl ?_
            refine h_istore (pc' := 68) (M := [(5, .int (Int32.ofInt 0)), (4, .int x0), (0, .ref 9), (1, .int x0), (2, .int x1), (3, .int x2)]) rfl rfl rfl rfl ?_
            refine h_iconst (pc' := 69) (x := (Int32.ofInt 0)) rfl rfl rfl ?_
            refine h_istore (pc' := 71) (M := [(6, .int (Int32.ofInt 0)), (5, .int (Int32.ofInt 0)), (4, .int x0), (0, .ref 9), (1, .int x0), (2, .int x1), (3, .int x2)]) rfl rfl rfl rfl ?_
            exact h_wk [(0, .ref 9), (1, .int x0), (2, .int x1), (3, .int x2), (4, .int x0), (5, .int (Int32.ofInt 0)), (6, .int (Int32.ofInt 0))] ⟨rfl, rfl, rfl, rfl, rfl, rfl, rfl, trivial⟩ ((n_driX_l ns σ hI x0 a0 hx0 x1 a1 hx1 x2 a2 hx2 pr0 kk 1000000000000) _ Is14 Fs14 x0 _ hx0 (Int32.ofInt 0) _ ci_0 (by omega) (Int32.ofInt 0) _ ci_0 (by omega) (by omega) (by omega) (g_op_t ps12_0 (ps10_1.trans rfl) ((funext (fun j => Gs14 80 j rfl)).trans (funext (fun j => Gs12 80 j rfl))).symm ((funext (fun j => Gs14 81 j rfl)).trans (funext (fun j => Gs12 81 j rfl))).symm (funext (fun j => Gs10 19 j rfl)) (Gs10 10 9 rfl) (funext (fun j => Gs14 83 j rfl)).symm) (g_DX_f (g_DX_t ps10_0 rfl rfl rfl rfl rfl rfl) ((funext (fun j => Gs14 80 j rfl)).trans (funext (fun j => Gs12 80 j rfl)))) (g_FX_t ps10_2 rfl rfl rfl rfl ((funext (fun j => Gs14 81 j rfl)).trans (funext (fun j => Gs12 81 j rfl)))) ⟨s14 84, (show g_cq (σ 10 9) (σ 20) (s14 84) by have q := ps14_1; rw [show s12 10 9 = σ 10 9 from ((Gs12 10 9 rfl).trans (Gs10 10 9 rfl)), show s12 20 = σ 20 from ((funext (fun j => Gs12 20 j rfl)).trans (funext (fun j => Gs10 20 j rfl)))] at q; exact q), rfl⟩ (fun g a b => by rw [(show g_cq (σ 10 9) (σ 20) (s14 84) by have q := ps14_1; rw [show s12 10 9 = σ 10 9 from ((Gs12 10 9 rfl).trans (Gs10 10 9 rfl)), show s12 20 = σ 20 from ((funext (fun j => Gs12 20 j rfl)).trans (funext (fun j => Gs10 20 j rfl)))] at q; exact q) g a b]; exact pr0 g a b) (by omega) (by omega) (by omega))
          · refine h_bipush (pc' := 42) (x := (Int32.ofInt (-2))) rfl rfl cb_m2 ?_
            exact h_iret rfl rfl (kk _ _ ci_m2 _ hI F00 (by omega) (by first | exact Or.inl ⟨by omega, rfl⟩ | exact Or.inr (Or.inl ⟨by omega, by omega, rfl⟩)))
      · refine h_iload_n (pc' := 5) rfl rfl rfl ?_
        refine h_iconst (pc' := 6) (x := (Int32.ofInt 1)) rfl rfl rfl ?_
        refine h_cne (tg := 13) (pc' := 9) rfl rfl rfl hx2 ci_1 (fun c15 => ?_) (fun c15 => ?_)
        · refine h_iconst (pc' := 14) (x := (Int32.ofInt 0)) rfl rfl rfl ?_
          refine h_zret rfl rfl ci_0 (by omega) (h_Kv ?_)
          refine h_zne (tg := 20) (pc' := 18) rfl rfl rfl ci_0 (fun c16 => absurd c16 (by omega)) (fun c16 => ?_)
          refine h_iconst (pc' := 19) (x := (Int32.ofInt (-1))) rfl rfl rfl ?_
          exact h_iret rfl rfl (kk _ _ ci_m1 _ hI F00 (by omega) (by first | exact Or.inl ⟨by omega, rfl⟩ | exact Or.inr (Or.inl ⟨by omega, by omega, rfl⟩)))
        · refine h_iconst (pc' := 10) (x := (Int32.ofInt 1)) rfl rfl rfl ?_
          refine h_goto (pc' := 14) rfl rfl ?_
          refine h_zret rfl rfl ci_1 (by omega) (h_Kv ?_)
          refine h_zne (tg := 20) (pc' := 18) rfl rfl rfl ci_1 (fun c17 => ?_) (fun c17 => absurd c17 (by omega))
          refine h_aload_n (pc' := 21) rfl rfl rfl ?_
          refine h_getR (pc' := 24) rfl rfl rfl rfl rfl ?_
          refine h_getI (pc' := 27) (v := σ 10 8) rfl rfl rfl rfl rfl rfl (fun z18 hz18 => ?_)
          have tz18 := tf_10_8 hI
          refine h_zle (tg := 40) (pc' := 30) rfl rfl rfl hz18 (fun c19 => ?_) (fun c19 => ?_)
          · refine h_bipush (pc' := 42) (x := (Int32.ofInt (-2))) rfl rfl cb_m2 ?_
            exact h_iret rfl rfl (kk _ _ ci_m2 _ hI F00 (by omega) (by first | exact Or.inl ⟨by omega, rfl⟩ | exact Or.inr (Or.inl ⟨by omega, by omega, rfl⟩)))
          · refine h_aload_n (pc' := 31) rfl rfl rfl ?_
            refine h_getR (pc' := 34) rfl rfl rfl rfl rfl ?_
            refine h_getI (pc' := 37) (v := σ 10 9) rfl rfl rfl rfl rfl rfl (fun z20 hz20 => ?_)
            have tz20 := tf_10_9 hI
            refine h_zgt (tg := 43) (pc' := 40) rfl rfl rfl hz20 (fun c21 => ?_) (fun c21 => ?_)
            · refine h_aload_n (pc' := 44) rfl rfl rfl ?_
              refine h_aload_n (pc' := 45) rfl rfl rfl ?_
              refine h_getR (pc' := 48) rfl rfl rfl rfl rfl ?_
              refine h_call (sp := false) (pc' := 51) (M := [(0, .ref 9), (1, .ref 10)]) rfl rfl rfl rfl rfl rfl rfl rfl ?_
              refine h_aload_n (pc' := 1) rfl rfl rfl ?_
              refine h_getR (pc' := 4) rfl rfl rfl rfl rfl ?_
              refine h_aload_n (pc' := 5) rfl rfl rfl ?_
              refine h_call (sp := false) (pc' := 8) (M := [(0, .ref 79), (1, .ref 10)]) rfl rfl rfl rfl rfl rfl rfl rfl ?_
              refine n_measure_10 _ hI  (fun s23 Is23 Gs23 ps23_0 ps23_1 ps23_2 => h_Kn ?_)
              have Fs23 := (Gs23.mono (B := kf_n_driX) rfl).tr F00
              have es23_0 : s23 98 13 = σ 98 13 := (Gs23 98 13 rfl).trans rfl
              refine h_aload_n (pc' := 9) rfl rfl rfl ?_
              refine h_getR (pc' := 12) rfl rfl rfl rfl rfl ?_
              refine h_aload_n (pc' := 13) rfl rfl rfl ?_
              refine h_aload_n (pc' := 14) rfl rfl rfl ?_
              refine h_getR (pc' := 17) rfl rfl rfl rfl rfl ?_
              refine h_call (sp := false) (pc' := 20) (M := [(0, .ref 82), (1, .ref 10), (2, .ref 79)]) rfl rfl rfl rfl rfl rfl rfl rfl ?_
              refine n_open_10 _ Is23  (fun s25 Is25 Gs25 ps25_0 => h_Kn ?_)
              have Fs25 := (Gs25.mono (B := kf_n_driX) rfl).tr Fs23
              have es25_0 : s25 98 13 = σ 98 13 := (Gs25 98 13 rfl).trans es23_0
              refine h_vret rfl rfl (h_Kn ?_)
              refine h_aload_n (pc' := 52) rfl rfl rfl ?_
              refine h_getR (pc' := 55) rfl rfl rfl rfl rfl ?_
              refine h_aload_n (pc' := 56) rfl rfl rfl ?_
              refine h_getR (pc' := 59) rfl rfl rfl rfl rfl ?_
              refine h_call (sp := false) (pc' := 62) (M := [(0, .ref 82), (1, .ref 10)]) rfl rfl rfl rfl rfl rfl rfl rfl ?_
              refine n_restart_10 _ Is25  (fun s27 Is27 Gs27 ps27_0 ps27_1 => h_Kn ?_)
              have Fs27 := (Gs27.mono (B := kf_n_driX) rfl).tr Fs25
              have es27_0 : s27 98 13 = σ 98 13 := (Gs27 98 13 rfl).trans es25_0
              refine h_iload_n (pc' := 63) rfl rfl rfl ?_
              refine h_istore (pc' := 65) (M := [(4, .int x0), (0, .ref 9), (1, .int x0), (2, .int x1), (3, .int x2)]) rfl rfl rfl rfl ?_
              refine h_iconst (pc' := 66) (x := (Int32.ofInt 0)) rfl rfl rfl ?_
              refine h_istore (pc' := 68) (M := [(5, .int (Int32.ofInt 0)), (4, .int x0), (0, .ref 9), (1, .int x0), (2, .int x1), (3, .int x2)]) rfl rfl rfl rfl ?_
              refine h_iconst (pc' := 69) (x := (Int32.ofInt 0)) rfl rfl rfl ?_
              refine h_istore (pc' := 71) (M := [(6, .int (Int32.ofInt 0)), (5, .int (Int32.ofInt 0)), (4, .int x0), (0, .ref 9), (1, .int x0), (2, .int x1), (3, .int x2)]) rfl rfl rfl rfl ?_
              exact h_wk [(0, .ref 9), (1, .int x0), (2, .int x1), (3, .int x2), (4, .int x0), (5, .int (Int32.ofInt 0)), (6, .int (Int32.ofInt 0))] ⟨rfl, rfl, rfl, rfl, rfl, rfl, rfl, trivial⟩ ((n_driX_l ns σ hI x0 a0 hx0 x1 a1 hx1 x2 a2 hx2 pr0 kk 1000000000000) _ Is27 Fs27 x0 _ hx0 (Int32.ofInt 0) _ ci_0 (by omega) (Int32.ofInt 0) _ ci_0 (by omega) (by omega) (by omega) (g_op_t ps25_0 (ps23_1.trans rfl) ((funext (fun j => Gs27 80 j rfl)).trans (funext (fun j => Gs25 80 j rfl))).symm ((funext (fun j => Gs27 81 j rfl)).trans (funext (fun j => Gs25 81 j rfl))).symm (funext (fun j => Gs23 19 j rfl)) (Gs23 10 9 rfl) (funext (fun j => Gs27 83 j rfl)).symm) (g_DX_f (g_DX_t ps23_0 rfl rfl rfl rfl rfl rfl) ((funext (fun j => Gs27 80 j rfl)).trans (funext (fun j => Gs25 80 j rfl)))) (g_FX_t ps23_2 rfl rfl rfl rfl ((funext (fun j => Gs27 81 j rfl)).trans (funext (fun j => Gs25 81 j rfl)))) ⟨s27 84, (show g_cq (σ 10 9) (σ 20) (s27 84) by have q := ps27_1; rw [show s25 10 9 = σ 10 9 from ((Gs25 10 9 rfl).trans (Gs23 10 9 rfl)), show s25 20 = σ 20 from ((funext (fun j => Gs25 20 j rfl)).trans (funext (fun j => Gs23 20 j rfl)))] at q; exact q), rfl⟩ (fun g a b => by rw [(show g_cq (σ 10 9) (σ 20) (s27 84) by have q := ps27_1; rw [show s25 10 9 = σ 10 9 from ((Gs25 10 9 rfl).trans (Gs23 10 9 rfl)), show s25 20 = σ 20 from ((funext (fun j => Gs25 20 j rfl)).trans (funext (fun j => Gs23 20 j rfl)))] at q; exact q) g a b]; exact pr0 g a b) (by omega) (by omega) (by omega))
            · refine h_bipush (pc' := 42) (x := (Int32.ofInt (-2))) rfl rfl cb_m2 ?_
              exact h_iret rfl rfl (kk _ _ ci_m2 _ hI F00 (by omega) (by first | exact Or.inl ⟨by omega, rfl⟩ | exact Or.inr (Or.inl ⟨by omega, by omega, rfl⟩)))
def kf_n_driM : List Nat := [100383, 101891, 108543]
set_option maxHeartbeats 100000000 in
set_option maxHeartbeats 100000000 in
theorem n_driM_l (ns : Nat) (σ : h_S) (hI : h_I σ) (x0 : Int32) (a0 : Int) (hx0 : x0.toInt = a0) (x1 : Int32) (a1 : Int) (hx1 : x1.toInt = a1) (x2 : Int32) (a2 : Int) (hx2 : x2.toInt = a2) {Q : Option Value → h_S → Prop} (kk : ∀ (r : Int32) (b : Int) (hb : r.toInt = b) (τ : h_S), h_I τ → h_F (k_in kf_n_driM) τ σ → ((-4) ≤ b ∧ b ≤ 60) → ((¬ (1 ≤ a1 ∧ a1 ≤ 60 ∧ (a2 = 0 ∨ a2 = 1)) ∧ b = -1) ∨ ((1 ≤ a1 ∧ a1 ≤ 60 ∧ (a2 = 0 ∨ a2 = 1)) ∧ (σ 98 1 = 0 ∨ σ 98 2 = 0) ∧ b = -2) ∨ ((1 ≤ a1 ∧ a1 ≤ 60 ∧ (a2 = 0 ∨ a2 = 1)) ∧ 0 < σ 98 1 ∧ 0 < σ 98 2 ∧ ∃ G, g_DM (σ 98 1) (σ 99 18) (σ 99) (σ 100) G ∧ ((a2 = 0 ∧ b = (g_df (fun p l g => g_yM G (fun i => σ 99 (19 + 2 * i)) (fun i => σ 99 (19 + 2 * i + 1)) (σ 99 25) p l (σ 99 (26 + g))) (σ 98 1) (σ 98 2) (x0, fun g => g_orn (σ 99 (29 + g)), 0) a1.toNat).2.2) ∨ (a2 = 1 ∧ b = (g_df (fun p l g => g_yM G (fun i => σ 99 (19 + 2 * i)) (fun i => σ 99 (19 + 2 * i + 1)) (σ 99 25) p l (σ 99 (26 + g))) (σ 98 1) (σ 98 2) (x0, fun g => g_orn (σ 99 (29 + g)), 0) a1.toNat).2.1 0)))) → Q (some (.int r)) τ) : ∀ n : Nat, (∀ (s0 : h_S), h_I s0 → h_F (k_in kf_n_driM) s0 σ → ∀ (y4 : Int32) (b4 : Int), y4.toInt = b4 → (0 ≤ b4 ∧ b4 ≤ 61) → ∀ (y5 : Int32) (b5 : Int), y5.toInt = b5 → (0 ≤ b5 ∧ b5 ≤ 60) → (1 ≤ σ 98 1 ∧ 1 ≤ σ 98 2) → (1 ≤ a1 ∧ a1 ≤ 60 ∧ (a2 = 0 ∨ a2 = 1)) → (g_DM (σ 98 1) (σ 99 18) (σ 99) (σ 100) (s0 105)) → (∀ g, 0 ≤ g → g ≤ 2 → s0 99 (158 + g) = σ 99 (26 + g)) → (g_dmI (fun p l g => g_yM (s0 105) (fun i => σ 99 (19 + 2 * i)) (fun i => σ 99 (19 + 2 * i + 1)) (σ 99 25) p l (σ 99 (26 + g))) (σ 98 1) (σ 98 2) x0 (fun g => g_orn (σ 99 (29 + g))) b5 (s0 99) (s0 98 31) b4) → (b5 ≤ a1) → (0 ≤ b4 ∧ b4 ≤ b5) → (60 + 1 - b5) * 1000000 + 1000000000 ≤ (n : Int) → h_T g_P (g_Y ns) 217 65 [(0, .ref 98), (1, .int x0), (2, .int x1), (3, .int x2), (4, .int y4), (5, .int y5)] [] s0 Q) := by
  intro n
  induction n with
  | zero => exact by intro s0 I0 F0_ y4 b4 hy4 ry4 y5 b5 hy5 ry5 ex0 ex1 ex2 ex3 ex4 ex5 ex6 hm; have gh0 := F0_ 98 1 rfl; have gh1 := F0_ 98 2 rfl; have gh2 := tf_98_1 hI; have gh3 := tf_98_2 hI; have gh4 := ty_99_5 hI 25 (by omega); exfalso; omega
  | succ n ih =>
    intro s0 I0 F0_ y4 b4 hy4 ry4 y5 b5 hy5 ry5 ex0 ex1 ex2 ex3 ex4 ex5 ex6 hm; have gh0 := F0_ 98 1 rfl; have gh1 := F0_ 98 2 rfl; have gh2 := tf_98_1 hI; have gh3 := tf_98_2 hI; have gh4 := ty_99_5 hI 25 (by omega)
    refine h_iload (pc' := 67) rfl rfl rfl ?_
    refine h_iload_n (pc' := 68) rfl rfl rfl ?_
    refine h_cge (tg := 117) (pc' := 71) rfl rfl rfl hy5 hx1 (fun c1 => ?_) (fun c1 => ?_)
    · refine h_iload_n (pc' := 118) rfl rfl rfl ?_
      refine h_zne (tg := 126) (pc' := 121) rfl rfl rfl hx2 (fun c2 => ?_) (fun c2 => ?_)
      · refine h_aload_n (pc' := 127) rfl rfl rfl ?_
        refine h_getR (pc' := 130) rfl rfl rfl rfl rfl ?_
        refine h_sipush (pc' := 133) (x := (Int32.ofInt 161)) rfl rfl cs_161 ?_
        refine h_iald (pc' := 134) (v := s0 99 161) rfl rfl rfl ci_161 (by omega) (by omega) rfl (fun z3 hz3 => ?_)
        have tz3 := ty_99_7 I0 161 (by omega)
        refine h_calls (pc' := 137) (M := [(0, .int z3)]) rfl rfl rfl rfl rfl rfl ?_
        refine h_iload_n (pc' := 1) rfl rfl rfl ?_
        refine h_zne (tg := 9) (pc' := 4) rfl rfl rfl hz3 (fun c4 => ?_) (fun c4 => ?_)
        · refine h_iload_n (pc' := 10) rfl rfl rfl ?_
          refine h_iconst (pc' := 11) (x := (Int32.ofInt 1)) rfl rfl rfl ?_
          refine h_isub (pc' := 12) rfl rfl hz3 ci_1 rfl (by omega) (by omega) (fun z5 hz5 => ?_)
          refine h_iret rfl rfl (h_Kv ?_)
          exact h_iret rfl rfl (kk _ _ hz5 _ I0 F0_ (by omega) (by have z := ex4; rw [show b5 = a1 by omega] at z; have z0 := z.1 0 (by omega) (by omega); rw [Int.add_zero] at z0; refine Or.inr (Or.inr ⟨by omega, by omega, by omega, s0 105, ex2, ?_⟩); first | exact Or.inl ⟨by omega, z.2.2⟩ | exact Or.inr ⟨by omega, (g_orn_of (by omega)).trans z0⟩))
        · refine h_bipush (pc' := 6) (x := (Int32.ofInt (-4))) rfl rfl cb_m4 ?_
          refine h_goto (pc' := 12) rfl rfl ?_
          refine h_iret rfl rfl (h_Kv ?_)
          exact h_iret rfl rfl (kk _ _ ci_m4 _ I0 F0_ (by omega) (by have z := ex4; rw [show b5 = a1 by omega] at z; have z0 := z.1 0 (by omega) (by omega); rw [Int.add_zero] at z0; refine Or.inr (Or.inr ⟨by omega, by omega, by omega, s0 105, ex2, ?_⟩); first | exact Or.inl ⟨by omega, z.2.2⟩ | exact Or.inr ⟨by omega, (g_orn_of (by omega)).trans z0⟩))
      · refine h_iload (pc' := 123) rfl rfl rfl ?_
        refine h_goto (pc' := 137) rfl rfl ?_
        exact h_iret rfl rfl (kk _ _ hy4 _ I0 F0_ (by omega) (by have z := ex4; rw [show b5 = a1 by omega] at z; have z0 := z.1 0 (by omega) (by omega); rw [Int.add_zero] at z0; refine Or.inr (Or.inr ⟨by omega, by omega, by omega, s0 105, ex2, ?_⟩); first | exact Or.inl ⟨by omega, z.2.2⟩ | exact Or.inr ⟨by omega, (g_orn_of (by omega)).trans z0⟩))
    · refine h_aload_n (pc' := 72) rfl rfl rfl ?_
      refine h_aload_n (pc' := 73) rfl rfl rfl ?_
      refine h_getI (pc' := 76) (v := σ 98 1) rfl rfl rfl rfl rfl (F0_ 98 1 rfl) (fun z6 hz6 => ?_)
      have tz6 := tf_98_1 hI
      refine h_call (sp := false) (pc' := 79) (M := [(0, .ref 98), (1, .int z6)]) rfl rfl rfl rfl rfl rfl rfl rfl ?_
      refine h_aload_n (pc' := 1) rfl rfl rfl ?_
      refine h_aload_n (pc' := 2) rfl rfl rfl ?_
      refine h_getI (pc' := 5) (v := s0 98 31) rfl rfl rfl rfl rfl rfl (fun z7 hz7 => ?_)
      have tz7 := tf_98_31 I0
      refine h_ldcw (pc' := 8) (x := (Int32.ofInt 1103515245)) rfl rfl rfl ?_
      refine h_imulA (pc' := 9) rfl rfl (fun z8 hz8 => ?_)
      refine h_sipush (pc' := 12) (x := (Int32.ofInt 12345)) rfl rfl cs_12345 ?_
      refine h_iaddA (pc' := 13) rfl rfl (fun z9 hz9 => ?_)
      refine h_put (pc' := 16) rfl rfl rfl rfl rfl rfl rfl rfl (h_fgt (E := fun s => s 98 13 = s0 98 13 ∧ s = h_up s0 98 31 z9.toInt) _ (if_98_31 I0 (h_rgv rfl)) (F0_.up rfl) ⟨rfl, rfl⟩ (fun s10 Is10 Fs10 (es10 : s10 98 13 = s0 98 13 ∧ s10 = h_up s0 98 31 z9.toInt) => ?_))
      have us10 := es10.2
      refine h_aload_n (pc' := 17) rfl rfl rfl ?_
      refine h_getI (pc' := 20) (v := s10 98 31) rfl rfl rfl rfl rfl rfl (fun z11 hz11 => ?_)
      have tz11 := tf_98_31 Is10
      refine h_bipush (pc' := 22) (x := (Int32.ofInt 16)) rfl rfl cb_16 ?_
      refine h_ishr (pc' := 23) rfl rfl (fun z12 hz12 => ?_)
      refine h_sipush (pc' := 26) (x := (Int32.ofInt 32767)) rfl rfl cs_32767 ?_
      refine h_iand (pc' := 27) rfl rfl (fun z13 hz13 uz13 vz13 => ?_)
      clear uz13
      rw [ci_32767] at vz13
      have yz13 := vz13 (by omega)
      refine h_iload_n (pc' := 28) rfl rfl rfl ?_
      refine h_irem (pc' := 29) rfl rfl rfl hz6 (by omega) (by omega) (fun z14 hz14 => ?_)
      have g15 := h_remb (b := (σ 98 1)) (a := z13.toInt) (by omega)
      generalize qz14 : z13.toInt % (σ 98 1) = nz14 at hz14 g15
      refine h_iret rfl rfl (h_Kv ?_)
      refine h_istore (pc' := 81) (M := [(6, .int z14), (0, .ref 98), (1, .int x0), (2, .int x1), (3, .int x2), (4, .int y4), (5, .int y5)]) rfl rfl rfl rfl ?_
      refine h_iload (pc' := 83) rfl rfl rfl ?_
      refine h_aload_n (pc' := 84) rfl rfl rfl ?_
      refine h_sipush (pc' := 87) (x := (Int32.ofInt 132)) rfl rfl cs_132 ?_
      refine h_iload (pc' := 89) rfl rfl rfl ?_
      refine h_aload_n (pc' := 90) rfl rfl rfl ?_
      refine h_aload_n (pc' := 91) rfl rfl rfl ?_
      refine h_getI (pc' := 94) (v := σ 98 2) rfl rfl rfl rfl rfl (Fs10 98 2 rfl) (fun z16 hz16 => ?_)
      have tz16 := tf_98_2 hI
      refine h_call (sp := false) (pc' := 97) (M := [(0, .ref 98), (1, .int z16)]) rfl rfl rfl rfl rfl rfl rfl rfl ?_
      refine h_aload_n (pc' := 1) rfl rfl rfl ?_
      refine h_aload_n (pc' := 2) rfl rfl rfl ?_
      refine h_getI (pc' := 5) (v := s10 98 31) rfl rfl rfl rfl rfl rfl (fun z17 hz17 => ?_)
      have tz17 := tf_98_31 Is10
      refine h_ldcw (pc' := 8) (x := (Int32.ofInt 1103515245)) rfl rfl rfl ?_
      refine h_imulA (pc' := 9) rfl rfl (fun z18 hz18 => ?_)
      refine h_sipush (pc' := 12) (x := (Int32.ofInt 12345)) rfl rfl cs_12345 ?_
      refine h_iaddA (pc' := 13) rfl rfl (fun z19 hz19 => ?_)
      refine h_put (pc' := 16) rfl rfl rfl rfl rfl rfl rfl rfl (h_fgt (E := fun s => s 98 13 = s0 98 13 ∧ s = h_up s10 98 31 z19.toInt) _ (if_98_31 Is10 (h_rgv rfl)) (Fs10.up rfl) ⟨es10.1, rfl⟩ (fun s20 Is20 Fs20 (es20 : s20 98 13 = s0 98 13 ∧ s20 = h_up s10 98 31 z19.toInt) => ?_))
      clear es10
      have us20 := es20.2
      refine h_aload_n (pc' := 17) rfl rfl rfl ?_
      refine h_getI (pc' := 20) (v := s20 98 31) rfl rfl rfl rfl rfl rfl (fun z21 hz21 => ?_)
      have tz21 := tf_98_31 Is20
      refine h_bipush (pc' := 22) (x := (Int32.ofInt 16)) rfl rfl cb_16 ?_
      refine h_ishr (pc' := 23) rfl rfl (fun z22 hz22 => ?_)
      refine h_sipush (pc' := 26) (x := (Int32.ofInt 32767)) rfl rfl cs_32767 ?_
      refine h_iand (pc' := 27) rfl rfl (fun z23 hz23 uz23 vz23 => ?_)
      clear uz23
      rw [ci_32767] at vz23
      have yz23 := vz23 (by omega)
      refine h_iload_n (pc' := 28) rfl rfl rfl ?_
      refine h_irem (pc' := 29) rfl rfl rfl hz16 (by omega) (by omega) (fun z24 hz24 => ?_)
      have g25 := h_remb (b := (σ 98 2)) (a := z23.toInt) (by omega)
      generalize qz24 : z23.toInt % (σ 98 2) = nz24 at hz24 g25
      refine h_iret rfl rfl (h_Kv ?_)
      refine h_call (sp := false) (pc' := 100) (M := [(0, .ref 98), (1, .int (Int32.ofInt 132)), (2, .int z14), (3, .int z24)]) rfl rfl rfl rfl rfl rfl rfl rfl ?_
      refine n_goesOn132 _ Is20  z14 _ hz14 (by omega) z24 _ hz24 (by omega) (fun r26 br26 hr26 s27 Is27 Gs27 tr26 ps27_0 => h_Kv ?_)
      have Fs27 := (Gs27.mono (B := kf_n_driM) rfl).tr Fs20
      have es27_0 : s27 98 13 = s0 98 13 := (Gs27 98 13 rfl).trans es20.1
      refine h_zeq (tg := 107) (pc' := 103) rfl rfl rfl hr26 (fun c28 => ?_) (fun c28 => ?_)
      · refine h_iconst (pc' := 108) (x := (Int32.ofInt 0)) rfl rfl rfl ?_
        refine h_iadd (pc' := 109) rfl rfl hy4 ci_0 rfl (by omega) (by omega) (fun z29 hz29 => ?_)
        refine h_istore (pc' := 111) (M := [(4, .int z29), (6, .int z14), (0, .ref 98), (1, .int x0), (2, .int x1), (3, .int x2), (5, .int y5)]) rfl rfl rfl rfl ?_
        refine h_iinc (pc' := 114) (M := fun z30 => [(5, .int z30), (4, .int z29), (6, .int z14), (0, .ref 98), (1, .int x0), (2, .int x1), (3, .int x2)]) rfl rfl rfl rfl hy5 ci_1 rfl (by omega) (by omega) (fun _ => rfl) (fun z30 hz30 => ?_)
        refine h_goto (pc' := 65) rfl rfl ?_
        exact h_wk [(0, .ref 98), (1, .int x0), (2, .int x1), (3, .int x2), (4, .int z29), (5, .int z30)] ⟨rfl, rfl, rfl, rfl, rfl, rfl, trivial⟩ (ih _ Is27 Fs27 z29 _ hz29 (by omega) z30 _ hz30 (by omega) (by omega) (by omega) (g_DM_e ex2 ((funext (fun j => Gs27 105 j rfl)).trans ((h_upg us20 rfl).trans (h_upg us10 rfl)))) (by rcases ps27_0 with q | q; (intro g a b; rw [show s27 99 (158 + g) = s27 99 (158 + g) from congrFun rfl _, q.2.2, g_set_n (by omega), g_set_n (by omega), show s20 99 (158 + g) = s0 99 (158 + g) from congrFun ((h_upg us20 rfl).trans (h_upg us10 rfl)) _]; exact ex3 g a b); (intro g a b; rw [show s27 99 (158 + g) = s27 99 (158 + g) from congrFun rfl _, q.2.2, show s20 99 (158 + g) = s0 99 (158 + g) from congrFun ((h_upg us20 rfl).trans (h_upg us10 rfl)) _]; exact ex3 g a b)) (by have d0 := g_dw_of hz8 hz9 (h_ieq.mpr (hz11.trans (h_upv us10))) hz12 hz13; have d1 := g_dw_of hz18 hz19 (h_ieq.mpr (hz21.trans (h_upv us20))) hz22 hz23; rcases ps27_0 with q | q; (first | exact g_dmI_y (p := nz14) (g := nz24) ex4 (g_pmD ((funext (fun j => Gs27 105 j rfl)).trans ((h_upg us20 rfl).trans (h_upg us10 rfl)))) (by omega) hz7 d0.1 (h_ieq.mpr (hz17.trans (h_upv us10))) d1.1 (by rw [d0.1, ← d0.2]; exact qz14.symm) (by rw [d1.1, ← d1.2]; exact qz24.symm) (by omega) (by omega) (by have y0 := q.2.1; rw [show s20 99 (161 + nz24) = s0 99 (161 + nz24) from congrFun ((h_upg us20 rfl).trans (h_upg us10 rfl)) _, (g_yM_m (D := s20 105) (((congrFun ((h_upg us20 rfl).trans (h_upg us10 rfl)) (25))).trans (F0_.no (q := 99) (l := 0) (u := 131) (j := 25) rfl (by omega) (by omega))) (by omega) (fun i i0 i2 => ⟨(((congrFun ((h_upg us20 rfl).trans (h_upg us10 rfl)) (19 + 2 * i))).trans (F0_.no (q := 99) (l := 0) (u := 131) (j := 19 + 2 * i) rfl (by omega) (by omega))), (((congrFun ((h_upg us20 rfl).trans (h_upg us10 rfl)) (19 + 2 * i + 1))).trans (F0_.no (q := 99) (l := 0) (u := 131) (j := 19 + 2 * i + 1) rfl (by omega) (by omega)))⟩) ((congrFun ((h_upg us20 rfl).trans (h_upg us10 rfl)) _).trans (ex3 (nz24) (by omega) (by omega)))), show s20 105 = s0 105 from ((h_upg us20 rfl).trans (h_upg us10 rfl))] at y0; exact y0) (rfl.trans (q.2.2.trans (g_set_c (g_set_c ((h_upg us20 rfl).trans (h_upg us10 rfl)))))) ((Gs27 98 31 rfl).trans (h_upv us20)) (by omega) | (exfalso; omega)); (first | exact g_dmI_n (p := nz14) (g := nz24) ex4 (g_pmD ((funext (fun j => Gs27 105 j rfl)).trans ((h_upg us20 rfl).trans (h_upg us10 rfl)))) (by omega) hz7 d0.1 (h_ieq.mpr (hz17.trans (h_upv us10))) d1.1 (by rw [d0.1, ← d0.2]; exact qz14.symm) (by rw [d1.1, ← d1.2]; exact qz24.symm) (by omega) (by have y0 := q.2.1; rw [show s20 99 (161 + nz24) = s0 99 (161 + nz24) from congrFun ((h_upg us20 rfl).trans (h_upg us10 rfl)) _, (g_yM_m (D := s20 105) (((congrFun ((h_upg us20 rfl).trans (h_upg us10 rfl)) (25))).trans (F0_.no (q := 99) (l := 0) (u := 131) (j := 25) rfl (by omega) (by omega))) (by omega) (fun i i0 i2 => ⟨(((congrFun ((h_upg us20 rfl).trans (h_upg us10 rfl)) (19 + 2 * i))).trans (F0_.no (q := 99) (l := 0) (u := 131) (j := 19 + 2 * i) rfl (by omega) (by omega))), (((congrFun ((h_upg us20 rfl).trans (h_upg us10 rfl)) (19 + 2 * i + 1))).trans (F0_.no (q := 99) (l := 0) (u := 131) (j := 19 + 2 * i + 1) rfl (by omega) (by omega)))⟩) ((congrFun ((h_upg us20 rfl).trans (h_upg us10 rfl)) _).trans (ex3 (nz24) (by omega) (by omega)))), show s20 105 = s0 105 from ((h_upg us20 rfl).trans (h_upg us10 rfl))] at y0; exact y0) (rfl.trans (q.2.2.trans ((h_upg us20 rfl).trans (h_upg us10 rfl)))) ((Gs27 98 31 rfl).trans (h_upv us20)) (by omega) | (exfalso; omega))) (by omega) (by omega) (by omega))
      · refine h_iconst (pc' := 104) (x := (Int32.ofInt 1)) rfl rfl rfl ?_
        refine h_goto (pc' := 108) rfl rfl ?_
        refine h_iadd (pc' := 109) rfl rfl hy4 ci_1 rfl (by omega) (by omega) (fun z31 hz31 => ?_)
        refine h_istore (pc' := 111) (M := [(4, .int z31), (6, .int z14), (0, .ref 98), (1, .int x0), (2, .int x1), (3, .int x2), (5, .int y5)]) rfl rfl rfl rfl ?_
        refine h_iinc (pc' := 114) (M := fun z32 => [(5, .int z32), (4, .int z31), (6, .int z14), (0, .ref 98), (1, .int x0), (2, .int x1), (3, .int x2)]) rfl rfl rfl rfl hy5 ci_1 rfl (by omega) (by omega) (fun _ => rfl) (fun z32 hz32 => ?_)
        refine h_goto (pc' := 65) rfl rfl ?_
        exact h_wk [(0, .ref 98), (1, .int x0), (2, .int x1), (3, .int x2), (4, .int z31), (5, .int z32)] ⟨rfl, rfl, rfl, rfl, rfl, rfl, trivial⟩ (ih _ Is27 Fs27 z31 _ hz31 (by omega) z32 _ hz32 (by omega) (by omega) (by omega) (g_DM_e ex2 ((funext (fun j => Gs27 105 j rfl)).trans ((h_upg us20 rfl).trans (h_upg us10 rfl)))) (by rcases ps27_0 with q | q; (intro g a b; rw [show s27 99 (158 + g) = s27 99 (158 + g) from congrFun rfl _, q.2.2, g_set_n (by omega), g_set_n (by omega), show s20 99 (158 + g) = s0 99 (158 + g) from congrFun ((h_upg us20 rfl).trans (h_upg us10 rfl)) _]; exact ex3 g a b); (intro g a b; rw [show s27 99 (158 + g) = s27 99 (158 + g) from congrFun rfl _, q.2.2, show s20 99 (158 + g) = s0 99 (158 + g) from congrFun ((h_upg us20 rfl).trans (h_upg us10 rfl)) _]; exact ex3 g a b)) (by have d0 := g_dw_of hz8 hz9 (h_ieq.mpr (hz11.trans (h_upv us10))) hz12 hz13; have d1 := g_dw_of hz18 hz19 (h_ieq.mpr (hz21.trans (h_upv us20))) hz22 hz23; rcases ps27_0 with q | q; (first | exact g_dmI_y (p := nz14) (g := nz24) ex4 (g_pmD ((funext (fun j => Gs27 105 j rfl)).trans ((h_upg us20 rfl).trans (h_upg us10 rfl)))) (by omega) hz7 d0.1 (h_ieq.mpr (hz17.trans (h_upv us10))) d1.1 (by rw [d0.1, ← d0.2]; exact qz14.symm) (by rw [d1.1, ← d1.2]; exact qz24.symm) (by omega) (by omega) (by have y0 := q.2.1; rw [show s20 99 (161 + nz24) = s0 99 (161 + nz24) from congrFun ((h_upg us20 rfl).trans (h_upg us10 rfl)) _, (g_yM_m (D := s20 105) (((congrFun ((h_upg us20 rfl).trans (h_upg us10 rfl)) (25))).trans (F0_.no (q := 99) (l := 0) (u := 131) (j := 25) rfl (by omega) (by omega))) (by omega) (fun i i0 i2 => ⟨(((congrFun ((h_upg us20 rfl).trans (h_upg us10 rfl)) (19 + 2 * i))).trans (F0_.no (q := 99) (l := 0) (u := 131) (j := 19 + 2 * i) rfl (by omega) (by omega))), (((congrFun ((h_upg us20 rfl).trans (h_upg us10 rfl)) (19 + 2 * i + 1))).trans (F0_.no (q := 99) (l := 0) (u := 131) (j := 19 + 2 * i + 1) rfl (by omega) (by omega)))⟩) ((congrFun ((h_upg us20 rfl).trans (h_upg us10 rfl)) _).trans (ex3 (nz24) (by omega) (by omega)))), show s20 105 = s0 105 from ((h_upg us20 rfl).trans (h_upg us10 rfl))] at y0; exact y0) (rfl.trans (q.2.2.trans (g_set_c (g_set_c ((h_upg us20 rfl).trans (h_upg us10 rfl)))))) ((Gs27 98 31 rfl).trans (h_upv us20)) (by omega) | (exfalso; omega)); (first | exact g_dmI_n (p := nz14) (g := nz24) ex4 (g_pmD ((funext (fun j => Gs27 105 j rfl)).trans ((h_upg us20 rfl).trans (h_upg us10 rfl)))) (by omega) hz7 d0.1 (h_ieq.mpr (hz17.trans (h_upv us10))) d1.1 (by rw [d0.1, ← d0.2]; exact qz14.symm) (by rw [d1.1, ← d1.2]; exact qz24.symm) (by omega) (by have y0 := q.2.1; rw [show s20 99 (161 + nz24) = s0 99 (161 + nz24) from congrFun ((h_upg us20 rfl).trans (h_upg us10 rfl)) _, (g_yM_m (D := s20 105) (((congrFun ((h_upg us20 rfl).trans (h_upg us10 rfl)) (25))).trans (F0_.no (q := 99) (l := 0) (u := 131) (j := 25) rfl (by omega) (by omega))) (by omega) (fun i i0 i2 => ⟨(((congrFun ((h_upg us20 rfl).trans (h_upg us10 rfl)) (19 + 2 * i))).trans (F0_.no (q := 99) (l := 0) (u := 131) (j := 19 + 2 * i) rfl (by omega) (by omega))), (((congrFun ((h_upg us20 rfl).trans (h_upg us10 rfl)) (19 + 2 * i + 1))).trans (F0_.no (q := 99) (l := 0) (u := 131) (j := 19 + 2 * i + 1) rfl (by omega) (by omega)))⟩) ((congrFun ((h_upg us20 rfl).trans (h_upg us10 rfl)) _).trans (ex3 (nz24) (by omega) (by omega)))), show s20 105 = s0 105 from ((h_upg us20 rfl).trans (h_upg us10 rfl))] at y0; exact y0) (rfl.trans (q.2.2.trans ((h_upg us20 rfl).trans (h_upg us10 rfl)))) ((Gs27 98 31 rfl).trans (h_upv us20)) (by omega) | (exfalso; omega))) (by omega) (by omega) (by omega))
set_option maxHeartbeats 100000000 in
set_option maxHeartbeats 100000000 in
theorem n_driM {ns : Nat} (σ : h_S) (hI : h_I σ) (x0 : Int32) (a0 : Int) (hx0 : x0.toInt = a0) (x1 : Int32) (a1 : Int) (hx1 : x1.toInt = a1) (x2 : Int32) (a2 : Int) (hx2 : x2.toInt = a2) {Q : Option Value → h_S → Prop} (kk : ∀ (r : Int32) (b : Int) (hb : r.toInt = b) (τ : h_S), h_I τ → h_F (k_in kf_n_driM) τ σ → ((-4) ≤ b ∧ b ≤ 60) → ((¬ (1 ≤ a1 ∧ a1 ≤ 60 ∧ (a2 = 0 ∨ a2 = 1)) ∧ b = -1) ∨ ((1 ≤ a1 ∧ a1 ≤ 60 ∧ (a2 = 0 ∨ a2 = 1)) ∧ (σ 98 1 = 0 ∨ σ 98 2 = 0) ∧ b = -2) ∨ ((1 ≤ a1 ∧ a1 ≤ 60 ∧ (a2 = 0 ∨ a2 = 1)) ∧ 0 < σ 98 1 ∧ 0 < σ 98 2 ∧ ∃ G, g_DM (σ 98 1) (σ 99 18) (σ 99) (σ 100) G ∧ ((a2 = 0 ∧ b = (g_df (fun p l g => g_yM G (fun i => σ 99 (19 + 2 * i)) (fun i => σ 99 (19 + 2 * i + 1)) (σ 99 25) p l (σ 99 (26 + g))) (σ 98 1) (σ 98 2) (x0, fun g => g_orn (σ 99 (29 + g)), 0) a1.toNat).2.2) ∨ (a2 = 1 ∧ b = (g_df (fun p l g => g_yM G (fun i => σ 99 (19 + 2 * i)) (fun i => σ 99 (19 + 2 * i + 1)) (σ 99 25) p l (σ 99 (26 + g))) (σ 98 1) (σ 98 2) (x0, fun g => g_orn (σ 99 (29 + g)), 0) a1.toNat).2.1 0)))) → Q (some (.int r)) τ) : h_T g_P (g_Y ns) 217 0 [(0, .ref 98), (1, .int x0), (2, .int x1), (3, .int x2)] [] σ Q := by
  have F00 : h_F (k_in kf_n_driM) σ σ := h_F.rf
  refine h_iload_n (pc' := 1) rfl rfl rfl ?_
  refine h_i2l (pc' := 2) rfl rfl hx1 (fun z1 hz1 => ?_)
  refine h_lconst (pc' := 3) (x := (Int64.ofInt 1)) rfl rfl rfl ?_
  refine h_ldc2 (pc' := 6) (x := (Int64.ofInt 60)) rfl rfl rfl ?_
  refine h_calls (pc' := 9) (M := [(0, .long z1), (2, .long (Int64.ofInt 1)), (4, .long (Int64.ofInt 60))]) rfl rfl rfl rfl rfl rfl ?_
  refine h_lload_n (pc' := 1) rfl rfl rfl ?_
  refine h_lload_n (pc' := 2) rfl rfl rfl ?_
  refine h_lcmp (pc' := 3) rfl rfl hz1 cl_1 (fun z2 hz2 => ?_)
  refine h_zlt (tg := 17) (pc' := 6) rfl rfl rfl rfl (fun c3 => ?_) (fun c3 => ?_)
  · replace c3 := (h_lcr hz2).1 c3
    clear hz2
    refine h_iconst (pc' := 18) (x := (Int32.ofInt 0)) rfl rfl rfl ?_
    refine h_zret rfl rfl ci_0 (by omega) (h_Kv ?_)
    refine h_zeq (tg := 22) (pc' := 12) rfl rfl rfl ci_0 (fun c4 => ?_) (fun c4 => absurd c4 (by omega))
    refine h_iconst (pc' := 23) (x := (Int32.ofInt (-1))) rfl rfl rfl ?_
    exact h_iret rfl rfl (kk _ _ ci_m1 _ hI F00 (by omega) (by first | exact Or.inl ⟨by omega, rfl⟩ | exact Or.inr (Or.inl ⟨by omega, by omega, rfl⟩)))
  · replace c3 := (h_lcr hz2).2.1 c3
    clear hz2
    refine h_lload_n (pc' := 7) rfl rfl rfl ?_
    refine h_lload (pc' := 9) rfl rfl rfl ?_
    refine h_lcmp (pc' := 10) rfl rfl hz1 cl_60 (fun z5 hz5 => ?_)
    refine h_zgt (tg := 17) (pc' := 13) rfl rfl rfl rfl (fun c6 => ?_) (fun c6 => ?_)
    · replace c6 := (h_lcr hz5).2.2.2.1 c6
      clear hz5
      refine h_iconst (pc' := 18) (x := (Int32.ofInt 0)) rfl rfl rfl ?_
      refine h_zret rfl rfl ci_0 (by omega) (h_Kv ?_)
      refine h_zeq (tg := 22) (pc' := 12) rfl rfl rfl ci_0 (fun c7 => ?_) (fun c7 => absurd c7 (by omega))
      refine h_iconst (pc' := 23) (x := (Int32.ofInt (-1))) rfl rfl rfl ?_
      exact h_iret rfl rfl (kk _ _ ci_m1 _ hI F00 (by omega) (by first | exact Or.inl ⟨by omega, rfl⟩ | exact Or.inr (Or.inl ⟨by omega, by omega, rfl⟩)))
    · replace c6 := (h_lcr hz5).2.2.1 c6
      clear hz5
      refine h_iconst (pc' := 14) (x := (Int32.ofInt 1)) rfl rfl rfl ?_
      refine h_goto (pc' := 18) rfl rfl ?_
      refine h_zret rfl rfl ci_1 (by omega) (h_Kv ?_)
      refine h_zeq (tg := 22) (pc' := 12) rfl rfl rfl ci_1 (fun c8 => absurd c8 (by omega)) (fun c8 => ?_)
      refine h_iload_n (pc' := 13) rfl rfl rfl ?_
      refine h_i2l (pc' := 14) rfl rfl hx2 (fun z9 hz9 => ?_)
      refine h_lconst (pc' := 15) (x := (Int64.ofInt 0)) rfl rfl rfl ?_
      refine h_lconst (pc' := 16) (x := (Int64.ofInt 1)) rfl rfl rfl ?_
      refine h_calls (pc' := 19) (M := [(0, .long z9), (2, .long (Int64.ofInt 0)), (4, .long (Int64.ofInt 1))]) rfl rfl rfl rfl rfl rfl ?_
      refine h_lload_n (pc' := 1) rfl rfl rfl ?_
      refine h_lload_n (pc' := 2) rfl rfl rfl ?_
      refine h_lcmp (pc' := 3) rfl rfl hz9 cl_0 (fun z10 hz10 => ?_)
      refine h_zlt (tg := 17) (pc' := 6) rfl rfl rfl rfl (fun c11 => ?_) (fun c11 => ?_)
      · replace c11 := (h_lcr hz10).1 c11
        clear hz10
        refine h_iconst (pc' := 18) (x := (Int32.ofInt 0)) rfl rfl rfl ?_
        refine h_zret rfl rfl ci_0 (by omega) (h_Kv ?_)
        refine h_zne (tg := 24) (pc' := 22) rfl rfl rfl ci_0 (fun c12 => absurd c12 (by omega)) (fun c12 => ?_)
        refine h_iconst (pc' := 23) (x := (Int32.ofInt (-1))) rfl rfl rfl ?_
        exact h_iret rfl rfl (kk _ _ ci_m1 _ hI F00 (by omega) (by first | exact Or.inl ⟨by omega, rfl⟩ | exact Or.inr (Or.inl ⟨by omega, by omega, rfl⟩)))
      · replace c11 := (h_lcr hz10).2.1 c11
        clear hz10
        refine h_lload_n (pc' := 7) rfl rfl rfl ?_
        refine h_lload (pc' := 9) rfl rfl rfl ?_
        refine h_lcmp (pc' := 10) rfl rfl hz9 cl_1 (fun z13 hz13 => ?_)
        refine h_zgt (tg := 17) (pc' := 13) rfl rfl rfl rfl (fun c14 => ?_) (fun c14 => ?_)
        · replace c14 := (h_lcr hz13).2.2.2.1 c14
          clear hz13
          refine h_iconst (pc' := 18) (x := (Int32.ofInt 0)) rfl rfl rfl ?_
          refine h_zret rfl rfl ci_0 (by omega) (h_Kv ?_)
          refine h_zne (tg := 24) (pc' := 22) rfl rfl rfl ci_0 (fun c15 => absurd c15 (by omega)) (fun c15 => ?_)
          refine h_iconst (pc' := 23) (x := (Int32.ofInt (-1))) rfl rfl rfl ?_
          exact h_iret rfl rfl (kk _ _ ci_m1 _ hI F00 (by omega) (by first | exact Or.inl ⟨by omega, rfl⟩ | exact Or.inr (Or.inl ⟨by omega, by omega, rfl⟩)))
        · replace c14 := (h_lcr hz13).2.2.1 c14
          clear hz13
          refine h_iconst (pc' := 14) (x := (Int32.ofInt 1)) rfl rfl rfl ?_
          refine h_goto (pc' := 18) rfl rfl ?_
          refine h_zret rfl rfl ci_1 (by omega) (h_Kv ?_)
          refine h_zne (tg := 24) (pc' := 22) rfl rfl rfl ci_1 (fun c16 => ?_) (fun c16 => absurd c16 (by omega))
          refine h_aload_n (pc' := 25) rfl rfl rfl ?_
          refine h_getI (pc' := 28) (v := σ 98 1) rfl rfl rfl rfl rfl rfl (fun z17 hz17 => ?_)
          have tz17 := tf_98_1 hI
          refine h_zeq (tg := 38) (pc' := 31) rfl rfl rfl hz17 (fun c18 => ?_) (fun c18 => ?_)
          · refine h_bipush (pc' := 40) (x := (Int32.ofInt (-2))) rfl rfl cb_m2 ?_
            exact h_iret rfl rfl (kk _ _ ci_m2 _ hI F00 (by omega) (by first | exact Or.inl ⟨by omega, rfl⟩ | exact Or.inr (Or.inl ⟨by omega, by omega, rfl⟩)))
          · refine h_aload_n (pc' := 32) rfl rfl rfl ?_
            refine h_getI (pc' := 35) (v := σ 98 2) rfl rfl rfl rfl rfl rfl (fun z19 hz19 => ?_)
            have tz19 := tf_98_2 hI
            refine h_zne (tg := 41) (pc' := 38) rfl rfl rfl hz19 (fun c20 => ?_) (fun c20 => ?_)
            · refine h_aload_n (pc' := 42) rfl rfl rfl ?_
              refine h_iconst (pc' := 43) (x := (Int32.ofInt 0)) rfl rfl rfl ?_
              refine h_call (sp := false) (pc' := 46) (M := [(0, .ref 98), (1, .int (Int32.ofInt 0))]) rfl rfl rfl rfl rfl rfl rfl rfl ?_
              refine n_lays _ hI  (fun s22 Is22 Gs22 ps22_0 => h_Kn ?_)
              have Fs22 := (Gs22.mono (B := kf_n_driM) rfl).tr F00
              have es22_0 : s22 98 13 = σ 98 13 := (Gs22 98 13 rfl).trans rfl
              refine h_aload_n (pc' := 47) rfl rfl rfl ?_
              refine h_iconst (pc' := 48) (x := (Int32.ofInt 0)) rfl rfl rfl ?_
              refine h_sipush (pc' := 51) (x := (Int32.ofInt 132)) rfl rfl cs_132 ?_
              refine h_call (sp := false) (pc' := 54) (M := [(0, .ref 98), (1, .int (Int32.ofInt 0)), (2, .int (Int32.ofInt 132))]) rfl rfl rfl rfl rfl rfl rfl rfl ?_
              refine n_copies_0_132 _ Is22   (fun s24 Is24 Gs24 ps24_0 => h_Kn ?_)
              have Fs24 := (Gs24.mono (B := kf_n_driM) rfl).tr Fs22
              have es24_0 : s24 98 13 = σ 98 13 := (Gs24 98 13 rfl).trans es22_0
              refine h_aload_n (pc' := 55) rfl rfl rfl ?_
              refine h_iload_n (pc' := 56) rfl rfl rfl ?_
              refine h_put (pc' := 59) rfl rfl rfl rfl rfl rfl hx0 rfl (h_fgt (E := fun s => s 98 13 = σ 98 13 ∧ s = h_up s24 98 31 a0) _ (if_98_31 Is24 (h_rgv hx0)) (Fs24.up rfl) ⟨es24_0, rfl⟩ (fun s25 Is25 Fs25 (es25 : s25 98 13 = σ 98 13 ∧ s25 = h_up s24 98 31 a0) => ?_))
              have us25 := es25.2
              refine h_iconst (pc' := 60) (x := (Int32.ofInt 0)) rfl rfl rfl ?_
              refine h_istore (pc' := 62) (M := [(4, .int (Int32.ofInt 0)), (0, .ref 98), (1, .int x0), (2, .int x1), (3, .int x2)]) rfl rfl rfl rfl ?_
              refine h_iconst (pc' := 63) (x := (Int32.ofInt 0)) rfl rfl rfl ?_
              refine h_istore (pc' := 65) (M := [(5, .int (Int32.ofInt 0)), (4, .int (Int32.ofInt 0)), (0, .ref 98), (1, .int x0), (2, .int x1), (3, .int x2)]) rfl rfl rfl rfl ?_
              exact h_wk [(0, .ref 98), (1, .int x0), (2, .int x1), (3, .int x2), (4, .int (Int32.ofInt 0)), (5, .int (Int32.ofInt 0))] ⟨rfl, rfl, rfl, rfl, rfl, rfl, trivial⟩ ((n_driM_l ns σ hI x0 a0 hx0 x1 a1 hx1 x2 a2 hx2 kk 1000000000000) _ Is25 Fs25 (Int32.ofInt 0) _ ci_0 (by omega) (Int32.ofInt 0) _ ci_0 (by omega) (by omega) (by omega) (g_DM_e ps22_0 ((h_upg us25 rfl).trans (funext (fun j => Gs24 105 j rfl)))) (fun g a b => ((congrFun (h_upg us25 rfl) (158 + g)).trans ((congrArg (s24 99) (show 158 + g = 132 + (26 + g) by omega)).trans ((ps24_0 (26 + g) (by omega) (by omega)).trans ((congrFun (funext (fun j => Gs22 99 j rfl)) (0 + (26 + g))).trans (congrArg (σ 99) (show 0 + (26 + g) = 26 + g by omega))))))) (g_dmI_0 rfl (fun g a b => congrArg g_orn ((congrFun (h_upg us25 rfl) (161 + g)).trans ((congrArg (s24 99) (show 161 + g = 132 + (29 + g) by omega)).trans ((ps24_0 (29 + g) (by omega) (by omega)).trans ((congrFun (funext (fun j => Gs22 99 j rfl)) (0 + (29 + g))).trans (congrArg (σ 99) (show 0 + (29 + g) = 29 + g by omega))))))) ((congrArg Int32.ofInt (h_upv us25)).trans (g_ofi hx0)) rfl) (by omega) (by omega) (by omega))
            · refine h_bipush (pc' := 40) (x := (Int32.ofInt (-2))) rfl rfl cb_m2 ?_
              exact h_iret rfl rfl (kk _ _ ci_m2 _ hI F00 (by omega) (by first | exact Or.inl ⟨by omega, rfl⟩ | exact Or.inr (Or.inl ⟨by omega, by omega, rfl⟩)))
theorem c_R.driR {s : h_S} {x0 x0' : Int32} {a1 a2 a1' a2' b b' : Int} (h : c_R true s) (hI : h_I s) (ht : g_ti s) (hX : (¬ (1 ≤ a1 ∧ a1 ≤ 60 ∧ (a2 = 0 ∨ a2 = 1)) ∧ b = -1) ∨ ((1 ≤ a1 ∧ a1 ≤ 60 ∧ (a2 = 0 ∨ a2 = 1)) ∧ (s 10 8 ≤ 0 ∨ s 10 9 ≤ 0) ∧ b = -2) ∨ ((1 ≤ a1 ∧ a1 ≤ 60 ∧ (a2 = 0 ∨ a2 = 1)) ∧ 0 < s 10 8 ∧ 0 < s 10 9 ∧ ∃ D f L0, g_DX (s 10 8) (s 12) (s 11) (s 13 2) (s 14) (s 15) D ∧ g_FX (s 10 8) (s 17) (s 18) (s 16 2) f ∧ g_cq (s 10 9) (s 20) L0 ∧ ((a2 = 0 ∧ b = (g_df (fun p l g => g_yX (s 10 8) D f p l (s 19 g)) (s 10 8) (s 10 9) (x0, L0, 0) a1.toNat).2.2) ∨ (a2 = 1 ∧ b = (g_df (fun p l g => g_yX (s 10 8) D f p l (s 19 g)) (s 10 8) (s 10 9) (x0, L0, 0) a1.toNat).2.1 0)))) (hM : (¬ (1 ≤ a1' ∧ a1' ≤ 60 ∧ (a2' = 0 ∨ a2' = 1)) ∧ b' = -1) ∨ ((1 ≤ a1' ∧ a1' ≤ 60 ∧ (a2' = 0 ∨ a2' = 1)) ∧ (s 98 1 = 0 ∨ s 98 2 = 0) ∧ b' = -2) ∨ ((1 ≤ a1' ∧ a1' ≤ 60 ∧ (a2' = 0 ∨ a2' = 1)) ∧ 0 < s 98 1 ∧ 0 < s 98 2 ∧ ∃ G, g_DM (s 98 1) (s 99 18) (s 99) (s 100) G ∧ ((a2' = 0 ∧ b' = (g_df (fun p l g => g_yM G (fun i => s 99 (19 + 2 * i)) (fun i => s 99 (19 + 2 * i + 1)) (s 99 25) p l (s 99 (26 + g))) (s 98 1) (s 98 2) (x0', fun g => g_orn (s 99 (29 + g)), 0) a1'.toNat).2.2) ∨ (a2' = 1 ∧ b' = (g_df (fun p l g => g_yM G (fun i => s 99 (19 + 2 * i)) (fun i => s 99 (19 + 2 * i + 1)) (s 99 25) p l (s 99 (26 + g))) (s 98 1) (s 98 2) (x0', fun g => g_orn (s 99 (29 + g)), 0) a1'.toNat).2.1 0)))) (he : x0' = x0) (h1 : a1' = a1) (h2 : a2' = a2) : b = b' := by
  subst he; subst h1; subst h2
  have sz := h.sz
  rcases hX with q | q | q
  · rcases hM with w | w | w
    · rw [q.2, w.2]
    · exact absurd w.1 q.1
    · exact absurd w.1 q.1
  · rcases hM with w | w | w
    · exact absurd q.1 w.1
    · rw [q.2.2, w.2.2]
    · have q1 := q.2.1
      have w1 := w.2.1
      have w2 := w.2.2.1
      exfalso
      omega
  · rcases hM with w | w | w
    · exact absurd q.1 w.1
    · have q1 := q.2.1
      have q2 := q.2.2.1
      have w1 := w.2.1
      exfalso
      omega
    · obtain ⟨-, n0, g0, D, f, L0, hD, hf, hL, hx⟩ := q
      obtain ⟨-, -, -, G, hG, hm⟩ := w
      obtain ⟨-, e2, e3⟩ := h.dri (x0 := x0') hI ht hD hG hf hL n0 g0 a1'.toNat
      rcases hx with x | x
      · rcases hm with y | y
        · rw [x.2, y.2]
          exact e3
        · have x1 := x.1
          have y1 := y.1
          exfalso
          omega
      · rcases hm with y | y
        · have x1 := x.1
          have y1 := y.1
          exfalso
          omega
        · rw [x.2, y.2]
          exact e2 0 (by omega) g0
