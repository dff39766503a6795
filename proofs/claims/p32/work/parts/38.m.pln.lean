/-! THE PLAN RUN BY ITSELF -/
def g_ps (y : Int → Int → Int → Bool) (aw : Int32) (a i : Int) (x : (Int → Int) × Int32 × Int32) : (Int → Int) × Int32 × Int32 := if g_hb aw (a / 10) = 0 ∧ y (a / 10) (x.1 (a % 10)) (a % 10) = true then (g_set x.1 (a % 10) (a / 10), g_or x.2.1 (a / 10), g_or x.2.2 i) else x
def g_pf (y : Int → Int → Int → Bool) (aw : Int32) (pl : Int → Int) (x : (Int → Int) × Int32 × Int32) : Nat → (Int → Int) × Int32 × Int32
  | 0 => x
  | m + 1 => g_ps y aw (pl (m : Int)) (m : Int) (g_pf y aw pl x m)
theorem g_pf_s {y : Int → Int → Int → Bool} {aw : Int32} {pl : Int → Int} {x : (Int → Int) × Int32 × Int32} {k : Int} (k0 : 0 ≤ k) : g_pf y aw pl x (k + 1).toNat = g_ps y aw (pl k) k (g_pf y aw pl x k.toNat) := by
  rw [show (k + 1).toNat = k.toNat + 1 by omega]
  show g_ps y aw (pl (k.toNat : Int)) (k.toNat : Int) (g_pf y aw pl x k.toNat) = _
  rw [show ((k.toNat : Nat) : Int) = k by omega]
/-- who goes goes -/
theorem g_ps_y {y : Int → Int → Int → Bool} {aw : Int32} {a i p g : Int} {x : (Int → Int) × Int32 × Int32} {L : Int → Int} {c t c' t' : Int32} {L' : Int → Int} (hx : (L, c, t) = x) (hp : p = a / 10) (hg : g = a % 10) (ha : g_hb aw p = 0) (hy : y p (L g) g = true) (h1 : L' = g_set L g p) (h2 : c' = g_or c p) (h3 : t' = g_or t i) : (L', c', t') = g_ps y aw a i x := by
  subst hx; subst hp; subst hg; subst h1; subst h2; subst h3
  unfold g_ps
  rw [if_pos ⟨ha, hy⟩]
theorem g_ps_n {y : Int → Int → Int → Bool} {aw : Int32} {a i p g : Int} {x : (Int → Int) × Int32 × Int32} {L : Int → Int} {c t c' t' : Int32} {L' : Int → Int} (hx : (L, c, t) = x) (hp : p = a / 10) (hg : g = a % 10) (hn : ¬ g_hb aw p = 0 ∨ y p (L g) g = false) (h1 : L' = L) (h2 : c' = c) (h3 : t' = t) : (L', c', t') = g_ps y aw a i x := by
  subst hx; subst hp; subst hg; subst h1; subst h2; subst h3
  unfold g_ps
  rw [if_neg]
  intro z
  rcases hn with u | u
  · exact u z.1
  · have z2 : y (a / 10) (L' (a % 10)) (a % 10) = true := z.2
    rw [u] at z2
    exact Bool.noConfusion z2
/-- two runs side by side -/
def g_pe (ng : Int) (x x' : (Int → Int) × Int32 × Int32) : Prop := (∀ g, 0 ≤ g → g < ng → x.1 g = x'.1 g) ∧ x.2.1 = x'.2.1 ∧ x.2.2 = x'.2.2
theorem g_pf_e {ng n : Int} {y y' : Int → Int → Int → Bool} {aw : Int32} {pl pl' : Int → Int} {x x' : (Int → Int) × Int32 × Int32} (hx : g_pe ng x x') (ho : ∀ g, 0 ≤ g → g < ng → x.1 g = -4 ∨ (0 ≤ x.1 g ∧ x.1 g < n)) (hy : ∀ p l g, 0 ≤ p → p < n → 0 ≤ g → g < ng → (l = -4 ∨ (0 ≤ l ∧ l < n)) → y p l g = y' p l g) : ∀ m : Nat, (∀ i : Int, 0 ≤ i → i < m → pl i = pl' i ∧ 0 ≤ pl i ∧ pl i / 10 < n ∧ pl i % 10 < ng) → g_pe ng (g_pf y aw pl x m) (g_pf y' aw pl' x' m) ∧ ∀ g, 0 ≤ g → g < ng → (g_pf y aw pl x m).1 g = -4 ∨ (0 ≤ (g_pf y aw pl x m).1 g ∧ (g_pf y aw pl x m).1 g < n)
  | 0, _ => ⟨hx, ho⟩
  | m + 1, hp => by
    obtain ⟨⟨e1, e2, e3⟩, o⟩ := g_pf_e hx ho hy m (fun i a b => hp i a (by omega))
    obtain ⟨p1, p2, p3, p4⟩ := hp (m : Int) (by omega) (by omega)
    show g_pe ng (g_ps y aw (pl (m : Int)) (m : Int) (g_pf y aw pl x m)) (g_ps y' aw (pl' (m : Int)) (m : Int) (g_pf y' aw pl' x' m)) ∧ ∀ g, 0 ≤ g → g < ng → (g_ps y aw (pl (m : Int)) (m : Int) (g_pf y aw pl x m)).1 g = -4 ∨ (0 ≤ (g_ps y aw (pl (m : Int)) (m : Int) (g_pf y aw pl x m)).1 g ∧ (g_ps y aw (pl (m : Int)) (m : Int) (g_pf y aw pl x m)).1 g < n)
    rw [← p1]
    have g0 : 0 ≤ pl (m : Int) % 10 := by omega
    have ey := hy (pl (m : Int) / 10) ((g_pf y aw pl x m).1 (pl (m : Int) % 10)) (pl (m : Int) % 10) (by omega) p3 g0 p4 (o _ g0 p4)
    have el := e1 _ g0 p4
    unfold g_ps
    by_cases c : g_hb aw (pl (m : Int) / 10) = 0 ∧ y (pl (m : Int) / 10) ((g_pf y aw pl x m).1 (pl (m : Int) % 10)) (pl (m : Int) % 10) = true
    · rw [if_pos c, if_pos ⟨c.1, by rw [← el, ← ey]; exact c.2⟩]
      refine ⟨⟨fun g a b => ?_, ?_, ?_⟩, fun g a b => ?_⟩
      · show g_set _ _ _ g = g_set _ _ _ g
        by_cases z : g = pl (m : Int) % 10
        · rw [g_set_p z, g_set_p z]
        · rw [g_set_n z, g_set_n z]
          exact e1 g a b
      · show g_or _ _ = g_or _ _
        rw [e2]
      · show g_or _ _ = g_or _ _
        rw [e3]
      · show g_set _ _ _ g = -4 ∨ (0 ≤ g_set _ _ _ g ∧ g_set _ _ _ g < n)
        by_cases z : g = pl (m : Int) % 10
        · rw [g_set_p z]
          exact Or.inr ⟨by omega, p3⟩
        · rw [g_set_n z]
          exact o g a b
    · rw [if_neg c, if_neg (fun z => c ⟨z.1, by rw [ey, el]; exact z.2⟩)]
      exact ⟨⟨e1, e2, e3⟩, o⟩
/-! ADMIT, RUNPLAN, PLANGOES -/
theorem g_came {z y w u : Int32} {q v : Int} (hz : z = y ||| w) (hw : w = (Int32.ofInt 1) <<< (u &&& 31)) (hu : u.toInt = q) (hy : y.toInt = v) : Int32.ofInt z.toInt = g_or (Int32.ofInt v) q := by
  rw [Int32.ofInt_toInt, g_ofi hy]
  exact g_or_of hz hw hu
theorem g_pm_y {y : Int → Int → Int → Bool} {aw : Int32} {a i p g w : Int} {x : (Int → Int) × Int32 × Int32} {S S' : Int → Int} (hp : p = a / 10) (hg : g = a % 10) (p0 : 0 ≤ p) (g0 : 0 ≤ g) (g2 : g ≤ 2) (ha : g_hb aw p = 0) (hL : ∀ j, 0 ≤ j → j ≤ 2 → g_orn (S (161 + j)) = x.1 j) (hy : y p (g_orn (S (161 + g))) g = true) (hS : S' = g_set (g_set S (161 + g) (p + 1)) (164 + g) w) : (∀ j, 0 ≤ j → j ≤ 2 → g_orn (S' (161 + j)) = (g_ps y aw a i x).1 j) ∧ (g_ps y aw a i x).2.1 = g_or x.2.1 p ∧ (g_ps y aw a i x).2.2 = g_or x.2.2 i := by
  rw [hL g g0 g2] at hy
  subst hp; subst hg; subst hS
  unfold g_ps
  rw [if_pos ⟨ha, hy⟩]
  refine ⟨fun j j0 j2 => ?_, rfl, rfl⟩
  show _ = g_set x.1 (a % 10) (a / 10) j
  by_cases c : j = a % 10
  · rw [g_set_p c, g_set_n (by omega), g_set_p (by omega)]
    exact (g_orn_of (by omega)).symm
  · rw [g_set_n c, g_set_n (by omega), g_set_n (by omega)]
    exact hL j j0 j2
theorem g_pm_n {y : Int → Int → Int → Bool} {aw : Int32} {a i p g : Int} {x : (Int → Int) × Int32 × Int32} {S S' : Int → Int} (hp : p = a / 10) (hg : g = a % 10) (g0 : 0 ≤ g) (g2 : g ≤ 2) (hL : ∀ j, 0 ≤ j → j ≤ 2 → g_orn (S (161 + j)) = x.1 j) (hn : ¬ g_hb aw p = 0 ∨ y p (g_orn (S (161 + g))) g = false) (hS : S' = S) : (∀ j, 0 ≤ j → j ≤ 2 → g_orn (S' (161 + j)) = (g_ps y aw a i x).1 j) ∧ (g_ps y aw a i x).2.1 = x.2.1 ∧ (g_ps y aw a i x).2.2 = x.2.2 := by
  rw [hL g g0 g2] at hn
  subst hp; subst hg; subst hS
  unfold g_ps
  have c : ¬ (g_hb aw (a / 10) = 0 ∧ y (a / 10) (x.1 (a % 10)) (a % 10) = true) := fun z => by
    rcases hn with u | u
    · exact u z.1
    · rw [u] at z
      exact Bool.noConfusion z.2
  rw [if_neg c]
  exact ⟨hL, rfl, rfl⟩
theorem g_yM_m {D A B A' B' : Int → Int} {m m' p l r r' : Int} (hm : m' = m) (m3 : m ≤ 3) (hA : ∀ j, 0 ≤ j → j ≤ 2 → A' j = A j ∧ B' j = B j) (hr : r' = r) : g_yM D A' B' m' p l r' = g_yM D A B m p l r := by
  subst hm; subst hr
  unfold g_yM
  rw [g_fo_eq m'.toNat (fun j j0 j1 => hA j j0 (by omega))]
theorem g_pmD {D D' A B R : Int → Int} {m : Int} (e : D' = D) : (fun p l g => g_yM D' A B m p l (R g)) = (fun p l g => g_yM D A B m p l (R g)) := by rw [e]
def g_pmI (y : Int → Int → Int → Bool) (aw : Int32) (pl L0 : Int → Int) (k : Int) (S : Int → Int) (c t : Int) : Prop := (∀ j, 0 ≤ j → j ≤ 2 → g_orn (S (161 + j)) = (g_pf y aw pl (L0, 0, 0) k.toNat).1 j) ∧ Int32.ofInt c = (g_pf y aw pl (L0, 0, 0) k.toNat).2.1 ∧ Int32.ofInt t = (g_pf y aw pl (L0, 0, 0) k.toNat).2.2
theorem g_pmI_0 {y : Int → Int → Int → Bool} {aw : Int32} {pl L0 S : Int → Int} {k c t : Int} (hk : k = 0) (hL : ∀ j, 0 ≤ j → j ≤ 2 → g_orn (S (161 + j)) = L0 j) (hc : c = 0) (ht : t = 0) : g_pmI y aw pl L0 k S c t := by
  subst hk; subst hc; subst ht
  exact ⟨hL, rfl, rfl⟩
theorem g_pmI_y {y y' : Int → Int → Int → Bool} {aw : Int32} {pl L0 S S' : Int → Int} {k p g w c t c' t' : Int} (h : g_pmI y aw pl L0 k S c t) (hD : y' = y) (k0 : 0 ≤ k) (hp : p = pl k / 10) (hg : g = pl k % 10) (p0 : 0 ≤ p) (g2 : 0 ≤ g ∧ g ≤ 2) (ha : g_hb aw p = 0) (hy : y p (g_orn (S (161 + g))) g = true) (hS : S' = g_set (g_set S (161 + g) (p + 1)) (164 + g) w) (hc : Int32.ofInt c' = g_or (Int32.ofInt c) p) (ht : Int32.ofInt t' = g_or (Int32.ofInt t) k) : g_pmI y' aw pl L0 (k + 1) S' c' t' := by
  subst hD
  obtain ⟨h1, h2, h3⟩ := h
  have z := g_pm_y (i := k) hp hg p0 g2.1 g2.2 ha h1 hy hS
  unfold g_pmI
  rw [g_pf_s k0, hc, ht, h2, h3]
  exact ⟨z.1, z.2.1.symm, z.2.2.symm⟩
theorem g_pmI_n {y y' : Int → Int → Int → Bool} {aw : Int32} {pl L0 S S' : Int → Int} {k p g c t c' t' : Int} (h : g_pmI y aw pl L0 k S c t) (hD : y' = y) (k0 : 0 ≤ k) (hp : p = pl k / 10) (hg : g = pl k % 10) (p0 : 0 ≤ p) (g2 : 0 ≤ g ∧ g ≤ 2) (hn : ¬ g_hb aw p = 0 ∨ y p (g_orn (S (161 + g))) g = false) (hS : S' = S) (hc : c' = c) (ht : t' = t) : g_pmI y' aw pl L0 (k + 1) S' c' t' := by
  subst hD; subst hc; subst ht
  obtain ⟨h1, h2, h3⟩ := h
  have z := g_pm_n (i := k) hp hg g2.1 g2.2 h1 hn hS
  unfold g_pmI
  rw [g_pf_s k0, h2, h3]
  exact ⟨z.1, z.2.1.symm, z.2.2.symm⟩
def kf_n_copies_176_132 : List Nat := [101891]
set_option maxHeartbeats 100000000 in
set_option maxHeartbeats 100000000 in
theorem n_copies_176_132_l (ns : Nat) (σ : h_S) (hI : h_I σ) {Q : Option Value → h_S → Prop} (kk : ∀ (τ : h_S), h_I τ → h_F (k_in kf_n_copies_176_132) τ σ → (∀ j, 0 ≤ j → j < 44 → τ 99 (132 + j) = σ 99 (176 + j)) → Q none τ) : ∀ n : Nat, (∀ (s0 : h_S), h_I s0 → h_F (k_in kf_n_copies_176_132) s0 σ → ∀ (y3 : Int32) (b3 : Int), y3.toInt = b3 → (0 ≤ b3 ∧ b3 ≤ 44) → (∀ j, 0 ≤ j → j < b3 → s0 99 (132 + j) = σ 99 (176 + j)) → (44 + 1 - b3) * 1000000 + 1000000000 ≤ (n : Int) → h_T g_P (g_Y ns) 190 2 [(0, .ref 98), (1, .int (Int32.ofInt 176)), (2, .int (Int32.ofInt 132)), (3, .int y3)] [] s0 Q) := by
  intro n
  induction n with
  | zero => exact by intro s0 I0 F0_ y3 b3 hy3 ry3 ex0 hm; exfalso; omega
  | succ n ih =>
    intro s0 I0 F0_ y3 b3 hy3 ry3 ex0 hm
    refine h_iload_n (pc' := 3) rfl rfl rfl ?_
    refine h_bipush (pc' := 5) (x := (Int32.ofInt 44)) rfl rfl cb_44 ?_
    refine h_cge (tg := 30) (pc' := 8) rfl rfl rfl hy3 ci_44 (fun c1 => ?_) (fun c1 => ?_)
    · exact h_vret rfl rfl (kk _ I0 F0_ (fun j a b => ex0 j a (by omega)))
    · refine h_aload_n (pc' := 9) rfl rfl rfl ?_
      refine h_getR (pc' := 12) rfl rfl rfl rfl rfl ?_
      refine h_iload_n (pc' := 13) rfl rfl rfl ?_
      refine h_iload_n (pc' := 14) rfl rfl rfl ?_
      refine h_iadd (pc' := 15) rfl rfl ci_132 hy3 rfl (by omega) (by omega) (fun z2 hz2 => ?_)
      refine h_aload_n (pc' := 16) rfl rfl rfl ?_
      refine h_getR (pc' := 19) rfl rfl rfl rfl rfl ?_
      refine h_iload_n (pc' := 20) rfl rfl rfl ?_
      refine h_iload_n (pc' := 21) rfl rfl rfl ?_
      refine h_iadd (pc' := 22) rfl rfl ci_176 hy3 rfl (by omega) (by omega) (fun z3 hz3 => ?_)
      refine h_iald (pc' := 23) (v := σ 99 (176 + b3)) rfl rfl rfl hz3 (by omega) (by omega) (F0_ 99 _ (k_no (l := 176) (h := 219) rfl (by omega) (by omega))) (fun z4 hz4 => ?_)
      have tz4 := h_rng z4
      rw [hz4] at tz4
      refine h_iast (pc' := 24) rfl rfl rfl rfl hz2 (by omega) (by omega) hz4 (h_fgt (E := fun s => s 98 13 = s0 98 13 ∧ s = h_up s0 99 (132 + b3) (σ 99 (176 + b3))) _ (im_99 (i := (176 + b3)) I0 (by omega) (hI 99 (176 + b3))) (F0_.up (k_ipg (p := 3) rfl rfl (by omega))) ⟨rfl, rfl⟩ (fun s5 Is5 Fs5 (es5 : s5 98 13 = s0 98 13 ∧ s5 = h_up s0 99 (132 + b3) (σ 99 (176 + b3))) => ?_))
      have us5 := es5.2
      refine h_iinc (pc' := 27) (M := fun z6 => [(3, .int z6), (0, .ref 98), (1, .int (Int32.ofInt 176)), (2, .int (Int32.ofInt 132))]) rfl rfl rfl rfl hy3 ci_1 rfl (by omega) (by omega) (fun _ => rfl) (fun z6 hz6 => ?_)
      refine h_goto (pc' := 2) rfl rfl ?_
      exact h_wk [(0, .ref 98), (1, .int (Int32.ofInt 176)), (2, .int (Int32.ofInt 132)), (3, .int z6)] ⟨rfl, rfl, rfl, rfl, trivial⟩ (ih _ Is5 Fs5 z6 _ hz6 (by omega) (cp_s (F := fun j => σ 99 (176 + j)) us5 rfl rfl ex0) (by omega))
set_option maxHeartbeats 100000000 in
set_option maxHeartbeats 100000000 in
theorem n_copies_176_132 {ns : Nat} (σ : h_S) (hI : h_I σ) {Q : Option Value → h_S → Prop} (kk : ∀ (τ : h_S), h_I τ → h_F (k_in kf_n_copies_176_132) τ σ → (∀ j, 0 ≤ j → j < 44 → τ 99 (132 + j) = σ 99 (176 + j)) → Q none τ) : h_T g_P (g_Y ns) 190 0 [(0, .ref 98), (1, .int (Int32.ofInt 176)), (2, .int (Int32.ofInt 132))] [] σ Q := by
  have F00 : h_F (k_in kf_n_copies_176_132) σ σ := h_F.rf
  refine h_iconst (pc' := 1) (x := (Int32.ofInt 0)) rfl rfl rfl ?_
  refine h_istore_n (pc' := 2) (M := [(3, .int (Int32.ofInt 0)), (0, .ref 98), (1, .int (Int32.ofInt 176)), (2, .int (Int32.ofInt 132))]) rfl rfl rfl rfl ?_
  exact h_wk [(0, .ref 98), (1, .int (Int32.ofInt 176)), (2, .int (Int32.ofInt 132)), (3, .int (Int32.ofInt 0))] ⟨rfl, rfl, rfl, rfl, trivial⟩ ((n_copies_176_132_l ns σ hI  kk 1000000000000) _ hI F00 (Int32.ofInt 0) _ ci_0 (by omega) (fun j a b => absurd b (by omega)) (by omega))
def kf_n_goesOn132 : List Nat := [101891]
set_option maxHeartbeats 100000000 in
set_option maxHeartbeats 100000000 in
theorem n_goesOn132 {ns : Nat} (σ : h_S) (hI : h_I σ) (x1 : Int32) (a1 : Int) (hx1 : x1.toInt = a1) (ra1 : 0 ≤ a1 ∧ a1 ≤ 5) (x2 : Int32) (a2 : Int) (hx2 : x2.toInt = a2) (ra2 : 0 ≤ a2 ∧ a2 ≤ 2) {Q : Option Value → h_S → Prop} (kk : ∀ (r : Int32) (b : Int) (hb : r.toInt = b) (τ : h_S), h_I τ → h_F (k_in kf_n_goesOn132) τ σ → (0 ≤ b ∧ b ≤ 1) → ((b = 1 ∧ g_yM (σ 105) (fun i => σ 99 (19 + 2 * i)) (fun i => σ 99 (19 + 2 * i + 1)) (σ 99 25) a1 (g_orn (σ 99 (161 + a2))) (σ 99 (158 + a2)) = true ∧ τ 99 = g_set (g_set (σ 99) (161 + a2) (a1 + 1)) (164 + a2) (g_w1n (σ 99 (164 + a2)))) ∨ (b = 0 ∧ g_yM (σ 105) (fun i => σ 99 (19 + 2 * i)) (fun i => σ 99 (19 + 2 * i + 1)) (σ 99 25) a1 (g_orn (σ 99 (161 + a2))) (σ 99 (158 + a2)) = false ∧ τ 99 = σ 99)) → Q (some (.int r)) τ) : h_T g_P (g_Y ns) 187 0 [(0, .ref 98), (1, .int (Int32.ofInt 132)), (2, .int x1), (3, .int x2)] [] σ Q := by
  have F00 : h_F (k_in kf_n_goesOn132) σ σ := h_F.rf
  refine h_aload_n (pc' := 1) rfl rfl rfl ?_
  refine h_iload_n (pc' := 2) rfl rfl rfl ?_
  refine h_aload_n (pc' := 3) rfl rfl rfl ?_
  refine h_getR (pc' := 6) rfl rfl rfl rfl rfl ?_
  refine h_iload_n (pc' := 7) rfl rfl rfl ?_
  refine h_bipush (pc' := 9) (x := (Int32.ofInt 29)) rfl rfl cb_29 ?_
  refine h_iadd (pc' := 10) (c := 161) rfl rfl ci_132 ci_29 rfl (by omega) (by omega) (fun z1 hz1 => ?_)
  refine h_iload_n (pc' := 11) rfl rfl rfl ?_
  refine h_iadd (pc' := 12) rfl rfl hz1 hx2 rfl (by omega) (by omega) (fun z2 hz2 => ?_)
  refine h_iald (pc' := 13) (v := σ 99 (161 + a2)) rfl rfl rfl hz2 (by omega) (by omega) rfl (fun z3 hz3 => ?_)
  have tz3 := ty_99_7 hI (161 + a2) (by omega)
  refine h_calls (pc' := 16) (M := [(0, .int z3)]) rfl rfl rfl rfl rfl rfl ?_
  refine h_iload_n (pc' := 1) rfl rfl rfl ?_
  refine h_zne (tg := 9) (pc' := 4) rfl rfl rfl hz3 (fun c4 => ?_) (fun c4 => ?_)
  · refine h_iload_n (pc' := 10) rfl rfl rfl ?_
    refine h_iconst (pc' := 11) (x := (Int32.ofInt 1)) rfl rfl rfl ?_
    refine h_isub (pc' := 12) rfl rfl hz3 ci_1 rfl (by omega) (by omega) (fun z5 hz5 => ?_)
    refine h_iret rfl rfl (h_Kv ?_)
    refine h_aload_n (pc' := 17) rfl rfl rfl ?_
    refine h_getR (pc' := 20) rfl rfl rfl rfl rfl ?_
    refine h_iload_n (pc' := 21) rfl rfl rfl ?_
    refine h_bipush (pc' := 23) (x := (Int32.ofInt 26)) rfl rfl cb_26 ?_
    refine h_iadd (pc' := 24) (c := 158) rfl rfl ci_132 ci_26 rfl (by omega) (by omega) (fun z6 hz6 => ?_)
    refine h_iload_n (pc' := 25) rfl rfl rfl ?_
    refine h_iadd (pc' := 26) rfl rfl hz6 hx2 rfl (by omega) (by omega) (fun z7 hz7 => ?_)
    refine h_iald (pc' := 27) (v := σ 99 (158 + a2)) rfl rfl rfl hz7 (by omega) (by omega) rfl (fun z8 hz8 => ?_)
    have tz8 := ty_99_6 hI (158 + a2) (by omega)
    refine h_call (sp := false) (pc' := 30) (M := [(0, .ref 98), (1, .int x1), (2, .int z5), (3, .int z8)]) rfl rfl rfl rfl rfl rfl rfl rfl ?_
    refine n_may _ hI x1 _ hx1 (by omega) z5 _ hz5 (by omega) z8 _ hz8 (fun r9 br9 hr9 tr9 ps10_0 => h_Kv ?_)
    refine h_zne (tg := 35) (pc' := 33) rfl rfl rfl hr9 (fun c11 => ?_) (fun c11 => ?_)
    · refine h_aload_n (pc' := 36) rfl rfl rfl ?_
      refine h_getR (pc' := 39) rfl rfl rfl rfl rfl ?_
      refine h_iload_n (pc' := 40) rfl rfl rfl ?_
      refine h_bipush (pc' := 42) (x := (Int32.ofInt 29)) rfl rfl cb_29 ?_
      refine h_iadd (pc' := 43) (c := 161) rfl rfl ci_132 ci_29 rfl (by omega) (by omega) (fun z12 hz12 => ?_)
      refine h_iload_n (pc' := 44) rfl rfl rfl ?_
      refine h_iadd (pc' := 45) rfl rfl hz12 hx2 rfl (by omega) (by omega) (fun z13 hz13 => ?_)
      refine h_iload_n (pc' := 46) rfl rfl rfl ?_
      refine h_iconst (pc' := 47) (x := (Int32.ofInt 1)) rfl rfl rfl ?_
      refine h_iadd (pc' := 48) rfl rfl hx1 ci_1 rfl (by omega) (by omega) (fun z14 hz14 => ?_)
      refine h_iast (pc' := 49) rfl rfl rfl rfl hz13 (by omega) (by omega) hz14 (h_fgt (E := fun s => s 98 13 = σ 98 13 ∧ s = h_up σ 99 (161 + a2) (a1 + 1)) _ (ip_99_7 hI (by omega) (by omega)) (F00.up (k_ipg (p := 3) rfl rfl (by omega))) ⟨rfl, rfl⟩ (fun s15 Is15 Fs15 (es15 : s15 98 13 = σ 98 13 ∧ s15 = h_up σ 99 (161 + a2) (a1 + 1)) => ?_))
      have us15 := es15.2
      refine h_aload_n (pc' := 50) rfl rfl rfl ?_
      refine h_getR (pc' := 53) rfl rfl rfl rfl rfl ?_
      refine h_iload_n (pc' := 54) rfl rfl rfl ?_
      refine h_bipush (pc' := 56) (x := (Int32.ofInt 32)) rfl rfl cb_32 ?_
      refine h_iadd (pc' := 57) (c := 164) rfl rfl ci_132 ci_32 rfl (by omega) (by omega) (fun z16 hz16 => ?_)
      refine h_iload_n (pc' := 58) rfl rfl rfl ?_
      refine h_iadd (pc' := 59) rfl rfl hz16 hx2 rfl (by omega) (by omega) (fun z17 hz17 => ?_)
      refine h_dup2 (pc' := 60) rfl rfl rfl ?_
      refine h_iald (pc' := 61) (v := s15 99 (164 + a2)) rfl rfl rfl hz17 (by omega) (by omega) rfl (fun z18 hz18 => ?_)
      have tz18 := ty_99_8 Is15 (164 + a2) (by omega)
      refine h_aload_n (pc' := 62) rfl rfl rfl ?_
      refine h_getR (pc' := 65) rfl rfl rfl rfl rfl ?_
      refine h_iload_n (pc' := 66) rfl rfl rfl ?_
      refine h_bipush (pc' := 68) (x := (Int32.ofInt 32)) rfl rfl cb_32 ?_
      refine h_iadd (pc' := 69) (c := 164) rfl rfl ci_132 ci_32 rfl (by omega) (by omega) (fun z19 hz19 => ?_)
      refine h_iload_n (pc' := 70) rfl rfl rfl ?_
      refine h_iadd (pc' := 71) rfl rfl hz19 hx2 rfl (by omega) (by omega) (fun z20 hz20 => ?_)
      refine h_iald (pc' := 72) (v := s15 99 (164 + a2)) rfl rfl rfl hz20 (by omega) (by omega) rfl (fun z21 hz21 => ?_)
      have tz21 := ty_99_8 Is15 (164 + a2) (by omega)
      refine h_sipush (pc' := 75) (x := (Int32.ofInt 999)) rfl rfl cs_999 ?_
      refine h_cge (tg := 82) (pc' := 78) rfl rfl rfl hz21 ci_999 (fun c22 => ?_) (fun c22 => ?_)
      · refine h_iconst (pc' := 83) (x := (Int32.ofInt 0)) rfl rfl rfl ?_
        refine h_iadd (pc' := 84) rfl rfl hz18 ci_0 rfl (by omega) (by omega) (fun z23 hz23 => ?_)
        refine h_iast (pc' := 85) rfl rfl rfl rfl hz17 (by omega) (by omega) hz23 (h_fgt (E := fun s => s 98 13 = σ 98 13 ∧ s = h_up s15 99 (164 + a2) ((s15 99 (164 + a2)) + 0)) _ (ip_99_8 Is15 (by omega) (by omega)) (Fs15.up (k_ipg (p := 3) rfl rfl (by omega))) ⟨es15.1, rfl⟩ (fun s24 Is24 Fs24 (es24 : s24 98 13 = σ 98 13 ∧ s24 = h_up s15 99 (164 + a2) ((s15 99 (164 + a2)) + 0)) => ?_))
        clear es15
        have us24 := es24.2
        refine h_iconst (pc' := 86) (x := (Int32.ofInt 1)) rfl rfl rfl ?_
        exact h_zret rfl rfl ci_1 (by omega) (kk _ _ ci_1 _ Is24 Fs24 (by omega) (by have gm := ps10_0; have gx := h_upd us15 (j := 164 + a2) (by omega); first | (rw [show σ 99 (161 + a2) - 1 = g_orn (σ 99 (161 + a2)) from g_orn_of (by omega)] at gm; exact Or.inl ⟨rfl, g_gm_y gm (by omega), (((h_upf us24).trans (g_set_c (h_upf us15)))).trans (g_set_e (g_set_e rfl (by omega) (by omega)) (by omega) (g_w1n_of (by omega)))⟩) | (rw [show (-4 : Int) = g_orn (σ 99 (161 + a2)) from g_orn_of (by omega)] at gm; exact Or.inl ⟨rfl, g_gm_y gm (by omega), (((h_upf us24).trans (g_set_c (h_upf us15)))).trans (g_set_e (g_set_e rfl (by omega) (by omega)) (by omega) (g_w1n_of (by omega)))⟩)))
      · refine h_iconst (pc' := 79) (x := (Int32.ofInt 1)) rfl rfl rfl ?_
        refine h_goto (pc' := 83) rfl rfl ?_
        refine h_iadd (pc' := 84) rfl rfl hz18 ci_1 rfl (by omega) (by omega) (fun z25 hz25 => ?_)
        refine h_iast (pc' := 85) rfl rfl rfl rfl hz17 (by omega) (by omega) hz25 (h_fgt (E := fun s => s 98 13 = σ 98 13 ∧ s = h_up s15 99 (164 + a2) ((s15 99 (164 + a2)) + 1)) _ (ip_99_8 Is15 (by omega) (by omega)) (Fs15.up (k_ipg (p := 3) rfl rfl (by omega))) ⟨es15.1, rfl⟩ (fun s26 Is26 Fs26 (es26 : s26 98 13 = σ 98 13 ∧ s26 = h_up s15 99 (164 + a2) ((s15 99 (164 + a2)) + 1)) => ?_))
        clear es15
        have us26 := es26.2
        refine h_iconst (pc' := 86) (x := (Int32.ofInt 1)) rfl rfl rfl ?_
        exact h_zret rfl rfl ci_1 (by omega) (kk _ _ ci_1 _ Is26 Fs26 (by omega) (by have gm := ps10_0; have gx := h_upd us15 (j := 164 + a2) (by omega); first | (rw [show σ 99 (161 + a2) - 1 = g_orn (σ 99 (161 + a2)) from g_orn_of (by omega)] at gm; exact Or.inl ⟨rfl, g_gm_y gm (by omega), (((h_upf us26).trans (g_set_c (h_upf us15)))).trans (g_set_e (g_set_e rfl (by omega) (by omega)) (by omega) (g_w1n_of (by omega)))⟩) | (rw [show (-4 : Int) = g_orn (σ 99 (161 + a2)) from g_orn_of (by omega)] at gm; exact Or.inl ⟨rfl, g_gm_y gm (by omega), (((h_upf us26).trans (g_set_c (h_upf us15)))).trans (g_set_e (g_set_e rfl (by omega) (by omega)) (by omega) (g_w1n_of (by omega)))⟩)))
    · refine h_iconst (pc' := 34) (x := (Int32.ofInt 0)) rfl rfl rfl ?_
      exact h_zret rfl rfl ci_0 (by omega) (kk _ _ ci_0 _ hI F00 (by omega) (by have gm := ps10_0; first | (rw [show σ 99 (161 + a2) - 1 = g_orn (σ 99 (161 + a2)) from g_orn_of (by omega)] at gm; exact Or.inr ⟨rfl, g_gm_n gm (by omega), rfl⟩) | (rw [show (-4 : Int) = g_orn (σ 99 (161 + a2)) from g_orn_of (by omega)] at gm; exact Or.inr ⟨rfl, g_gm_n gm (by omega), rfl⟩)))
  · refine h_bipush (pc' := 6) (x := (Int32.ofInt (-4))) rfl rfl cb_m4 ?_
    refine h_goto (pc' := 12) rfl rfl ?_
    refine h_iret rfl rfl (h_Kv ?_)
    refine h_aload_n (pc' := 17) rfl rfl rfl ?_
    refine h_getR (pc' := 20) rfl rfl rfl rfl rfl ?_
    refine h_iload_n (pc' := 21) rfl rfl rfl ?_
    refine h_bipush (pc' := 23) (x := (Int32.ofInt 26)) rfl rfl cb_26 ?_
    refine h_iadd (pc' := 24) (c := 158) rfl rfl ci_132 ci_26 rfl (by omega) (by omega) (fun z27 hz27 => ?_)
    refine h_iload_n (pc' := 25) rfl rfl rfl ?_
    refine h_iadd (pc' := 26) rfl rfl hz27 hx2 rfl (by omega) (by omega) (fun z28 hz28 => ?_)
    refine h_iald (pc' := 27) (v := σ 99 (158 + a2)) rfl rfl rfl hz28 (by omega) (by omega) rfl (fun z29 hz29 => ?_)
    have tz29 := ty_99_6 hI (158 + a2) (by omega)
    refine h_call (sp := false) (pc' := 30) (M := [(0, .ref 98), (1, .int x1), (2, .int (Int32.ofInt (-4))), (3, .int z29)]) rfl rfl rfl rfl rfl rfl rfl rfl ?_
    refine n_may _ hI x1 _ hx1 (by omega) (Int32.ofInt (-4)) _ ci_m4 (by omega) z29 _ hz29 (fun r30 br30 hr30 tr30 ps31_0 => h_Kv ?_)
    refine h_zne (tg := 35) (pc' := 33) rfl rfl rfl hr30 (fun c32 => ?_) (fun c32 => ?_)
    · refine h_aload_n (pc' := 36) rfl rfl rfl ?_
      refine h_getR (pc' := 39) rfl rfl rfl rfl rfl ?_
      refine h_iload_n (pc' := 40) rfl rfl rfl ?_
      refine h_bipush (pc' := 42) (x := (Int32.ofInt 29)) rfl rfl cb_29 ?_
      refine h_iadd (pc' := 43) (c := 161) rfl rfl ci_132 ci_29 rfl (by omega) (by omega) (fun z33 hz33 => ?_)
      refine h_iload_n (pc' := 44) rfl rfl rfl ?_
      refine h_iadd (pc' := 45) rfl rfl hz33 hx2 rfl (by omega) (by omega) (fun z34 hz34 => ?_)
      refine h_iload_n (pc' := 46) rfl rfl rfl ?_
      refine h_iconst (pc' := 47) (x := (Int32.ofInt 1)) rfl rfl rfl ?_
      refine h_iadd (pc' := 48) rfl rfl hx1 ci_1 rfl (by omega) (by omega) (fun z35 hz35 => ?_)
      refine h_iast (pc' := 49) rfl rfl rfl rfl hz34 (by omega) (by omega) hz35 (h_fgt (E := fun s => s 98 13 = σ 98 13 ∧ s = h_up σ 99 (161 + a2) (a1 + 1)) _ (ip_99_7 hI (by omega) (by omega)) (F00.up (k_ipg (p := 3) rfl rfl (by omega))) ⟨rfl, rfl⟩ (fun s36 Is36 Fs36 (es36 : s36 98 13 = σ 98 13 ∧ s36 = h_up σ 99 (161 + a2) (a1 + 1)) => ?_))
      have us36 := es36.2
      refine h_aload_n (pc' := 50) rfl rfl rfl ?_
      refine h_getR (pc' := 53) rfl rfl rfl rfl rfl ?_
      refine h_iload_n (pc' := 54) rfl rfl rfl ?_
      refine h_bipush (pc' := 56) (x := (Int32.ofInt 32)) rfl rfl cb_32 ?_
      refine h_iadd (pc' := 57) (c := 164) rfl rfl ci_132 ci_32 rfl (by omega) (by omega) (fun z37 hz37 => ?_)
      refine h_iload_n (pc' := 58) rfl rfl rfl ?_
      refine h_iadd (pc' := 59) rfl rfl hz37 hx2 rfl (by omega) (by omega) (fun z38 hz38 => ?_)
      refine h_dup2 (pc' := 60) rfl rfl rfl ?_
      refine h_iald (pc' := 61) (v := s36 99 (164 + a2)) rfl rfl rfl hz38 (by omega) (by omega) rfl (fun z39 hz39 => ?_)
      have tz39 := ty_99_8 Is36 (164 + a2) (by omega)
      refine h_aload_n (pc' := 62) rfl rfl rfl ?_
      refine h_getR (pc' := 65) rfl rfl rfl rfl rfl ?_
      refine h_iload_n (pc' := 66) rfl rfl rfl ?_
      refine h_bipush (pc' := 68) (x := (Int32.ofInt 32)) rfl rfl cb_32 ?_
      refine h_iadd (pc' := 69) (c := 164) rfl rfl ci_132 ci_32 rfl (by omega) (by omega) (fun z40 hz40 => ?_)
      refine h_iload_n (pc' := 70) rfl rfl rfl ?_
      refine h_iadd (pc' := 71) rfl rfl hz40 hx2 rfl (by omega) (by omega) (fun z41 hz41 => ?_)
      refine h_iald (pc' := 72) (v := s36 99 (164 + a2)) rfl rfl rfl hz41 (by omega) (by omega) rfl (fun z42 hz42 => ?_)
      have tz42 := ty_99_8 Is36 (164 + a2) (by omega)
      refine h_sipush (pc' := 75) (x := (Int32.ofInt 999)) rfl rfl cs_999 ?_
      refine h_cge (tg := 82) (pc' := 78) rfl rfl rfl hz42 ci_999 (fun c43 => ?_) (fun c43 => ?_)
      · refine h_iconst (pc' := 83) (x := (Int32.ofInt 0)) rfl rfl rfl ?_
        refine h_iadd (pc' := 84) rfl rfl hz39 ci_0 rfl (by omega) (by omega) (fun z44 hz44 => ?_)
        refine h_iast (pc' := 85) rfl rfl rfl rfl hz38 (by omega) (by omega) hz44 (h_fgt (E := fun s => s 98 13 = σ 98 13 ∧ s = h_up s36 99 (164 + a2) ((s36 99 (164 + a2)) + 0)) _ (ip_99_8 Is36 (by omega) (by omega)) (Fs36.up (k_ipg (p := 3) rfl rfl (by omega))) ⟨es36.1, rfl⟩ (fun s45 Is45 Fs45 (es45 : s45 98 13 = σ 98 13 ∧ s45 = h_up s36 99 (164 + a2) ((s36 99 (164 + a2)) + 0)) => ?_))
        clear es36
        have us45 := es45.2
        refine h_iconst (pc' := 86) (x := (Int32.ofInt 1)) rfl rfl rfl ?_
        exact h_zret rfl rfl ci_1 (by omega) (kk _ _ ci_1 _ Is45 Fs45 (by omega) (by have gm := ps31_0; have gx := h_upd us36 (j := 164 + a2) (by omega); first | (rw [show σ 99 (161 + a2) - 1 = g_orn (σ 99 (161 + a2)) from g_orn_of (by omega)] at gm; exact Or.inl ⟨rfl, g_gm_y gm (by omega), (((h_upf us45).trans (g_set_c (h_upf us36)))).trans (g_set_e (g_set_e rfl (by omega) (by omega)) (by omega) (g_w1n_of (by omega)))⟩) | (rw [show (-4 : Int) = g_orn (σ 99 (161 + a2)) from g_orn_of (by omega)] at gm; exact Or.inl ⟨rfl, g_gm_y gm (by omega), (((h_upf us45).trans (g_set_c (h_upf us36)))).trans (g_set_e (g_set_e rfl (by omega) (by omega)) (by omega) (g_w1n_of (by omega)))⟩)))
      · refine h_iconst (pc' := 79) (x := (Int32.ofInt 1)) rfl rfl rfl ?_
        refine h_goto (pc' := 83) rfl rfl ?_
        refine h_iadd (pc' := 84) rfl rfl hz39 ci_1 rfl (by omega) (by omega) (fun z46 hz46 => ?_)
        refine h_iast (pc' := 85) rfl rfl rfl rfl hz38 (by omega) (by omega) hz46 (h_fgt (E := fun s => s 98 13 = σ 98 13 ∧ s = h_up s36 99 (164 + a2) ((s36 99 (164 + a2)) + 1)) _ (ip_99_8 Is36 (by omega) (by omega)) (Fs36.up (k_ipg (p := 3) rfl rfl (by omega))) ⟨es36.1, rfl⟩ (fun s47 Is47 Fs47 (es47 : s47 98 13 = σ 98 13 ∧ s47 = h_up s36 99 (164 + a2) ((s36 99 (164 + a2)) + 1)) => ?_))
        clear es36
        have us47 := es47.2
        refine h_iconst (pc' := 86) (x := (Int32.ofInt 1)) rfl rfl rfl ?_
        exact h_zret rfl rfl ci_1 (by omega) (kk _ _ ci_1 _ Is47 Fs47 (by omega) (by have gm := ps31_0; have gx := h_upd us36 (j := 164 + a2) (by omega); first | (rw [show σ 99 (161 + a2) - 1 = g_orn (σ 99 (161 + a2)) from g_orn_of (by omega)] at gm; exact Or.inl ⟨rfl, g_gm_y gm (by omega), (((h_upf us47).trans (g_set_c (h_upf us36)))).trans (g_set_e (g_set_e rfl (by omega) (by omega)) (by omega) (g_w1n_of (by omega)))⟩) | (rw [show (-4 : Int) = g_orn (σ 99 (161 + a2)) from g_orn_of (by omega)] at gm; exact Or.inl ⟨rfl, g_gm_y gm (by omega), (((h_upf us47).trans (g_set_c (h_upf us36)))).trans (g_set_e (g_set_e rfl (by omega) (by omega)) (by omega) (g_w1n_of (by omega)))⟩)))
    · refine h_iconst (pc' := 34) (x := (Int32.ofInt 0)) rfl rfl rfl ?_
      exact h_zret rfl rfl ci_0 (by omega) (kk _ _ ci_0 _ hI F00 (by omega) (by have gm := ps31_0; first | (rw [show σ 99 (161 + a2) - 1 = g_orn (σ 99 (161 + a2)) from g_orn_of (by omega)] at gm; exact Or.inr ⟨rfl, g_gm_n gm (by omega), rfl⟩) | (rw [show (-4 : Int) = g_orn (σ 99 (161 + a2)) from g_orn_of (by omega)] at gm; exact Or.inr ⟨rfl, g_gm_n gm (by omega), rfl⟩)))
