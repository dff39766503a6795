/-! READING, THE CLASS'S WAY -/
theorem g_fz_of {z ln lane e b : Int} (h : (z = -4 ∧ b = 1) ∨ (¬ z = -4 ∧ ¬ ln = lane ∧ b = 3) ∨ (¬ z = -4 ∧ ln = lane ∧ 0 ≤ e ∧ e + 1 < z ∧ b = 0) ∨ (¬ z = -4 ∧ ln = lane ∧ ¬ (0 ≤ e ∧ e + 1 < z) ∧ b = 2)) : b = g_fz z ln lane e := by
  have y := g_fz_v (z := z) (ln := ln) (lane := lane) (e := e)
  omega
theorem g_wrap {z x y : Int32} {a b : Int} (hz : z = x + y) (hx : x.toInt = a) (hy : y.toInt = b) (b0 : 0 ≤ b) (b4 : b ≤ 41) : z.toInt = a + b ∨ (2147483647 < a + b ∧ z.toInt < 0) := by
  have r := h_rgv hx
  have e : z.toInt = (a + b).bmod (2 ^ 32) := by rw [hz, Int32.toInt_add, hx, hy]
  unfold Int.bmod at e
  dsimp only at e
  omega
theorem g_fz_wr {z ln lane e e' : Int} (hz : z ≤ 40) (h : e' = e ∨ (2147483647 < e ∧ e' < 0)) : g_fz z ln lane e' = g_fz z ln lane e := by
  have y := g_fz_v (z := z) (ln := ln) (lane := lane) (e := e)
  have y' := g_fz_v (z := z) (ln := ln) (lane := lane) (e := e')
  omega
theorem g_ok_y {n m p g : Int} (h : 0 ≤ p ∧ p < n ∧ 0 ≤ g ∧ g < m) : g_ok n m p g = true := decide_eq_true h
theorem g_ok_n {n m p g : Int} (h : ¬ (0 ≤ p ∧ p < n ∧ 0 ≤ g ∧ g < m)) : g_ok n m p g = false := decide_eq_false h
theorem g_ok_e {n m p g : Int} (h : g_ok n m p g = true) : 0 ≤ p ∧ p < n ∧ 0 ≤ g ∧ g < m := of_decide_eq_true h
theorem g_op_t {n n' k k' : Int} {d d' f f' rc rc' h h' : Int → Int} (z : g_op n d f rc k 0 h) (e1 : n = n') (e2 : d = d') (e3 : f = f') (e4 : rc = rc') (e5 : k = k') (e6 : h = h') : g_op n' d' f' rc' k' 0 h' := by
  subst e1; subst e2; subst e3; subst e4; subst e5; subst e6
  exact z
theorem g_DX_f {n m : Int} {par knd a b X X' : Int → Int} (h : g_DX n par knd m a b X) (e : X' = X) : g_DX n par knd m a b X' := e ▸ h
theorem g_FX_t {n n' m m' : Int} {c c' d d' f f' : Int → Int} (h : g_FX n c d m f) (e1 : n = n') (e2 : c = c') (e3 : d = d') (e4 : m = m') (e5 : f' = f) : g_FX n' c' d' m' f' := by
  subst e1; subst e2; subst e3; subst e4; subst e5
  exact h
theorem g_cell {c f : Int → Int} {z e e' b k : Int} (h : (0 ≤ e' ∧ e' < z ∧ b = c (k * 40 + e')) ∨ (¬ (0 ≤ e' ∧ e' < z) ∧ b = -4)) (he : e' = e) (h0 : 0 ≤ e) (h1 : e < z) (hc : c (k * 40 + e) = f (k * 40 + e)) : b = f (k * 40 + e) := by
  subst he
  rcases h with q | q
  · rw [q.2.2, hc]
  · exact absurd ⟨h0, h1⟩ q.1
theorem g_rd_z {z ln lane a w : Int} {ok : Int → Bool} {n : Nat} {f : Int} (h : (w, f) = g_rd (fun i => g_fz z ln lane (a + 2 * i)) ok n 0) (hw : 0 ≤ w) : (w = 0 ∨ (0 ≤ a ∧ a + 2 * w ≤ z)) ∧ w ≤ n ∧ ∀ i, 0 ≤ i → i < w → ok i = true := by
  have y := g_rd_w hw n 0 (by omega) h.symm
  refine ⟨?_, by omega, fun i a b => (y.2.2 i a b).2⟩
  by_cases c : w = 0
  · exact Or.inl c
  · have z0 : g_fz z ln lane (a + 2 * 0) = 0 := (y.2.2 0 (by omega) (by omega)).1
    have z1 : g_fz z ln lane (a + 2 * (w - 1)) = 0 := (y.2.2 (w - 1) (by omega) (by omega)).1
    have v0 := g_fz_v (z := z) (ln := ln) (lane := lane) (e := a + 2 * 0)
    have v1 := g_fz_v (z := z) (ln := ln) (lane := lane) (e := a + 2 * (w - 1))
    exact Or.inr (by omega)
def g_lk' (n ng : Int) (L : Int → Int) : Prop := ∀ g, 0 ≤ g → g < ng → L g = -4 ∨ (0 ≤ L g ∧ L g < n)
theorem g_lk'_s {n ng p g : Int} {L L' : Int → Int} {b c : Prop} (h : g_lk' n ng L) (hp : 0 ≤ p ∧ p < n) (hs : (b ∧ L' = g_set L g p) ∨ (c ∧ L' = L)) : g_lk' n ng L' := fun j j0 j1 => by
  rcases hs with ⟨-, e⟩ | ⟨-, e⟩
  · rw [e]
    by_cases z : j = g
    · rw [g_set_p z]
      exact Or.inr hp
    · rw [g_set_n z]
      exact h j j0 j1
  · rw [e]
    exact h j j0 j1
set_option maxHeartbeats 100000000 in
theorem n_f2 {ns : Nat} (σ : h_S) (hI : h_I σ) (x0 : Int32) (a0 : Int) (hx0 : x0.toInt = a0) (ra0 : 0 ≤ a0 ∧ a0 ≤ 3) (x1 : Int32) (a1 : Int) (hx1 : x1.toInt = a1) (x2 : Int32) (a2 : Int) (hx2 : x2.toInt = a2) {Q : Option Value → h_S → Prop} (kk : ∀ (r : Int32) (b : Int) (hb : r.toInt = b), (0 ≤ b ∧ b ≤ 3) → (b = g_fz (σ 96 a0) (σ 95 a0) a1 a2) → Q (some (.int r)) σ) : h_T g_P (g_Y ns) 69 0 [(0, .ref 93), (1, .int x0), (2, .int x1), (3, .int x2)] [] σ Q := by
  refine h_aload_n (pc' := 1) rfl rfl rfl ?_
  refine h_iload_n (pc' := 2) rfl rfl rfl ?_
  refine h_iload_n (pc' := 3) rfl rfl rfl ?_
  refine h_iload_n (pc' := 4) rfl rfl rfl ?_
  refine h_call (sp := false) (pc' := 7) (M := [(0, .ref 93), (1, .int x0), (2, .int x1), (3, .int x2)]) rfl rfl rfl rfl rfl rfl rfl rfl ?_
  refine h_aload_n (pc' := 1) rfl rfl rfl ?_
  refine h_getR (pc' := 4) rfl rfl rfl rfl rfl ?_
  refine h_iload_n (pc' := 5) rfl rfl rfl ?_
  refine h_iald (pc' := 6) (v := σ 96 a0) rfl rfl rfl hx0 (by omega) (by omega) rfl (fun z1 hz1 => ?_)
  have tz1 := ty_96 hI a0
  refine h_bipush (pc' := 8) (x := (Int32.ofInt (-4))) rfl rfl cb_m4 ?_
  refine h_cne (tg := 13) (pc' := 11) rfl rfl rfl hz1 ci_m4 (fun c2 => ?_) (fun c2 => ?_)
  · refine h_aload_n (pc' := 14) rfl rfl rfl ?_
    refine h_getR (pc' := 17) rfl rfl rfl rfl rfl ?_
    refine h_iload_n (pc' := 18) rfl rfl rfl ?_
    refine h_iald (pc' := 19) (v := σ 95 a0) rfl rfl rfl hx0 (by omega) (by omega) rfl (fun z3 hz3 => ?_)
    have tz3 := ty_95 hI a0
    refine h_iload_n (pc' := 20) rfl rfl rfl ?_
    refine h_ceq (tg := 25) (pc' := 23) rfl rfl rfl hz3 hx1 (fun c4 => ?_) (fun c4 => ?_)
    · refine h_iload_n (pc' := 26) rfl rfl rfl ?_
      refine h_zlt (tg := 43) (pc' := 29) rfl rfl rfl hx2 (fun c5 => ?_) (fun c5 => ?_)
      · refine h_iconst (pc' := 44) (x := (Int32.ofInt 2)) rfl rfl rfl ?_
        refine h_iret rfl rfl (h_Kv ?_)
        refine h_istore (pc' := 9) (M := [(4, .int (Int32.ofInt 2)), (0, .ref 93), (1, .int x0), (2, .int x1), (3, .int x2)]) rfl rfl rfl rfl ?_
        refine h_iload (pc' := 11) rfl rfl rfl ?_
        refine h_zeq (tg := 19) (pc' := 14) rfl rfl rfl ci_2 (fun c6 => absurd c6 (by omega)) (fun c6 => ?_)
        refine h_iload (pc' := 16) rfl rfl rfl ?_
        refine h_goto (pc' := 28) rfl rfl ?_
        exact h_iret rfl rfl (kk _ _ ci_2 (by omega) (g_fz_of (by omega)))
      · refine h_iload_n (pc' := 30) rfl rfl rfl ?_
        refine h_aload_n (pc' := 31) rfl rfl rfl ?_
        refine h_getR (pc' := 34) rfl rfl rfl rfl rfl ?_
        refine h_iload_n (pc' := 35) rfl rfl rfl ?_
        refine h_iald (pc' := 36) (v := σ 96 a0) rfl rfl rfl hx0 (by omega) (by omega) rfl (fun z7 hz7 => ?_)
        have tz7 := ty_96 hI a0
        refine h_cge (tg := 43) (pc' := 39) rfl rfl rfl hx2 hz7 (fun c8 => ?_) (fun c8 => ?_)
        · refine h_iconst (pc' := 44) (x := (Int32.ofInt 2)) rfl rfl rfl ?_
          refine h_iret rfl rfl (h_Kv ?_)
          refine h_istore (pc' := 9) (M := [(4, .int (Int32.ofInt 2)), (0, .ref 93), (1, .int x0), (2, .int x1), (3, .int x2)]) rfl rfl rfl rfl ?_
          refine h_iload (pc' := 11) rfl rfl rfl ?_
          refine h_zeq (tg := 19) (pc' := 14) rfl rfl rfl ci_2 (fun c9 => absurd c9 (by omega)) (fun c9 => ?_)
          refine h_iload (pc' := 16) rfl rfl rfl ?_
          refine h_goto (pc' := 28) rfl rfl ?_
          exact h_iret rfl rfl (kk _ _ ci_2 (by omega) (g_fz_of (by omega)))
        · refine h_iconst (pc' := 40) (x := (Int32.ofInt 0)) rfl rfl rfl ?_
          refine h_goto (pc' := 44) rfl rfl ?_
          refine h_iret rfl rfl (h_Kv ?_)
          refine h_istore (pc' := 9) (M := [(4, .int (Int32.ofInt 0)), (0, .ref 93), (1, .int x0), (2, .int x1), (3, .int x2)]) rfl rfl rfl rfl ?_
          refine h_iload (pc' := 11) rfl rfl rfl ?_
          refine h_zeq (tg := 19) (pc' := 14) rfl rfl rfl ci_0 (fun c10 => ?_) (fun c10 => absurd c10 (by omega))
          refine h_aload_n (pc' := 20) rfl rfl rfl ?_
          refine h_iload_n (pc' := 21) rfl rfl rfl ?_
          refine h_iload_n (pc' := 22) rfl rfl rfl ?_
          refine h_iload_n (pc' := 23) rfl rfl rfl ?_
          refine h_iconst (pc' := 24) (x := (Int32.ofInt 1)) rfl rfl rfl ?_
          refine h_iadd (pc' := 25) rfl rfl hx2 ci_1 rfl (by have g0 := h_rgv hx2; omega) (by have g0 := h_rgv hx2; omega) (fun z11 hz11 => ?_)
          refine h_call (sp := false) (pc' := 28) (M := [(0, .ref 93), (1, .int x0), (2, .int x1), (3, .int z11)]) rfl rfl rfl rfl rfl rfl rfl rfl ?_
          refine h_aload_n (pc' := 1) rfl rfl rfl ?_
          refine h_getR (pc' := 4) rfl rfl rfl rfl rfl ?_
          refine h_iload_n (pc' := 5) rfl rfl rfl ?_
          refine h_iald (pc' := 6) (v := σ 96 a0) rfl rfl rfl hx0 (by omega) (by omega) rfl (fun z12 hz12 => ?_)
          have tz12 := ty_96 hI a0
          refine h_bipush (pc' := 8) (x := (Int32.ofInt (-4))) rfl rfl cb_m4 ?_
          refine h_cne (tg := 13) (pc' := 11) rfl rfl rfl hz12 ci_m4 (fun c13 => ?_) (fun c13 => absurd c13 (by omega))
          refine h_aload_n (pc' := 14) rfl rfl rfl ?_
          refine h_getR (pc' := 17) rfl rfl rfl rfl rfl ?_
          refine h_iload_n (pc' := 18) rfl rfl rfl ?_
          refine h_iald (pc' := 19) (v := σ 95 a0) rfl rfl rfl hx0 (by omega) (by omega) rfl (fun z14 hz14 => ?_)
          have tz14 := ty_95 hI a0
          refine h_iload_n (pc' := 20) rfl rfl rfl ?_
          refine h_ceq (tg := 25) (pc' := 23) rfl rfl rfl hz14 hx1 (fun c15 => ?_) (fun c15 => ?_)
          · refine h_iload_n (pc' := 26) rfl rfl rfl ?_
            refine h_zlt (tg := 43) (pc' := 29) rfl rfl rfl hz11 (fun c16 => absurd c16 (by omega)) (fun c16 => ?_)
            refine h_iload_n (pc' := 30) rfl rfl rfl ?_
            refine h_aload_n (pc' := 31) rfl rfl rfl ?_
            refine h_getR (pc' := 34) rfl rfl rfl rfl rfl ?_
            refine h_iload_n (pc' := 35) rfl rfl rfl ?_
            refine h_iald (pc' := 36) (v := σ 96 a0) rfl rfl rfl hx0 (by omega) (by omega) rfl (fun z17 hz17 => ?_)
            have tz17 := ty_96 hI a0
            refine h_cge (tg := 43) (pc' := 39) rfl rfl rfl hz11 hz17 (fun c18 => ?_) (fun c18 => ?_)
            · refine h_iconst (pc' := 44) (x := (Int32.ofInt 2)) rfl rfl rfl ?_
              refine h_iret rfl rfl (h_Kv ?_)
              exact h_iret rfl rfl (kk _ _ ci_2 (by omega) (g_fz_of (by omega)))
            · refine h_iconst (pc' := 40) (x := (Int32.ofInt 0)) rfl rfl rfl ?_
              refine h_goto (pc' := 44) rfl rfl ?_
              refine h_iret rfl rfl (h_Kv ?_)
              exact h_iret rfl rfl (kk _ _ ci_0 (by omega) (g_fz_of (by omega)))
          · refine h_iconst (pc' := 24) (x := (Int32.ofInt 3)) rfl rfl rfl ?_
            refine h_iret rfl rfl (h_Kv ?_)
            exact h_iret rfl rfl (kk _ _ ci_3 (by omega) (g_fz_of (by omega)))
    · refine h_iconst (pc' := 24) (x := (Int32.ofInt 3)) rfl rfl rfl ?_
      refine h_iret rfl rfl (h_Kv ?_)
      refine h_istore (pc' := 9) (M := [(4, .int (Int32.ofInt 3)), (0, .ref 93), (1, .int x0), (2, .int x1), (3, .int x2)]) rfl rfl rfl rfl ?_
      refine h_iload (pc' := 11) rfl rfl rfl ?_
      refine h_zeq (tg := 19) (pc' := 14) rfl rfl rfl ci_3 (fun c19 => absurd c19 (by omega)) (fun c19 => ?_)
      refine h_iload (pc' := 16) rfl rfl rfl ?_
      refine h_goto (pc' := 28) rfl rfl ?_
      exact h_iret rfl rfl (kk _ _ ci_3 (by omega) (g_fz_of (by omega)))
  · refine h_iconst (pc' := 12) (x := (Int32.ofInt 1)) rfl rfl rfl ?_
    refine h_iret rfl rfl (h_Kv ?_)
    refine h_istore (pc' := 9) (M := [(4, .int (Int32.ofInt 1)), (0, .ref 93), (1, .int x0), (2, .int x1), (3, .int x2)]) rfl rfl rfl rfl ?_
    refine h_iload (pc' := 11) rfl rfl rfl ?_
    refine h_zeq (tg := 19) (pc' := 14) rfl rfl rfl ci_1 (fun c20 => absurd c20 (by omega)) (fun c20 => ?_)
    refine h_iload (pc' := 16) rfl rfl rfl ?_
    refine h_goto (pc' := 28) rfl rfl ?_
    exact h_iret rfl rfl (kk _ _ ci_1 (by omega) (g_fz_of (by omega)))
set_option maxHeartbeats 100000000 in
theorem n_cell {ns : Nat} (σ : h_S) (hI : h_I σ) (x0 : Int32) (a0 : Int) (hx0 : x0.toInt = a0) (ra0 : 0 ≤ a0 ∧ a0 ≤ 3) (x1 : Int32) (a1 : Int) (hx1 : x1.toInt = a1) {Q : Option Value → h_S → Prop} (kk : ∀ (r : Int32) (b : Int) (hb : r.toInt = b), ((0 ≤ a1 ∧ a1 < σ 96 a0 ∧ b = σ 94 (a0 * 40 + a1)) ∨ (¬ (0 ≤ a1 ∧ a1 < σ 96 a0) ∧ b = -4)) → Q (some (.int r)) σ) : h_T g_P (g_Y ns) 71 0 [(0, .ref 93), (1, .int x0), (2, .int x1)] [] σ Q := by
  refine h_iload_n (pc' := 1) rfl rfl rfl ?_
  refine h_zlt (tg := 28) (pc' := 4) rfl rfl rfl hx1 (fun c1 => ?_) (fun c1 => ?_)
  · refine h_bipush (pc' := 30) (x := (Int32.ofInt (-4))) rfl rfl cb_m4 ?_
    exact h_iret rfl rfl (kk _ _ ci_m4 (by first | exact Or.inl ⟨by omega, by omega, rfl⟩ | exact Or.inr ⟨by omega, rfl⟩))
  · refine h_iload_n (pc' := 5) rfl rfl rfl ?_
    refine h_aload_n (pc' := 6) rfl rfl rfl ?_
    refine h_getR (pc' := 9) rfl rfl rfl rfl rfl ?_
    refine h_iload_n (pc' := 10) rfl rfl rfl ?_
    refine h_iald (pc' := 11) (v := σ 96 a0) rfl rfl rfl hx0 (by omega) (by omega) rfl (fun z2 hz2 => ?_)
    have tz2 := ty_96 hI a0
    refine h_cge (tg := 28) (pc' := 14) rfl rfl rfl hx1 hz2 (fun c3 => ?_) (fun c3 => ?_)
    · refine h_bipush (pc' := 30) (x := (Int32.ofInt (-4))) rfl rfl cb_m4 ?_
      exact h_iret rfl rfl (kk _ _ ci_m4 (by first | exact Or.inl ⟨by omega, by omega, rfl⟩ | exact Or.inr ⟨by omega, rfl⟩))
    · refine h_aload_n (pc' := 15) rfl rfl rfl ?_
      refine h_getR (pc' := 18) rfl rfl rfl rfl rfl ?_
      refine h_iload_n (pc' := 19) rfl rfl rfl ?_
      refine h_bipush (pc' := 21) (x := (Int32.ofInt 40)) rfl rfl cb_40 ?_
      refine h_imul (pc' := 22) rfl rfl hx0 ci_40 rfl (by omega) (by omega) (fun z4 hz4 => ?_)
      refine h_iload_n (pc' := 23) rfl rfl rfl ?_
      refine h_iadd (pc' := 24) rfl rfl hz4 hx1 rfl (by have g0 := h_rgv hx1; omega) (by have g0 := h_rgv hx1; omega) (fun z5 hz5 => ?_)
      refine h_iald (pc' := 25) (v := σ 94 ((a0 * 40) + a1)) rfl rfl rfl hz5 (by omega) (by omega) rfl (fun z6 hz6 => ?_)
      have tz6 := ty_94 hI ((a0 * 40) + a1)
      refine h_goto (pc' := 30) rfl rfl ?_
      exact h_iret rfl rfl (kk _ _ hz6 (by first | exact Or.inl ⟨by omega, by omega, rfl⟩ | exact Or.inr ⟨by omega, rfl⟩))
def kf_n_gfs : List Nat := [21503, 22527, 80898, 82943, 83967, 83970, 86015, 87039]
set_option maxHeartbeats 100000000 in
set_option maxHeartbeats 100000000 in
theorem n_gfs_l (ns : Nat) (σ : h_S) (hI : h_I σ) (x0 : Int32) (a0 : Int) (hx0 : x0.toInt = a0) (ra0 : 0 ≤ a0 ∧ a0 ≤ 3) (x1 : Int32) (a1 : Int) (hx1 : x1.toInt = a1) (x2 : Int32) (a2 : Int) (hx2 : x2.toInt = a2) (ra2 : 0 ≤ a2 ∧ a2 ≤ 20) (pr0 : a2 = 0 ∨ (0 ≤ a1 ∧ a1 + 2 * a2 ≤ σ 96 a0)) (pr1 : ∀ i, 0 ≤ i → i < a2 → g_ok (σ 10 8) (σ 10 9) (σ 94 (a0 * 40 + (a1 + 2 * i))) (σ 94 (a0 * 40 + (a1 + 2 * i + 1))) = true) (pr2 : g_lk' (σ 10 8) (σ 10 9) (σ 20)) {Q : Option Value → h_S → Prop} (kk : ∀ (τ : h_S), h_I τ → h_F (k_in kf_n_gfs) τ σ → (g_DX (σ 10 8) (σ 12) (σ 11) (σ 13 2) (σ 14) (σ 15) (τ 80)) → (g_FX (σ 10 8) (σ 17) (σ 18) (σ 16 2) (τ 81)) → ((τ 20, τ 21) = g_gfo (fun p l g => g_yX (σ 10 8) (τ 80) (τ 81) p l (σ 19 g)) (fun i => σ 94 (a0 * 40 + (a1 + 2 * i))) (fun i => σ 94 (a0 * 40 + (a1 + 2 * i + 1))) (σ 20, σ 21) a2.toNat) → Q none τ) : ∀ n : Nat, (∀ (s0 : h_S), h_I s0 → h_F (k_in kf_n_gfs) s0 σ → ∀ (y4 : Int32) (b4 : Int), y4.toInt = b4 → (0 ≤ b4 ∧ b4 ≤ 20) → (g_DX (σ 10 8) (σ 12) (σ 11) (σ 13 2) (σ 14) (σ 15) (s0 80)) → (g_FX (σ 10 8) (σ 17) (σ 18) (σ 16 2) (s0 81)) → (g_op (σ 10 8) (s0 80) (s0 81) (σ 19) (σ 10 9) 0 (s0 83)) → ((s0 20, s0 21) = g_gfo (fun p l g => g_yX (σ 10 8) (s0 80) (s0 81) p l (σ 19 g)) (fun i => σ 94 (a0 * 40 + (a1 + 2 * i))) (fun i => σ 94 (a0 * 40 + (a1 + 2 * i + 1))) (σ 20, σ 21) b4.toNat) → (g_lk' (σ 10 8) (σ 10 9) (s0 20)) → (b4 ≤ a2) → (20 + 1 - b4) * 1000000 + 1000000000 ≤ (n : Int) → h_T g_P (g_Y ns) 140 11 [(0, .ref 9), (1, .int x0), (2, .int x1), (3, .int x2), (4, .int y4)] [] s0 Q) := by
  intro n
  induction n with
  | zero => exact by intro s0 I0 F0_ y4 b4 hy4 ry4 ex0 ex1 ex2 ex3 ex4 ex5 hm; have gh0 := F0_ 10 8 rfl; have gh1 := F0_ 10 9 rfl; have gh2 := tf_10_8 hI; have gh3 := tf_10_9 hI; have gh4 := F0_ 96 a0 rfl; have gh5 := F0_ 94 (a0 * 40 + (a1 + 2 * b4)) rfl; have gh6 := F0_ 94 (a0 * 40 + (a1 + 2 * b4 + 1)) rfl; have gh7 := ty_96 hI a0; exfalso; omega
  | succ n ih =>
    intro s0 I0 F0_ y4 b4 hy4 ry4 ex0 ex1 ex2 ex3 ex4 ex5 hm; have gh0 := F0_ 10 8 rfl; have gh1 := F0_ 10 9 rfl; have gh2 := tf_10_8 hI; have gh3 := tf_10_9 hI; have gh4 := F0_ 96 a0 rfl; have gh5 := F0_ 94 (a0 * 40 + (a1 + 2 * b4)) rfl; have gh6 := F0_ 94 (a0 * 40 + (a1 + 2 * b4 + 1)) rfl; have gh7 := ty_96 hI a0
    refine h_iload (pc' := 13) rfl rfl rfl ?_
    refine h_iload_n (pc' := 14) rfl rfl rfl ?_
    refine h_cge (tg := 90) (pc' := 17) rfl rfl rfl hy4 hx2 (fun c1 => ?_) (fun c1 => ?_)
    · exact h_vret rfl rfl (kk _ I0 F0_ ex0 ex1 (by rw [show b4 = a2 by omega] at ex3; exact ex3))
    · refine h_aload_n (pc' := 18) rfl rfl rfl ?_
      refine h_getR (pc' := 21) rfl rfl rfl rfl rfl ?_
      refine h_iload_n (pc' := 22) rfl rfl rfl ?_
      refine h_iload_n (pc' := 23) rfl rfl rfl ?_
      refine h_iconst (pc' := 24) (x := (Int32.ofInt 2)) rfl rfl rfl ?_
      refine h_iload (pc' := 26) rfl rfl rfl ?_
      refine h_imul (pc' := 27) rfl rfl ci_2 hy4 rfl (by omega) (by omega) (fun z2 hz2 => ?_)
      refine h_iadd (pc' := 28) rfl rfl hx1 hz2 rfl (by have g0 := h_rgv hx1; omega) (by have g0 := h_rgv hx1; omega) (fun z3 hz3 => ?_)
      refine h_call (sp := false) (pc' := 31) (M := [(0, .ref 93), (1, .int x0), (2, .int z3)]) rfl rfl rfl rfl rfl rfl rfl rfl ?_
      refine n_cell _ I0 x0 _ hx0 (by omega) z3 _ hz3 (fun r4 br4 hr4 ps5_0 => h_Kv ?_)
      refine h_istore (pc' := 33) (M := [(5, .int r4), (0, .ref 9), (1, .int x0), (2, .int x1), (3, .int x2), (4, .int y4)]) rfl rfl rfl rfl ?_
      refine h_aload_n (pc' := 34) rfl rfl rfl ?_
      refine h_getR (pc' := 37) rfl rfl rfl rfl rfl ?_
      refine h_iload_n (pc' := 38) rfl rfl rfl ?_
      refine h_iload_n (pc' := 39) rfl rfl rfl ?_
      refine h_iconst (pc' := 40) (x := (Int32.ofInt 2)) rfl rfl rfl ?_
      refine h_iload (pc' := 42) rfl rfl rfl ?_
      refine h_imul (pc' := 43) rfl rfl ci_2 hy4 rfl (by omega) (by omega) (fun z6 hz6 => ?_)
      refine h_iadd (pc' := 44) rfl rfl hx1 hz6 rfl (by have g0 := h_rgv hx1; omega) (by have g0 := h_rgv hx1; omega) (fun z7 hz7 => ?_)
      refine h_iconst (pc' := 45) (x := (Int32.ofInt 1)) rfl rfl rfl ?_
      refine h_iadd (pc' := 46) rfl rfl hz7 ci_1 rfl (by have g0 := h_rgv hz7; omega) (by have g0 := h_rgv hz7; omega) (fun z8 hz8 => ?_)
      refine h_call (sp := false) (pc' := 49) (M := [(0, .ref 93), (1, .int x0), (2, .int z8)]) rfl rfl rfl rfl rfl rfl rfl rfl ?_
      refine n_cell _ I0 x0 _ hx0 (by omega) z8 _ hz8 (fun r9 br9 hr9 ps10_0 => h_Kv ?_)
      refine h_istore (pc' := 51) (M := [(6, .int r9), (5, .int r4), (0, .ref 9), (1, .int x0), (2, .int x1), (3, .int x2), (4, .int y4)]) rfl rfl rfl rfl ?_
      refine h_aload_n (pc' := 52) rfl rfl rfl ?_
      refine h_getR (pc' := 55) rfl rfl rfl rfl rfl ?_
      refine h_iload (pc' := 57) rfl rfl rfl ?_
      refine h_call (sp := false) (pc' := 60) (M := [(0, .ref 10), (1, .int r4)]) rfl rfl rfl rfl rfl rfl rfl rfl ?_
      refine h_iload_n (pc' := 1) rfl rfl rfl ?_
      refine h_zlt (tg := 16) (pc' := 4) rfl rfl rfl hr4 (fun c11 => ?_) (fun c11 => ?_)
      · refine h_iconst (pc' := 17) (x := (Int32.ofInt 0)) rfl rfl rfl ?_
        refine h_zret rfl rfl ci_0 (by omega) (h_Kv ?_)
        refine h_zeq (tg := 84) (pc' := 63) rfl rfl rfl ci_0 (fun c12 => ?_) (fun c12 => absurd c12 (by omega))
        refine h_iinc (pc' := 87) (M := fun z13 => [(4, .int z13), (6, .int r9), (5, .int r4), (0, .ref 9), (1, .int x0), (2, .int x1), (3, .int x2)]) rfl rfl rfl rfl hy4 ci_1 rfl (by omega) (by omega) (fun _ => rfl) (fun z13 hz13 => ?_)
        refine h_goto (pc' := 11) rfl rfl ?_
        exact h_wk [(0, .ref 9), (1, .int x0), (2, .int x1), (3, .int x2), (4, .int z13)] ⟨rfl, rfl, rfl, rfl, rfl, trivial⟩ (ih _ I0 F0_ z13 _ hz13 (by omega) (by exfalso; have gk := g_ok_e (pr1 b4 (by omega) (by omega)); omega) (by exfalso; have gk := g_ok_e (pr1 b4 (by omega) (by omega)); omega) (by exfalso; have gk := g_ok_e (pr1 b4 (by omega) (by omega)); omega) (by exfalso; have gk := g_ok_e (pr1 b4 (by omega) (by omega)); omega) (by exfalso; have gk := g_ok_e (pr1 b4 (by omega) (by omega)); omega) (by omega) (by omega))
      · refine h_iload_n (pc' := 5) rfl rfl rfl ?_
        refine h_aload_n (pc' := 6) rfl rfl rfl ?_
        refine h_getI (pc' := 9) (v := σ 10 8) rfl rfl rfl rfl rfl (F0_ 10 8 rfl) (fun z14 hz14 => ?_)
        have tz14 := tf_10_8 hI
        refine h_cge (tg := 16) (pc' := 12) rfl rfl rfl hr4 hz14 (fun c15 => ?_) (fun c15 => ?_)
        · refine h_iconst (pc' := 17) (x := (Int32.ofInt 0)) rfl rfl rfl ?_
          refine h_zret rfl rfl ci_0 (by omega) (h_Kv ?_)
          refine h_zeq (tg := 84) (pc' := 63) rfl rfl rfl ci_0 (fun c16 => ?_) (fun c16 => absurd c16 (by omega))
          refine h_iinc (pc' := 87) (M := fun z17 => [(4, .int z17), (6, .int r9), (5, .int r4), (0, .ref 9), (1, .int x0), (2, .int x1), (3, .int x2)]) rfl rfl rfl rfl hy4 ci_1 rfl (by omega) (by omega) (fun _ => rfl) (fun z17 hz17 => ?_)
          refine h_goto (pc' := 11) rfl rfl ?_
          exact h_wk [(0, .ref 9), (1, .int x0), (2, .int x1), (3, .int x2), (4, .int z17)] ⟨rfl, rfl, rfl, rfl, rfl, trivial⟩ (ih _ I0 F0_ z17 _ hz17 (by omega) (by exfalso; have gk := g_ok_e (pr1 b4 (by omega) (by omega)); omega) (by exfalso; have gk := g_ok_e (pr1 b4 (by omega) (by omega)); omega) (by exfalso; have gk := g_ok_e (pr1 b4 (by omega) (by omega)); omega) (by exfalso; have gk := g_ok_e (pr1 b4 (by omega) (by omega)); omega) (by exfalso; have gk := g_ok_e (pr1 b4 (by omega) (by omega)); omega) (by omega) (by omega))
        · refine h_iconst (pc' := 13) (x := (Int32.ofInt 1)) rfl rfl rfl ?_
          refine h_goto (pc' := 17) rfl rfl ?_
          refine h_zret rfl rfl ci_1 (by omega) (h_Kv ?_)
          refine h_zeq (tg := 84) (pc' := 63) rfl rfl rfl ci_1 (fun c18 => absurd c18 (by omega)) (fun c18 => ?_)
          refine h_aload_n (pc' := 64) rfl rfl rfl ?_
          refine h_getR (pc' := 67) rfl rfl rfl rfl rfl ?_
          refine h_iload (pc' := 69) rfl rfl rfl ?_
          refine h_call (sp := false) (pc' := 72) (M := [(0, .ref 10), (1, .int r9)]) rfl rfl rfl rfl rfl rfl rfl rfl ?_
          refine h_iload_n (pc' := 1) rfl rfl rfl ?_
          refine h_zlt (tg := 16) (pc' := 4) rfl rfl rfl hr9 (fun c19 => ?_) (fun c19 => ?_)
          · refine h_iconst (pc' := 17) (x := (Int32.ofInt 0)) rfl rfl rfl ?_
            refine h_zret rfl rfl ci_0 (by omega) (h_Kv ?_)
            refine h_zeq (tg := 84) (pc' := 75) rfl rfl rfl ci_0 (fun c20 => ?_) (fun c20 => absurd c20 (by omega))
            refine h_iinc (pc' := 87) (M := fun z21 => [(4, .int z21), (6, .int r9), (5, .int r4), (0, .ref 9), (1, .int x0), (2, .int x1), (3, .int x2)]) rfl rfl rfl rfl hy4 ci_1 rfl (by omega) (by omega) (fun _ => rfl) (fun z21 hz21 => ?_)
            refine h_goto (pc' := 11) rfl rfl ?_
            exact h_wk [(0, .ref 9), (1, .int x0), (2, .int x1), (3, .int x2), (4, .int z21)] ⟨rfl, rfl, rfl, rfl, rfl, trivial⟩ (ih _ I0 F0_ z21 _ hz21 (by omega) (by exfalso; have gk := g_ok_e (pr1 b4 (by omega) (by omega)); omega) (by exfalso; have gk := g_ok_e (pr1 b4 (by omega) (by omega)); omega) (by exfalso; have gk := g_ok_e (pr1 b4 (by omega) (by omega)); omega) (by exfalso; have gk := g_ok_e (pr1 b4 (by omega) (by omega)); omega) (by exfalso; have gk := g_ok_e (pr1 b4 (by omega) (by omega)); omega) (by omega) (by omega))
          · refine h_iload_n (pc' := 5) rfl rfl rfl ?_
            refine h_aload_n (pc' := 6) rfl rfl rfl ?_
            refine h_getI (pc' := 9) (v := σ 10 9) rfl rfl rfl rfl rfl (F0_ 10 9 rfl) (fun z22 hz22 => ?_)
            have tz22 := tf_10_9 hI
            refine h_cge (tg := 16) (pc' := 12) rfl rfl rfl hr9 hz22 (fun c23 => ?_) (fun c23 => ?_)
            · refine h_iconst (pc' := 17) (x := (Int32.ofInt 0)) rfl rfl rfl ?_
              refine h_zret rfl rfl ci_0 (by omega) (h_Kv ?_)
              refine h_zeq (tg := 84) (pc' := 75) rfl rfl rfl ci_0 (fun c24 => ?_) (fun c24 => absurd c24 (by omega))
              refine h_iinc (pc' := 87) (M := fun z25 => [(4, .int z25), (6, .int r9), (5, .int r4), (0, .ref 9), (1, .int x0), (2, .int x1), (3, .int x2)]) rfl rfl rfl rfl hy4 ci_1 rfl (by omega) (by omega) (fun _ => rfl) (fun z25 hz25 => ?_)
              refine h_goto (pc' := 11) rfl rfl ?_
              exact h_wk [(0, .ref 9), (1, .int x0), (2, .int x1), (3, .int x2), (4, .int z25)] ⟨rfl, rfl, rfl, rfl, rfl, trivial⟩ (ih _ I0 F0_ z25 _ hz25 (by omega) (by exfalso; have gk := g_ok_e (pr1 b4 (by omega) (by omega)); omega) (by exfalso; have gk := g_ok_e (pr1 b4 (by omega) (by omega)); omega) (by exfalso; have gk := g_ok_e (pr1 b4 (by omega) (by omega)); omega) (by exfalso; have gk := g_ok_e (pr1 b4 (by omega) (by omega)); omega) (by exfalso; have gk := g_ok_e (pr1 b4 (by omega) (by omega)); omega) (by omega) (by omega))
            · refine h_iconst (pc' := 13) (x := (Int32.ofInt 1)) rfl rfl rfl ?_
              refine h_goto (pc' := 17) rfl rfl ?_
              refine h_zret rfl rfl ci_1 (by omega) (h_Kv ?_)
              refine h_zeq (tg := 84) (pc' := 75) rfl rfl rfl ci_1 (fun c26 => absurd c26 (by omega)) (fun c26 => ?_)
              refine h_aload_n (pc' := 76) rfl rfl rfl ?_
              refine h_iload (pc' := 78) rfl rfl rfl ?_
              refine h_iload (pc' := 80) rfl rfl rfl ?_
              refine h_call (sp := false) (pc' := 83) (M := [(0, .ref 9), (1, .int r4), (2, .int r9)]) rfl rfl rfl rfl rfl rfl rfl rfl ?_
              refine n_good _ I0 r4 _ hr4 (by omega) r9 _ hr9 (by omega) (g_op_t ex2 (F0_ 10 8 rfl).symm rfl rfl (funext (fun j => (F0_ 19 j rfl).symm)) (F0_ 10 9 rfl).symm rfl) (by omega) (by omega) (by have gl := ex4 (br9) (by omega) (by omega); omega) (fun r27 br27 hr27 s28 Is28 Gs28 tr27 ps28_0 => h_Kv ?_)
              have Fs28 := (Gs28.mono (B := kf_n_gfs) rfl).tr F0_
              have es28_0 : s28 98 13 = s0 98 13 := (Gs28 98 13 rfl).trans rfl
              refine h_pop (pc' := 84) rfl rfl rfl ?_
              refine h_iinc (pc' := 87) (M := fun z29 => [(4, .int z29), (6, .int r9), (5, .int r4), (0, .ref 9), (1, .int x0), (2, .int x1), (3, .int x2)]) rfl rfl rfl rfl hy4 ci_1 rfl (by omega) (by omega) (fun _ => rfl) (fun z29 hz29 => ?_)
              refine h_goto (pc' := 11) rfl rfl ?_
              exact h_wk [(0, .ref 9), (1, .int x0), (2, .int x1), (3, .int x2), (4, .int z29)] ⟨rfl, rfl, rfl, rfl, rfl, trivial⟩ (ih _ Is28 Fs28 z29 _ hz29 (by omega) (g_DX_f ex0 (funext (fun j => Gs28 80 j rfl))) (g_FX_t ex1 rfl rfl rfl rfl (funext (fun j => Gs28 81 j rfl))) (g_op_t ex2 rfl (funext (fun j => Gs28 80 j rfl)).symm (funext (fun j => Gs28 81 j rfl)).symm rfl rfl (funext (fun j => Gs28 83 j rfl)).symm) (by rw [show s28 80 = s0 80 from (funext (fun j => Gs28 80 j rfl)), show s28 81 = s0 81 from (funext (fun j => Gs28 81 j rfl))]; exact g_gf_s (p := br4) (g := br9) ex3 (by omega) (by omega) (by omega) (by have q0 := ps28_0; rw [show s0 10 8 = σ 10 8 from F0_ 10 8 rfl, show s0 19 br9 = σ 19 br9 from F0_ 19 _ rfl] at q0; rcases q0 with q | q; exact Or.inl ⟨q.2.1, q.2.2.1, q.2.2.2⟩; exact Or.inr ⟨q.2.1, q.2.2.1, q.2.2.2⟩)) (g_lk'_s ex4 (b := True) (c := True) (p := br4) (g := br9) (by omega) (by rcases ps28_0 with q | q; exact Or.inl ⟨trivial, q.2.2.1⟩; exact Or.inr ⟨trivial, q.2.2.1⟩)) (by omega) (by omega))
set_option maxHeartbeats 100000000 in
set_option maxHeartbeats 100000000 in
theorem n_gfs {ns : Nat} (σ : h_S) (hI : h_I σ) (x0 : Int32) (a0 : Int) (hx0 : x0.toInt = a0) (ra0 : 0 ≤ a0 ∧ a0 ≤ 3) (x1 : Int32) (a1 : Int) (hx1 : x1.toInt = a1) (x2 : Int32) (a2 : Int) (hx2 : x2.toInt = a2) (ra2 : 0 ≤ a2 ∧ a2 ≤ 20) (pr0 : a2 = 0 ∨ (0 ≤ a1 ∧ a1 + 2 * a2 ≤ σ 96 a0)) (pr1 : ∀ i, 0 ≤ i → i < a2 → g_ok (σ 10 8) (σ 10 9) (σ 94 (a0 * 40 + (a1 + 2 * i))) (σ 94 (a0 * 40 + (a1 + 2 * i + 1))) = true) (pr2 : g_lk' (σ 10 8) (σ 10 9) (σ 20)) {Q : Option Value → h_S → Prop} (kk : ∀ (τ : h_S), h_I τ → h_F (k_in kf_n_gfs) τ σ → (g_DX (σ 10 8) (σ 12) (σ 11) (σ 13 2) (σ 14) (σ 15) (τ 80)) → (g_FX (σ 10 8) (σ 17) (σ 18) (σ 16 2) (τ 81)) → ((τ 20, τ 21) = g_gfo (fun p l g => g_yX (σ 10 8) (τ 80) (τ 81) p l (σ 19 g)) (fun i => σ 94 (a0 * 40 + (a1 + 2 * i))) (fun i => σ 94 (a0 * 40 + (a1 + 2 * i + 1))) (σ 20, σ 21) a2.toNat) → Q none τ) : h_T g_P (g_Y ns) 140 0 [(0, .ref 9), (1, .int x0), (2, .int x1), (3, .int x2)] [] σ Q := by
  have F00 : h_F (k_in kf_n_gfs) σ σ := h_F.rf
  refine h_aload_n (pc' := 1) rfl rfl rfl ?_
  refine h_aload_n (pc' := 2) rfl rfl rfl ?_
  refine h_getR (pc' := 5) rfl rfl rfl rfl rfl ?_
  refine h_call (sp := false) (pc' := 8) (M := [(0, .ref 9), (1, .ref 10)]) rfl rfl rfl rfl rfl rfl rfl rfl ?_
  refine h_aload_n (pc' := 1) rfl rfl rfl ?_
  refine h_getR (pc' := 4) rfl rfl rfl rfl rfl ?_
  refine h_aload_n (pc' := 5) rfl rfl rfl ?_
  refine h_call (sp := false) (pc' := 8) (M := [(0, .ref 79), (1, .ref 10)]) rfl rfl rfl rfl rfl rfl rfl rfl ?_
  refine n_measure_10 _ hI  (fun s2 Is2 Gs2 ps2_0 ps2_1 ps2_2 => h_Kn ?_)
  have Fs2 := (Gs2.mono (B := kf_n_gfs) rfl).tr F00
  have es2_0 : s2 98 13 = σ 98 13 := (Gs2 98 13 rfl).trans rfl
  refine h_aload_n (pc' := 9) rfl rfl rfl ?_
  refine h_getR (pc' := 12) rfl rfl rfl rfl rfl ?_
  refine h_aload_n (pc' := 13) rfl rfl rfl ?_
  refine h_aload_n (pc' := 14) rfl rfl rfl ?_
  refine h_getR (pc' := 17) rfl rfl rfl rfl rfl ?_
  refine h_call (sp := false) (pc' := 20) (M := [(0, .ref 82), (1, .ref 10), (2, .ref 79)]) rfl rfl rfl rfl rfl rfl rfl rfl ?_
  refine n_open_10 _ Is2  (fun s4 Is4 Gs4 ps4_0 => h_Kn ?_)
  have Fs4 := (Gs4.mono (B := kf_n_gfs) rfl).tr Fs2
  have es4_0 : s4 98 13 = σ 98 13 := (Gs4 98 13 rfl).trans es2_0
  refine h_vret rfl rfl (h_Kn ?_)
  refine h_iconst (pc' := 9) (x := (Int32.ofInt 0)) rfl rfl rfl ?_
  refine h_istore (pc' := 11) (M := [(4, .int (Int32.ofInt 0)), (0, .ref 9), (1, .int x0), (2, .int x1), (3, .int x2)]) rfl rfl rfl rfl ?_
  exact h_wk [(0, .ref 9), (1, .int x0), (2, .int x1), (3, .int x2), (4, .int (Int32.ofInt 0))] ⟨rfl, rfl, rfl, rfl, rfl, trivial⟩ ((n_gfs_l ns σ hI x0 a0 hx0 ra0 x1 a1 hx1 x2 a2 hx2 ra2 pr0 pr1 pr2 kk 1000000000000) _ Is4 Fs4 (Int32.ofInt 0) _ ci_0 (by omega) (g_DX_f ps2_0 (funext (fun j => Gs4 80 j rfl))) (g_FX_t ps2_2 rfl rfl rfl rfl (funext (fun j => Gs4 81 j rfl))) (g_op_t ps4_0 ps2_1 (funext (fun j => Gs4 80 j rfl)).symm (funext (fun j => Gs4 81 j rfl)).symm (funext (fun j => Gs2 19 j rfl)) (Gs2 10 9 rfl) rfl) (show (_, _) = (_, _) by rw [show s4 20 = σ 20 from ((funext (fun j => Gs4 20 j rfl)).trans (funext (fun j => Gs2 20 j rfl))), show s4 21 = σ 21 from ((funext (fun j => Gs4 21 j rfl)).trans (funext (fun j => Gs2 21 j rfl)))]) (show g_lk' _ _ _ by rw [show s4 20 = σ 20 from ((funext (fun j => Gs4 20 j rfl)).trans (funext (fun j => Gs2 20 j rfl)))]; exact pr2) (by omega) (by omega))
def kf_n_readX : List Nat := [9228, 21503, 22527, 80898, 82943, 83967, 83970, 86015, 87039]
set_option maxHeartbeats 100000000 in
set_option maxHeartbeats 100000000 in
theorem n_readX_l (ns : Nat) (σ : h_S) (hI : h_I σ) (x0 : Int32) (a0 : Int) (hx0 : x0.toInt = a0) (x1 : Int32) (a1 : Int) (hx1 : x1.toInt = a1) (x2 : Int32) (a2 : Int) (hx2 : x2.toInt = a2) (x3 : Int32) (a3 : Int) (hx3 : x3.toInt = a3) (pr0 : g_lk' (σ 10 8) (σ 10 9) (σ 20)) {Q : Option Value → h_S → Prop} (kk : ∀ (r : Int32) (b : Int) (hb : r.toInt = b) (τ : h_S), h_I τ → h_F (k_in kf_n_readX) τ σ → ((-39) ≤ b ∧ b ≤ 20) → (((¬ (0 ≤ a0 ∧ a0 ≤ 3 ∧ 0 ≤ a1 ∧ a1 ≤ 2 ∧ 0 ≤ a3 ∧ a3 ≤ 20)) ∧ b = -1 ∧ τ = σ) ∨ ((0 ≤ a0 ∧ a0 ≤ 3 ∧ 0 ≤ a1 ∧ a1 ≤ 2 ∧ 0 ≤ a3 ∧ a3 ≤ 20) ∧ ∃ w f, (w, f) = g_rd (fun i => g_fz (σ 96 a0) (σ 95 a0) a1 (a2 + 2 * i)) (fun i => g_ok (σ 10 8) (σ 10 9) (σ 94 (a0 * 40 + (a2 + 2 * i))) (σ 94 (a0 * 40 + (a2 + 2 * i + 1)))) a3.toNat 0 ∧ b = w ∧ ((w < 0 ∧ τ = σ) ∨ (0 ≤ w ∧ τ 9 12 = f ∧ g_DX (σ 10 8) (σ 12) (σ 11) (σ 13 2) (σ 14) (σ 15) (τ 80) ∧ g_FX (σ 10 8) (σ 17) (σ 18) (σ 16 2) (τ 81) ∧ (τ 20, τ 21) = g_gfo (fun p l g => g_yX (σ 10 8) (τ 80) (τ 81) p l (σ 19 g)) (fun i => σ 94 (a0 * 40 + (a2 + 2 * i))) (fun i => σ 94 (a0 * 40 + (a2 + 2 * i + 1))) (σ 20, σ 21) w.toNat)))) → Q (some (.int r)) τ) : ∀ n : Nat, (∀ (s0 : h_S), h_I s0 → h_F (k_in kf_n_readX) s0 σ → ∀ (y5 : Int32) (b5 : Int), y5.toInt = b5 → (0 ≤ b5 ∧ b5 ≤ 21) → ∀ (y6 : Int32) (b6 : Int), y6.toInt = b6 → (0 ≤ b6 ∧ b6 ≤ 3) → ∀ (y7 : Int32) (b7 : Int), y7.toInt = b7 → (0 ≤ b7 ∧ b7 ≤ 20) → (0 ≤ a0 ∧ a0 ≤ 3 ∧ 0 ≤ a1 ∧ a1 ≤ 2 ∧ 0 ≤ a3 ∧ a3 ≤ 20) → ((b6 = 0 ∧ b5 = b7 ∧ g_rd (fun i => g_fz (σ 96 a0) (σ 95 a0) a1 (a2 + 2 * i)) (fun i => g_ok (σ 10 8) (σ 10 9) (σ 94 (a0 * 40 + (a2 + 2 * i))) (σ 94 (a0 * 40 + (a2 + 2 * i + 1)))) (a3 - b7).toNat b7 = g_rd (fun i => g_fz (σ 96 a0) (σ 95 a0) a1 (a2 + 2 * i)) (fun i => g_ok (σ 10 8) (σ 10 9) (σ 94 (a0 * 40 + (a2 + 2 * i))) (σ 94 (a0 * 40 + (a2 + 2 * i + 1)))) a3.toNat 0) ∨ (¬ b6 = 0 ∧ (b5, b6) = g_rd (fun i => g_fz (σ 96 a0) (σ 95 a0) a1 (a2 + 2 * i)) (fun i => g_ok (σ 10 8) (σ 10 9) (σ 94 (a0 * 40 + (a2 + 2 * i))) (σ 94 (a0 * 40 + (a2 + 2 * i + 1)))) a3.toNat 0)) → (s0 = σ) → (0 ≤ b5 ∧ b5 ≤ b7) → (20 + 1 - b7) * 1000000 + 1000000000 ≤ (n : Int) → h_T g_P (g_Y ns) 120 37 [(0, .ref 9), (1, .int x0), (2, .int x1), (3, .int x2), (4, .int x3), (5, .int y5), (6, .int y6), (7, .int y7)] [] s0 Q) := by
  intro n
  induction n with
  | zero => exact by intro s0 I0 F0_ y5 b5 hy5 ry5 y6 b6 hy6 ry6 y7 b7 hy7 ry7 ex0 ex1 ex2 ex3 hm; have gh0 := ty_96 hI a0; have gh1 := F0_ 96 a0 rfl; exfalso; omega
  | succ n ih =>
    intro s0 I0 F0_ y5 b5 hy5 ry5 y6 b6 hy6 ry6 y7 b7 hy7 ry7 ex0 ex1 ex2 ex3 hm; have gh0 := ty_96 hI a0; have gh1 := F0_ 96 a0 rfl
    refine h_iload (pc' := 39) rfl rfl rfl ?_
    refine h_iload (pc' := 41) rfl rfl rfl ?_
    refine h_cge (tg := 132) (pc' := 44) rfl rfl rfl hy7 hx3 (fun c1 => ?_) (fun c1 => ?_)
    · refine h_aload_n (pc' := 133) rfl rfl rfl ?_
      refine h_iload (pc' := 135) rfl rfl rfl ?_
      refine h_put (pc' := 138) rfl rfl rfl rfl rfl rfl hy6 rfl (h_fgt (E := fun s => s 98 13 = s0 98 13 ∧ s = h_up s0 9 12 b6) _ (if_9_12 I0 (h_rgv hy6)) (F0_.up rfl) ⟨rfl, rfl⟩ (fun s2 Is2 Fs2 (es2 : s2 98 13 = s0 98 13 ∧ s2 = h_up s0 9 12 b6) => ?_))
      have us2 := es2.2
      refine h_aload_n (pc' := 139) rfl rfl rfl ?_
      refine h_iload_n (pc' := 140) rfl rfl rfl ?_
      refine h_iload_n (pc' := 141) rfl rfl rfl ?_
      refine h_iload (pc' := 143) rfl rfl rfl ?_
      refine h_call (sp := false) (pc' := 146) (M := [(0, .ref 9), (1, .int x0), (2, .int x2), (3, .int y5)]) rfl rfl rfl rfl rfl rfl rfl rfl ?_
      refine n_gfs _ Is2 x0 _ hx0 (by omega) x2 _ hx2 y5 _ hy5 (by omega) (by have gz := g_rd_z (show (b5, b6) = g_rd (fun i => g_fz (σ 96 a0) (σ 95 a0) a1 (a2 + 2 * i)) (fun i => g_ok (σ 10 8) (σ 10 9) (σ 94 (a0 * 40 + (a2 + 2 * i))) (σ 94 (a0 * 40 + (a2 + 2 * i + 1)))) a3.toNat 0 by rcases ex1 with q | q; (rw [q.2.1, q.1]; exact g_rd_0 q.2.2 (by omega)); exact q.2) (by omega); have g9 : s2 96 a0 = σ 96 a0 := ((h_upo us2 rfl a0).trans (F0_ 96 a0 rfl)); have gy := gz.1; omega) (by have gz := g_rd_z (show (b5, b6) = g_rd (fun i => g_fz (σ 96 a0) (σ 95 a0) a1 (a2 + 2 * i)) (fun i => g_ok (σ 10 8) (σ 10 9) (σ 94 (a0 * 40 + (a2 + 2 * i))) (σ 94 (a0 * 40 + (a2 + 2 * i + 1)))) a3.toNat 0 by rcases ex1 with q | q; (rw [q.2.1, q.1]; exact g_rd_0 q.2.2 (by omega)); exact q.2) (by omega); intro i i0 i1; have gy := gz.2.2 i i0 i1; rw [show s2 10 8 = σ 10 8 from ((h_upo us2 rfl 8).trans (F0_ 10 8 rfl)), show s2 10 9 = σ 10 9 from ((h_upo us2 rfl 9).trans (F0_ 10 9 rfl)), show s2 94 = σ 94 from ((h_upg us2 rfl).trans (funext (fun j => F0_ 94 j rfl)))]; exact gy) (by rw [show s2 10 8 = σ 10 8 from ((h_upo us2 rfl 8).trans (F0_ 10 8 rfl)), show s2 10 9 = σ 10 9 from ((h_upo us2 rfl 9).trans (F0_ 10 9 rfl)), show s2 20 = σ 20 from (h_upg us2 rfl).trans (by rw [ex2])]; exact pr0) (fun s4 Is4 Gs4 ps4_0 ps4_1 ps4_2 => h_Kn ?_)
      have Fs4 := (Gs4.mono (B := kf_n_readX) rfl).tr Fs2
      have es4_0 : s4 98 13 = s0 98 13 := (Gs4 98 13 rfl).trans es2.1
      refine h_iload (pc' := 148) rfl rfl rfl ?_
      exact h_iret rfl rfl (kk _ _ hy5 _ Is4 Fs4 (by omega) (Or.inr ⟨ex0, b5, b6, (show (b5, b6) = g_rd (fun i => g_fz (σ 96 a0) (σ 95 a0) a1 (a2 + 2 * i)) (fun i => g_ok (σ 10 8) (σ 10 9) (σ 94 (a0 * 40 + (a2 + 2 * i))) (σ 94 (a0 * 40 + (a2 + 2 * i + 1)))) a3.toNat 0 by rcases ex1 with q | q; (rw [q.2.1, q.1]; exact g_rd_0 q.2.2 (by omega)); exact q.2), rfl, Or.inr ⟨by omega, (Gs4 9 12 rfl).trans (h_upv us2), (g_DX_t ps4_0 ((h_upo us2 rfl 8).trans (F0_ 10 8 rfl)) ((h_upg us2 rfl).trans (funext (fun j => F0_ 12 j rfl))) ((h_upg us2 rfl).trans (funext (fun j => F0_ 11 j rfl))) ((h_upo us2 rfl 2).trans (F0_ 13 2 rfl)) ((h_upg us2 rfl).trans (funext (fun j => F0_ 14 j rfl))) ((h_upg us2 rfl).trans (funext (fun j => F0_ 15 j rfl)))), (g_FX_t ps4_1 ((h_upo us2 rfl 8).trans (F0_ 10 8 rfl)) ((h_upg us2 rfl).trans (funext (fun j => F0_ 17 j rfl))) ((h_upg us2 rfl).trans (funext (fun j => F0_ 18 j rfl))) ((h_upo us2 rfl 2).trans (F0_ 16 2 rfl)) rfl), (by have qf := ps4_2; rw [show s2 10 8 = σ 10 8 from ((h_upo us2 rfl 8).trans (F0_ 10 8 rfl)), show s2 19 = σ 19 from ((h_upg us2 rfl).trans (funext (fun j => F0_ 19 j rfl))), show s2 94 = σ 94 from ((h_upg us2 rfl).trans (funext (fun j => F0_ 94 j rfl))), show s2 20 = σ 20 from (h_upg us2 rfl).trans (by rw [ex2]), show s2 21 = σ 21 from (h_upg us2 rfl).trans (by rw [ex2])] at qf; exact qf)⟩⟩))
    · refine h_iload (pc' := 46) rfl rfl rfl ?_
      refine h_zne (tg := 132) (pc' := 49) rfl rfl rfl hy6 (fun c5 => ?_) (fun c5 => ?_)
      · refine h_aload_n (pc' := 133) rfl rfl rfl ?_
        refine h_iload (pc' := 135) rfl rfl rfl ?_
        refine h_put (pc' := 138) rfl rfl rfl rfl rfl rfl hy6 rfl (h_fgt (E := fun s => s 98 13 = s0 98 13 ∧ s = h_up s0 9 12 b6) _ (if_9_12 I0 (h_rgv hy6)) (F0_.up rfl) ⟨rfl, rfl⟩ (fun s6 Is6 Fs6 (es6 : s6 98 13 = s0 98 13 ∧ s6 = h_up s0 9 12 b6) => ?_))
        have us6 := es6.2
        refine h_aload_n (pc' := 139) rfl rfl rfl ?_
        refine h_iload_n (pc' := 140) rfl rfl rfl ?_
        refine h_iload_n (pc' := 141) rfl rfl rfl ?_
        refine h_iload (pc' := 143) rfl rfl rfl ?_
        refine h_call (sp := false) (pc' := 146) (M := [(0, .ref 9), (1, .int x0), (2, .int x2), (3, .int y5)]) rfl rfl rfl rfl rfl rfl rfl rfl ?_
        refine n_gfs _ Is6 x0 _ hx0 (by omega) x2 _ hx2 y5 _ hy5 (by omega) (by have gz := g_rd_z (show (b5, b6) = g_rd (fun i => g_fz (σ 96 a0) (σ 95 a0) a1 (a2 + 2 * i)) (fun i => g_ok (σ 10 8) (σ 10 9) (σ 94 (a0 * 40 + (a2 + 2 * i))) (σ 94 (a0 * 40 + (a2 + 2 * i + 1)))) a3.toNat 0 by rcases ex1 with q | q; (rw [q.2.1, q.1]; exact g_rd_0 q.2.2 (by omega)); exact q.2) (by omega); have g9 : s6 96 a0 = σ 96 a0 := ((h_upo us6 rfl a0).trans (F0_ 96 a0 rfl)); have gy := gz.1; omega) (by have gz := g_rd_z (show (b5, b6) = g_rd (fun i => g_fz (σ 96 a0) (σ 95 a0) a1 (a2 + 2 * i)) (fun i => g_ok (σ 10 8) (σ 10 9) (σ 94 (a0 * 40 + (a2 + 2 * i))) (σ 94 (a0 * 40 + (a2 + 2 * i + 1)))) a3.toNat 0 by rcases ex1 with q | q; (rw [q.2.1, q.1]; exact g_rd_0 q.2.2 (by omega)); exact q.2) (by omega); intro i i0 i1; have gy := gz.2.2 i i0 i1; rw [show s6 10 8 = σ 10 8 from ((h_upo us6 rfl 8).trans (F0_ 10 8 rfl)), show s6 10 9 = σ 10 9 from ((h_upo us6 rfl 9).trans (F0_ 10 9 rfl)), show s6 94 = σ 94 from ((h_upg us6 rfl).trans (funext (fun j => F0_ 94 j rfl)))]; exact gy) (by rw [show s6 10 8 = σ 10 8 from ((h_upo us6 rfl 8).trans (F0_ 10 8 rfl)), show s6 10 9 = σ 10 9 from ((h_upo us6 rfl 9).trans (F0_ 10 9 rfl)), show s6 20 = σ 20 from (h_upg us6 rfl).trans (by rw [ex2])]; exact pr0) (fun s8 Is8 Gs8 ps8_0 ps8_1 ps8_2 => h_Kn ?_)
        have Fs8 := (Gs8.mono (B := kf_n_readX) rfl).tr Fs6
        have es8_0 : s8 98 13 = s0 98 13 := (Gs8 98 13 rfl).trans es6.1
        refine h_iload (pc' := 148) rfl rfl rfl ?_
        exact h_iret rfl rfl (kk _ _ hy5 _ Is8 Fs8 (by omega) (Or.inr ⟨ex0, b5, b6, (show (b5, b6) = g_rd (fun i => g_fz (σ 96 a0) (σ 95 a0) a1 (a2 + 2 * i)) (fun i => g_ok (σ 10 8) (σ 10 9) (σ 94 (a0 * 40 + (a2 + 2 * i))) (σ 94 (a0 * 40 + (a2 + 2 * i + 1)))) a3.toNat 0 by rcases ex1 with q | q; (rw [q.2.1, q.1]; exact g_rd_0 q.2.2 (by omega)); exact q.2), rfl, Or.inr ⟨by omega, (Gs8 9 12 rfl).trans (h_upv us6), (g_DX_t ps8_0 ((h_upo us6 rfl 8).trans (F0_ 10 8 rfl)) ((h_upg us6 rfl).trans (funext (fun j => F0_ 12 j rfl))) ((h_upg us6 rfl).trans (funext (fun j => F0_ 11 j rfl))) ((h_upo us6 rfl 2).trans (F0_ 13 2 rfl)) ((h_upg us6 rfl).trans (funext (fun j => F0_ 14 j rfl))) ((h_upg us6 rfl).trans (funext (fun j => F0_ 15 j rfl)))), (g_FX_t ps8_1 ((h_upo us6 rfl 8).trans (F0_ 10 8 rfl)) ((h_upg us6 rfl).trans (funext (fun j => F0_ 17 j rfl))) ((h_upg us6 rfl).trans (funext (fun j => F0_ 18 j rfl))) ((h_upo us6 rfl 2).trans (F0_ 16 2 rfl)) rfl), (by have qf := ps8_2; rw [show s6 10 8 = σ 10 8 from ((h_upo us6 rfl 8).trans (F0_ 10 8 rfl)), show s6 19 = σ 19 from ((h_upg us6 rfl).trans (funext (fun j => F0_ 19 j rfl))), show s6 94 = σ 94 from ((h_upg us6 rfl).trans (funext (fun j => F0_ 94 j rfl))), show s6 20 = σ 20 from (h_upg us6 rfl).trans (by rw [ex2]), show s6 21 = σ 21 from (h_upg us6 rfl).trans (by rw [ex2])] at qf; exact qf)⟩⟩))
      · refine h_iload_n (pc' := 50) rfl rfl rfl ?_
        refine h_iconst (pc' := 51) (x := (Int32.ofInt 2)) rfl rfl rfl ?_
        refine h_iload (pc' := 53) rfl rfl rfl ?_
        refine h_imul (pc' := 54) rfl rfl ci_2 hy7 rfl (by omega) (by omega) (fun z9 hz9 => ?_)
        refine h_iaddA (pc' := 55) rfl rfl (fun z10 hz10 => ?_)
        refine h_istore (pc' := 57) (M := [(8, .int z10), (0, .ref 9), (1, .int x0), (2, .int x1), (3, .int x2), (4, .int x3), (5, .int y5), (6, .int y6), (7, .int y7)]) rfl rfl rfl rfl ?_
        refine h_aload_n (pc' := 58) rfl rfl rfl ?_
        refine h_getR (pc' := 61) rfl rfl rfl rfl rfl ?_
        refine h_iload_n (pc' := 62) rfl rfl rfl ?_
        refine h_iload_n (pc' := 63) rfl rfl rfl ?_
        refine h_iload (pc' := 65) rfl rfl rfl ?_
        refine h_call (sp := false) (pc' := 68) (M := [(0, .ref 93), (1, .int x0), (2, .int x1), (3, .int z10)]) rfl rfl rfl rfl rfl rfl rfl rfl ?_
        refine n_f2 _ I0 x0 _ hx0 (by omega) x1 _ hx1 z10 _ rfl (fun r11 br11 hr11 tr11 ps12_0 => h_Kv ?_)
        refine h_istore (pc' := 70) (M := [(6, .int r11), (8, .int z10), (0, .ref 9), (1, .int x0), (2, .int x1), (3, .int x2), (4, .int x3), (5, .int y5), (7, .int y7)]) rfl rfl rfl rfl ?_
        refine h_iload (pc' := 72) rfl rfl rfl ?_
        refine h_zne (tg := 126) (pc' := 75) rfl rfl rfl hr11 (fun c13 => ?_) (fun c13 => ?_)
        · refine h_iinc (pc' := 129) (M := fun z14 => [(7, .int z14), (6, .int r11), (8, .int z10), (0, .ref 9), (1, .int x0), (2, .int x1), (3, .int x2), (4, .int x3), (5, .int y5)]) rfl rfl rfl rfl hy7 ci_1 rfl (by omega) (by omega) (fun _ => rfl) (fun z14 hz14 => ?_)
          refine h_goto (pc' := 37) rfl rfl ?_
          exact h_wk [(0, .ref 9), (1, .int x0), (2, .int x1), (3, .int x2), (4, .int x3), (5, .int y5), (6, .int r11), (7, .int z14)] ⟨rfl, rfl, rfl, rfl, rfl, rfl, rfl, rfl, trivial⟩ (ih _ I0 F0_ y5 _ hy5 (by omega) r11 _ hr11 (by omega) z14 _ hz14 (by omega) (by omega) (by have gw := g_wrap hz10 hx2 hz9 (by omega) (by omega); have gf : br11 = g_fz (σ 96 a0) (σ 95 a0) a1 (a2 + 2 * b7) := (by rw [← F0_ 96 a0 rfl, ← F0_ 95 a0 rfl]; exact ps12_0.trans (g_fz_wr (by omega) gw)); have gv := g_fz_v (z := σ 96 a0) (ln := σ 95 a0) (lane := a1) (e := a2 + 2 * b7); rcases ex1 with q | q; (refine Or.inr ⟨by omega, ?_⟩; rw [q.2.1]; exact g_rd_f (m' := (a3 - (b7 + 1)).toNat) q.2.2 (by omega) gf (by omega)); (exfalso; omega)) ex2 (by omega) (by omega))
        · refine h_aload_n (pc' := 76) rfl rfl rfl ?_
          refine h_getR (pc' := 79) rfl rfl rfl rfl rfl ?_
          refine h_aload_n (pc' := 80) rfl rfl rfl ?_
          refine h_getR (pc' := 83) rfl rfl rfl rfl rfl ?_
          refine h_iload_n (pc' := 84) rfl rfl rfl ?_
          refine h_iload (pc' := 86) rfl rfl rfl ?_
          refine h_call (sp := false) (pc' := 89) (M := [(0, .ref 93), (1, .int x0), (2, .int z10)]) rfl rfl rfl rfl rfl rfl rfl rfl ?_
          refine n_cell _ I0 x0 _ hx0 (by omega) z10 _ rfl (fun r15 br15 hr15 ps16_0 => h_Kv ?_)
          refine h_call (sp := false) (pc' := 92) (M := [(0, .ref 10), (1, .int r15)]) rfl rfl rfl rfl rfl rfl rfl rfl ?_
          refine h_iload_n (pc' := 1) rfl rfl rfl ?_
          refine h_zlt (tg := 16) (pc' := 4) rfl rfl rfl hr15 (fun c17 => ?_) (fun c17 => ?_)
          · refine h_iconst (pc' := 17) (x := (Int32.ofInt 0)) rfl rfl rfl ?_
            refine h_zret rfl rfl ci_0 (by omega) (h_Kv ?_)
            refine h_zeq (tg := 117) (pc' := 95) rfl rfl rfl ci_0 (fun c18 => ?_) (fun c18 => absurd c18 (by omega))
            refine h_bipush (pc' := 119) (x := (Int32.ofInt (-20))) rfl rfl cb_m20 ?_
            refine h_iload (pc' := 121) rfl rfl rfl ?_
            refine h_isub (pc' := 122) rfl rfl ci_m20 hy7 rfl (by omega) (by omega) (fun z19 hz19 => ?_)
            exact h_iret rfl rfl (kk _ _ hz19 _ I0 F0_ (by omega) (by have gw := g_wrap hz10 hx2 hz9 (by omega) (by omega); have gf : br11 = g_fz (σ 96 a0) (σ 95 a0) a1 (a2 + 2 * b7) := (by rw [← F0_ 96 a0 rfl, ← F0_ 95 a0 rfl]; exact ps12_0.trans (g_fz_wr (by omega) gw)); have gv := g_fz_v (z := σ 96 a0) (ln := σ 95 a0) (lane := a1) (e := a2 + 2 * b7); have gp := g_cell (e := a2 + 2 * b7) (f := σ 94) ps16_0 (by omega) (by omega) (by omega) (F0_ 94 _ rfl); rcases ex1 with q | q; exact Or.inr ⟨ex0, -20 - b7, 0, g_rd_b (m' := (a3 - (b7 + 1)).toNat) q.2.2 (by omega) (gf.symm.trans (by omega)) (g_ok_n (by omega)), by omega, Or.inl ⟨by omega, ex2⟩⟩; (exfalso; omega)))
          · refine h_iload_n (pc' := 5) rfl rfl rfl ?_
            refine h_aload_n (pc' := 6) rfl rfl rfl ?_
            refine h_getI (pc' := 9) (v := σ 10 8) rfl rfl rfl rfl rfl (F0_ 10 8 rfl) (fun z20 hz20 => ?_)
            have tz20 := tf_10_8 hI
            refine h_cge (tg := 16) (pc' := 12) rfl rfl rfl hr15 hz20 (fun c21 => ?_) (fun c21 => ?_)
            · refine h_iconst (pc' := 17) (x := (Int32.ofInt 0)) rfl rfl rfl ?_
              refine h_zret rfl rfl ci_0 (by omega) (h_Kv ?_)
              refine h_zeq (tg := 117) (pc' := 95) rfl rfl rfl ci_0 (fun c22 => ?_) (fun c22 => absurd c22 (by omega))
              refine h_bipush (pc' := 119) (x := (Int32.ofInt (-20))) rfl rfl cb_m20 ?_
              refine h_iload (pc' := 121) rfl rfl rfl ?_
              refine h_isub (pc' := 122) rfl rfl ci_m20 hy7 rfl (by omega) (by omega) (fun z23 hz23 => ?_)
              exact h_iret rfl rfl (kk _ _ hz23 _ I0 F0_ (by omega) (by have gw := g_wrap hz10 hx2 hz9 (by omega) (by omega); have gf : br11 = g_fz (σ 96 a0) (σ 95 a0) a1 (a2 + 2 * b7) := (by rw [← F0_ 96 a0 rfl, ← F0_ 95 a0 rfl]; exact ps12_0.trans (g_fz_wr (by omega) gw)); have gv := g_fz_v (z := σ 96 a0) (ln := σ 95 a0) (lane := a1) (e := a2 + 2 * b7); have gp := g_cell (e := a2 + 2 * b7) (f := σ 94) ps16_0 (by omega) (by omega) (by omega) (F0_ 94 _ rfl); rcases ex1 with q | q; exact Or.inr ⟨ex0, -20 - b7, 0, g_rd_b (m' := (a3 - (b7 + 1)).toNat) q.2.2 (by omega) (gf.symm.trans (by omega)) (g_ok_n (by omega)), by omega, Or.inl ⟨by omega, ex2⟩⟩; (exfalso; omega)))
            · refine h_iconst (pc' := 13) (x := (Int32.ofInt 1)) rfl rfl rfl ?_
              refine h_goto (pc' := 17) rfl rfl ?_
              refine h_zret rfl rfl ci_1 (by omega) (h_Kv ?_)
              refine h_zeq (tg := 117) (pc' := 95) rfl rfl rfl ci_1 (fun c24 => absurd c24 (by omega)) (fun c24 => ?_)
              refine h_aload_n (pc' := 96) rfl rfl rfl ?_
              refine h_getR (pc' := 99) rfl rfl rfl rfl rfl ?_
              refine h_aload_n (pc' := 100) rfl rfl rfl ?_
              refine h_getR (pc' := 103) rfl rfl rfl rfl rfl ?_
              refine h_iload_n (pc' := 104) rfl rfl rfl ?_
              refine h_iload (pc' := 106) rfl rfl rfl ?_
              refine h_iconst (pc' := 107) (x := (Int32.ofInt 1)) rfl rfl rfl ?_
              refine h_iaddA (pc' := 108) rfl rfl (fun z25 hz25 => ?_)
              refine h_call (sp := false) (pc' := 111) (M := [(0, .ref 93), (1, .int x0), (2, .int z25)]) rfl rfl rfl rfl rfl rfl rfl rfl ?_
              refine n_cell _ I0 x0 _ hx0 (by omega) z25 _ rfl (fun r26 br26 hr26 ps27_0 => h_Kv ?_)
              refine h_call (sp := false) (pc' := 114) (M := [(0, .ref 10), (1, .int r26)]) rfl rfl rfl rfl rfl rfl rfl rfl ?_
              refine h_iload_n (pc' := 1) rfl rfl rfl ?_
              refine h_zlt (tg := 16) (pc' := 4) rfl rfl rfl hr26 (fun c28 => ?_) (fun c28 => ?_)
              · refine h_iconst (pc' := 17) (x := (Int32.ofInt 0)) rfl rfl rfl ?_
                refine h_zret rfl rfl ci_0 (by omega) (h_Kv ?_)
                refine h_zne (tg := 123) (pc' := 117) rfl rfl rfl ci_0 (fun c29 => absurd c29 (by omega)) (fun c29 => ?_)
                refine h_bipush (pc' := 119) (x := (Int32.ofInt (-20))) rfl rfl cb_m20 ?_
                refine h_iload (pc' := 121) rfl rfl rfl ?_
                refine h_isub (pc' := 122) rfl rfl ci_m20 hy7 rfl (by omega) (by omega) (fun z30 hz30 => ?_)
                exact h_iret rfl rfl (kk _ _ hz30 _ I0 F0_ (by omega) (by have gw := g_wrap hz10 hx2 hz9 (by omega) (by omega); have gf : br11 = g_fz (σ 96 a0) (σ 95 a0) a1 (a2 + 2 * b7) := (by rw [← F0_ 96 a0 rfl, ← F0_ 95 a0 rfl]; exact ps12_0.trans (g_fz_wr (by omega) gw)); have gv := g_fz_v (z := σ 96 a0) (ln := σ 95 a0) (lane := a1) (e := a2 + 2 * b7); have gp := g_cell (e := a2 + 2 * b7) (f := σ 94) ps16_0 (by omega) (by omega) (by omega) (F0_ 94 _ rfl); have gx := g_wrap hz25 rfl ci_1 (by omega) (by omega); have gg := g_cell (e := a2 + 2 * b7 + 1) (f := σ 94) ps27_0 (by omega) (by omega) (by omega) (F0_ 94 _ rfl); rcases ex1 with q | q; exact Or.inr ⟨ex0, -20 - b7, 0, g_rd_b (m' := (a3 - (b7 + 1)).toNat) q.2.2 (by omega) (gf.symm.trans (by omega)) (g_ok_n (by omega)), by omega, Or.inl ⟨by omega, ex2⟩⟩; (exfalso; omega)))
              · refine h_iload_n (pc' := 5) rfl rfl rfl ?_
                refine h_aload_n (pc' := 6) rfl rfl rfl ?_
                refine h_getI (pc' := 9) (v := σ 10 9) rfl rfl rfl rfl rfl (F0_ 10 9 rfl) (fun z31 hz31 => ?_)
                have tz31 := tf_10_9 hI
                refine h_cge (tg := 16) (pc' := 12) rfl rfl rfl hr26 hz31 (fun c32 => ?_) (fun c32 => ?_)
                · refine h_iconst (pc' := 17) (x := (Int32.ofInt 0)) rfl rfl rfl ?_
                  refine h_zret rfl rfl ci_0 (by omega) (h_Kv ?_)
                  refine h_zne (tg := 123) (pc' := 117) rfl rfl rfl ci_0 (fun c33 => absurd c33 (by omega)) (fun c33 => ?_)
                  refine h_bipush (pc' := 119) (x := (Int32.ofInt (-20))) rfl rfl cb_m20 ?_
                  refine h_iload (pc' := 121) rfl rfl rfl ?_
                  refine h_isub (pc' := 122) rfl rfl ci_m20 hy7 rfl (by omega) (by omega) (fun z34 hz34 => ?_)
                  exact h_iret rfl rfl (kk _ _ hz34 _ I0 F0_ (by omega) (by have gw := g_wrap hz10 hx2 hz9 (by omega) (by omega); have gf : br11 = g_fz (σ 96 a0) (σ 95 a0) a1 (a2 + 2 * b7) := (by rw [← F0_ 96 a0 rfl, ← F0_ 95 a0 rfl]; exact ps12_0.trans (g_fz_wr (by omega) gw)); have gv := g_fz_v (z := σ 96 a0) (ln := σ 95 a0) (lane := a1) (e := a2 + 2 * b7); have gp := g_cell (e := a2 + 2 * b7) (f := σ 94) ps16_0 (by omega) (by omega) (by omega) (F0_ 94 _ rfl); have gx := g_wrap hz25 rfl ci_1 (by omega) (by omega); have gg := g_cell (e := a2 + 2 * b7 + 1) (f := σ 94) ps27_0 (by omega) (by omega) (by omega) (F0_ 94 _ rfl); rcases ex1 with q | q; exact Or.inr ⟨ex0, -20 - b7, 0, g_rd_b (m' := (a3 - (b7 + 1)).toNat) q.2.2 (by omega) (gf.symm.trans (by omega)) (g_ok_n (by omega)), by omega, Or.inl ⟨by omega, ex2⟩⟩; (exfalso; omega)))
                · refine h_iconst (pc' := 13) (x := (Int32.ofInt 1)) rfl rfl rfl ?_
                  refine h_goto (pc' := 17) rfl rfl ?_
                  refine h_zret rfl rfl ci_1 (by omega) (h_Kv ?_)
                  refine h_zne (tg := 123) (pc' := 117) rfl rfl rfl ci_1 (fun c35 => ?_) (fun c35 => absurd c35 (by omega))
                  refine h_iinc (pc' := 126) (M := fun z36 => [(5, .int z36), (6, .int r11), (8, .int z10), (0, .ref 9), (1, .int x0), (2, .int x1), (3, .int x2), (4, .int x3), (7, .int y7)]) rfl rfl rfl rfl hy5 ci_1 rfl (by omega) (by omega) (fun _ => rfl) (fun z36 hz36 => ?_)
                  refine h_iinc (pc' := 129) (M := fun z37 => [(7, .int z37), (5, .int z36), (6, .int r11), (8, .int z10), (0, .ref 9), (1, .int x0), (2, .int x1), (3, .int x2), (4, .int x3)]) rfl rfl rfl rfl hy7 ci_1 rfl (by omega) (by omega) (fun _ => rfl) (fun z37 hz37 => ?_)
                  refine h_goto (pc' := 37) rfl rfl ?_
                  exact h_wk [(0, .ref 9), (1, .int x0), (2, .int x1), (3, .int x2), (4, .int x3), (5, .int z36), (6, .int r11), (7, .int z37)] ⟨rfl, rfl, rfl, rfl, rfl, rfl, rfl, rfl, trivial⟩ (ih _ I0 F0_ z36 _ hz36 (by omega) r11 _ hr11 (by omega) z37 _ hz37 (by omega) (by omega) (by have gw := g_wrap hz10 hx2 hz9 (by omega) (by omega); have gf : br11 = g_fz (σ 96 a0) (σ 95 a0) a1 (a2 + 2 * b7) := (by rw [← F0_ 96 a0 rfl, ← F0_ 95 a0 rfl]; exact ps12_0.trans (g_fz_wr (by omega) gw)); have gv := g_fz_v (z := σ 96 a0) (ln := σ 95 a0) (lane := a1) (e := a2 + 2 * b7); have gp := g_cell (e := a2 + 2 * b7) (f := σ 94) ps16_0 (by omega) (by omega) (by omega) (F0_ 94 _ rfl); have gx := g_wrap hz25 rfl ci_1 (by omega) (by omega); have gg := g_cell (e := a2 + 2 * b7 + 1) (f := σ 94) ps27_0 (by omega) (by omega) (by omega) (F0_ 94 _ rfl); rcases ex1 with q | q; (refine Or.inl ⟨by omega, by omega, ?_⟩; exact g_rd_s (m' := (a3 - (b7 + 1)).toNat) q.2.2 (by omega) (gf.symm.trans (by omega)) (g_ok_y (by omega))); (exfalso; omega)) ex2 (by omega) (by omega))
set_option maxHeartbeats 100000000 in
set_option maxHeartbeats 100000000 in
theorem n_readX {ns : Nat} (σ : h_S) (hI : h_I σ) (x0 : Int32) (a0 : Int) (hx0 : x0.toInt = a0) (x1 : Int32) (a1 : Int) (hx1 : x1.toInt = a1) (x2 : Int32) (a2 : Int) (hx2 : x2.toInt = a2) (x3 : Int32) (a3 : Int) (hx3 : x3.toInt = a3) (pr0 : g_lk' (σ 10 8) (σ 10 9) (σ 20)) {Q : Option Value → h_S → Prop} (kk : ∀ (r : Int32) (b : Int) (hb : r.toInt = b) (τ : h_S), h_I τ → h_F (k_in kf_n_readX) τ σ → ((-39) ≤ b ∧ b ≤ 20) → (((¬ (0 ≤ a0 ∧ a0 ≤ 3 ∧ 0 ≤ a1 ∧ a1 ≤ 2 ∧ 0 ≤ a3 ∧ a3 ≤ 20)) ∧ b = -1 ∧ τ = σ) ∨ ((0 ≤ a0 ∧ a0 ≤ 3 ∧ 0 ≤ a1 ∧ a1 ≤ 2 ∧ 0 ≤ a3 ∧ a3 ≤ 20) ∧ ∃ w f, (w, f) = g_rd (fun i => g_fz (σ 96 a0) (σ 95 a0) a1 (a2 + 2 * i)) (fun i => g_ok (σ 10 8) (σ 10 9) (σ 94 (a0 * 40 + (a2 + 2 * i))) (σ 94 (a0 * 40 + (a2 + 2 * i + 1)))) a3.toNat 0 ∧ b = w ∧ ((w < 0 ∧ τ = σ) ∨ (0 ≤ w ∧ τ 9 12 = f ∧ g_DX (σ 10 8) (σ 12) (σ 11) (σ 13 2) (σ 14) (σ 15) (τ 80) ∧ g_FX (σ 10 8) (σ 17) (σ 18) (σ 16 2) (τ 81) ∧ (τ 20, τ 21) = g_gfo (fun p l g => g_yX (σ 10 8) (τ 80) (τ 81) p l (σ 19 g)) (fun i => σ 94 (a0 * 40 + (a2 + 2 * i))) (fun i => σ 94 (a0 * 40 + (a2 + 2 * i + 1))) (σ 20, σ 21) w.toNat)))) → Q (some (.int r)) τ) : h_T g_P (g_Y ns) 120 0 [(0, .ref 9), (1, .int x0), (2, .int x1), (3, .int x2), (4, .int x3)] [] σ Q := by
  have F00 : h_F (k_in kf_n_readX) σ σ := h_F.rf
  refine h_iload_n (pc' := 1) rfl rfl rfl ?_
  refine h_calls (pc' := 4) (M := [(0, .int x0)]) rfl rfl rfl rfl rfl rfl ?_
  refine h_iload_n (pc' := 1) rfl rfl rfl ?_
  refine h_zlt (tg := 13) (pc' := 4) rfl rfl rfl hx0 (fun c1 => ?_) (fun c1 => ?_)
  · refine h_iconst (pc' := 14) (x := (Int32.ofInt 0)) rfl rfl rfl ?_
    refine h_zret rfl rfl ci_0 (by omega) (h_Kv ?_)
    refine h_zeq (tg := 26) (pc' := 7) rfl rfl rfl ci_0 (fun c2 => ?_) (fun c2 => absurd c2 (by omega))
    refine h_iconst (pc' := 27) (x := (Int32.ofInt (-1))) rfl rfl rfl ?_
    exact h_iret rfl rfl (kk _ _ ci_m1 _ hI F00 (by omega) (Or.inl ⟨by omega, rfl, rfl⟩))
  · refine h_iload_n (pc' := 5) rfl rfl rfl ?_
    refine h_iconst (pc' := 6) (x := (Int32.ofInt 4)) rfl rfl rfl ?_
    refine h_cge (tg := 13) (pc' := 9) rfl rfl rfl hx0 ci_4 (fun c3 => ?_) (fun c3 => ?_)
    · refine h_iconst (pc' := 14) (x := (Int32.ofInt 0)) rfl rfl rfl ?_
      refine h_zret rfl rfl ci_0 (by omega) (h_Kv ?_)
      refine h_zeq (tg := 26) (pc' := 7) rfl rfl rfl ci_0 (fun c4 => ?_) (fun c4 => absurd c4 (by omega))
      refine h_iconst (pc' := 27) (x := (Int32.ofInt (-1))) rfl rfl rfl ?_
      exact h_iret rfl rfl (kk _ _ ci_m1 _ hI F00 (by omega) (Or.inl ⟨by omega, rfl, rfl⟩))
    · refine h_iconst (pc' := 10) (x := (Int32.ofInt 1)) rfl rfl rfl ?_
      refine h_goto (pc' := 14) rfl rfl ?_
      refine h_zret rfl rfl ci_1 (by omega) (h_Kv ?_)
      refine h_zeq (tg := 26) (pc' := 7) rfl rfl rfl ci_1 (fun c5 => absurd c5 (by omega)) (fun c5 => ?_)
      refine h_iload_n (pc' := 8) rfl rfl rfl ?_
      refine h_calls (pc' := 11) (M := [(0, .int x1)]) rfl rfl rfl rfl rfl rfl ?_
      refine h_iload_n (pc' := 1) rfl rfl rfl ?_
      refine h_zlt (tg := 13) (pc' := 4) rfl rfl rfl hx1 (fun c6 => ?_) (fun c6 => ?_)
      · refine h_iconst (pc' := 14) (x := (Int32.ofInt 0)) rfl rfl rfl ?_
        refine h_zret rfl rfl ci_0 (by omega) (h_Kv ?_)
        refine h_zeq (tg := 26) (pc' := 14) rfl rfl rfl ci_0 (fun c7 => ?_) (fun c7 => absurd c7 (by omega))
        refine h_iconst (pc' := 27) (x := (Int32.ofInt (-1))) rfl rfl rfl ?_
        exact h_iret rfl rfl (kk _ _ ci_m1 _ hI F00 (by omega) (Or.inl ⟨by omega, rfl, rfl⟩))
      · refine h_iload_n (pc' := 5) rfl rfl rfl ?_
        refine h_iconst (pc' := 6) (x := (Int32.ofInt 2)) rfl rfl rfl ?_
        refine h_cgt (tg := 13) (pc' := 9) rfl rfl rfl hx1 ci_2 (fun c8 => ?_) (fun c8 => ?_)
        · refine h_iconst (pc' := 14) (x := (Int32.ofInt 0)) rfl rfl rfl ?_
          refine h_zret rfl rfl ci_0 (by omega) (h_Kv ?_)
          refine h_zeq (tg := 26) (pc' := 14) rfl rfl rfl ci_0 (fun c9 => ?_) (fun c9 => absurd c9 (by omega))
          refine h_iconst (pc' := 27) (x := (Int32.ofInt (-1))) rfl rfl rfl ?_
          exact h_iret rfl rfl (kk _ _ ci_m1 _ hI F00 (by omega) (Or.inl ⟨by omega, rfl, rfl⟩))
        · refine h_iconst (pc' := 10) (x := (Int32.ofInt 1)) rfl rfl rfl ?_
          refine h_goto (pc' := 14) rfl rfl ?_
          refine h_zret rfl rfl ci_1 (by omega) (h_Kv ?_)
          refine h_zeq (tg := 26) (pc' := 14) rfl rfl rfl ci_1 (fun c10 => absurd c10 (by omega)) (fun c10 => ?_)
          refine h_iload (pc' := 16) rfl rfl rfl ?_
          refine h_zlt (tg := 26) (pc' := 19) rfl rfl rfl hx3 (fun c11 => ?_) (fun c11 => ?_)
          · refine h_iconst (pc' := 27) (x := (Int32.ofInt (-1))) rfl rfl rfl ?_
            exact h_iret rfl rfl (kk _ _ ci_m1 _ hI F00 (by omega) (Or.inl ⟨by omega, rfl, rfl⟩))
          · refine h_iload (pc' := 21) rfl rfl rfl ?_
            refine h_bipush (pc' := 23) (x := (Int32.ofInt 20)) rfl rfl cb_20 ?_
            refine h_cle (tg := 28) (pc' := 26) rfl rfl rfl hx3 ci_20 (fun c12 => ?_) (fun c12 => ?_)
            · refine h_iconst (pc' := 29) (x := (Int32.ofInt 0)) rfl rfl rfl ?_
              refine h_istore (pc' := 31) (M := [(5, .int (Int32.ofInt 0)), (0, .ref 9), (1, .int x0), (2, .int x1), (3, .int x2), (4, .int x3)]) rfl rfl rfl rfl ?_
              refine h_iconst (pc' := 32) (x := (Int32.ofInt 0)) rfl rfl rfl ?_
              refine h_istore (pc' := 34) (M := [(6, .int (Int32.ofInt 0)), (5, .int (Int32.ofInt 0)), (0, .ref 9), (1, .int x0), (2, .int x1), (3, .int x2), (4, .int x3)]) rfl rfl rfl rfl ?_
              refine h_iconst (pc' := 35) (x := (Int32.ofInt 0)) rfl rfl rfl ?_
              refine h_istore (pc' := 37) (M := [(7, .int (Int32.ofInt 0)), (6, .int (Int32.ofInt 0)), (5, .int (Int32.ofInt 0)), (0, .ref 9), (1, .int x0), (2, .int x1), (3, .int x2), (4, .int x3)]) rfl rfl rfl rfl ?_
              exact h_wk [(0, .ref 9), (1, .int x0), (2, .int x1), (3, .int x2), (4, .int x3), (5, .int (Int32.ofInt 0)), (6, .int (Int32.ofInt 0)), (7, .int (Int32.ofInt 0))] ⟨rfl, rfl, rfl, rfl, rfl, rfl, rfl, rfl, trivial⟩ ((n_readX_l ns σ hI x0 a0 hx0 x1 a1 hx1 x2 a2 hx2 x3 a3 hx3 pr0 kk 1000000000000) _ hI F00 (Int32.ofInt 0) _ ci_0 (by omega) (Int32.ofInt 0) _ ci_0 (by omega) (Int32.ofInt 0) _ ci_0 (by omega) (by omega) (Or.inl ⟨rfl, rfl, by rw [Int.sub_zero]⟩) rfl (by omega) (by omega))
            · refine h_iconst (pc' := 27) (x := (Int32.ofInt (-1))) rfl rfl rfl ?_
              exact h_iret rfl rfl (kk _ _ ci_m1 _ hI F00 (by omega) (Or.inl ⟨by omega, rfl, rfl⟩))
