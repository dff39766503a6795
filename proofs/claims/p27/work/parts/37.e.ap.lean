/-! THE FARTHEST TWO -/
def g_a2 (D : Int → Int → Int) (L n p : Int) : Nat → Int → Int × Int → Int × Int
  | 0, _, x => x
  | m + 1, q, x => if q < n then g_a2 D L n p m (q + 1) (if D p q < L ∧ x.1 < D p q then (D p q, 10 * p + q) else x) else x
def g_a1 (D : Int → Int → Int) (L n : Int) : Nat → Int → Int × Int → Int × Int
  | 0, _, x => x
  | m + 1, p, x => if p < n then g_a1 D L n m (p + 1) (g_a2 D L n p (6 - (p + 1)).toNat (p + 1) x) else x
def g_b1 (D : Int → Int → Int) (L n p : Int) (x : Int × Int) : Int × Int := g_a1 D L n (6 - p).toNat p x
def g_b2 (D : Int → Int → Int) (L n p q : Int) (x : Int × Int) : Int × Int := g_b1 D L n (p + 1) (g_a2 D L n p (6 - q).toNat q x)
def g_aw (w : Int) (x : Int × Int) : Int := if w = 0 ∨ x.2 = -4 then x.2 else x.1
section AP
variable {D : Int → Int → Int} {L n p q : Int} {x x' T : Int × Int}
theorem g_b1_y (h : g_b1 D L n p x = T) (p0 : 0 ≤ p) (p1 : p < n) (p2 : n ≤ 6) : g_b2 D L n p (p + 1) x = T := by
  rw [← h]
  unfold g_b2 g_b1
  rw [show (6 - p).toNat = (6 - (p + 1)).toNat + 1 by omega]
  show _ = (if p < n then g_a1 D L n (6 - (p + 1)).toNat (p + 1) (g_a2 D L n p (6 - (p + 1)).toNat (p + 1) x) else x)
  rw [if_pos p1]
theorem g_b1_o (h : g_b1 D L n p x = T) (p1 : n ≤ p) : x = T := by
  rw [← h]
  unfold g_b1
  cases (6 - p).toNat with
  | zero => rfl
  | succ k =>
    show x = (if p < n then _ else x)
    rw [if_neg (by omega)]
theorem g_b2_y (h : g_b2 D L n p q x = T) (q1 : q < n) (q2 : n ≤ 6) {v : Int} (hv : v = D p q) (c1 : v < L) (c2 : x.1 < v) (hx : x' = (v, 10 * p + q)) : g_b2 D L n p (q + 1) x' = T := by
  subst hx; subst hv
  rw [← h]
  unfold g_b2
  rw [show (6 - q).toNat = (6 - (q + 1)).toNat + 1 by omega]
  show _ = g_b1 D L n (p + 1) (if q < n then g_a2 D L n p (6 - (q + 1)).toNat (q + 1) (if D p q < L ∧ x.1 < D p q then (D p q, 10 * p + q) else x) else x)
  rw [if_pos q1, if_pos ⟨c1, c2⟩]
theorem g_b2_n (h : g_b2 D L n p q x = T) (q1 : q < n) (q2 : n ≤ 6) {v : Int} (hv : v = D p q) (c : L ≤ v ∨ v ≤ x.1) (hx : x' = x) : g_b2 D L n p (q + 1) x' = T := by
  subst hx; subst hv
  rw [← h]
  unfold g_b2
  rw [show (6 - q).toNat = (6 - (q + 1)).toNat + 1 by omega]
  show _ = g_b1 D L n (p + 1) (if q < n then g_a2 D L n p (6 - (q + 1)).toNat (q + 1) (if D p q < L ∧ x'.1 < D p q then (D p q, 10 * p + q) else x') else x')
  rw [if_pos q1, if_neg (by omega)]
theorem g_b2_o (h : g_b2 D L n p q x = T) (q1 : n ≤ q) : g_b1 D L n (p + 1) x = T := by
  rw [← h]
  unfold g_b2
  have e : g_a2 D L n p (6 - q).toNat q x = x := by
    cases (6 - q).toNat with
    | zero => rfl
    | succ k =>
      show (if q < n then _ else x) = x
      rw [if_neg (by omega)]
  rw [e]
end AP
theorem g_aw_of {w a b v : Int} {T : Int × Int} (h : (a, b) = T) (hv : ((w = 0 ∨ b = -4) ∧ v = b) ∨ (¬ w = 0 ∧ ¬ b = -4 ∧ v = a)) : v = g_aw w T := by
  rw [← h]
  unfold g_aw
  rcases hv with c | c
  · rw [if_pos c.1]
    exact c.2
  · rw [if_neg (fun z => z.elim c.1 c.2.1)]
    exact c.2.2
theorem g_a2_eq {D E : Int → Int → Int} {L M n p : Int} (h : ∀ q, p < q → q < n → (D p q = E p q ∧ D p q < L ∧ E p q < M) ∨ (L ≤ D p q ∧ M ≤ E p q)) : ∀ (m : Nat) (q : Int) (x : Int × Int), p < q → g_a2 D L n p m q x = g_a2 E M n p m q x
  | 0, _, _, _ => rfl
  | m + 1, q, x, hq => by
    show (if q < n then g_a2 D L n p m (q + 1) (if D p q < L ∧ x.1 < D p q then (D p q, 10 * p + q) else x) else x) = (if q < n then g_a2 E M n p m (q + 1) (if E p q < M ∧ x.1 < E p q then (E p q, 10 * p + q) else x) else x)
    by_cases z : q < n
    · rw [if_pos z, if_pos z]
      have y := h q hq z
      have e : (if D p q < L ∧ x.1 < D p q then (D p q, 10 * p + q) else x) = (if E p q < M ∧ x.1 < E p q then (E p q, 10 * p + q) else x) := by
        rcases y with y | y
        · rw [y.1]
          by_cases u : x.1 < E p q
          · rw [if_pos ⟨by omega, u⟩, if_pos ⟨by omega, u⟩]
          · rw [if_neg (fun z => u z.2), if_neg (fun z => u z.2)]
        · rw [if_neg (fun z => by omega), if_neg (fun z => by omega)]
      rw [e]
      exact g_a2_eq h m _ _ (by omega)
    · rw [if_neg z, if_neg z]
theorem g_a1_eq {D E : Int → Int → Int} {L M n : Int} (h : ∀ p q, 0 ≤ p → p < q → q < n → (D p q = E p q ∧ D p q < L ∧ E p q < M) ∨ (L ≤ D p q ∧ M ≤ E p q)) : ∀ (m : Nat) (p : Int) (x : Int × Int), 0 ≤ p → g_a1 D L n m p x = g_a1 E M n m p x
  | 0, _, _, _ => rfl
  | m + 1, p, x, hp => by
    show (if p < n then g_a1 D L n m (p + 1) (g_a2 D L n p (6 - (p + 1)).toNat (p + 1) x) else x) = (if p < n then g_a1 E M n m (p + 1) (g_a2 E M n p (6 - (p + 1)).toNat (p + 1) x) else x)
    by_cases z : p < n
    · rw [if_pos z, if_pos z, g_a2_eq (fun q a b => h p q hp a b) _ _ _ (by omega)]
      exact g_a1_eq h m _ _ (by omega)
    · rw [if_neg z, if_neg z]
theorem g_ph.ap {n n1 n2 w : Int} {F G : Int → Int} (h : g_ph n 256 F G) (h1 : n1 = n) (h2 : n2 = n) : g_aw w (g_b1 (fun p q => F (p * 6 + q)) 1000 n1 0 (-1, -4)) = g_aw w (g_b1 (fun p q => G (6 * p + q)) 1000000 n2 0 (-1, -4)) := by
  rw [h1, h2]
  unfold g_b1
  rw [g_a1_eq (D := fun p q => F (p * 6 + q)) (E := fun p q => G (6 * p + q)) (L := 1000) (M := 1000000) (fun p q a b c => ?_) _ 0 _ (by omega)]
  have y := h p q a (by omega) (by omega) c
  omega
theorem c_R.apx {fl : Bool} {s : h_S} {F G S t : Int → Int} {n m w w' x y : Int} (h : c_R fl s) (hI : h_I s) (ht : g_ti s) (hX : ((w < 0 ∨ 1 < w) ∧ x = -1) ∨ (0 ≤ w ∧ w ≤ 1 ∧ g_DX (s 10 8) (s 12) (s 11) (s 13 2) (s 14) (s 15) F ∧ x = g_aw w (g_b1 (fun p q => F (p * 6 + q)) 1000 (s 10 8) 0 (-1, -4)))) (hM : ((w' < 0 ∨ 1 < w') ∧ y = -1) ∨ (0 ≤ w' ∧ w' ≤ 1 ∧ g_DM n m S t G ∧ y = g_aw w' (g_b1 (fun p q => G (6 * p + q)) 1000000 n 0 (-1, -4)))) (ew : w' = w) (e1 : n = s 98 1) (e2 : m = s 99 18) (e3 : S = s 99) (e4 : t = s 100) : x = y := by
  subst ew
  rcases hX with q | q
  · rcases hM with u | u
    · rw [q.2, u.2]
    · exfalso
      omega
  · rcases hM with u | u
    · exfalso
      omega
    · obtain ⟨-, -, q1, q2⟩ := q
      obtain ⟨-, -, u1, u2⟩ := u
      have gd := h.deg hI ht q1 (g_DM_t u1 e1 e2 e3 e4)
      rw [q2, u2]
      exact gd.ap rfl (e1.trans h.sz.1.symm)
def kf_n_apX : List Nat := [80898, 82943, 83967]
set_option maxHeartbeats 100000000 in
set_option maxHeartbeats 100000000 in
theorem n_apX_l (ns : Nat) (σ : h_S) (hI : h_I σ) (x0 : Int32) (a0 : Int) (hx0 : x0.toInt = a0) {Q : Option Value → h_S → Prop} (kk : ∀ (r : Int32) (b : Int) (hb : r.toInt = b) (τ : h_S), h_I τ → h_F (k_in kf_n_apX) τ σ → ((-4) ≤ b ∧ b ≤ 999) → (((a0 < 0 ∨ 1 < a0) ∧ b = -1) ∨ (0 ≤ a0 ∧ a0 ≤ 1 ∧ g_DX (σ 10 8) (σ 12) (σ 11) (σ 13 2) (σ 14) (σ 15) (τ 80) ∧ b = g_aw a0 (g_b1 (fun p q => τ 80 (p * 6 + q)) 1000 (σ 10 8) 0 (-1, -4)))) → Q (some (.int r)) τ) : ∀ n : Nat, (∀ (s0 : h_S), h_I s0 → h_F (k_in kf_n_apX) s0 σ → ∀ (y2 : Int32) (b2 : Int), y2.toInt = b2 → ((-1) ≤ b2 ∧ b2 ≤ 999) → ∀ (y3 : Int32) (b3 : Int), y3.toInt = b3 → ((-4) ≤ b3 ∧ b3 ≤ 63) → ∀ (y4 : Int32) (b4 : Int), y4.toInt = b4 → (0 ≤ b4 ∧ b4 ≤ 6) → (0 ≤ a0 ∧ a0 ≤ 1) → (g_DX (σ 10 8) (σ 12) (σ 11) (σ 13 2) (σ 14) (σ 15) (s0 80)) → (g_b1 (fun p q => s0 80 (p * 6 + q)) 1000 (σ 10 8) b4 (b2, b3) = g_b1 (fun p q => s0 80 (p * 6 + q)) 1000 (σ 10 8) 0 (-1, -4)) → (6 + 1 - b4) * 1000000 + 1000000000 ≤ (n : Int) → h_T g_P (g_Y ns) 107 28 [(0, .ref 9), (1, .int x0), (2, .int y2), (3, .int y3), (4, .int y4)] [] s0 Q) ∧ (∀ (s0 : h_S), h_I s0 → h_F (k_in kf_n_apX) s0 σ → ∀ (y2 : Int32) (b2 : Int), y2.toInt = b2 → ((-1) ≤ b2 ∧ b2 ≤ 999) → ∀ (y3 : Int32) (b3 : Int), y3.toInt = b3 → ((-4) ≤ b3 ∧ b3 ≤ 63) → ∀ (y4 : Int32) (b4 : Int), y4.toInt = b4 → (0 ≤ b4 ∧ b4 ≤ 5) → ∀ (y5 : Int32) (b5 : Int), y5.toInt = b5 → (1 ≤ b5 ∧ b5 ≤ 6) → (0 ≤ a0 ∧ a0 ≤ 1) → (g_DX (σ 10 8) (σ 12) (σ 11) (σ 13 2) (σ 14) (σ 15) (s0 80)) → (b4 < σ 10 8) → (g_b2 (fun p q => s0 80 (p * 6 + q)) 1000 (σ 10 8) b4 b5 (b2, b3) = g_b1 (fun p q => s0 80 (p * 6 + q)) 1000 (σ 10 8) 0 (-1, -4)) → ((6 + 1 - b4) - 1) * 1000000 + 1000000000 + (6 + 1 - b5) * 1000 + 100000 ≤ (n : Int) → h_T g_P (g_Y ns) 107 46 [(0, .ref 9), (1, .int x0), (2, .int y2), (3, .int y3), (4, .int y4), (5, .int y5)] [] s0 Q) := by
  intro n
  induction n with
  | zero => exact ⟨by intro s0 I0 F0_ y2 b2 hy2 ry2 y3 b3 hy3 ry3 y4 b4 hy4 ry4 ex0 ex1 ex2 hm; have gh0 := F0_ 10 8 rfl; have gh1 := tf_10_8 hI; exfalso; omega, by intro s0 I0 F0_ y2 b2 hy2 ry2 y3 b3 hy3 ry3 y4 b4 hy4 ry4 y5 b5 hy5 ry5 ex0 ex1 ex2 ex3 hm; have gh0 := F0_ 10 8 rfl; have gh1 := tf_10_8 hI; exfalso; omega⟩
  | succ n ih =>
    refine ⟨?_, ?_⟩
    · intro s0 I0 F0_ y2 b2 hy2 ry2 y3 b3 hy3 ry3 y4 b4 hy4 ry4 ex0 ex1 ex2 hm; have gh0 := F0_ 10 8 rfl; have gh1 := tf_10_8 hI
      refine h_iload (pc' := 30) rfl rfl rfl ?_
      refine h_aload_n (pc' := 31) rfl rfl rfl ?_
      refine h_getR (pc' := 34) rfl rfl rfl rfl rfl ?_
      refine h_getI (pc' := 37) (v := σ 10 8) rfl rfl rfl rfl rfl (F0_ 10 8 rfl) (fun z1 hz1 => ?_)
      have tz1 := tf_10_8 hI
      refine h_cge (tg := 109) (pc' := 40) rfl rfl rfl hy4 hz1 (fun c2 => ?_) (fun c2 => ?_)
      · refine h_iload_n (pc' := 110) rfl rfl rfl ?_
        refine h_zeq (tg := 119) (pc' := 113) rfl rfl rfl hx0 (fun c3 => ?_) (fun c3 => ?_)
        · refine h_iload_n (pc' := 120) rfl rfl rfl ?_
          refine h_goto (pc' := 124) rfl rfl ?_
          exact h_iret rfl rfl (kk _ _ hy3 _ I0 F0_ (by omega) (Or.inr ⟨by omega, by omega, ex1, g_aw_of (g_b1_o ex2 (by omega)) (by omega)⟩))
        · refine h_iload_n (pc' := 114) rfl rfl rfl ?_
          refine h_bipush (pc' := 116) (x := (Int32.ofInt (-4))) rfl rfl cb_m4 ?_
          refine h_cne (tg := 123) (pc' := 119) rfl rfl rfl hy3 ci_m4 (fun c4 => ?_) (fun c4 => ?_)
          · refine h_iload_n (pc' := 124) rfl rfl rfl ?_
            exact h_iret rfl rfl (kk _ _ hy2 _ I0 F0_ (by omega) (Or.inr ⟨by omega, by omega, ex1, g_aw_of (g_b1_o ex2 (by omega)) (by omega)⟩))
          · refine h_iload_n (pc' := 120) rfl rfl rfl ?_
            refine h_goto (pc' := 124) rfl rfl ?_
            exact h_iret rfl rfl (kk _ _ hy3 _ I0 F0_ (by omega) (Or.inr ⟨by omega, by omega, ex1, g_aw_of (g_b1_o ex2 (by omega)) (by omega)⟩))
      · refine h_iload (pc' := 42) rfl rfl rfl ?_
        refine h_iconst (pc' := 43) (x := (Int32.ofInt 1)) rfl rfl rfl ?_
        refine h_iadd (pc' := 44) rfl rfl hy4 ci_1 rfl (by omega) (by omega) (fun z5 hz5 => ?_)
        refine h_istore (pc' := 46) (M := [(5, .int z5), (0, .ref 9), (1, .int x0), (2, .int y2), (3, .int y3), (4, .int y4)]) rfl rfl rfl rfl ?_
        exact h_wk [(0, .ref 9), (1, .int x0), (2, .int y2), (3, .int y3), (4, .int y4), (5, .int z5)] ⟨rfl, rfl, rfl, rfl, rfl, rfl, trivial⟩ (ih.2 _ I0 F0_ y2 _ hy2 (by omega) y3 _ hy3 (by omega) y4 _ hy4 (by omega) z5 _ hz5 (by omega) (by omega) ex1 (by omega) (g_b1_y ex2 (by omega) (by omega) (by omega)) (by omega))
    · intro s0 I0 F0_ y2 b2 hy2 ry2 y3 b3 hy3 ry3 y4 b4 hy4 ry4 y5 b5 hy5 ry5 ex0 ex1 ex2 ex3 hm; have gh0 := F0_ 10 8 rfl; have gh1 := tf_10_8 hI
      refine h_iload (pc' := 48) rfl rfl rfl ?_
      refine h_aload_n (pc' := 49) rfl rfl rfl ?_
      refine h_getR (pc' := 52) rfl rfl rfl rfl rfl ?_
      refine h_getI (pc' := 55) (v := σ 10 8) rfl rfl rfl rfl rfl (F0_ 10 8 rfl) (fun z1 hz1 => ?_)
      have tz1 := tf_10_8 hI
      refine h_cge (tg := 103) (pc' := 58) rfl rfl rfl hy5 hz1 (fun c2 => ?_) (fun c2 => ?_)
      · refine h_iinc (pc' := 106) (M := fun z3 => [(4, .int z3), (0, .ref 9), (1, .int x0), (2, .int y2), (3, .int y3), (5, .int y5)]) rfl rfl rfl rfl hy4 ci_1 rfl (by omega) (by omega) (fun _ => rfl) (fun z3 hz3 => ?_)
        refine h_goto (pc' := 28) rfl rfl ?_
        exact h_wk [(0, .ref 9), (1, .int x0), (2, .int y2), (3, .int y3), (4, .int z3)] ⟨rfl, rfl, rfl, rfl, rfl, trivial⟩ (ih.1 _ I0 F0_ y2 _ hy2 (by omega) y3 _ hy3 (by omega) z3 _ hz3 (by omega) (by omega) ex1 (g_b2_o ex3 (by omega)) (by omega))
      · refine h_aload_n (pc' := 59) rfl rfl rfl ?_
        refine h_getR (pc' := 62) rfl rfl rfl rfl rfl ?_
        refine h_iload (pc' := 64) rfl rfl rfl ?_
        refine h_iload (pc' := 66) rfl rfl rfl ?_
        refine h_call (sp := false) (pc' := 69) (M := [(0, .ref 79), (1, .int y4), (2, .int y5)]) rfl rfl rfl rfl rfl rfl rfl rfl ?_
        refine h_aload_n (pc' := 1) rfl rfl rfl ?_
        refine h_getR (pc' := 4) rfl rfl rfl rfl rfl ?_
        refine h_iload_n (pc' := 5) rfl rfl rfl ?_
        refine h_bipush (pc' := 7) (x := (Int32.ofInt 6)) rfl rfl cb_6 ?_
        refine h_imul (pc' := 8) rfl rfl hy4 ci_6 rfl (by omega) (by omega) (fun z4 hz4 => ?_)
        refine h_iload_n (pc' := 9) rfl rfl rfl ?_
        refine h_iadd (pc' := 10) rfl rfl hz4 hy5 rfl (by omega) (by omega) (fun z5 hz5 => ?_)
        refine h_iald (pc' := 11) (v := s0 80 ((b4 * 6) + b5)) rfl rfl rfl hz5 (by omega) (by omega) rfl (fun z6 hz6 => ?_)
        have tz6 := ty_80 I0 ((b4 * 6) + b5)
        refine h_iret rfl rfl (h_Kv ?_)
        refine h_istore (pc' := 71) (M := [(6, .int z6), (0, .ref 9), (1, .int x0), (2, .int y2), (3, .int y3), (4, .int y4), (5, .int y5)]) rfl rfl rfl rfl ?_
        refine h_iload (pc' := 73) rfl rfl rfl ?_
        refine h_sipush (pc' := 76) (x := (Int32.ofInt 1000)) rfl rfl cs_1000 ?_
        refine h_cge (tg := 97) (pc' := 79) rfl rfl rfl hz6 ci_1000 (fun c7 => ?_) (fun c7 => ?_)
        · refine h_iinc (pc' := 100) (M := fun z8 => [(5, .int z8), (6, .int z6), (0, .ref 9), (1, .int x0), (2, .int y2), (3, .int y3), (4, .int y4)]) rfl rfl rfl rfl hy5 ci_1 rfl (by omega) (by omega) (fun _ => rfl) (fun z8 hz8 => ?_)
          refine h_goto (pc' := 46) rfl rfl ?_
          exact h_wk [(0, .ref 9), (1, .int x0), (2, .int y2), (3, .int y3), (4, .int y4), (5, .int z8)] ⟨rfl, rfl, rfl, rfl, rfl, rfl, trivial⟩ (ih.2 _ I0 F0_ y2 _ hy2 (by omega) y3 _ hy3 (by omega) y4 _ hy4 (by omega) z8 _ hz8 (by omega) (by omega) ex1 (by omega) (by first | exact g_b2_y ex3 (by omega) (by omega) rfl (by omega) (by omega) rfl | exact g_b2_n ex3 (by omega) (by omega) rfl (by omega) rfl | (exfalso; omega)) (by omega))
        · refine h_iload (pc' := 81) rfl rfl rfl ?_
          refine h_iload_n (pc' := 82) rfl rfl rfl ?_
          refine h_cle (tg := 97) (pc' := 85) rfl rfl rfl hz6 hy2 (fun c9 => ?_) (fun c9 => ?_)
          · refine h_iinc (pc' := 100) (M := fun z10 => [(5, .int z10), (6, .int z6), (0, .ref 9), (1, .int x0), (2, .int y2), (3, .int y3), (4, .int y4)]) rfl rfl rfl rfl hy5 ci_1 rfl (by omega) (by omega) (fun _ => rfl) (fun z10 hz10 => ?_)
            refine h_goto (pc' := 46) rfl rfl ?_
            exact h_wk [(0, .ref 9), (1, .int x0), (2, .int y2), (3, .int y3), (4, .int y4), (5, .int z10)] ⟨rfl, rfl, rfl, rfl, rfl, rfl, trivial⟩ (ih.2 _ I0 F0_ y2 _ hy2 (by omega) y3 _ hy3 (by omega) y4 _ hy4 (by omega) z10 _ hz10 (by omega) (by omega) ex1 (by omega) (by first | exact g_b2_y ex3 (by omega) (by omega) rfl (by omega) (by omega) rfl | exact g_b2_n ex3 (by omega) (by omega) rfl (by omega) rfl | (exfalso; omega)) (by omega))
          · refine h_iload (pc' := 87) rfl rfl rfl ?_
            refine h_istore_n (pc' := 88) (M := [(2, .int z6), (6, .int z6), (0, .ref 9), (1, .int x0), (3, .int y3), (4, .int y4), (5, .int y5)]) rfl rfl rfl rfl ?_
            refine h_bipush (pc' := 90) (x := (Int32.ofInt 10)) rfl rfl cb_10 ?_
            refine h_iload (pc' := 92) rfl rfl rfl ?_
            refine h_imul (pc' := 93) rfl rfl ci_10 hy4 rfl (by omega) (by omega) (fun z11 hz11 => ?_)
            refine h_iload (pc' := 95) rfl rfl rfl ?_
            refine h_iadd (pc' := 96) rfl rfl hz11 hy5 rfl (by omega) (by omega) (fun z12 hz12 => ?_)
            refine h_istore_n (pc' := 97) (M := [(3, .int z12), (2, .int z6), (6, .int z6), (0, .ref 9), (1, .int x0), (4, .int y4), (5, .int y5)]) rfl rfl rfl rfl ?_
            refine h_iinc (pc' := 100) (M := fun z13 => [(5, .int z13), (3, .int z12), (2, .int z6), (6, .int z6), (0, .ref 9), (1, .int x0), (4, .int y4)]) rfl rfl rfl rfl hy5 ci_1 rfl (by omega) (by omega) (fun _ => rfl) (fun z13 hz13 => ?_)
            refine h_goto (pc' := 46) rfl rfl ?_
            exact h_wk [(0, .ref 9), (1, .int x0), (2, .int z6), (3, .int z12), (4, .int y4), (5, .int z13)] ⟨rfl, rfl, rfl, rfl, rfl, rfl, trivial⟩ (ih.2 _ I0 F0_ z6 _ hz6 (by omega) z12 _ hz12 (by omega) y4 _ hy4 (by omega) z13 _ hz13 (by omega) (by omega) ex1 (by omega) (by first | exact g_b2_y ex3 (by omega) (by omega) rfl (by omega) (by omega) rfl | exact g_b2_n ex3 (by omega) (by omega) rfl (by omega) rfl | (exfalso; omega)) (by omega))
set_option maxHeartbeats 100000000 in
set_option maxHeartbeats 100000000 in
theorem n_apX {ns : Nat} (σ : h_S) (hI : h_I σ) (x0 : Int32) (a0 : Int) (hx0 : x0.toInt = a0) {Q : Option Value → h_S → Prop} (kk : ∀ (r : Int32) (b : Int) (hb : r.toInt = b) (τ : h_S), h_I τ → h_F (k_in kf_n_apX) τ σ → ((-4) ≤ b ∧ b ≤ 999) → (((a0 < 0 ∨ 1 < a0) ∧ b = -1) ∨ (0 ≤ a0 ∧ a0 ≤ 1 ∧ g_DX (σ 10 8) (σ 12) (σ 11) (σ 13 2) (σ 14) (σ 15) (τ 80) ∧ b = g_aw a0 (g_b1 (fun p q => τ 80 (p * 6 + q)) 1000 (σ 10 8) 0 (-1, -4)))) → Q (some (.int r)) τ) : h_T g_P (g_Y ns) 107 0 [(0, .ref 9), (1, .int x0)] [] σ Q := by
  have F00 : h_F (k_in kf_n_apX) σ σ := h_F.rf
  refine h_iload_n (pc' := 1) rfl rfl rfl ?_
  refine h_calls (pc' := 4) (M := [(0, .int x0)]) rfl rfl rfl rfl rfl rfl ?_
  refine h_iload_n (pc' := 1) rfl rfl rfl ?_
  refine h_zeq (tg := 9) (pc' := 4) rfl rfl rfl hx0 (fun c1 => ?_) (fun c1 => ?_)
  · refine h_iconst (pc' := 10) (x := (Int32.ofInt 1)) rfl rfl rfl ?_
    refine h_goto (pc' := 14) rfl rfl ?_
    refine h_zret rfl rfl ci_1 (by omega) (h_Kv ?_)
    refine h_zne (tg := 9) (pc' := 7) rfl rfl rfl ci_1 (fun c2 => ?_) (fun c2 => absurd c2 (by omega))
    refine h_aload_n (pc' := 10) rfl rfl rfl ?_
    refine h_getR (pc' := 13) rfl rfl rfl rfl rfl ?_
    refine h_aload_n (pc' := 14) rfl rfl rfl ?_
    refine h_getR (pc' := 17) rfl rfl rfl rfl rfl ?_
    refine h_call (sp := false) (pc' := 20) (M := [(0, .ref 79), (1, .ref 10)]) rfl rfl rfl rfl rfl rfl rfl rfl ?_
    refine n_measure_10 _ hI  (fun s4 Is4 Gs4 ps4_0 ps4_1 => h_Kn ?_)
    have Fs4 := (Gs4.mono (B := kf_n_apX) rfl).tr F00
    have es4_0 : s4 98 13 = σ 98 13 := (Gs4 98 13 rfl).trans rfl
    refine h_iconst (pc' := 21) (x := (Int32.ofInt (-1))) rfl rfl rfl ?_
    refine h_istore_n (pc' := 22) (M := [(2, .int (Int32.ofInt (-1))), (0, .ref 9), (1, .int x0)]) rfl rfl rfl rfl ?_
    refine h_bipush (pc' := 24) (x := (Int32.ofInt (-4))) rfl rfl cb_m4 ?_
    refine h_istore_n (pc' := 25) (M := [(3, .int (Int32.ofInt (-4))), (2, .int (Int32.ofInt (-1))), (0, .ref 9), (1, .int x0)]) rfl rfl rfl rfl ?_
    refine h_iconst (pc' := 26) (x := (Int32.ofInt 0)) rfl rfl rfl ?_
    refine h_istore (pc' := 28) (M := [(4, .int (Int32.ofInt 0)), (3, .int (Int32.ofInt (-4))), (2, .int (Int32.ofInt (-1))), (0, .ref 9), (1, .int x0)]) rfl rfl rfl rfl ?_
    exact h_wk [(0, .ref 9), (1, .int x0), (2, .int (Int32.ofInt (-1))), (3, .int (Int32.ofInt (-4))), (4, .int (Int32.ofInt 0))] ⟨rfl, rfl, rfl, rfl, rfl, trivial⟩ ((n_apX_l ns σ hI x0 a0 hx0 kk 1000000000000).1 _ Is4 Fs4 (Int32.ofInt (-1)) _ ci_m1 (by omega) (Int32.ofInt (-4)) _ ci_m4 (by omega) (Int32.ofInt 0) _ ci_0 (by omega) (by omega) ps4_0 rfl (by omega))
  · refine h_iload_n (pc' := 5) rfl rfl rfl ?_
    refine h_iconst (pc' := 6) (x := (Int32.ofInt 1)) rfl rfl rfl ?_
    refine h_cne (tg := 13) (pc' := 9) rfl rfl rfl hx0 ci_1 (fun c5 => ?_) (fun c5 => ?_)
    · refine h_iconst (pc' := 14) (x := (Int32.ofInt 0)) rfl rfl rfl ?_
      refine h_zret rfl rfl ci_0 (by omega) (h_Kv ?_)
      refine h_zne (tg := 9) (pc' := 7) rfl rfl rfl ci_0 (fun c6 => absurd c6 (by omega)) (fun c6 => ?_)
      refine h_iconst (pc' := 8) (x := (Int32.ofInt (-1))) rfl rfl rfl ?_
      exact h_iret rfl rfl (kk _ _ ci_m1 _ hI F00 (by omega) (Or.inl ⟨by omega, rfl⟩))
    · refine h_iconst (pc' := 10) (x := (Int32.ofInt 1)) rfl rfl rfl ?_
      refine h_goto (pc' := 14) rfl rfl ?_
      refine h_zret rfl rfl ci_1 (by omega) (h_Kv ?_)
      refine h_zne (tg := 9) (pc' := 7) rfl rfl rfl ci_1 (fun c7 => ?_) (fun c7 => absurd c7 (by omega))
      refine h_aload_n (pc' := 10) rfl rfl rfl ?_
      refine h_getR (pc' := 13) rfl rfl rfl rfl rfl ?_
      refine h_aload_n (pc' := 14) rfl rfl rfl ?_
      refine h_getR (pc' := 17) rfl rfl rfl rfl rfl ?_
      refine h_call (sp := false) (pc' := 20) (M := [(0, .ref 79), (1, .ref 10)]) rfl rfl rfl rfl rfl rfl rfl rfl ?_
      refine n_measure_10 _ hI  (fun s9 Is9 Gs9 ps9_0 ps9_1 => h_Kn ?_)
      have Fs9 := (Gs9.mono (B := kf_n_apX) rfl).tr F00
      have es9_0 : s9 98 13 = σ 98 13 := (Gs9 98 13 rfl).trans rfl
      refine h_iconst (pc' := 21) (x := (Int32.ofInt (-1))) rfl rfl rfl ?_
      refine h_istore_n (pc' := 22) (M := [(2, .int (Int32.ofInt (-1))), (0, .ref 9), (1, .int x0)]) rfl rfl rfl rfl ?_
      refine h_bipush (pc' := 24) (x := (Int32.ofInt (-4))) rfl rfl cb_m4 ?_
      refine h_istore_n (pc' := 25) (M := [(3, .int (Int32.ofInt (-4))), (2, .int (Int32.ofInt (-1))), (0, .ref 9), (1, .int x0)]) rfl rfl rfl rfl ?_
      refine h_iconst (pc' := 26) (x := (Int32.ofInt 0)) rfl rfl rfl ?_
      refine h_istore (pc' := 28) (M := [(4, .int (Int32.ofInt 0)), (3, .int (Int32.ofInt (-4))), (2, .int (Int32.ofInt (-1))), (0, .ref 9), (1, .int x0)]) rfl rfl rfl rfl ?_
      exact h_wk [(0, .ref 9), (1, .int x0), (2, .int (Int32.ofInt (-1))), (3, .int (Int32.ofInt (-4))), (4, .int (Int32.ofInt 0))] ⟨rfl, rfl, rfl, rfl, rfl, trivial⟩ ((n_apX_l ns σ hI x0 a0 hx0 kk 1000000000000).1 _ Is9 Fs9 (Int32.ofInt (-1)) _ ci_m1 (by omega) (Int32.ofInt (-4)) _ ci_m4 (by omega) (Int32.ofInt 0) _ ci_0 (by omega) (by omega) ps9_0 rfl (by omega))
def kf_n_apM : List Nat := [108543]
set_option maxHeartbeats 100000000 in
set_option maxHeartbeats 100000000 in
theorem n_apM_l (ns : Nat) (σ : h_S) (hI : h_I σ) (x0 : Int32) (a0 : Int) (hx0 : x0.toInt = a0) {Q : Option Value → h_S → Prop} (kk : ∀ (r : Int32) (b : Int) (hb : r.toInt = b) (τ : h_S), h_I τ → h_F (k_in kf_n_apM) τ σ → ((-4) ≤ b ∧ b ≤ 1000000) → (((a0 < 0 ∨ 1 < a0) ∧ b = -1) ∨ (0 ≤ a0 ∧ a0 ≤ 1 ∧ g_DM (σ 98 1) (σ 99 18) (σ 99) (σ 100) (τ 105) ∧ b = g_aw a0 (g_b1 (fun p q => τ 105 (6 * p + q)) 1000000 (σ 98 1) 0 (-1, -4)))) → Q (some (.int r)) τ) : ∀ n : Nat, (∀ (s0 : h_S), h_I s0 → h_F (k_in kf_n_apM) s0 σ → ∀ (y2 : Int32) (b2 : Int), y2.toInt = b2 → ((-4) ≤ b2 ∧ b2 ≤ 63) → ∀ (y3 : Int32) (b3 : Int), y3.toInt = b3 → ((-1) ≤ b3 ∧ b3 ≤ 1000000) → ∀ (y4 : Int32) (b4 : Int), y4.toInt = b4 → (0 ≤ b4 ∧ b4 ≤ 6) → (0 ≤ a0 ∧ a0 ≤ 1) → (g_DM (σ 98 1) (σ 99 18) (σ 99) (σ 100) (s0 105)) → (g_b1 (fun p q => s0 105 (6 * p + q)) 1000000 (σ 98 1) b4 (b3, b2) = g_b1 (fun p q => s0 105 (6 * p + q)) 1000000 (σ 98 1) 0 (-1, -4)) → (6 + 1 - b4) * 1000000 + 1000000000 ≤ (n : Int) → h_T g_P (g_Y ns) 204 25 [(0, .ref 98), (1, .int x0), (2, .int y2), (3, .int y3), (4, .int y4)] [] s0 Q) ∧ (∀ (s0 : h_S), h_I s0 → h_F (k_in kf_n_apM) s0 σ → ∀ (y2 : Int32) (b2 : Int), y2.toInt = b2 → ((-4) ≤ b2 ∧ b2 ≤ 63) → ∀ (y3 : Int32) (b3 : Int), y3.toInt = b3 → ((-1) ≤ b3 ∧ b3 ≤ 1000000) → ∀ (y4 : Int32) (b4 : Int), y4.toInt = b4 → (0 ≤ b4 ∧ b4 ≤ 5) → ∀ (y5 : Int32) (b5 : Int), y5.toInt = b5 → (1 ≤ b5 ∧ b5 ≤ 6) → (0 ≤ a0 ∧ a0 ≤ 1) → (g_DM (σ 98 1) (σ 99 18) (σ 99) (σ 100) (s0 105)) → (b4 < σ 98 1) → (g_b2 (fun p q => s0 105 (6 * p + q)) 1000000 (σ 98 1) b4 b5 (b3, b2) = g_b1 (fun p q => s0 105 (6 * p + q)) 1000000 (σ 98 1) 0 (-1, -4)) → ((6 + 1 - b4) - 1) * 1000000 + 1000000000 + (6 + 1 - b5) * 1000 + 100000 ≤ (n : Int) → h_T g_P (g_Y ns) 204 40 [(0, .ref 98), (1, .int x0), (2, .int y2), (3, .int y3), (4, .int y4), (5, .int y5)] [] s0 Q) := by
  intro n
  induction n with
  | zero => exact ⟨by intro s0 I0 F0_ y2 b2 hy2 ry2 y3 b3 hy3 ry3 y4 b4 hy4 ry4 ex0 ex1 ex2 hm; have gh0 := F0_ 98 1 rfl; have gh1 := tf_98_1 hI; exfalso; omega, by intro s0 I0 F0_ y2 b2 hy2 ry2 y3 b3 hy3 ry3 y4 b4 hy4 ry4 y5 b5 hy5 ry5 ex0 ex1 ex2 ex3 hm; have gh0 := F0_ 98 1 rfl; have gh1 := tf_98_1 hI; exfalso; omega⟩
  | succ n ih =>
    refine ⟨?_, ?_⟩
    · intro s0 I0 F0_ y2 b2 hy2 ry2 y3 b3 hy3 ry3 y4 b4 hy4 ry4 ex0 ex1 ex2 hm; have gh0 := F0_ 98 1 rfl; have gh1 := tf_98_1 hI
      refine h_iload (pc' := 27) rfl rfl rfl ?_
      refine h_aload_n (pc' := 28) rfl rfl rfl ?_
      refine h_getI (pc' := 31) (v := σ 98 1) rfl rfl rfl rfl rfl (F0_ 98 1 rfl) (fun z1 hz1 => ?_)
      have tz1 := tf_98_1 hI
      refine h_cge (tg := 122) (pc' := 34) rfl rfl rfl hy4 hz1 (fun c2 => ?_) (fun c2 => ?_)
      · refine h_iload_n (pc' := 123) rfl rfl rfl ?_
        refine h_bipush (pc' := 125) (x := (Int32.ofInt (-4))) rfl rfl cb_m4 ?_
        refine h_ceq (tg := 132) (pc' := 128) rfl rfl rfl hy2 ci_m4 (fun c3 => ?_) (fun c3 => ?_)
        · refine h_iload_n (pc' := 133) rfl rfl rfl ?_
          refine h_goto (pc' := 137) rfl rfl ?_
          exact h_iret rfl rfl (kk _ _ hy2 _ I0 F0_ (by omega) (Or.inr ⟨by omega, by omega, ex1, g_aw_of (g_b1_o ex2 (by omega)) (by omega)⟩))
        · refine h_iload_n (pc' := 129) rfl rfl rfl ?_
          refine h_zne (tg := 136) (pc' := 132) rfl rfl rfl hx0 (fun c4 => ?_) (fun c4 => ?_)
          · refine h_iload_n (pc' := 137) rfl rfl rfl ?_
            exact h_iret rfl rfl (kk _ _ hy3 _ I0 F0_ (by omega) (Or.inr ⟨by omega, by omega, ex1, g_aw_of (g_b1_o ex2 (by omega)) (by omega)⟩))
          · refine h_iload_n (pc' := 133) rfl rfl rfl ?_
            refine h_goto (pc' := 137) rfl rfl ?_
            exact h_iret rfl rfl (kk _ _ hy2 _ I0 F0_ (by omega) (Or.inr ⟨by omega, by omega, ex1, g_aw_of (g_b1_o ex2 (by omega)) (by omega)⟩))
      · refine h_iload (pc' := 36) rfl rfl rfl ?_
        refine h_iconst (pc' := 37) (x := (Int32.ofInt 1)) rfl rfl rfl ?_
        refine h_iadd (pc' := 38) rfl rfl hy4 ci_1 rfl (by omega) (by omega) (fun z5 hz5 => ?_)
        refine h_istore (pc' := 40) (M := [(5, .int z5), (0, .ref 98), (1, .int x0), (2, .int y2), (3, .int y3), (4, .int y4)]) rfl rfl rfl rfl ?_
        exact h_wk [(0, .ref 98), (1, .int x0), (2, .int y2), (3, .int y3), (4, .int y4), (5, .int z5)] ⟨rfl, rfl, rfl, rfl, rfl, rfl, trivial⟩ (ih.2 _ I0 F0_ y2 _ hy2 (by omega) y3 _ hy3 (by omega) y4 _ hy4 (by omega) z5 _ hz5 (by omega) (by omega) ex1 (by omega) (g_b1_y ex2 (by omega) (by omega) (by omega)) (by omega))
    · intro s0 I0 F0_ y2 b2 hy2 ry2 y3 b3 hy3 ry3 y4 b4 hy4 ry4 y5 b5 hy5 ry5 ex0 ex1 ex2 ex3 hm; have gh0 := F0_ 98 1 rfl; have gh1 := tf_98_1 hI
      refine h_iload (pc' := 42) rfl rfl rfl ?_
      refine h_aload_n (pc' := 43) rfl rfl rfl ?_
      refine h_getI (pc' := 46) (v := σ 98 1) rfl rfl rfl rfl rfl (F0_ 98 1 rfl) (fun z1 hz1 => ?_)
      have tz1 := tf_98_1 hI
      refine h_cge (tg := 116) (pc' := 49) rfl rfl rfl hy5 hz1 (fun c2 => ?_) (fun c2 => ?_)
      · refine h_iinc (pc' := 119) (M := fun z3 => [(4, .int z3), (0, .ref 98), (1, .int x0), (2, .int y2), (3, .int y3), (5, .int y5)]) rfl rfl rfl rfl hy4 ci_1 rfl (by omega) (by omega) (fun _ => rfl) (fun z3 hz3 => ?_)
        refine h_goto (pc' := 25) rfl rfl ?_
        exact h_wk [(0, .ref 98), (1, .int x0), (2, .int y2), (3, .int y3), (4, .int z3)] ⟨rfl, rfl, rfl, rfl, rfl, trivial⟩ (ih.1 _ I0 F0_ y2 _ hy2 (by omega) y3 _ hy3 (by omega) z3 _ hz3 (by omega) (by omega) ex1 (g_b2_o ex3 (by omega)) (by omega))
      · refine h_aload_n (pc' := 50) rfl rfl rfl ?_
        refine h_getR (pc' := 53) rfl rfl rfl rfl rfl ?_
        refine h_bipush (pc' := 55) (x := (Int32.ofInt 6)) rfl rfl cb_6 ?_
        refine h_iload (pc' := 57) rfl rfl rfl ?_
        refine h_imul (pc' := 58) rfl rfl ci_6 hy4 rfl (by omega) (by omega) (fun z4 hz4 => ?_)
        refine h_iload (pc' := 60) rfl rfl rfl ?_
        refine h_iadd (pc' := 61) rfl rfl hz4 hy5 rfl (by omega) (by omega) (fun z5 hz5 => ?_)
        refine h_iald (pc' := 62) (v := s0 105 ((6 * b4) + b5)) rfl rfl rfl hz5 (by omega) (by omega) rfl (fun z6 hz6 => ?_)
        have tz6 := ty_105 I0 ((6 * b4) + b5)
        refine h_istore (pc' := 64) (M := [(6, .int z6), (0, .ref 98), (1, .int x0), (2, .int y2), (3, .int y3), (4, .int y4), (5, .int y5)]) rfl rfl rfl rfl ?_
        refine h_iload (pc' := 66) rfl rfl rfl ?_
        refine h_ldc (pc' := 68) (x := (Int32.ofInt 1000000)) rfl rfl rfl ?_
        refine h_cge (tg := 88) (pc' := 71) rfl rfl rfl hz6 ci_1000000 (fun c7 => ?_) (fun c7 => ?_)
        · refine h_iload_n (pc' := 89) rfl rfl rfl ?_
          refine h_istore_n (pc' := 90) (M := [(2, .int y2), (6, .int z6), (0, .ref 98), (1, .int x0), (3, .int y3), (4, .int y4), (5, .int y5)]) rfl rfl rfl rfl ?_
          refine h_iload (pc' := 92) rfl rfl rfl ?_
          refine h_ldc (pc' := 94) (x := (Int32.ofInt 1000000)) rfl rfl rfl ?_
          refine h_cge (tg := 108) (pc' := 97) rfl rfl rfl hz6 ci_1000000 (fun c8 => ?_) (fun c8 => absurd c8 (by omega))
          refine h_iload_n (pc' := 109) rfl rfl rfl ?_
          refine h_istore_n (pc' := 110) (M := [(3, .int y3), (2, .int y2), (6, .int z6), (0, .ref 98), (1, .int x0), (4, .int y4), (5, .int y5)]) rfl rfl rfl rfl ?_
          refine h_iinc (pc' := 113) (M := fun z9 => [(5, .int z9), (3, .int y3), (2, .int y2), (6, .int z6), (0, .ref 98), (1, .int x0), (4, .int y4)]) rfl rfl rfl rfl hy5 ci_1 rfl (by omega) (by omega) (fun _ => rfl) (fun z9 hz9 => ?_)
          refine h_goto (pc' := 40) rfl rfl ?_
          exact h_wk [(0, .ref 98), (1, .int x0), (2, .int y2), (3, .int y3), (4, .int y4), (5, .int z9)] ⟨rfl, rfl, rfl, rfl, rfl, rfl, trivial⟩ (ih.2 _ I0 F0_ y2 _ hy2 (by omega) y3 _ hy3 (by omega) y4 _ hy4 (by omega) z9 _ hz9 (by omega) (by omega) ex1 (by omega) (by first | exact g_b2_y ex3 (by omega) (by omega) rfl (by omega) (by omega) rfl | exact g_b2_n ex3 (by omega) (by omega) rfl (by omega) rfl | (exfalso; omega)) (by omega))
        · refine h_iload (pc' := 73) rfl rfl rfl ?_
          refine h_iload_n (pc' := 74) rfl rfl rfl ?_
          refine h_cle (tg := 88) (pc' := 77) rfl rfl rfl hz6 hy3 (fun c10 => ?_) (fun c10 => ?_)
          · refine h_iload_n (pc' := 89) rfl rfl rfl ?_
            refine h_istore_n (pc' := 90) (M := [(2, .int y2), (6, .int z6), (0, .ref 98), (1, .int x0), (3, .int y3), (4, .int y4), (5, .int y5)]) rfl rfl rfl rfl ?_
            refine h_iload (pc' := 92) rfl rfl rfl ?_
            refine h_ldc (pc' := 94) (x := (Int32.ofInt 1000000)) rfl rfl rfl ?_
            refine h_cge (tg := 108) (pc' := 97) rfl rfl rfl hz6 ci_1000000 (fun c11 => absurd c11 (by omega)) (fun c11 => ?_)
            refine h_iload (pc' := 99) rfl rfl rfl ?_
            refine h_iload_n (pc' := 100) rfl rfl rfl ?_
            refine h_cle (tg := 108) (pc' := 103) rfl rfl rfl hz6 hy3 (fun c12 => ?_) (fun c12 => ?_)
            · refine h_iload_n (pc' := 109) rfl rfl rfl ?_
              refine h_istore_n (pc' := 110) (M := [(3, .int y3), (2, .int y2), (6, .int z6), (0, .ref 98), (1, .int x0), (4, .int y4), (5, .int y5)]) rfl rfl rfl rfl ?_
              refine h_iinc (pc' := 113) (M := fun z13 => [(5, .int z13), (3, .int y3), (2, .int y2), (6, .int z6), (0, .ref 98), (1, .int x0), (4, .int y4)]) rfl rfl rfl rfl hy5 ci_1 rfl (by omega) (by omega) (fun _ => rfl) (fun z13 hz13 => ?_)
              refine h_goto (pc' := 40) rfl rfl ?_
              exact h_wk [(0, .ref 98), (1, .int x0), (2, .int y2), (3, .int y3), (4, .int y4), (5, .int z13)] ⟨rfl, rfl, rfl, rfl, rfl, rfl, trivial⟩ (ih.2 _ I0 F0_ y2 _ hy2 (by omega) y3 _ hy3 (by omega) y4 _ hy4 (by omega) z13 _ hz13 (by omega) (by omega) ex1 (by omega) (by first | exact g_b2_y ex3 (by omega) (by omega) rfl (by omega) (by omega) rfl | exact g_b2_n ex3 (by omega) (by omega) rfl (by omega) rfl | (exfalso; omega)) (by omega))
            · refine h_iload (pc' := 105) rfl rfl rfl ?_
              refine h_goto (pc' := 109) rfl rfl ?_
              refine h_istore_n (pc' := 110) (M := [(3, .int z6), (2, .int y2), (6, .int z6), (0, .ref 98), (1, .int x0), (4, .int y4), (5, .int y5)]) rfl rfl rfl rfl ?_
              refine h_iinc (pc' := 113) (M := fun z14 => [(5, .int z14), (3, .int z6), (2, .int y2), (6, .int z6), (0, .ref 98), (1, .int x0), (4, .int y4)]) rfl rfl rfl rfl hy5 ci_1 rfl (by omega) (by omega) (fun _ => rfl) (fun z14 hz14 => ?_)
              refine h_goto (pc' := 40) rfl rfl ?_
              exact h_wk [(0, .ref 98), (1, .int x0), (2, .int y2), (3, .int z6), (4, .int y4), (5, .int z14)] ⟨rfl, rfl, rfl, rfl, rfl, rfl, trivial⟩ (ih.2 _ I0 F0_ y2 _ hy2 (by omega) z6 _ hz6 (by omega) y4 _ hy4 (by omega) z14 _ hz14 (by omega) (by omega) ex1 (by omega) (by first | exact g_b2_y ex3 (by omega) (by omega) rfl (by omega) (by omega) rfl | exact g_b2_n ex3 (by omega) (by omega) rfl (by omega) rfl | (exfalso; omega)) (by omega))
          · refine h_bipush (pc' := 79) (x := (Int32.ofInt 10)) rfl rfl cb_10 ?_
            refine h_iload (pc' := 81) rfl rfl rfl ?_
            refine h_imul (pc' := 82) rfl rfl ci_10 hy4 rfl (by omega) (by omega) (fun z15 hz15 => ?_)
            refine h_iload (pc' := 84) rfl rfl rfl ?_
            refine h_iadd (pc' := 85) rfl rfl hz15 hy5 rfl (by omega) (by omega) (fun z16 hz16 => ?_)
            refine h_goto (pc' := 89) rfl rfl ?_
            refine h_istore_n (pc' := 90) (M := [(2, .int z16), (6, .int z6), (0, .ref 98), (1, .int x0), (3, .int y3), (4, .int y4), (5, .int y5)]) rfl rfl rfl rfl ?_
            refine h_iload (pc' := 92) rfl rfl rfl ?_
            refine h_ldc (pc' := 94) (x := (Int32.ofInt 1000000)) rfl rfl rfl ?_
            refine h_cge (tg := 108) (pc' := 97) rfl rfl rfl hz6 ci_1000000 (fun c17 => absurd c17 (by omega)) (fun c17 => ?_)
            refine h_iload (pc' := 99) rfl rfl rfl ?_
            refine h_iload_n (pc' := 100) rfl rfl rfl ?_
            refine h_cle (tg := 108) (pc' := 103) rfl rfl rfl hz6 hy3 (fun c18 => ?_) (fun c18 => ?_)
            · refine h_iload_n (pc' := 109) rfl rfl rfl ?_
              refine h_istore_n (pc' := 110) (M := [(3, .int y3), (2, .int z16), (6, .int z6), (0, .ref 98), (1, .int x0), (4, .int y4), (5, .int y5)]) rfl rfl rfl rfl ?_
              refine h_iinc (pc' := 113) (M := fun z19 => [(5, .int z19), (3, .int y3), (2, .int z16), (6, .int z6), (0, .ref 98), (1, .int x0), (4, .int y4)]) rfl rfl rfl rfl hy5 ci_1 rfl (by omega) (by omega) (fun _ => rfl) (fun z19 hz19 => ?_)
              refine h_goto (pc' := 40) rfl rfl ?_
              exact h_wk [(0, .ref 98), (1, .int x0), (2, .int z16), (3, .int y3), (4, .int y4), (5, .int z19)] ⟨rfl, rfl, rfl, rfl, rfl, rfl, trivial⟩ (ih.2 _ I0 F0_ z16 _ hz16 (by omega) y3 _ hy3 (by omega) y4 _ hy4 (by omega) z19 _ hz19 (by omega) (by omega) ex1 (by omega) (by first | exact g_b2_y ex3 (by omega) (by omega) rfl (by omega) (by omega) rfl | exact g_b2_n ex3 (by omega) (by omega) rfl (by omega) rfl | (exfalso; omega)) (by omega))
            · refine h_iload (pc' := 105) rfl rfl rfl ?_
              refine h_goto (pc' := 109) rfl rfl ?_
              refine h_istore_n (pc' := 110) (M := [(3, .int z6), (2, .int z16), (6, .int z6), (0, .ref 98), (1, .int x0), (4, .int y4), (5, .int y5)]) rfl rfl rfl rfl ?_
              refine h_iinc (pc' := 113) (M := fun z20 => [(5, .int z20), (3, .int z6), (2, .int z16), (6, .int z6), (0, .ref 98), (1, .int x0), (4, .int y4)]) rfl rfl rfl rfl hy5 ci_1 rfl (by omega) (by omega) (fun _ => rfl) (fun z20 hz20 => ?_)
              refine h_goto (pc' := 40) rfl rfl ?_
              exact h_wk [(0, .ref 98), (1, .int x0), (2, .int z16), (3, .int z6), (4, .int y4), (5, .int z20)] ⟨rfl, rfl, rfl, rfl, rfl, rfl, trivial⟩ (ih.2 _ I0 F0_ z16 _ hz16 (by omega) z6 _ hz6 (by omega) y4 _ hy4 (by omega) z20 _ hz20 (by omega) (by omega) ex1 (by omega) (by first | exact g_b2_y ex3 (by omega) (by omega) rfl (by omega) (by omega) rfl | exact g_b2_n ex3 (by omega) (by omega) rfl (by omega) rfl | (exfalso; omega)) (by omega))
set_option maxHeartbeats 100000000 in
set_option maxHeartbeats 100000000 in
theorem n_apM {ns : Nat} (σ : h_S) (hI : h_I σ) (x0 : Int32) (a0 : Int) (hx0 : x0.toInt = a0) {Q : Option Value → h_S → Prop} (kk : ∀ (r : Int32) (b : Int) (hb : r.toInt = b) (τ : h_S), h_I τ → h_F (k_in kf_n_apM) τ σ → ((-4) ≤ b ∧ b ≤ 1000000) → (((a0 < 0 ∨ 1 < a0) ∧ b = -1) ∨ (0 ≤ a0 ∧ a0 ≤ 1 ∧ g_DM (σ 98 1) (σ 99 18) (σ 99) (σ 100) (τ 105) ∧ b = g_aw a0 (g_b1 (fun p q => τ 105 (6 * p + q)) 1000000 (σ 98 1) 0 (-1, -4)))) → Q (some (.int r)) τ) : h_T g_P (g_Y ns) 204 0 [(0, .ref 98), (1, .int x0)] [] σ Q := by
  have F00 : h_F (k_in kf_n_apM) σ σ := h_F.rf
  refine h_iload_n (pc' := 1) rfl rfl rfl ?_
  refine h_i2l (pc' := 2) rfl rfl hx0 (fun z1 hz1 => ?_)
  refine h_lconst (pc' := 3) (x := (Int64.ofInt 0)) rfl rfl rfl ?_
  refine h_lconst (pc' := 4) (x := (Int64.ofInt 1)) rfl rfl rfl ?_
  refine h_calls (pc' := 7) (M := [(0, .long z1), (2, .long (Int64.ofInt 0)), (4, .long (Int64.ofInt 1))]) rfl rfl rfl rfl rfl rfl ?_
  refine h_lload_n (pc' := 1) rfl rfl rfl ?_
  refine h_lload_n (pc' := 2) rfl rfl rfl ?_
  refine h_lcmp (pc' := 3) rfl rfl hz1 cl_0 (fun z2 hz2 => ?_)
  refine h_zlt (tg := 17) (pc' := 6) rfl rfl rfl rfl (fun c3 => ?_) (fun c3 => ?_)
  · replace c3 := (h_lcr hz2).1 c3
    clear hz2
    refine h_iconst (pc' := 18) (x := (Int32.ofInt 0)) rfl rfl rfl ?_
    refine h_zret rfl rfl ci_0 (by omega) (h_Kv ?_)
    refine h_zne (tg := 12) (pc' := 10) rfl rfl rfl ci_0 (fun c4 => absurd c4 (by omega)) (fun c4 => ?_)
    refine h_iconst (pc' := 11) (x := (Int32.ofInt (-1))) rfl rfl rfl ?_
    exact h_iret rfl rfl (kk _ _ ci_m1 _ hI F00 (by omega) (Or.inl ⟨by omega, rfl⟩))
  · replace c3 := (h_lcr hz2).2.1 c3
    clear hz2
    refine h_lload_n (pc' := 7) rfl rfl rfl ?_
    refine h_lload (pc' := 9) rfl rfl rfl ?_
    refine h_lcmp (pc' := 10) rfl rfl hz1 cl_1 (fun z5 hz5 => ?_)
    refine h_zgt (tg := 17) (pc' := 13) rfl rfl rfl rfl (fun c6 => ?_) (fun c6 => ?_)
    · replace c6 := (h_lcr hz5).2.2.2.1 c6
      clear hz5
      refine h_iconst (pc' := 18) (x := (Int32.ofInt 0)) rfl rfl rfl ?_
      refine h_zret rfl rfl ci_0 (by omega) (h_Kv ?_)
      refine h_zne (tg := 12) (pc' := 10) rfl rfl rfl ci_0 (fun c7 => absurd c7 (by omega)) (fun c7 => ?_)
      refine h_iconst (pc' := 11) (x := (Int32.ofInt (-1))) rfl rfl rfl ?_
      exact h_iret rfl rfl (kk _ _ ci_m1 _ hI F00 (by omega) (Or.inl ⟨by omega, rfl⟩))
    · replace c6 := (h_lcr hz5).2.2.1 c6
      clear hz5
      refine h_iconst (pc' := 14) (x := (Int32.ofInt 1)) rfl rfl rfl ?_
      refine h_goto (pc' := 18) rfl rfl ?_
      refine h_zret rfl rfl ci_1 (by omega) (h_Kv ?_)
      refine h_zne (tg := 12) (pc' := 10) rfl rfl rfl ci_1 (fun c8 => ?_) (fun c8 => absurd c8 (by omega))
      refine h_aload_n (pc' := 13) rfl rfl rfl ?_
      refine h_iconst (pc' := 14) (x := (Int32.ofInt 0)) rfl rfl rfl ?_
      refine h_call (sp := false) (pc' := 17) (M := [(0, .ref 98), (1, .int (Int32.ofInt 0))]) rfl rfl rfl rfl rfl rfl rfl rfl ?_
      refine n_lays _ hI  (fun s10 Is10 Gs10 ps10_0 => h_Kn ?_)
      have Fs10 := (Gs10.mono (B := kf_n_apM) rfl).tr F00
      have es10_0 : s10 98 13 = σ 98 13 := (Gs10 98 13 rfl).trans rfl
      refine h_bipush (pc' := 19) (x := (Int32.ofInt (-4))) rfl rfl cb_m4 ?_
      refine h_istore_n (pc' := 20) (M := [(2, .int (Int32.ofInt (-4))), (0, .ref 98), (1, .int x0)]) rfl rfl rfl rfl ?_
      refine h_iconst (pc' := 21) (x := (Int32.ofInt (-1))) rfl rfl rfl ?_
      refine h_istore_n (pc' := 22) (M := [(3, .int (Int32.ofInt (-1))), (2, .int (Int32.ofInt (-4))), (0, .ref 98), (1, .int x0)]) rfl rfl rfl rfl ?_
      refine h_iconst (pc' := 23) (x := (Int32.ofInt 0)) rfl rfl rfl ?_
      refine h_istore (pc' := 25) (M := [(4, .int (Int32.ofInt 0)), (3, .int (Int32.ofInt (-1))), (2, .int (Int32.ofInt (-4))), (0, .ref 98), (1, .int x0)]) rfl rfl rfl rfl ?_
      exact h_wk [(0, .ref 98), (1, .int x0), (2, .int (Int32.ofInt (-4))), (3, .int (Int32.ofInt (-1))), (4, .int (Int32.ofInt 0))] ⟨rfl, rfl, rfl, rfl, rfl, trivial⟩ ((n_apM_l ns σ hI x0 a0 hx0 kk 1000000000000).1 _ Is10 Fs10 (Int32.ofInt (-4)) _ ci_m4 (by omega) (Int32.ofInt (-1)) _ ci_m1 (by omega) (Int32.ofInt 0) _ ci_0 (by omega) (by omega) ps10_0 rfl (by omega))
