/-! COUNTS -/
def g_cnt (n : Int) (c : Int → Bool) : Nat → Int → Int → Int
  | 0, _, b => b
  | m + 1, q, b => if q < n then g_cnt n c m (q + 1) (if c q = true then b + 1 else b) else b
theorem g_cn_y {n q b b' T : Int} {c : Int → Bool} {m m' : Nat} (h : g_cnt n c m q b = T) (hm : m = m' + 1) (hq : q < n) (hc : c q = true) (hb : b' = b + 1) : g_cnt n c m' (q + 1) b' = T := by
  subst hm; subst hb
  rw [← h]
  show _ = (if q < n then g_cnt n c m' (q + 1) (if c q = true then b + 1 else b) else b)
  rw [if_pos hq, if_pos hc]
theorem g_cn_n {n q b b' T : Int} {c : Int → Bool} {m m' : Nat} (h : g_cnt n c m q b = T) (hm : m = m' + 1) (hq : q < n) (hc : c q = false) (hb : b' = b) : g_cnt n c m' (q + 1) b' = T := by
  subst hm; subst hb
  rw [← h]
  show _ = (if q < n then g_cnt n c m' (q + 1) (if c q = true then b' + 1 else b') else b')
  rw [if_pos hq, hc]
  rfl
theorem g_cn_o {n q b T : Int} {c : Int → Bool} {m : Nat} (h : g_cnt n c m q b = T) (hq : m = 0 ∨ n ≤ q) : b = T := by
  rw [← h]
  cases m with
  | zero => rfl
  | succ k =>
    show b = (if q < n then _ else b)
    rw [if_neg (by omega)]
theorem g_cn_eq {n : Int} {c c' : Int → Bool} (h : ∀ q, 0 ≤ q → q < n → c q = c' q) : ∀ (m : Nat) (q b : Int), 0 ≤ q → g_cnt n c m q b = g_cnt n c' m q b
  | 0, _, _, _ => rfl
  | m + 1, q, b, q0 => by
    show (if q < n then g_cnt n c m (q + 1) (if c q = true then b + 1 else b) else b) = (if q < n then g_cnt n c' m (q + 1) (if c' q = true then b + 1 else b) else b)
    by_cases z : q < n
    · rw [if_pos z, if_pos z, h q q0 z]
      exact g_cn_eq h m _ _ (by omega)
    · rw [if_neg z, if_neg z]
theorem c_R.cn {fl : Bool} {s : h_S} (h : c_R fl s) {n : Int} {S : Int → Int} (hn : n = s 98 1) (hS : S = s 99) : g_cnt (s 10 8) (fun p => decide (s 12 p = -4)) 6 0 0 = g_cnt n (fun p => decide (S (6 + p) = 0)) 6 0 0 := by
  rw [hn, hS, ← h.sz.1]
  refine g_cn_eq (fun q a b => decide_eq_decide.mpr ?_) 6 0 0 (by omega)
  have y := h.ps a b
  omega
set_option maxHeartbeats 100000000 in
theorem n_pl_l (ns : Nat) (σ : h_S) (hI : h_I σ) {Q : Option Value → h_S → Prop} (kk : ∀ (r : Int32) (b : Int) (hb : r.toInt = b), (0 ≤ b ∧ b ≤ 6) → (b = g_cnt (σ 10 8) (fun p => decide (σ 12 p = -4)) 6 0 0) → Q (some (.int r)) σ) : ∀ n : Nat, (∀ (y1 : Int32) (b1 : Int), y1.toInt = b1 → (0 ≤ b1 ∧ b1 ≤ 7) → ∀ (y2 : Int32) (b2 : Int), y2.toInt = b2 → (0 ≤ b2 ∧ b2 ≤ 6) → (g_cnt (σ 10 8) (fun p => decide (σ 12 p = -4)) (6 - b2).toNat b2 b1 = g_cnt (σ 10 8) (fun p => decide (σ 12 p = -4)) 6 0 0) → (0 ≤ b1 ∧ b1 ≤ b2) → (6 + 1 - b2) * 1000000 + 1000000000 ≤ (n : Int) → h_T g_P (g_Y ns) 12 4 [(0, .ref 10), (1, .int y1), (2, .int y2)] [] σ Q) := by
  intro n
  induction n with
  | zero => exact by intro  y1 b1 hy1 ry1 y2 b2 hy2 ry2 ex0 ex1 hm; have gg0 := tf_10_8 hI; exfalso; omega
  | succ n ih =>
    intro  y1 b1 hy1 ry1 y2 b2 hy2 ry2 ex0 ex1 hm; have gg0 := tf_10_8 hI
    refine h_iload_n (pc' := 5) rfl rfl rfl ?_
    refine h_aload_n (pc' := 6) rfl rfl rfl ?_
    refine h_getI (pc' := 9) (v := σ 10 8) rfl rfl rfl rfl rfl rfl (fun z1 hz1 => ?_)
    have tz1 := tf_10_8 hI
    refine h_cge (tg := 32) (pc' := 12) rfl rfl rfl hy2 hz1 (fun c2 => ?_) (fun c2 => ?_)
    · refine h_iload_n (pc' := 33) rfl rfl rfl ?_
      exact h_iret rfl rfl (kk _ _ hy1 (by omega) (g_cn_o ex0 (by omega)))
    · refine h_aload_n (pc' := 13) rfl rfl rfl ?_
      refine h_getR (pc' := 16) rfl rfl rfl rfl rfl ?_
      refine h_iload_n (pc' := 17) rfl rfl rfl ?_
      refine h_iald (pc' := 18) (v := σ 12 b2) rfl rfl rfl hy2 (by omega) (by omega) rfl (fun z3 hz3 => ?_)
      have tz3 := ty_12 hI b2
      refine h_bipush (pc' := 20) (x := (Int32.ofInt (-4))) rfl rfl cb_m4 ?_
      refine h_cne (tg := 26) (pc' := 23) rfl rfl rfl hz3 ci_m4 (fun c4 => ?_) (fun c4 => ?_)
      · refine h_iinc (pc' := 29) (M := fun z5 => [(2, .int z5), (0, .ref 10), (1, .int y1)]) rfl rfl rfl rfl hy2 ci_1 rfl (by omega) (by omega) (fun _ => rfl) (fun z5 hz5 => ?_)
        refine h_goto (pc' := 4) rfl rfl ?_
        exact h_wk [(0, .ref 10), (1, .int y1), (2, .int z5)] ⟨rfl, rfl, rfl, trivial⟩ (ih y1 _ hy1 (by omega) z5 _ hz5 (by omega) (by first | exact g_cn_y ex0 (by omega) (by omega) (decide_eq_true (by omega)) (by omega) | exact g_cn_n ex0 (by omega) (by omega) (decide_eq_false (by omega)) (by omega)) (by omega) (by omega))
      · refine h_iinc (pc' := 26) (M := fun z6 => [(1, .int z6), (0, .ref 10), (2, .int y2)]) rfl rfl rfl rfl hy1 ci_1 rfl (by omega) (by omega) (fun _ => rfl) (fun z6 hz6 => ?_)
        refine h_iinc (pc' := 29) (M := fun z7 => [(2, .int z7), (1, .int z6), (0, .ref 10)]) rfl rfl rfl rfl hy2 ci_1 rfl (by omega) (by omega) (fun _ => rfl) (fun z7 hz7 => ?_)
        refine h_goto (pc' := 4) rfl rfl ?_
        exact h_wk [(0, .ref 10), (1, .int z6), (2, .int z7)] ⟨rfl, rfl, rfl, trivial⟩ (ih z6 _ hz6 (by omega) z7 _ hz7 (by omega) (by first | exact g_cn_y ex0 (by omega) (by omega) (decide_eq_true (by omega)) (by omega) | exact g_cn_n ex0 (by omega) (by omega) (decide_eq_false (by omega)) (by omega)) (by omega) (by omega))
set_option maxHeartbeats 100000000 in
theorem n_pl {ns : Nat} (σ : h_S) (hI : h_I σ) {Q : Option Value → h_S → Prop} (kk : ∀ (r : Int32) (b : Int) (hb : r.toInt = b), (0 ≤ b ∧ b ≤ 6) → (b = g_cnt (σ 10 8) (fun p => decide (σ 12 p = -4)) 6 0 0) → Q (some (.int r)) σ) : h_T g_P (g_Y ns) 12 0 [(0, .ref 10)] [] σ Q := by
  have gg0 := tf_10_8 hI
  have ge0 := tf_10_8 hI
  refine h_iconst (pc' := 1) (x := (Int32.ofInt 0)) rfl rfl rfl ?_
  refine h_istore_n (pc' := 2) (M := [(1, .int (Int32.ofInt 0)), (0, .ref 10)]) rfl rfl rfl rfl ?_
  refine h_iconst (pc' := 3) (x := (Int32.ofInt 0)) rfl rfl rfl ?_
  refine h_istore_n (pc' := 4) (M := [(2, .int (Int32.ofInt 0)), (1, .int (Int32.ofInt 0)), (0, .ref 10)]) rfl rfl rfl rfl ?_
  exact h_wk [(0, .ref 10), (1, .int (Int32.ofInt 0)), (2, .int (Int32.ofInt 0))] ⟨rfl, rfl, rfl, trivial⟩ ((n_pl_l ns σ hI  kk 1000000000000) (Int32.ofInt 0) _ ci_0 (by omega) (Int32.ofInt 0) _ ci_0 (by omega) rfl (by omega) (by omega))
set_option maxHeartbeats 100000000 in
theorem n_cnt_l (ns : Nat) (σ : h_S) (hI : h_I σ) (x0 : Int32) (a0 : Int) (hx0 : x0.toInt = a0) {Q : Option Value → h_S → Prop} (kk : ∀ (r : Int32) (b : Int) (hb : r.toInt = b), ((-4) ≤ b ∧ b ≤ 160) → ((a0 = 0 ∧ b = σ 98 29) ∨ (a0 = 1 ∧ b = σ 110 0 + σ 110 1) ∨ (a0 = 2 ∧ b = σ 98 11) ∨ (a0 = 3 ∧ ((σ 111 0 = -4 ∧ b = -4) ∨ (¬ σ 111 0 = -4 ∧ b = σ 112 0))) ∨ (a0 = 4 ∧ b = g_cnt (σ 98 1) (fun p => decide (σ 99 (6 + p) = 0)) 6 0 0) ∨ ((a0 < 0 ∨ 4 < a0) ∧ b = -1)) → Q (some (.int r)) σ) : ∀ n : Nat, (∀ (y2 : Int32) (b2 : Int), y2.toInt = b2 → (0 ≤ b2 ∧ b2 ≤ 7) → ∀ (y3 : Int32) (b3 : Int), y3.toInt = b3 → (0 ≤ b3 ∧ b3 ≤ 6) → (g_cnt (σ 98 1) (fun p => decide (σ 99 (6 + p) = 0)) (6 - b3).toNat b3 b2 = g_cnt (σ 98 1) (fun p => decide (σ 99 (6 + p) = 0)) 6 0 0) → (0 ≤ b2 ∧ b2 ≤ b3) → (6 + 1 - b3) * 1000000 + 1000000000 ≤ (n : Int) → h_T g_P (g_Y ns) 224 4 [(0, .ref 98), (1, .int x0), (2, .int y2), (3, .int y3)] [] σ Q) := by
  intro n
  induction n with
  | zero => exact by intro  y2 b2 hy2 ry2 y3 b3 hy3 ry3 ex0 ex1 hm; exfalso; omega
  | succ n ih =>
    intro  y2 b2 hy2 ry2 y3 b3 hy3 ry3 ex0 ex1 hm
    refine h_iload_n (pc' := 5) rfl rfl rfl ?_
    refine h_aload_n (pc' := 6) rfl rfl rfl ?_
    refine h_getI (pc' := 9) (v := σ 98 1) rfl rfl rfl rfl rfl rfl (fun z1 hz1 => ?_)
    have tz1 := tf_98_1 hI
    refine h_cge (tg := 38) (pc' := 12) rfl rfl rfl hy3 hz1 (fun c2 => ?_) (fun c2 => ?_)
    · refine h_iload_n (pc' := 39) rfl rfl rfl ?_
      refine h_tsw (dt := 137) (ts := [72, 77, 107, 112, 135]) rfl rfl rfl rfl hx0 (fun c3 => ?_) ⟨fun c3 => ?_, fun c3 => ?_, fun c3 => ?_, fun c3 => ?_, fun c3 => ?_, trivial⟩
      · refine h_iconst (pc' := 138) (x := (Int32.ofInt (-1))) rfl rfl rfl ?_
        exact h_iret rfl rfl (kk _ _ ci_m1 (by omega) (by have gc := g_cn_o ex0 (by omega); have k0 := ty_110 hI 0; have k1 := ty_110 hI 1; omega))
      · refine h_aload_n (pc' := 73) rfl rfl rfl ?_
        refine h_getI (pc' := 76) (v := σ 98 29) rfl rfl rfl rfl rfl rfl (fun z4 hz4 => ?_)
        have tz4 := tf_98_29 hI
        exact h_iret rfl rfl (kk _ _ hz4 (by omega) (by have gc := g_cn_o ex0 (by omega); have k0 := ty_110 hI 0; have k1 := ty_110 hI 1; omega))
      · refine h_aload_n (pc' := 78) rfl rfl rfl ?_
        refine h_getR (pc' := 81) rfl rfl rfl rfl rfl ?_
        refine h_iconst (pc' := 82) (x := (Int32.ofInt 0)) rfl rfl rfl ?_
        refine h_bald (pc' := 83) (v := σ 110 0) rfl rfl rfl ci_0 (by omega) (by omega) rfl (fun z5 hz5 => ?_)
        have tz5 := ty_110 hI 0
        refine h_zeq (tg := 90) (pc' := 86) rfl rfl rfl hz5 (fun c6 => ?_) (fun c6 => ?_)
        · refine h_iconst (pc' := 91) (x := (Int32.ofInt 0)) rfl rfl rfl ?_
          refine h_aload_n (pc' := 92) rfl rfl rfl ?_
          refine h_getR (pc' := 95) rfl rfl rfl rfl rfl ?_
          refine h_iconst (pc' := 96) (x := (Int32.ofInt 1)) rfl rfl rfl ?_
          refine h_bald (pc' := 97) (v := σ 110 1) rfl rfl rfl ci_1 (by omega) (by omega) rfl (fun z7 hz7 => ?_)
          have tz7 := ty_110 hI 1
          refine h_zeq (tg := 104) (pc' := 100) rfl rfl rfl hz7 (fun c8 => ?_) (fun c8 => ?_)
          · refine h_iconst (pc' := 105) (x := (Int32.ofInt 0)) rfl rfl rfl ?_
            refine h_iadd (pc' := 106) (c := 0) rfl rfl ci_0 ci_0 rfl (by omega) (by omega) (fun z9 hz9 => ?_)
            exact h_iret rfl rfl (kk _ _ hz9 (by omega) (by have gc := g_cn_o ex0 (by omega); have k0 := ty_110 hI 0; have k1 := ty_110 hI 1; omega))
          · refine h_iconst (pc' := 101) (x := (Int32.ofInt 1)) rfl rfl rfl ?_
            refine h_goto (pc' := 105) rfl rfl ?_
            refine h_iadd (pc' := 106) (c := 1) rfl rfl ci_0 ci_1 rfl (by omega) (by omega) (fun z10 hz10 => ?_)
            exact h_iret rfl rfl (kk _ _ hz10 (by omega) (by have gc := g_cn_o ex0 (by omega); have k0 := ty_110 hI 0; have k1 := ty_110 hI 1; omega))
        · refine h_iconst (pc' := 87) (x := (Int32.ofInt 1)) rfl rfl rfl ?_
          refine h_goto (pc' := 91) rfl rfl ?_
          refine h_aload_n (pc' := 92) rfl rfl rfl ?_
          refine h_getR (pc' := 95) rfl rfl rfl rfl rfl ?_
          refine h_iconst (pc' := 96) (x := (Int32.ofInt 1)) rfl rfl rfl ?_
          refine h_bald (pc' := 97) (v := σ 110 1) rfl rfl rfl ci_1 (by omega) (by omega) rfl (fun z11 hz11 => ?_)
          have tz11 := ty_110 hI 1
          refine h_zeq (tg := 104) (pc' := 100) rfl rfl rfl hz11 (fun c12 => ?_) (fun c12 => ?_)
          · refine h_iconst (pc' := 105) (x := (Int32.ofInt 0)) rfl rfl rfl ?_
            refine h_iadd (pc' := 106) (c := 1) rfl rfl ci_1 ci_0 rfl (by omega) (by omega) (fun z13 hz13 => ?_)
            exact h_iret rfl rfl (kk _ _ hz13 (by omega) (by have gc := g_cn_o ex0 (by omega); have k0 := ty_110 hI 0; have k1 := ty_110 hI 1; omega))
          · refine h_iconst (pc' := 101) (x := (Int32.ofInt 1)) rfl rfl rfl ?_
            refine h_goto (pc' := 105) rfl rfl ?_
            refine h_iadd (pc' := 106) (c := 2) rfl rfl ci_1 ci_1 rfl (by omega) (by omega) (fun z14 hz14 => ?_)
            exact h_iret rfl rfl (kk _ _ hz14 (by omega) (by have gc := g_cn_o ex0 (by omega); have k0 := ty_110 hI 0; have k1 := ty_110 hI 1; omega))
      · refine h_aload_n (pc' := 108) rfl rfl rfl ?_
        refine h_getI (pc' := 111) (v := σ 98 11) rfl rfl rfl rfl rfl rfl (fun z15 hz15 => ?_)
        have tz15 := tf_98_11 hI
        exact h_iret rfl rfl (kk _ _ hz15 (by omega) (by have gc := g_cn_o ex0 (by omega); have k0 := ty_110 hI 0; have k1 := ty_110 hI 1; omega))
      · refine h_aload_n (pc' := 113) rfl rfl rfl ?_
        refine h_getR (pc' := 116) rfl rfl rfl rfl rfl ?_
        refine h_iconst (pc' := 117) (x := (Int32.ofInt 0)) rfl rfl rfl ?_
        refine h_iald (pc' := 118) (v := σ 111 0) rfl rfl rfl ci_0 (by omega) (by omega) rfl (fun z16 hz16 => ?_)
        have tz16 := ty_111 hI 0
        refine h_bipush (pc' := 120) (x := (Int32.ofInt (-4))) rfl rfl cb_m4 ?_
        refine h_cne (tg := 128) (pc' := 123) rfl rfl rfl hz16 ci_m4 (fun c17 => ?_) (fun c17 => ?_)
        · refine h_aload_n (pc' := 129) rfl rfl rfl ?_
          refine h_getR (pc' := 132) rfl rfl rfl rfl rfl ?_
          refine h_iconst (pc' := 133) (x := (Int32.ofInt 0)) rfl rfl rfl ?_
          refine h_iald (pc' := 134) (v := σ 112 0) rfl rfl rfl ci_0 (by omega) (by omega) rfl (fun z18 hz18 => ?_)
          have tz18 := ty_112 hI 0
          exact h_iret rfl rfl (kk _ _ hz18 (by omega) (by have gc := g_cn_o ex0 (by omega); have k0 := ty_110 hI 0; have k1 := ty_110 hI 1; omega))
        · refine h_bipush (pc' := 125) (x := (Int32.ofInt (-4))) rfl rfl cb_m4 ?_
          refine h_goto (pc' := 134) rfl rfl ?_
          exact h_iret rfl rfl (kk _ _ ci_m4 (by omega) (by have gc := g_cn_o ex0 (by omega); have k0 := ty_110 hI 0; have k1 := ty_110 hI 1; omega))
      · refine h_iload_n (pc' := 136) rfl rfl rfl ?_
        exact h_iret rfl rfl (kk _ _ hy2 (by omega) (by have gc := g_cn_o ex0 (by omega); have k0 := ty_110 hI 0; have k1 := ty_110 hI 1; omega))
    · refine h_iload_n (pc' := 13) rfl rfl rfl ?_
      refine h_aload_n (pc' := 14) rfl rfl rfl ?_
      refine h_getR (pc' := 17) rfl rfl rfl rfl rfl ?_
      refine h_bipush (pc' := 19) (x := (Int32.ofInt 6)) rfl rfl cb_6 ?_
      refine h_iload_n (pc' := 20) rfl rfl rfl ?_
      refine h_iadd (pc' := 21) rfl rfl ci_6 hy3 rfl (by omega) (by omega) (fun z19 hz19 => ?_)
      refine h_iald (pc' := 22) (v := σ 99 (6 + b3)) rfl rfl rfl hz19 (by omega) (by omega) rfl (fun z20 hz20 => ?_)
      have tz20 := ty_99_1 hI (6 + b3) (by omega)
      refine h_zne (tg := 29) (pc' := 25) rfl rfl rfl hz20 (fun c21 => ?_) (fun c21 => ?_)
      · refine h_iconst (pc' := 30) (x := (Int32.ofInt 0)) rfl rfl rfl ?_
        refine h_iadd (pc' := 31) rfl rfl hy2 ci_0 rfl (by omega) (by omega) (fun z22 hz22 => ?_)
        refine h_istore_n (pc' := 32) (M := [(2, .int z22), (0, .ref 98), (1, .int x0), (3, .int y3)]) rfl rfl rfl rfl ?_
        refine h_iinc (pc' := 35) (M := fun z23 => [(3, .int z23), (2, .int z22), (0, .ref 98), (1, .int x0)]) rfl rfl rfl rfl hy3 ci_1 rfl (by omega) (by omega) (fun _ => rfl) (fun z23 hz23 => ?_)
        refine h_goto (pc' := 4) rfl rfl ?_
        exact h_wk [(0, .ref 98), (1, .int x0), (2, .int z22), (3, .int z23)] ⟨rfl, rfl, rfl, rfl, trivial⟩ (ih z22 _ hz22 (by omega) z23 _ hz23 (by omega) (by first | exact g_cn_y ex0 (by omega) (by omega) (decide_eq_true (by omega)) (by omega) | exact g_cn_n ex0 (by omega) (by omega) (decide_eq_false (by omega)) (by omega)) (by omega) (by omega))
      · refine h_iconst (pc' := 26) (x := (Int32.ofInt 1)) rfl rfl rfl ?_
        refine h_goto (pc' := 30) rfl rfl ?_
        refine h_iadd (pc' := 31) rfl rfl hy2 ci_1 rfl (by omega) (by omega) (fun z24 hz24 => ?_)
        refine h_istore_n (pc' := 32) (M := [(2, .int z24), (0, .ref 98), (1, .int x0), (3, .int y3)]) rfl rfl rfl rfl ?_
        refine h_iinc (pc' := 35) (M := fun z25 => [(3, .int z25), (2, .int z24), (0, .ref 98), (1, .int x0)]) rfl rfl rfl rfl hy3 ci_1 rfl (by omega) (by omega) (fun _ => rfl) (fun z25 hz25 => ?_)
        refine h_goto (pc' := 4) rfl rfl ?_
        exact h_wk [(0, .ref 98), (1, .int x0), (2, .int z24), (3, .int z25)] ⟨rfl, rfl, rfl, rfl, trivial⟩ (ih z24 _ hz24 (by omega) z25 _ hz25 (by omega) (by first | exact g_cn_y ex0 (by omega) (by omega) (decide_eq_true (by omega)) (by omega) | exact g_cn_n ex0 (by omega) (by omega) (decide_eq_false (by omega)) (by omega)) (by omega) (by omega))
set_option maxHeartbeats 100000000 in
theorem n_cnt {ns : Nat} (σ : h_S) (hI : h_I σ) (x0 : Int32) (a0 : Int) (hx0 : x0.toInt = a0) {Q : Option Value → h_S → Prop} (kk : ∀ (r : Int32) (b : Int) (hb : r.toInt = b), ((-4) ≤ b ∧ b ≤ 160) → ((a0 = 0 ∧ b = σ 98 29) ∨ (a0 = 1 ∧ b = σ 110 0 + σ 110 1) ∨ (a0 = 2 ∧ b = σ 98 11) ∨ (a0 = 3 ∧ ((σ 111 0 = -4 ∧ b = -4) ∨ (¬ σ 111 0 = -4 ∧ b = σ 112 0))) ∨ (a0 = 4 ∧ b = g_cnt (σ 98 1) (fun p => decide (σ 99 (6 + p) = 0)) 6 0 0) ∨ ((a0 < 0 ∨ 4 < a0) ∧ b = -1)) → Q (some (.int r)) σ) : h_T g_P (g_Y ns) 224 0 [(0, .ref 98), (1, .int x0)] [] σ Q := by
  refine h_iconst (pc' := 1) (x := (Int32.ofInt 0)) rfl rfl rfl ?_
  refine h_istore_n (pc' := 2) (M := [(2, .int (Int32.ofInt 0)), (0, .ref 98), (1, .int x0)]) rfl rfl rfl rfl ?_
  refine h_iconst (pc' := 3) (x := (Int32.ofInt 0)) rfl rfl rfl ?_
  refine h_istore_n (pc' := 4) (M := [(3, .int (Int32.ofInt 0)), (2, .int (Int32.ofInt 0)), (0, .ref 98), (1, .int x0)]) rfl rfl rfl rfl ?_
  exact h_wk [(0, .ref 98), (1, .int x0), (2, .int (Int32.ofInt 0)), (3, .int (Int32.ofInt 0))] ⟨rfl, rfl, rfl, rfl, trivial⟩ ((n_cnt_l ns σ hI x0 a0 hx0 kk 1000000000000) (Int32.ofInt 0) _ ci_0 (by omega) (Int32.ofInt 0) _ ci_0 (by omega) rfl (by omega) (by omega))
