/-! BITS, FOREBEARS -/
def g_or (b : Int32) (x : Int) : Int32 := b ||| ((Int32.ofInt 1) <<< ((Int32.ofInt x) &&& 31))
def g_hb (b : Int32) (x : Int) : Int := ((b >>> ((Int32.ofInt x) &&& 31)) &&& (Int32.ofInt 1)).toInt
theorem g_ofi {y : Int32} {x : Int} (h : y.toInt = x) : Int32.ofInt x = y := by
  rw [← h]
  exact Int32.ofInt_toInt y
theorem g_or_of {z b w y : Int32} {x : Int} (hz : z = b ||| w) (hw : w = (Int32.ofInt 1) <<< (y &&& 31)) (hy : y.toInt = x) : z = g_or b x := by
  unfold g_or
  rw [g_ofi hy, hz, hw]
theorem g_hb_of {z v b y : Int32} {x : Int} (hz : z = v &&& (Int32.ofInt 1)) (hv : v = b >>> (y &&& 31)) (hy : y.toInt = x) : z.toInt = g_hb b x := by
  unfold g_hb
  rw [g_ofi hy, hz, hv]
def g_fb (par : Int → Int) : Nat → Int → Int32 → Int32
  | 0, _, b => b
  | n + 1, x, b => if 0 ≤ x then g_fb par n (par x) (g_or b x) else b
theorem g_fb_s {par : Int → Int} {n m : Nat} {x x' : Int} {b b' T : Int32} (h : g_fb par n x b = T) (hn : n = m + 1) (hx : 0 ≤ x) (hb : b' = g_or b x) (hx' : x' = par x) : g_fb par m x' b' = T := by
  subst hn
  subst hb
  subst hx'
  rw [← h]
  show _ = (if 0 ≤ x then g_fb par m (par x) (g_or b x) else b)
  rw [if_pos hx]
theorem g_fb_0 {par : Int → Int} {n : Nat} {x : Int} {b T : Int32} (h : g_fb par n x b = T) (hn : n = 0 ∨ x < 0) : b = T := by
  rw [← h]
  cases n with
  | zero => rfl
  | succ n =>
    show _ = (if 0 ≤ x then g_fb par n (par x) (g_or b x) else b)
    rw [if_neg (by omega)]
theorem g_fb_eq {p p' : Int → Int} {N : Int} (h : ∀ j, 0 ≤ j → j < N → p j = p' j ∧ p j < N) : ∀ (n : Nat) (x : Int) (b : Int32), x < N → g_fb p n x b = g_fb p' n x b
  | 0, _, _, _ => rfl
  | n + 1, x, b, hx => by
    show (if 0 ≤ x then g_fb p n (p x) (g_or b x) else b) = (if 0 ≤ x then g_fb p' n (p' x) (g_or b x) else b)
    by_cases c : 0 ≤ x
    · rw [if_pos c, if_pos c, ← (h x c hx).1]
      exact g_fb_eq h n _ _ (h x c hx).2
    · rw [if_neg c, if_neg c]
def g_on (g : Int → Int) (x : Int) : Int := if g (6 + x) = 0 then -4 else g (6 + x) - 1
def g_tp (b : Int32) : Nat → Int
  | 0 => -4
  | n + 1 => if g_hb b (n : Int) = 0 then g_tp b n else (n : Int)
theorem g_tp_1 {b : Int32} {n m : Nat} {x T : Int} (h : g_tp b n = T) (hn : n = m + 1) (hx : (m : Int) = x) (hc : ¬ g_hb b x = 0) : x = T := by
  subst hn
  subst hx
  rw [← h]
  show _ = (if g_hb b (m : Int) = 0 then g_tp b m else (m : Int))
  rw [if_neg hc]
theorem g_tp_0 {b : Int32} {n m : Nat} {x T : Int} (h : g_tp b n = T) (hn : n = m + 1) (hx : (m : Int) = x) (hc : g_hb b x = 0) : g_tp b m = T := by
  subst hn
  subst hx
  rw [← h]
  show _ = (if g_hb b (m : Int) = 0 then g_tp b m else (m : Int))
  rw [if_pos hc]
theorem g_tp_s {b : Int32} {n m : Nat} {x f f' : Int} (h : f = g_tp b n) (hm : m = n + 1) (hx : (n : Int) = x) (hc : (g_hb b x = 0 ∧ f' = f) ∨ (¬ g_hb b x = 0 ∧ f' = x)) : f' = g_tp b m := by
  subst hm
  subst hx
  show _ = (if g_hb b (n : Int) = 0 then g_tp b n else (n : Int))
  rcases hc with c | c
  · rw [if_pos c.1, c.2, h]
  · rw [if_neg c.1, c.2]
def g_wf (s : h_S) : Prop := ∀ j, 0 ≤ j → j < s 10 8 → s 12 j < s 10 8
set_option maxHeartbeats 100000000 in
theorem n_fbX_l (ns : Nat) (σ : h_S) (hI : h_I σ) (x0 : Int32) (a0 : Int) (hx0 : x0.toInt = a0) (ra0 : 0 ≤ a0 ∧ a0 ≤ 5) (pr0 : a0 < σ 10 8) (pr1 : g_wf σ) {Q : Option Value → h_S → Prop} (kk : ∀ (r : Int32) (b : Int) (hb : r.toInt = b), (r = g_fb (σ 12) 6 a0 0) → Q (some (.int r)) σ) : ∀ n : Nat, (∀ (y2 : Int32) (b2 : Int), y2.toInt = b2 → ∀ (y3 : Int32) (b3 : Int), y3.toInt = b3 → ((-4) ≤ b3 ∧ b3 ≤ 5) → ∀ (y4 : Int32) (b4 : Int), y4.toInt = b4 → (0 ≤ b4 ∧ b4 ≤ 6) → (b3 < σ 10 8) → (g_fb (σ 12) (6 - b4).toNat b3 y2 = g_fb (σ 12) 6 a0 0) → (6 + 1 - b4) * 1000000 + 1000000000 ≤ (n : Int) → h_T g_P (g_Y ns) 15 7 [(0, .ref 10), (1, .int x0), (2, .int y2), (3, .int y3), (4, .int y4)] [] σ Q) := by
  intro n
  induction n with
  | zero => exact by intro  y2 b2 hy2 y3 b3 hy3 ry3 y4 b4 hy4 ry4 ex0 ex1 hm; exfalso; omega
  | succ n ih =>
    intro  y2 b2 hy2 y3 b3 hy3 ry3 y4 b4 hy4 ry4 ex0 ex1 hm
    refine h_iload (pc' := 9) rfl rfl rfl ?_
    refine h_bipush (pc' := 11) (x := (Int32.ofInt 6)) rfl rfl cb_6 ?_
    refine h_cge (tg := 41) (pc' := 14) rfl rfl rfl hy4 ci_6 (fun c1 => ?_) (fun c1 => ?_)
    · refine h_iload_n (pc' := 42) rfl rfl rfl ?_
      exact h_iret rfl rfl (kk _ _ hy2 (g_fb_0 ex1 (by omega)))
    · refine h_aload_n (pc' := 15) rfl rfl rfl ?_
      refine h_iload_n (pc' := 16) rfl rfl rfl ?_
      refine h_call (sp := false) (pc' := 19) (M := [(0, .ref 10), (1, .int y3)]) rfl rfl rfl rfl rfl rfl rfl rfl ?_
      refine h_iload_n (pc' := 1) rfl rfl rfl ?_
      refine h_zlt (tg := 16) (pc' := 4) rfl rfl rfl hy3 (fun c2 => ?_) (fun c2 => ?_)
      · refine h_iconst (pc' := 17) (x := (Int32.ofInt 0)) rfl rfl rfl ?_
        refine h_zret rfl rfl ci_0 (by omega) (h_Kv ?_)
        refine h_zeq (tg := 41) (pc' := 22) rfl rfl rfl ci_0 (fun c3 => ?_) (fun c3 => absurd c3 (by omega))
        refine h_iload_n (pc' := 42) rfl rfl rfl ?_
        exact h_iret rfl rfl (kk _ _ hy2 (g_fb_0 ex1 (by omega)))
      · refine h_iload_n (pc' := 5) rfl rfl rfl ?_
        refine h_aload_n (pc' := 6) rfl rfl rfl ?_
        refine h_getI (pc' := 9) (v := σ 10 8) rfl rfl rfl rfl rfl rfl (fun z4 hz4 => ?_)
        have tz4 := tf_10_8 hI
        refine h_cge (tg := 16) (pc' := 12) rfl rfl rfl hy3 hz4 (fun c5 => ?_) (fun c5 => ?_)
        · refine h_iconst (pc' := 17) (x := (Int32.ofInt 0)) rfl rfl rfl ?_
          refine h_zret rfl rfl ci_0 (by omega) (h_Kv ?_)
          refine h_zeq (tg := 41) (pc' := 22) rfl rfl rfl ci_0 (fun c6 => ?_) (fun c6 => absurd c6 (by omega))
          refine h_iload_n (pc' := 42) rfl rfl rfl ?_
          exact h_iret rfl rfl (kk _ _ hy2 (g_fb_0 ex1 (by omega)))
        · refine h_iconst (pc' := 13) (x := (Int32.ofInt 1)) rfl rfl rfl ?_
          refine h_goto (pc' := 17) rfl rfl ?_
          refine h_zret rfl rfl ci_1 (by omega) (h_Kv ?_)
          refine h_zeq (tg := 41) (pc' := 22) rfl rfl rfl ci_1 (fun c7 => absurd c7 (by omega)) (fun c7 => ?_)
          refine h_iload_n (pc' := 23) rfl rfl rfl ?_
          refine h_iconst (pc' := 24) (x := (Int32.ofInt 1)) rfl rfl rfl ?_
          refine h_iload_n (pc' := 25) rfl rfl rfl ?_
          refine h_shl1 (pc' := 26) rfl rfl ci_1 hy3 (by omega) (by omega) (fun z8 hz8 vz8 => ?_)
          refine h_ior (pc' := 27) rfl rfl (fun z9 hz9 => ?_)
          refine h_istore_n (pc' := 28) (M := [(2, .int z9), (0, .ref 10), (1, .int x0), (3, .int y3), (4, .int y4)]) rfl rfl rfl rfl ?_
          refine h_aload_n (pc' := 29) rfl rfl rfl ?_
          refine h_getR (pc' := 32) rfl rfl rfl rfl rfl ?_
          refine h_iload_n (pc' := 33) rfl rfl rfl ?_
          refine h_iald (pc' := 34) (v := σ 12 b3) rfl rfl rfl hy3 (by omega) (by omega) rfl (fun z10 hz10 => ?_)
          have tz10 := ty_12 hI b3
          refine h_istore_n (pc' := 35) (M := [(3, .int z10), (2, .int z9), (0, .ref 10), (1, .int x0), (4, .int y4)]) rfl rfl rfl rfl ?_
          refine h_iinc (pc' := 38) (M := fun z11 => [(4, .int z11), (3, .int z10), (2, .int z9), (0, .ref 10), (1, .int x0)]) rfl rfl rfl rfl hy4 ci_1 rfl (by omega) (by omega) (fun _ => rfl) (fun z11 hz11 => ?_)
          refine h_goto (pc' := 7) rfl rfl ?_
          exact h_wk [(0, .ref 10), (1, .int x0), (2, .int z9), (3, .int z10), (4, .int z11)] ⟨rfl, rfl, rfl, rfl, rfl, trivial⟩ (ih z9 _ rfl z10 _ hz10 (by omega) z11 _ hz11 (by omega) (by have gw := pr1 b3 (by omega) (by omega); omega) (g_fb_s ex1 (by omega) (by omega) (g_or_of hz9 hz8 hy3) rfl) (by omega))
set_option maxHeartbeats 100000000 in
theorem n_fbX {ns : Nat} (σ : h_S) (hI : h_I σ) (x0 : Int32) (a0 : Int) (hx0 : x0.toInt = a0) (ra0 : 0 ≤ a0 ∧ a0 ≤ 5) (pr0 : a0 < σ 10 8) (pr1 : g_wf σ) {Q : Option Value → h_S → Prop} (kk : ∀ (r : Int32) (b : Int) (hb : r.toInt = b), (r = g_fb (σ 12) 6 a0 0) → Q (some (.int r)) σ) : h_T g_P (g_Y ns) 15 0 [(0, .ref 10), (1, .int x0)] [] σ Q := by
  refine h_iconst (pc' := 1) (x := (Int32.ofInt 0)) rfl rfl rfl ?_
  refine h_istore_n (pc' := 2) (M := [(2, .int (Int32.ofInt 0)), (0, .ref 10), (1, .int x0)]) rfl rfl rfl rfl ?_
  refine h_iload_n (pc' := 3) rfl rfl rfl ?_
  refine h_istore_n (pc' := 4) (M := [(3, .int x0), (2, .int (Int32.ofInt 0)), (0, .ref 10), (1, .int x0)]) rfl rfl rfl rfl ?_
  refine h_iconst (pc' := 5) (x := (Int32.ofInt 0)) rfl rfl rfl ?_
  refine h_istore (pc' := 7) (M := [(4, .int (Int32.ofInt 0)), (3, .int x0), (2, .int (Int32.ofInt 0)), (0, .ref 10), (1, .int x0)]) rfl rfl rfl rfl ?_
  exact h_wk [(0, .ref 10), (1, .int x0), (2, .int (Int32.ofInt 0)), (3, .int x0), (4, .int (Int32.ofInt 0))] ⟨rfl, rfl, rfl, rfl, rfl, trivial⟩ ((n_fbX_l ns σ hI x0 a0 hx0 ra0 pr0 pr1 kk 1000000000000) (Int32.ofInt 0) _ ci_0 x0 _ hx0 (by omega) (Int32.ofInt 0) _ ci_0 (by omega) (by omega) rfl (by omega))
set_option maxHeartbeats 100000000 in
theorem n_fbM_l (ns : Nat) (σ : h_S) (hI : h_I σ) (x0 : Int32) (a0 : Int) (hx0 : x0.toInt = a0) (ra0 : 0 ≤ a0 ∧ a0 ≤ 5) {Q : Option Value → h_S → Prop} (kk : ∀ (r : Int32) (b : Int) (hb : r.toInt = b), (r = g_fb (g_on (σ 99)) 6 a0 0) → Q (some (.int r)) σ) : ∀ n : Nat, (∀ (y2 : Int32) (b2 : Int), y2.toInt = b2 → ∀ (y3 : Int32) (b3 : Int), y3.toInt = b3 → ((-4) ≤ b3 ∧ b3 ≤ 5) → ∀ (y4 : Int32) (b4 : Int), y4.toInt = b4 → (0 ≤ b4 ∧ b4 ≤ 6) → (g_fb (g_on (σ 99)) (6 - b4).toNat b3 y2 = g_fb (g_on (σ 99)) 6 a0 0) → (b3 = -4 ∨ 0 ≤ b3) → (6 + 1 - b4) * 1000000 + 1000000000 ≤ (n : Int) → h_T g_P (g_Y ns) 176 7 [(0, .ref 98), (1, .int x0), (2, .int y2), (3, .int y3), (4, .int y4)] [] σ Q) := by
  intro n
  induction n with
  | zero => exact by intro  y2 b2 hy2 y3 b3 hy3 ry3 y4 b4 hy4 ry4 ex0 ex1 hm; exfalso; omega
  | succ n ih =>
    intro  y2 b2 hy2 y3 b3 hy3 ry3 y4 b4 hy4 ry4 ex0 ex1 hm
    refine h_iload (pc' := 9) rfl rfl rfl ?_
    refine h_bipush (pc' := 11) (x := (Int32.ofInt 6)) rfl rfl cb_6 ?_
    refine h_cge (tg := 45) (pc' := 14) rfl rfl rfl hy4 ci_6 (fun c1 => ?_) (fun c1 => ?_)
    · refine h_iload_n (pc' := 46) rfl rfl rfl ?_
      exact h_iret rfl rfl (kk _ _ hy2 (g_fb_0 ex0 (by omega)))
    · refine h_iload_n (pc' := 15) rfl rfl rfl ?_
      refine h_bipush (pc' := 17) (x := (Int32.ofInt (-4))) rfl rfl cb_m4 ?_
      refine h_ceq (tg := 45) (pc' := 20) rfl rfl rfl hy3 ci_m4 (fun c2 => ?_) (fun c2 => ?_)
      · refine h_iload_n (pc' := 46) rfl rfl rfl ?_
        exact h_iret rfl rfl (kk _ _ hy2 (g_fb_0 ex0 (by omega)))
      · refine h_iload_n (pc' := 21) rfl rfl rfl ?_
        refine h_iconst (pc' := 22) (x := (Int32.ofInt 1)) rfl rfl rfl ?_
        refine h_iload_n (pc' := 23) rfl rfl rfl ?_
        refine h_shl1 (pc' := 24) rfl rfl ci_1 hy3 (by omega) (by omega) (fun z3 hz3 vz3 => ?_)
        refine h_ior (pc' := 25) rfl rfl (fun z4 hz4 => ?_)
        refine h_istore_n (pc' := 26) (M := [(2, .int z4), (0, .ref 98), (1, .int x0), (3, .int y3), (4, .int y4)]) rfl rfl rfl rfl ?_
        refine h_aload_n (pc' := 27) rfl rfl rfl ?_
        refine h_getR (pc' := 30) rfl rfl rfl rfl rfl ?_
        refine h_bipush (pc' := 32) (x := (Int32.ofInt 6)) rfl rfl cb_6 ?_
        refine h_iload_n (pc' := 33) rfl rfl rfl ?_
        refine h_iadd (pc' := 34) rfl rfl ci_6 hy3 rfl (by omega) (by omega) (fun z5 hz5 => ?_)
        refine h_iald (pc' := 35) (v := σ 99 (6 + b3)) rfl rfl rfl hz5 (by omega) (by omega) rfl (fun z6 hz6 => ?_)
        have tz6 := ty_99_1 hI (6 + b3) (by omega)
        refine h_calls (pc' := 38) (M := [(0, .int z6)]) rfl rfl rfl rfl rfl rfl ?_
        refine h_iload_n (pc' := 1) rfl rfl rfl ?_
        refine h_zne (tg := 9) (pc' := 4) rfl rfl rfl hz6 (fun c7 => ?_) (fun c7 => ?_)
        · refine h_iload_n (pc' := 10) rfl rfl rfl ?_
          refine h_iconst (pc' := 11) (x := (Int32.ofInt 1)) rfl rfl rfl ?_
          refine h_isub (pc' := 12) rfl rfl hz6 ci_1 rfl (by omega) (by omega) (fun z8 hz8 => ?_)
          refine h_iret rfl rfl (h_Kv ?_)
          refine h_istore_n (pc' := 39) (M := [(3, .int z8), (2, .int z4), (0, .ref 98), (1, .int x0), (4, .int y4)]) rfl rfl rfl rfl ?_
          refine h_iinc (pc' := 42) (M := fun z9 => [(4, .int z9), (3, .int z8), (2, .int z4), (0, .ref 98), (1, .int x0)]) rfl rfl rfl rfl hy4 ci_1 rfl (by omega) (by omega) (fun _ => rfl) (fun z9 hz9 => ?_)
          refine h_goto (pc' := 7) rfl rfl ?_
          exact h_wk [(0, .ref 98), (1, .int x0), (2, .int z4), (3, .int z8), (4, .int z9)] ⟨rfl, rfl, rfl, rfl, rfl, trivial⟩ (ih z4 _ rfl z8 _ hz8 (by omega) z9 _ hz9 (by omega) (g_fb_s ex0 (by omega) (by omega) (g_or_of hz4 hz3 hy3) (by unfold g_on; split <;> omega)) (by omega) (by omega))
        · refine h_bipush (pc' := 6) (x := (Int32.ofInt (-4))) rfl rfl cb_m4 ?_
          refine h_goto (pc' := 12) rfl rfl ?_
          refine h_iret rfl rfl (h_Kv ?_)
          refine h_istore_n (pc' := 39) (M := [(3, .int (Int32.ofInt (-4))), (2, .int z4), (0, .ref 98), (1, .int x0), (4, .int y4)]) rfl rfl rfl rfl ?_
          refine h_iinc (pc' := 42) (M := fun z10 => [(4, .int z10), (3, .int (Int32.ofInt (-4))), (2, .int z4), (0, .ref 98), (1, .int x0)]) rfl rfl rfl rfl hy4 ci_1 rfl (by omega) (by omega) (fun _ => rfl) (fun z10 hz10 => ?_)
          refine h_goto (pc' := 7) rfl rfl ?_
          exact h_wk [(0, .ref 98), (1, .int x0), (2, .int z4), (3, .int (Int32.ofInt (-4))), (4, .int z10)] ⟨rfl, rfl, rfl, rfl, rfl, trivial⟩ (ih z4 _ rfl (Int32.ofInt (-4)) _ ci_m4 (by omega) z10 _ hz10 (by omega) (g_fb_s ex0 (by omega) (by omega) (g_or_of hz4 hz3 hy3) (by unfold g_on; split <;> omega)) (by omega) (by omega))
set_option maxHeartbeats 100000000 in
theorem n_fbM {ns : Nat} (σ : h_S) (hI : h_I σ) (x0 : Int32) (a0 : Int) (hx0 : x0.toInt = a0) (ra0 : 0 ≤ a0 ∧ a0 ≤ 5) {Q : Option Value → h_S → Prop} (kk : ∀ (r : Int32) (b : Int) (hb : r.toInt = b), (r = g_fb (g_on (σ 99)) 6 a0 0) → Q (some (.int r)) σ) : h_T g_P (g_Y ns) 176 0 [(0, .ref 98), (1, .int x0)] [] σ Q := by
  refine h_iconst (pc' := 1) (x := (Int32.ofInt 0)) rfl rfl rfl ?_
  refine h_istore_n (pc' := 2) (M := [(2, .int (Int32.ofInt 0)), (0, .ref 98), (1, .int x0)]) rfl rfl rfl rfl ?_
  refine h_iload_n (pc' := 3) rfl rfl rfl ?_
  refine h_istore_n (pc' := 4) (M := [(3, .int x0), (2, .int (Int32.ofInt 0)), (0, .ref 98), (1, .int x0)]) rfl rfl rfl rfl ?_
  refine h_iconst (pc' := 5) (x := (Int32.ofInt 0)) rfl rfl rfl ?_
  refine h_istore (pc' := 7) (M := [(4, .int (Int32.ofInt 0)), (3, .int x0), (2, .int (Int32.ofInt 0)), (0, .ref 98), (1, .int x0)]) rfl rfl rfl rfl ?_
  exact h_wk [(0, .ref 98), (1, .int x0), (2, .int (Int32.ofInt 0)), (3, .int x0), (4, .int (Int32.ofInt 0))] ⟨rfl, rfl, rfl, rfl, rfl, trivial⟩ ((n_fbM_l ns σ hI x0 a0 hx0 ra0 kk 1000000000000) (Int32.ofInt 0) _ ci_0 x0 _ hx0 (by omega) (Int32.ofInt 0) _ ci_0 (by omega) rfl (by omega) (by omega))
set_option maxHeartbeats 100000000 in
theorem n_cfX_l (ns : Nat) (σ : h_S) (hI : h_I σ) (x0 : Int32) (a0 : Int) (hx0 : x0.toInt = a0) (ra0 : 0 ≤ a0 ∧ a0 ≤ 5) (x1 : Int32) (a1 : Int) (hx1 : x1.toInt = a1) (ra1 : 0 ≤ a1 ∧ a1 ≤ 5) (pr0 : a0 < σ 10 8) (pr1 : a1 < σ 10 8) (pr2 : g_wf σ) {Q : Option Value → h_S → Prop} (kk : ∀ (r : Int32) (b : Int) (hb : r.toInt = b), ((-4) ≤ b ∧ b ≤ 5) → (b = g_tp (g_fb (σ 12) 6 a0 0 &&& g_fb (σ 12) 6 a1 0) (σ 10 8).toNat) → Q (some (.int r)) σ) : ∀ n : Nat, (∀ (y3 : Int32) (b3 : Int), y3.toInt = b3 → ∀ (y4 : Int32) (b4 : Int), y4.toInt = b4 → ((-1) ≤ b4 ∧ b4 ≤ 5) → (g_tp y3 (b4 + 1).toNat = g_tp y3 (σ 10 8).toNat) → (y3 = g_fb (σ 12) 6 a0 0 &&& g_fb (σ 12) 6 a1 0) → (b4 + 1 - (-1)) * 1000000 + 1000000000 ≤ (n : Int) → h_T g_P (g_Y ns) 14 20 [(0, .ref 10), (1, .int x0), (2, .int x1), (3, .int y3), (4, .int y4)] [] σ Q) := by
  intro n
  induction n with
  | zero => exact by intro  y3 b3 hy3 y4 b4 hy4 ry4 ex0 ex1 hm; have gg0 := pr2; exfalso; omega
  | succ n ih =>
    intro  y3 b3 hy3 y4 b4 hy4 ry4 ex0 ex1 hm; have gg0 := pr2
    refine h_iload (pc' := 22) rfl rfl rfl ?_
    refine h_zlt (tg := 43) (pc' := 25) rfl rfl rfl hy4 (fun c1 => ?_) (fun c1 => ?_)
    · refine h_bipush (pc' := 45) (x := (Int32.ofInt (-4))) rfl rfl cb_m4 ?_
      exact h_iret rfl rfl (kk _ _ ci_m4 (by omega) (by rw [← ex1, ← ex0, show (b4 + 1).toNat = 0 by omega]; rfl))
    · refine h_iload_n (pc' := 26) rfl rfl rfl ?_
      refine h_iload (pc' := 28) rfl rfl rfl ?_
      refine h_calls (pc' := 31) (M := [(0, .int y3), (1, .int y4)]) rfl rfl rfl rfl rfl rfl ?_
      refine h_iload_n (pc' := 1) rfl rfl rfl ?_
      refine h_iload_n (pc' := 2) rfl rfl rfl ?_
      refine h_ishr (pc' := 3) rfl rfl (fun z2 hz2 => ?_)
      refine h_iconst (pc' := 4) (x := (Int32.ofInt 1)) rfl rfl rfl ?_
      refine h_iand (pc' := 5) rfl rfl (fun z3 hz3 uz3 vz3 => ?_)
      clear uz3
      rw [ci_1] at vz3
      have yz3 := vz3 (by omega)
      have gz3 := g_hb_of hz3 hz2 hy4
      have kz3 : 0 ≤ z3.toInt ∧ z3.toInt ≤ 1 := by omega
      refine h_zeq (tg := 12) (pc' := 8) rfl rfl rfl rfl (fun c4 => ?_) (fun c4 => ?_)
      · refine h_iconst (pc' := 13) (x := (Int32.ofInt 0)) rfl rfl rfl ?_
        refine h_zret rfl rfl ci_0 (by omega) (h_Kv ?_)
        refine h_zeq (tg := 37) (pc' := 34) rfl rfl rfl ci_0 (fun c5 => ?_) (fun c5 => absurd c5 (by omega))
        refine h_iinc (pc' := 40) (M := fun z6 => [(4, .int z6), (0, .ref 10), (1, .int x0), (2, .int x1), (3, .int y3)]) rfl rfl rfl rfl hy4 ci_m1 rfl (by omega) (by omega) (fun _ => rfl) (fun z6 hz6 => ?_)
        refine h_goto (pc' := 20) rfl rfl ?_
        exact h_wk [(0, .ref 10), (1, .int x0), (2, .int x1), (3, .int y3), (4, .int z6)] ⟨rfl, rfl, rfl, rfl, rfl, trivial⟩ (ih y3 _ hy3 z6 _ hz6 (by omega) (g_tp_0 ex0 (m := (b4 - 1 + 1).toNat) (x := b4) (by omega) (by omega) (by omega)) ex1 (by omega))
      · refine h_iconst (pc' := 9) (x := (Int32.ofInt 1)) rfl rfl rfl ?_
        refine h_goto (pc' := 13) rfl rfl ?_
        refine h_zret rfl rfl ci_1 (by omega) (h_Kv ?_)
        refine h_zeq (tg := 37) (pc' := 34) rfl rfl rfl ci_1 (fun c7 => absurd c7 (by omega)) (fun c7 => ?_)
        refine h_iload (pc' := 36) rfl rfl rfl ?_
        exact h_iret rfl rfl (kk _ _ hy4 (by omega) (by rw [← ex1]; exact g_tp_1 ex0 (m := b4.toNat) (by omega) (by omega) (by omega)))
set_option maxHeartbeats 100000000 in
theorem n_cfX {ns : Nat} (σ : h_S) (hI : h_I σ) (x0 : Int32) (a0 : Int) (hx0 : x0.toInt = a0) (ra0 : 0 ≤ a0 ∧ a0 ≤ 5) (x1 : Int32) (a1 : Int) (hx1 : x1.toInt = a1) (ra1 : 0 ≤ a1 ∧ a1 ≤ 5) (pr0 : a0 < σ 10 8) (pr1 : a1 < σ 10 8) (pr2 : g_wf σ) {Q : Option Value → h_S → Prop} (kk : ∀ (r : Int32) (b : Int) (hb : r.toInt = b), ((-4) ≤ b ∧ b ≤ 5) → (b = g_tp (g_fb (σ 12) 6 a0 0 &&& g_fb (σ 12) 6 a1 0) (σ 10 8).toNat) → Q (some (.int r)) σ) : h_T g_P (g_Y ns) 14 0 [(0, .ref 10), (1, .int x0), (2, .int x1)] [] σ Q := by
  have gg0 := pr2
  refine h_aload_n (pc' := 1) rfl rfl rfl ?_
  refine h_iload_n (pc' := 2) rfl rfl rfl ?_
  refine h_call (sp := false) (pc' := 5) (M := [(0, .ref 10), (1, .int x0)]) rfl rfl rfl rfl rfl rfl rfl rfl ?_
  refine n_fbX _ hI x0 _ hx0 (by omega) (by omega) pr2 (fun r1 br1 hr1 ps2_0 => h_Kv ?_)
  refine h_aload_n (pc' := 6) rfl rfl rfl ?_
  refine h_iload_n (pc' := 7) rfl rfl rfl ?_
  refine h_call (sp := false) (pc' := 10) (M := [(0, .ref 10), (1, .int x1)]) rfl rfl rfl rfl rfl rfl rfl rfl ?_
  refine n_fbX _ hI x1 _ hx1 (by omega) (by omega) pr2 (fun r3 br3 hr3 ps4_0 => h_Kv ?_)
  refine h_iand (pc' := 11) rfl rfl (fun z5 hz5 uz5 vz5 => ?_)
  clear uz5
  clear vz5
  refine h_istore_n (pc' := 12) (M := [(3, .int z5), (0, .ref 10), (1, .int x0), (2, .int x1)]) rfl rfl rfl rfl ?_
  refine h_aload_n (pc' := 13) rfl rfl rfl ?_
  refine h_getI (pc' := 16) (v := σ 10 8) rfl rfl rfl rfl rfl rfl (fun z6 hz6 => ?_)
  have tz6 := tf_10_8 hI
  refine h_iconst (pc' := 17) (x := (Int32.ofInt 1)) rfl rfl rfl ?_
  refine h_isub (pc' := 18) rfl rfl hz6 ci_1 rfl (by omega) (by omega) (fun z7 hz7 => ?_)
  refine h_istore (pc' := 20) (M := [(4, .int z7), (3, .int z5), (0, .ref 10), (1, .int x0), (2, .int x1)]) rfl rfl rfl rfl ?_
  exact h_wk [(0, .ref 10), (1, .int x0), (2, .int x1), (3, .int z5), (4, .int z7)] ⟨rfl, rfl, rfl, rfl, rfl, trivial⟩ ((n_cfX_l ns σ hI x0 a0 hx0 ra0 x1 a1 hx1 ra1 pr0 pr1 pr2 kk 1000000000000) z5 _ rfl z7 _ hz7 (by omega) (congrArg (g_tp _) (by omega)) (by rw [hz5, ps2_0, ps4_0]) (by omega))
set_option maxHeartbeats 100000000 in
theorem n_foM_l (ns : Nat) (σ : h_S) (hI : h_I σ) (x0 : Int32) (a0 : Int) (hx0 : x0.toInt = a0) (x1 : Int32) (a1 : Int) (hx1 : x1.toInt = a1) {Q : Option Value → h_S → Prop} (kk : ∀ (r : Int32) (b : Int) (hb : r.toInt = b), ((-4) ≤ b ∧ b ≤ 5) → ((¬ (0 ≤ a0 ∧ a0 < σ 98 1 ∧ 0 ≤ a1 ∧ a1 < σ 98 1) ∧ b = -1) ∨ ((0 ≤ a0 ∧ a0 < σ 98 1 ∧ 0 ≤ a1 ∧ a1 < σ 98 1) ∧ b = g_tp (g_fb (g_on (σ 99)) 6 a0 0 &&& g_fb (g_on (σ 99)) 6 a1 0) (σ 98 1).toNat)) → Q (some (.int r)) σ) : ∀ n : Nat, (∀ (y3 : Int32) (b3 : Int), y3.toInt = b3 → ∀ (y4 : Int32) (b4 : Int), y4.toInt = b4 → ((-4) ≤ b4 ∧ b4 ≤ 5) → ∀ (y5 : Int32) (b5 : Int), y5.toInt = b5 → (0 ≤ b5 ∧ b5 ≤ 6) → (b4 = g_tp y3 b5.toNat) → (y3 = g_fb (g_on (σ 99)) 6 a0 0 &&& g_fb (g_on (σ 99)) 6 a1 0) → (0 ≤ a0 ∧ a0 < σ 98 1 ∧ 0 ≤ a1 ∧ a1 < σ 98 1) → (b5 ≤ σ 98 1) → (6 + 1 - b5) * 1000000 + 1000000000 ≤ (n : Int) → h_T g_P (g_Y ns) 177 37 [(0, .ref 98), (1, .int x0), (2, .int x1), (3, .int y3), (4, .int y4), (5, .int y5)] [] σ Q) := by
  intro n
  induction n with
  | zero => exact by intro  y3 b3 hy3 y4 b4 hy4 ry4 y5 b5 hy5 ry5 ex0 ex1 ex2 ex3 hm; exfalso; omega
  | succ n ih =>
    intro  y3 b3 hy3 y4 b4 hy4 ry4 y5 b5 hy5 ry5 ex0 ex1 ex2 ex3 hm
    refine h_iload (pc' := 39) rfl rfl rfl ?_
    refine h_aload_n (pc' := 40) rfl rfl rfl ?_
    refine h_getI (pc' := 43) (v := σ 98 1) rfl rfl rfl rfl rfl rfl (fun z1 hz1 => ?_)
    have tz1 := tf_98_1 hI
    refine h_cge (tg := 71) (pc' := 46) rfl rfl rfl hy5 hz1 (fun c2 => ?_) (fun c2 => ?_)
    · refine h_iload (pc' := 73) rfl rfl rfl ?_
      exact h_iret rfl rfl (kk _ _ hy4 (by omega) (Or.inr ⟨ex2, by rw [← ex1, ex0]; exact congrArg (g_tp _) (by omega)⟩))
    · refine h_iload_n (pc' := 47) rfl rfl rfl ?_
      refine h_iload (pc' := 49) rfl rfl rfl ?_
      refine h_ishr (pc' := 50) rfl rfl (fun z3 hz3 => ?_)
      refine h_iconst (pc' := 51) (x := (Int32.ofInt 1)) rfl rfl rfl ?_
      refine h_iand (pc' := 52) rfl rfl (fun z4 hz4 uz4 vz4 => ?_)
      clear uz4
      rw [ci_1] at vz4
      have yz4 := vz4 (by omega)
      have gz4 := g_hb_of hz4 hz3 hy5
      have kz4 : 0 ≤ z4.toInt ∧ z4.toInt ≤ 1 := by omega
      refine h_iconst (pc' := 53) (x := (Int32.ofInt 1)) rfl rfl rfl ?_
      refine h_cne (tg := 61) (pc' := 56) rfl rfl rfl rfl ci_1 (fun c5 => ?_) (fun c5 => ?_)
      · refine h_iload (pc' := 63) rfl rfl rfl ?_
        refine h_istore (pc' := 65) (M := [(4, .int y4), (0, .ref 98), (1, .int x0), (2, .int x1), (3, .int y3), (5, .int y5)]) rfl rfl rfl rfl ?_
        refine h_iinc (pc' := 68) (M := fun z6 => [(5, .int z6), (4, .int y4), (0, .ref 98), (1, .int x0), (2, .int x1), (3, .int y3)]) rfl rfl rfl rfl hy5 ci_1 rfl (by omega) (by omega) (fun _ => rfl) (fun z6 hz6 => ?_)
        refine h_goto (pc' := 37) rfl rfl ?_
        exact h_wk [(0, .ref 98), (1, .int x0), (2, .int x1), (3, .int y3), (4, .int y4), (5, .int z6)] ⟨rfl, rfl, rfl, rfl, rfl, rfl, trivial⟩ (ih y3 _ hy3 y4 _ hy4 (by omega) z6 _ hz6 (by omega) (g_tp_s ex0 (x := b5) (by omega) (by omega) (by omega)) ex1 (by omega) (by omega) (by omega))
      · refine h_iload (pc' := 58) rfl rfl rfl ?_
        refine h_goto (pc' := 63) rfl rfl ?_
        refine h_istore (pc' := 65) (M := [(4, .int y5), (0, .ref 98), (1, .int x0), (2, .int x1), (3, .int y3), (5, .int y5)]) rfl rfl rfl rfl ?_
        refine h_iinc (pc' := 68) (M := fun z7 => [(5, .int z7), (4, .int y5), (0, .ref 98), (1, .int x0), (2, .int x1), (3, .int y3)]) rfl rfl rfl rfl hy5 ci_1 rfl (by omega) (by omega) (fun _ => rfl) (fun z7 hz7 => ?_)
        refine h_goto (pc' := 37) rfl rfl ?_
        exact h_wk [(0, .ref 98), (1, .int x0), (2, .int x1), (3, .int y3), (4, .int y5), (5, .int z7)] ⟨rfl, rfl, rfl, rfl, rfl, rfl, trivial⟩ (ih y3 _ hy3 y5 _ hy5 (by omega) z7 _ hz7 (by omega) (g_tp_s ex0 (x := b5) (by omega) (by omega) (by omega)) ex1 (by omega) (by omega) (by omega))
set_option maxHeartbeats 100000000 in
theorem n_foM {ns : Nat} (σ : h_S) (hI : h_I σ) (x0 : Int32) (a0 : Int) (hx0 : x0.toInt = a0) (x1 : Int32) (a1 : Int) (hx1 : x1.toInt = a1) {Q : Option Value → h_S → Prop} (kk : ∀ (r : Int32) (b : Int) (hb : r.toInt = b), ((-4) ≤ b ∧ b ≤ 5) → ((¬ (0 ≤ a0 ∧ a0 < σ 98 1 ∧ 0 ≤ a1 ∧ a1 < σ 98 1) ∧ b = -1) ∨ ((0 ≤ a0 ∧ a0 < σ 98 1 ∧ 0 ≤ a1 ∧ a1 < σ 98 1) ∧ b = g_tp (g_fb (g_on (σ 99)) 6 a0 0 &&& g_fb (g_on (σ 99)) 6 a1 0) (σ 98 1).toNat)) → Q (some (.int r)) σ) : h_T g_P (g_Y ns) 177 0 [(0, .ref 98), (1, .int x0), (2, .int x1)] [] σ Q := by
  refine h_aload_n (pc' := 1) rfl rfl rfl ?_
  refine h_iload_n (pc' := 2) rfl rfl rfl ?_
  refine h_call (sp := false) (pc' := 5) (M := [(0, .ref 98), (1, .int x0)]) rfl rfl rfl rfl rfl rfl rfl rfl ?_
  refine h_iload_n (pc' := 1) rfl rfl rfl ?_
  refine h_i2l (pc' := 2) rfl rfl hx0 (fun z1 hz1 => ?_)
  refine h_lconst (pc' := 3) (x := (Int64.ofInt 0)) rfl rfl rfl ?_
  refine h_aload_n (pc' := 4) rfl rfl rfl ?_
  refine h_getI (pc' := 7) (v := σ 98 1) rfl rfl rfl rfl rfl rfl (fun z2 hz2 => ?_)
  have tz2 := tf_98_1 hI
  refine h_iconst (pc' := 8) (x := (Int32.ofInt 1)) rfl rfl rfl ?_
  refine h_isub (pc' := 9) rfl rfl hz2 ci_1 rfl (by omega) (by omega) (fun z3 hz3 => ?_)
  refine h_i2l (pc' := 10) rfl rfl hz3 (fun z4 hz4 => ?_)
  refine h_calls (pc' := 13) (M := [(0, .long z1), (2, .long (Int64.ofInt 0)), (4, .long z4)]) rfl rfl rfl rfl rfl rfl ?_
  refine h_lload_n (pc' := 1) rfl rfl rfl ?_
  refine h_lload_n (pc' := 2) rfl rfl rfl ?_
  refine h_lcmp (pc' := 3) rfl rfl hz1 cl_0 (fun z5 hz5 => ?_)
  refine h_zlt (tg := 17) (pc' := 6) rfl rfl rfl rfl (fun c6 => ?_) (fun c6 => ?_)
  · replace c6 := (h_lcr hz5).1 c6
    clear hz5
    refine h_iconst (pc' := 18) (x := (Int32.ofInt 0)) rfl rfl rfl ?_
    refine h_zret rfl rfl ci_0 (by omega) (h_Kv ?_)
    refine h_zret rfl rfl ci_0 (by omega) (h_Kv ?_)
    refine h_zeq (tg := 16) (pc' := 8) rfl rfl rfl ci_0 (fun c7 => ?_) (fun c7 => absurd c7 (by omega))
    refine h_iconst (pc' := 17) (x := (Int32.ofInt (-1))) rfl rfl rfl ?_
    exact h_iret rfl rfl (kk _ _ ci_m1 (by omega) (Or.inl ⟨by omega, rfl⟩))
  · replace c6 := (h_lcr hz5).2.1 c6
    clear hz5
    refine h_lload_n (pc' := 7) rfl rfl rfl ?_
    refine h_lload (pc' := 9) rfl rfl rfl ?_
    refine h_lcmp (pc' := 10) rfl rfl hz1 hz4 (fun z8 hz8 => ?_)
    refine h_zgt (tg := 17) (pc' := 13) rfl rfl rfl rfl (fun c9 => ?_) (fun c9 => ?_)
    · replace c9 := (h_lcr hz8).2.2.2.1 c9
      clear hz8
      refine h_iconst (pc' := 18) (x := (Int32.ofInt 0)) rfl rfl rfl ?_
      refine h_zret rfl rfl ci_0 (by omega) (h_Kv ?_)
      refine h_zret rfl rfl ci_0 (by omega) (h_Kv ?_)
      refine h_zeq (tg := 16) (pc' := 8) rfl rfl rfl ci_0 (fun c10 => ?_) (fun c10 => absurd c10 (by omega))
      refine h_iconst (pc' := 17) (x := (Int32.ofInt (-1))) rfl rfl rfl ?_
      exact h_iret rfl rfl (kk _ _ ci_m1 (by omega) (Or.inl ⟨by omega, rfl⟩))
    · replace c9 := (h_lcr hz8).2.2.1 c9
      clear hz8
      refine h_iconst (pc' := 14) (x := (Int32.ofInt 1)) rfl rfl rfl ?_
      refine h_goto (pc' := 18) rfl rfl ?_
      refine h_zret rfl rfl ci_1 (by omega) (h_Kv ?_)
      refine h_zret rfl rfl ci_1 (by omega) (h_Kv ?_)
      refine h_zeq (tg := 16) (pc' := 8) rfl rfl rfl ci_1 (fun c11 => absurd c11 (by omega)) (fun c11 => ?_)
      refine h_aload_n (pc' := 9) rfl rfl rfl ?_
      refine h_iload_n (pc' := 10) rfl rfl rfl ?_
      refine h_call (sp := false) (pc' := 13) (M := [(0, .ref 98), (1, .int x1)]) rfl rfl rfl rfl rfl rfl rfl rfl ?_
      refine h_iload_n (pc' := 1) rfl rfl rfl ?_
      refine h_i2l (pc' := 2) rfl rfl hx1 (fun z12 hz12 => ?_)
      refine h_lconst (pc' := 3) (x := (Int64.ofInt 0)) rfl rfl rfl ?_
      refine h_aload_n (pc' := 4) rfl rfl rfl ?_
      refine h_getI (pc' := 7) (v := σ 98 1) rfl rfl rfl rfl rfl rfl (fun z13 hz13 => ?_)
      have tz13 := tf_98_1 hI
      refine h_iconst (pc' := 8) (x := (Int32.ofInt 1)) rfl rfl rfl ?_
      refine h_isub (pc' := 9) rfl rfl hz13 ci_1 rfl (by omega) (by omega) (fun z14 hz14 => ?_)
      refine h_i2l (pc' := 10) rfl rfl hz14 (fun z15 hz15 => ?_)
      refine h_calls (pc' := 13) (M := [(0, .long z12), (2, .long (Int64.ofInt 0)), (4, .long z15)]) rfl rfl rfl rfl rfl rfl ?_
      refine h_lload_n (pc' := 1) rfl rfl rfl ?_
      refine h_lload_n (pc' := 2) rfl rfl rfl ?_
      refine h_lcmp (pc' := 3) rfl rfl hz12 cl_0 (fun z16 hz16 => ?_)
      refine h_zlt (tg := 17) (pc' := 6) rfl rfl rfl rfl (fun c17 => ?_) (fun c17 => ?_)
      · replace c17 := (h_lcr hz16).1 c17
        clear hz16
        refine h_iconst (pc' := 18) (x := (Int32.ofInt 0)) rfl rfl rfl ?_
        refine h_zret rfl rfl ci_0 (by omega) (h_Kv ?_)
        refine h_zret rfl rfl ci_0 (by omega) (h_Kv ?_)
        refine h_zne (tg := 18) (pc' := 16) rfl rfl rfl ci_0 (fun c18 => absurd c18 (by omega)) (fun c18 => ?_)
        refine h_iconst (pc' := 17) (x := (Int32.ofInt (-1))) rfl rfl rfl ?_
        exact h_iret rfl rfl (kk _ _ ci_m1 (by omega) (Or.inl ⟨by omega, rfl⟩))
      · replace c17 := (h_lcr hz16).2.1 c17
        clear hz16
        refine h_lload_n (pc' := 7) rfl rfl rfl ?_
        refine h_lload (pc' := 9) rfl rfl rfl ?_
        refine h_lcmp (pc' := 10) rfl rfl hz12 hz15 (fun z19 hz19 => ?_)
        refine h_zgt (tg := 17) (pc' := 13) rfl rfl rfl rfl (fun c20 => ?_) (fun c20 => ?_)
        · replace c20 := (h_lcr hz19).2.2.2.1 c20
          clear hz19
          refine h_iconst (pc' := 18) (x := (Int32.ofInt 0)) rfl rfl rfl ?_
          refine h_zret rfl rfl ci_0 (by omega) (h_Kv ?_)
          refine h_zret rfl rfl ci_0 (by omega) (h_Kv ?_)
          refine h_zne (tg := 18) (pc' := 16) rfl rfl rfl ci_0 (fun c21 => absurd c21 (by omega)) (fun c21 => ?_)
          refine h_iconst (pc' := 17) (x := (Int32.ofInt (-1))) rfl rfl rfl ?_
          exact h_iret rfl rfl (kk _ _ ci_m1 (by omega) (Or.inl ⟨by omega, rfl⟩))
        · replace c20 := (h_lcr hz19).2.2.1 c20
          clear hz19
          refine h_iconst (pc' := 14) (x := (Int32.ofInt 1)) rfl rfl rfl ?_
          refine h_goto (pc' := 18) rfl rfl ?_
          refine h_zret rfl rfl ci_1 (by omega) (h_Kv ?_)
          refine h_zret rfl rfl ci_1 (by omega) (h_Kv ?_)
          refine h_zne (tg := 18) (pc' := 16) rfl rfl rfl ci_1 (fun c22 => ?_) (fun c22 => absurd c22 (by omega))
          refine h_aload_n (pc' := 19) rfl rfl rfl ?_
          refine h_iload_n (pc' := 20) rfl rfl rfl ?_
          refine h_call (sp := false) (pc' := 23) (M := [(0, .ref 98), (1, .int x0)]) rfl rfl rfl rfl rfl rfl rfl rfl ?_
          refine n_fbM _ hI x0 _ hx0 (by omega) (fun r23 br23 hr23 ps24_0 => h_Kv ?_)
          refine h_aload_n (pc' := 24) rfl rfl rfl ?_
          refine h_iload_n (pc' := 25) rfl rfl rfl ?_
          refine h_call (sp := false) (pc' := 28) (M := [(0, .ref 98), (1, .int x1)]) rfl rfl rfl rfl rfl rfl rfl rfl ?_
          refine n_fbM _ hI x1 _ hx1 (by omega) (fun r25 br25 hr25 ps26_0 => h_Kv ?_)
          refine h_iand (pc' := 29) rfl rfl (fun z27 hz27 uz27 vz27 => ?_)
          clear uz27
          clear vz27
          refine h_istore_n (pc' := 30) (M := [(3, .int z27), (0, .ref 98), (1, .int x0), (2, .int x1)]) rfl rfl rfl rfl ?_
          refine h_bipush (pc' := 32) (x := (Int32.ofInt (-4))) rfl rfl cb_m4 ?_
          refine h_istore (pc' := 34) (M := [(4, .int (Int32.ofInt (-4))), (3, .int z27), (0, .ref 98), (1, .int x0), (2, .int x1)]) rfl rfl rfl rfl ?_
          refine h_iconst (pc' := 35) (x := (Int32.ofInt 0)) rfl rfl rfl ?_
          refine h_istore (pc' := 37) (M := [(5, .int (Int32.ofInt 0)), (4, .int (Int32.ofInt (-4))), (3, .int z27), (0, .ref 98), (1, .int x0), (2, .int x1)]) rfl rfl rfl rfl ?_
          exact h_wk [(0, .ref 98), (1, .int x0), (2, .int x1), (3, .int z27), (4, .int (Int32.ofInt (-4))), (5, .int (Int32.ofInt 0))] ⟨rfl, rfl, rfl, rfl, rfl, rfl, trivial⟩ ((n_foM_l ns σ hI x0 a0 hx0 x1 a1 hx1 kk 1000000000000) z27 _ rfl (Int32.ofInt (-4)) _ ci_m4 (by omega) (Int32.ofInt 0) _ ci_0 (by omega) rfl (by rw [hz27, ps24_0, ps26_0]) (by omega) (by omega) (by omega))
theorem c_R.wf {fl : Bool} {s : h_S} (h : c_R fl s) : g_wf s := fun j a b => by
  have y := h.ps a b
  omega
theorem c_R.fo {fl : Bool} {s : h_S} (h : c_R fl s) {a b : Int} (ha : a < s 10 8) (hb : b < s 10 8) : g_tp (g_fb (s 12) 6 a 0 &&& g_fb (s 12) 6 b 0) (s 10 8).toNat = g_tp (g_fb (g_on (s 99)) 6 a 0 &&& g_fb (g_on (s 99)) 6 b 0) (s 98 1).toNat := by
  have e : ∀ j, 0 ≤ j → j < s 10 8 → s 12 j = g_on (s 99) j ∧ s 12 j < s 10 8 := fun j j0 j1 => by
    have y := (h.ps j0 j1).2
    unfold g_on
    refine ⟨?_, by omega⟩
    rcases y with y | y
    · rw [if_pos y.2, y.1]
    · rw [if_neg (by omega), y.2.2]; omega
  rw [g_fb_eq e 6 a 0 ha, g_fb_eq e 6 b 0 hb, h.1.1]
