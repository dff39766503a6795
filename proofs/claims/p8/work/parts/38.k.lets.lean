/-! SUMS OF WENT, LETSBY -/
def g_su (n : Int) (f : Int → Int) : Nat → Int → Int32 → Int32
  | 0, _, b => b
  | m + 1, g, b => if g < n then g_su n f m (g + 1) (b + Int32.ofInt (f g)) else b
theorem g_su_s {n g v : Int} {f : Int → Int} {m m' : Nat} {b b' x T : Int32} (h : g_su n f m g b = T) (hm : m = m' + 1) (hg : g < n) (hb : b' = b + x) (hx : x.toInt = v) (hv : v = f g) : g_su n f m' (g + 1) b' = T := by
  subst hm; subst hb; subst hv
  rw [← h]
  show _ = (if g < n then g_su n f m' (g + 1) (b + Int32.ofInt (f g)) else b)
  rw [if_pos hg, g_ofi hx]
theorem g_su_o {n g : Int} {f : Int → Int} {m : Nat} {b T : Int32} (h : g_su n f m g b = T) (hg : m = 0 ∨ n ≤ g) : b = T := by
  rw [← h]
  cases m with
  | zero => rfl
  | succ k =>
    show b = (if g < n then _ else b)
    rw [if_neg (by omega)]
theorem c_R.lets {s : h_S} {F G f : Int → Int} {n n' m g l l' r r' : Int} {A B : Int → Int} (h : c_R true s) (hI : h_I s) (ht : g_ti s) (hF : g_DX (s 10 8) (s 12) (s 11) (s 13 2) (s 14) (s 15) F) (hG : g_DM (s 98 1) (s 99 18) (s 99) (s 100) G) (hf : g_FX (s 10 8) (s 17) (s 18) (s 16 2) f) (hg : 0 ≤ g ∧ g < s 10 9) (hn : n = s 10 8) (hn' : n' = s 98 1) (hm : m = s 99 25) (hA : A = fun i => s 99 (19 + 2 * i)) (hB : B = fun i => s 99 (19 + 2 * i + 1)) (hl : l = s 20 g) (hl' : l' = g_orn (s 99 (29 + g))) (hr : r = r') (r9 : r ≤ 999) : g_bs n (g_lq n F f l r) 6 0 0 = g_bs n' (fun p => g_yM G A B m p l' r') 6 0 0 := by
  have gd := h.deg hI ht hF hG
  have lw := (h.lw hg.1 hg.2).1
  have sz := h.sz
  have t8 := tf_10_8 hI
  have el : l' = s 20 g := by
    rw [hl']
    exact (g_orn_of (by omega)).symm
  rw [hn, hn', ← sz.1, el, hl, hA, hB, ← hr]
  refine g_bs_eq (fun p a b => ?_) 6 0 0 (by omega)
  have e : g_lq (s 10 8) F f (s 20 g) r p = g_yX (s 10 8) F f p (s 20 g) r := by
    unfold g_lq g_yX
    by_cases c : s 20 g = -4
    · rw [decide_eq_true (show ¬ (0 ≤ s 20 g ∧ s 20 g < s 10 8) by omega), decide_eq_true c, Bool.true_or]
    · rw [decide_eq_false (show ¬ ¬ (0 ≤ s 20 g ∧ s 20 g < s 10 8) by omega), decide_eq_false c]
  rw [e]
  exact g_y_eq gd t8.2 hf (hm.trans sz.2.2.2.2.symm) (fun j j0 j1 => ⟨(h.fe j0 j1).1, (h.fe j0 j1).2.1⟩) (by omega) a b r9
set_option maxHeartbeats 100000000 in
theorem n_wentX_l (ns : Nat) (σ : h_S) (hI : h_I σ) {Q : Option Value → h_S → Prop} (kk : ∀ (r : Int32) (b : Int) (hb : r.toInt = b), (r = g_su (σ 10 9) (σ 21) 3 0 0) → Q (some (.int r)) σ) : ∀ n : Nat, (∀ (y1 : Int32) (b1 : Int), y1.toInt = b1 → ∀ (y2 : Int32) (b2 : Int), y2.toInt = b2 → (0 ≤ b2 ∧ b2 ≤ 3) → (g_su (σ 10 9) (σ 21) (3 - b2).toNat b2 y1 = g_su (σ 10 9) (σ 21) 3 0 0) → (3 + 1 - b2) * 1000000 + 1000000000 ≤ (n : Int) → h_T g_P (g_Y ns) 11 4 [(0, .ref 10), (1, .int y1), (2, .int y2)] [] σ Q) := by
  intro n
  induction n with
  | zero => exact by intro  y1 b1 hy1 y2 b2 hy2 ry2 ex0 hm; exfalso; omega
  | succ n ih =>
    intro  y1 b1 hy1 y2 b2 hy2 ry2 ex0 hm
    refine h_iload_n (pc' := 5) rfl rfl rfl ?_
    refine h_aload_n (pc' := 6) rfl rfl rfl ?_
    refine h_getI (pc' := 9) (v := σ 10 9) rfl rfl rfl rfl rfl rfl (fun z1 hz1 => ?_)
    have tz1 := tf_10_9 hI
    refine h_cge (tg := 27) (pc' := 12) rfl rfl rfl hy2 hz1 (fun c2 => ?_) (fun c2 => ?_)
    · refine h_iload_n (pc' := 28) rfl rfl rfl ?_
      exact h_iret rfl rfl (kk _ _ hy1 (g_su_o ex0 (by omega)))
    · refine h_iload_n (pc' := 13) rfl rfl rfl ?_
      refine h_aload_n (pc' := 14) rfl rfl rfl ?_
      refine h_getR (pc' := 17) rfl rfl rfl rfl rfl ?_
      refine h_iload_n (pc' := 18) rfl rfl rfl ?_
      refine h_iald (pc' := 19) (v := σ 21 b2) rfl rfl rfl hy2 (by omega) (by omega) rfl (fun z3 hz3 => ?_)
      have tz3 := ty_21 hI b2
      refine h_iaddA (pc' := 20) rfl rfl (fun z4 hz4 => ?_)
      refine h_istore_n (pc' := 21) (M := [(1, .int z4), (0, .ref 10), (2, .int y2)]) rfl rfl rfl rfl ?_
      refine h_iinc (pc' := 24) (M := fun z5 => [(2, .int z5), (1, .int z4), (0, .ref 10)]) rfl rfl rfl rfl hy2 ci_1 rfl (by omega) (by omega) (fun _ => rfl) (fun z5 hz5 => ?_)
      refine h_goto (pc' := 4) rfl rfl ?_
      exact h_wk [(0, .ref 10), (1, .int z4), (2, .int z5)] ⟨rfl, rfl, rfl, trivial⟩ (ih z4 _ rfl z5 _ hz5 (by omega) (g_su_s ex0 (by omega) (by omega) hz4 hz3 rfl) (by omega))
set_option maxHeartbeats 100000000 in
theorem n_wentX {ns : Nat} (σ : h_S) (hI : h_I σ) {Q : Option Value → h_S → Prop} (kk : ∀ (r : Int32) (b : Int) (hb : r.toInt = b), (r = g_su (σ 10 9) (σ 21) 3 0 0) → Q (some (.int r)) σ) : h_T g_P (g_Y ns) 11 0 [(0, .ref 10)] [] σ Q := by
  refine h_iconst (pc' := 1) (x := (Int32.ofInt 0)) rfl rfl rfl ?_
  refine h_istore_n (pc' := 2) (M := [(1, .int (Int32.ofInt 0)), (0, .ref 10)]) rfl rfl rfl rfl ?_
  refine h_iconst (pc' := 3) (x := (Int32.ofInt 0)) rfl rfl rfl ?_
  refine h_istore_n (pc' := 4) (M := [(2, .int (Int32.ofInt 0)), (1, .int (Int32.ofInt 0)), (0, .ref 10)]) rfl rfl rfl rfl ?_
  exact h_wk [(0, .ref 10), (1, .int (Int32.ofInt 0)), (2, .int (Int32.ofInt 0))] ⟨rfl, rfl, rfl, trivial⟩ ((n_wentX_l ns σ hI  kk 1000000000000) (Int32.ofInt 0) _ ci_0 (Int32.ofInt 0) _ ci_0 (by omega) rfl (by omega))
set_option maxHeartbeats 100000000 in
theorem n_wentM_l (ns : Nat) (σ : h_S) (hI : h_I σ) {Q : Option Value → h_S → Prop} (kk : ∀ (r : Int32) (b : Int) (hb : r.toInt = b), (r = g_su (σ 98 2) (fun g => σ 99 (32 + g)) 3 0 0) → Q (some (.int r)) σ) : ∀ n : Nat, (∀ (y1 : Int32) (b1 : Int), y1.toInt = b1 → ∀ (y2 : Int32) (b2 : Int), y2.toInt = b2 → (0 ≤ b2 ∧ b2 ≤ 3) → (g_su (σ 98 2) (fun g => σ 99 (32 + g)) (3 - b2).toNat b2 y1 = g_su (σ 98 2) (fun g => σ 99 (32 + g)) 3 0 0) → (3 + 1 - b2) * 1000000 + 1000000000 ≤ (n : Int) → h_T g_P (g_Y ns) 159 4 [(0, .ref 98), (1, .int y1), (2, .int y2)] [] σ Q) := by
  intro n
  induction n with
  | zero => exact by intro  y1 b1 hy1 y2 b2 hy2 ry2 ex0 hm; exfalso; omega
  | succ n ih =>
    intro  y1 b1 hy1 y2 b2 hy2 ry2 ex0 hm
    refine h_iload_n (pc' := 5) rfl rfl rfl ?_
    refine h_aload_n (pc' := 6) rfl rfl rfl ?_
    refine h_getI (pc' := 9) (v := σ 98 2) rfl rfl rfl rfl rfl rfl (fun z1 hz1 => ?_)
    have tz1 := tf_98_2 hI
    refine h_cge (tg := 30) (pc' := 12) rfl rfl rfl hy2 hz1 (fun c2 => ?_) (fun c2 => ?_)
    · refine h_iload_n (pc' := 31) rfl rfl rfl ?_
      exact h_iret rfl rfl (kk _ _ hy1 (g_su_o ex0 (by omega)))
    · refine h_iload_n (pc' := 13) rfl rfl rfl ?_
      refine h_aload_n (pc' := 14) rfl rfl rfl ?_
      refine h_getR (pc' := 17) rfl rfl rfl rfl rfl ?_
      refine h_bipush (pc' := 19) (x := (Int32.ofInt 32)) rfl rfl cb_32 ?_
      refine h_iload_n (pc' := 20) rfl rfl rfl ?_
      refine h_iadd (pc' := 21) rfl rfl ci_32 hy2 rfl (by omega) (by omega) (fun z3 hz3 => ?_)
      refine h_iald (pc' := 22) (v := σ 99 (32 + b2)) rfl rfl rfl hz3 (by omega) (by omega) rfl (fun z4 hz4 => ?_)
      have tz4 := ty_99_8 hI (32 + b2) (by omega)
      refine h_iaddA (pc' := 23) rfl rfl (fun z5 hz5 => ?_)
      refine h_istore_n (pc' := 24) (M := [(1, .int z5), (0, .ref 98), (2, .int y2)]) rfl rfl rfl rfl ?_
      refine h_iinc (pc' := 27) (M := fun z6 => [(2, .int z6), (1, .int z5), (0, .ref 98)]) rfl rfl rfl rfl hy2 ci_1 rfl (by omega) (by omega) (fun _ => rfl) (fun z6 hz6 => ?_)
      refine h_goto (pc' := 4) rfl rfl ?_
      exact h_wk [(0, .ref 98), (1, .int z5), (2, .int z6)] ⟨rfl, rfl, rfl, trivial⟩ (ih z5 _ rfl z6 _ hz6 (by omega) (g_su_s ex0 (by omega) (by omega) hz5 hz4 rfl) (by omega))
set_option maxHeartbeats 100000000 in
theorem n_wentM {ns : Nat} (σ : h_S) (hI : h_I σ) {Q : Option Value → h_S → Prop} (kk : ∀ (r : Int32) (b : Int) (hb : r.toInt = b), (r = g_su (σ 98 2) (fun g => σ 99 (32 + g)) 3 0 0) → Q (some (.int r)) σ) : h_T g_P (g_Y ns) 159 0 [(0, .ref 98)] [] σ Q := by
  refine h_iconst (pc' := 1) (x := (Int32.ofInt 0)) rfl rfl rfl ?_
  refine h_istore_n (pc' := 2) (M := [(1, .int (Int32.ofInt 0)), (0, .ref 98)]) rfl rfl rfl rfl ?_
  refine h_iconst (pc' := 3) (x := (Int32.ofInt 0)) rfl rfl rfl ?_
  refine h_istore_n (pc' := 4) (M := [(2, .int (Int32.ofInt 0)), (1, .int (Int32.ofInt 0)), (0, .ref 98)]) rfl rfl rfl rfl ?_
  exact h_wk [(0, .ref 98), (1, .int (Int32.ofInt 0)), (2, .int (Int32.ofInt 0))] ⟨rfl, rfl, rfl, trivial⟩ ((n_wentM_l ns σ hI  kk 1000000000000) (Int32.ofInt 0) _ ci_0 (Int32.ofInt 0) _ ci_0 (by omega) rfl (by omega))
set_option maxHeartbeats 100000000 in
theorem n_lets_l (ns : Nat) (σ : h_S) (hI : h_I σ) (x0 : Int32) (a0 : Int) (hx0 : x0.toInt = a0) (ra0 : 0 ≤ a0 ∧ a0 ≤ 2) (x1 : Int32) (a1 : Int) (hx1 : x1.toInt = a1) {Q : Option Value → h_S → Prop} (kk : ∀ (r : Int32) (b : Int) (hb : r.toInt = b), (r = g_bs (σ 98 1) (fun p => g_yM (σ 105) (fun i => σ 99 (19 + 2 * i)) (fun i => σ 99 (19 + 2 * i + 1)) (σ 99 25) p (g_orn (σ 99 (29 + a0))) a1) 6 0 0) → Q (some (.int r)) σ) : ∀ n : Nat, (∀ (y3 : Int32) (b3 : Int), y3.toInt = b3 → ∀ (y4 : Int32) (b4 : Int), y4.toInt = b4 → (0 ≤ b4 ∧ b4 ≤ 6) → (g_bs (σ 98 1) (fun p => g_yM (σ 105) (fun i => σ 99 (19 + 2 * i)) (fun i => σ 99 (19 + 2 * i + 1)) (σ 99 25) p (g_orn (σ 99 (29 + a0))) a1) (6 - b4).toNat b4 y3 = g_bs (σ 98 1) (fun p => g_yM (σ 105) (fun i => σ 99 (19 + 2 * i)) (fun i => σ 99 (19 + 2 * i + 1)) (σ 99 25) p (g_orn (σ 99 (29 + a0))) a1) 6 0 0) → (6 + 1 - b4) * 1000000 + 1000000000 ≤ (n : Int) → h_T g_P (g_Y ns) 169 5 [(0, .ref 98), (1, .int x0), (2, .int x1), (3, .int y3), (4, .int y4)] [] σ Q) := by
  intro n
  induction n with
  | zero => exact by intro  y3 b3 hy3 y4 b4 hy4 ry4 ex0 hm; exfalso; omega
  | succ n ih =>
    intro  y3 b3 hy3 y4 b4 hy4 ry4 ex0 hm
    refine h_iload (pc' := 7) rfl rfl rfl ?_
    refine h_aload_n (pc' := 8) rfl rfl rfl ?_
    refine h_getI (pc' := 11) (v := σ 98 1) rfl rfl rfl rfl rfl rfl (fun z1 hz1 => ?_)
    have tz1 := tf_98_1 hI
    refine h_cge (tg := 53) (pc' := 14) rfl rfl rfl hy4 hz1 (fun c2 => ?_) (fun c2 => ?_)
    · refine h_iload_n (pc' := 54) rfl rfl rfl ?_
      exact h_iret rfl rfl (kk _ _ hy3 (g_bs_o ex0 (by omega)))
    · refine h_iload_n (pc' := 15) rfl rfl rfl ?_
      refine h_aload_n (pc' := 16) rfl rfl rfl ?_
      refine h_iload (pc' := 18) rfl rfl rfl ?_
      refine h_aload_n (pc' := 19) rfl rfl rfl ?_
      refine h_getR (pc' := 22) rfl rfl rfl rfl rfl ?_
      refine h_bipush (pc' := 24) (x := (Int32.ofInt 29)) rfl rfl cb_29 ?_
      refine h_iload_n (pc' := 25) rfl rfl rfl ?_
      refine h_iadd (pc' := 26) rfl rfl ci_29 hx0 rfl (by omega) (by omega) (fun z3 hz3 => ?_)
      refine h_iald (pc' := 27) (v := σ 99 (29 + a0)) rfl rfl rfl hz3 (by omega) (by omega) rfl (fun z4 hz4 => ?_)
      have tz4 := ty_99_7 hI (29 + a0) (by omega)
      refine h_calls (pc' := 30) (M := [(0, .int z4)]) rfl rfl rfl rfl rfl rfl ?_
      refine h_iload_n (pc' := 1) rfl rfl rfl ?_
      refine h_zne (tg := 9) (pc' := 4) rfl rfl rfl hz4 (fun c5 => ?_) (fun c5 => ?_)
      · refine h_iload_n (pc' := 10) rfl rfl rfl ?_
        refine h_iconst (pc' := 11) (x := (Int32.ofInt 1)) rfl rfl rfl ?_
        refine h_isub (pc' := 12) rfl rfl hz4 ci_1 rfl (by omega) (by omega) (fun z6 hz6 => ?_)
        refine h_iret rfl rfl (h_Kv ?_)
        refine h_iload_n (pc' := 31) rfl rfl rfl ?_
        refine h_call (sp := false) (pc' := 34) (M := [(0, .ref 98), (1, .int y4), (2, .int z6), (3, .int x1)]) rfl rfl rfl rfl rfl rfl rfl rfl ?_
        refine n_may _ hI y4 _ hy4 (by omega) z6 _ hz6 (by omega) x1 _ hx1 (fun r7 br7 hr7 tr7 ps8_0 => h_Kv ?_)
        refine h_zeq (tg := 44) (pc' := 37) rfl rfl rfl hr7 (fun c9 => ?_) (fun c9 => ?_)
        · refine h_iconst (pc' := 45) (x := (Int32.ofInt 0)) rfl rfl rfl ?_
          refine h_ior (pc' := 46) rfl rfl (fun z10 hz10 => ?_)
          refine h_istore_n (pc' := 47) (M := [(3, .int z10), (0, .ref 98), (1, .int x0), (2, .int x1), (4, .int y4)]) rfl rfl rfl rfl ?_
          refine h_iinc (pc' := 50) (M := fun z11 => [(4, .int z11), (3, .int z10), (0, .ref 98), (1, .int x0), (2, .int x1)]) rfl rfl rfl rfl hy4 ci_1 rfl (by omega) (by omega) (fun _ => rfl) (fun z11 hz11 => ?_)
          refine h_goto (pc' := 5) rfl rfl ?_
          exact h_wk [(0, .ref 98), (1, .int x0), (2, .int x1), (3, .int z10), (4, .int z11)] ⟨rfl, rfl, rfl, rfl, rfl, trivial⟩ (ih z10 _ rfl z11 _ hz11 (by omega) (by have gm := ps8_0; first | (rw [show σ 99 (29 + a0) - 1 = g_orn (σ 99 (29 + a0)) from g_orn_of (by omega)] at gm; exact g_bs_n ex0 (by omega) (by omega) (g_gm_n gm (by omega)) (g_or0 hz10)) | (rw [show (-4 : Int) = g_orn (σ 99 (29 + a0)) from g_orn_of (by omega)] at gm; exact g_bs_n ex0 (by omega) (by omega) (g_gm_n gm (by omega)) (g_or0 hz10))) (by omega))
        · refine h_iconst (pc' := 38) (x := (Int32.ofInt 1)) rfl rfl rfl ?_
          refine h_iload (pc' := 40) rfl rfl rfl ?_
          refine h_shl1 (pc' := 41) rfl rfl ci_1 hy4 (by omega) (by omega) (fun z12 hz12 vz12 => ?_)
          refine h_goto (pc' := 45) rfl rfl ?_
          refine h_ior (pc' := 46) rfl rfl (fun z13 hz13 => ?_)
          refine h_istore_n (pc' := 47) (M := [(3, .int z13), (0, .ref 98), (1, .int x0), (2, .int x1), (4, .int y4)]) rfl rfl rfl rfl ?_
          refine h_iinc (pc' := 50) (M := fun z14 => [(4, .int z14), (3, .int z13), (0, .ref 98), (1, .int x0), (2, .int x1)]) rfl rfl rfl rfl hy4 ci_1 rfl (by omega) (by omega) (fun _ => rfl) (fun z14 hz14 => ?_)
          refine h_goto (pc' := 5) rfl rfl ?_
          exact h_wk [(0, .ref 98), (1, .int x0), (2, .int x1), (3, .int z13), (4, .int z14)] ⟨rfl, rfl, rfl, rfl, rfl, trivial⟩ (ih z13 _ rfl z14 _ hz14 (by omega) (by have gm := ps8_0; first | (rw [show σ 99 (29 + a0) - 1 = g_orn (σ 99 (29 + a0)) from g_orn_of (by omega)] at gm; exact g_bs_y ex0 (by omega) (by omega) (g_gm_y gm (by omega)) (g_or_of hz13 hz12 hy4)) | (rw [show (-4 : Int) = g_orn (σ 99 (29 + a0)) from g_orn_of (by omega)] at gm; exact g_bs_y ex0 (by omega) (by omega) (g_gm_y gm (by omega)) (g_or_of hz13 hz12 hy4))) (by omega))
      · refine h_bipush (pc' := 6) (x := (Int32.ofInt (-4))) rfl rfl cb_m4 ?_
        refine h_goto (pc' := 12) rfl rfl ?_
        refine h_iret rfl rfl (h_Kv ?_)
        refine h_iload_n (pc' := 31) rfl rfl rfl ?_
        refine h_call (sp := false) (pc' := 34) (M := [(0, .ref 98), (1, .int y4), (2, .int (Int32.ofInt (-4))), (3, .int x1)]) rfl rfl rfl rfl rfl rfl rfl rfl ?_
        refine n_may _ hI y4 _ hy4 (by omega) (Int32.ofInt (-4)) _ ci_m4 (by omega) x1 _ hx1 (fun r15 br15 hr15 tr15 ps16_0 => h_Kv ?_)
        refine h_zeq (tg := 44) (pc' := 37) rfl rfl rfl hr15 (fun c17 => ?_) (fun c17 => ?_)
        · refine h_iconst (pc' := 45) (x := (Int32.ofInt 0)) rfl rfl rfl ?_
          refine h_ior (pc' := 46) rfl rfl (fun z18 hz18 => ?_)
          refine h_istore_n (pc' := 47) (M := [(3, .int z18), (0, .ref 98), (1, .int x0), (2, .int x1), (4, .int y4)]) rfl rfl rfl rfl ?_
          refine h_iinc (pc' := 50) (M := fun z19 => [(4, .int z19), (3, .int z18), (0, .ref 98), (1, .int x0), (2, .int x1)]) rfl rfl rfl rfl hy4 ci_1 rfl (by omega) (by omega) (fun _ => rfl) (fun z19 hz19 => ?_)
          refine h_goto (pc' := 5) rfl rfl ?_
          exact h_wk [(0, .ref 98), (1, .int x0), (2, .int x1), (3, .int z18), (4, .int z19)] ⟨rfl, rfl, rfl, rfl, rfl, trivial⟩ (ih z18 _ rfl z19 _ hz19 (by omega) (by have gm := ps16_0; first | (rw [show σ 99 (29 + a0) - 1 = g_orn (σ 99 (29 + a0)) from g_orn_of (by omega)] at gm; exact g_bs_n ex0 (by omega) (by omega) (g_gm_n gm (by omega)) (g_or0 hz18)) | (rw [show (-4 : Int) = g_orn (σ 99 (29 + a0)) from g_orn_of (by omega)] at gm; exact g_bs_n ex0 (by omega) (by omega) (g_gm_n gm (by omega)) (g_or0 hz18))) (by omega))
        · refine h_iconst (pc' := 38) (x := (Int32.ofInt 1)) rfl rfl rfl ?_
          refine h_iload (pc' := 40) rfl rfl rfl ?_
          refine h_shl1 (pc' := 41) rfl rfl ci_1 hy4 (by omega) (by omega) (fun z20 hz20 vz20 => ?_)
          refine h_goto (pc' := 45) rfl rfl ?_
          refine h_ior (pc' := 46) rfl rfl (fun z21 hz21 => ?_)
          refine h_istore_n (pc' := 47) (M := [(3, .int z21), (0, .ref 98), (1, .int x0), (2, .int x1), (4, .int y4)]) rfl rfl rfl rfl ?_
          refine h_iinc (pc' := 50) (M := fun z22 => [(4, .int z22), (3, .int z21), (0, .ref 98), (1, .int x0), (2, .int x1)]) rfl rfl rfl rfl hy4 ci_1 rfl (by omega) (by omega) (fun _ => rfl) (fun z22 hz22 => ?_)
          refine h_goto (pc' := 5) rfl rfl ?_
          exact h_wk [(0, .ref 98), (1, .int x0), (2, .int x1), (3, .int z21), (4, .int z22)] ⟨rfl, rfl, rfl, rfl, rfl, trivial⟩ (ih z21 _ rfl z22 _ hz22 (by omega) (by have gm := ps16_0; first | (rw [show σ 99 (29 + a0) - 1 = g_orn (σ 99 (29 + a0)) from g_orn_of (by omega)] at gm; exact g_bs_y ex0 (by omega) (by omega) (g_gm_y gm (by omega)) (g_or_of hz21 hz20 hy4)) | (rw [show (-4 : Int) = g_orn (σ 99 (29 + a0)) from g_orn_of (by omega)] at gm; exact g_bs_y ex0 (by omega) (by omega) (g_gm_y gm (by omega)) (g_or_of hz21 hz20 hy4))) (by omega))
set_option maxHeartbeats 100000000 in
theorem n_lets {ns : Nat} (σ : h_S) (hI : h_I σ) (x0 : Int32) (a0 : Int) (hx0 : x0.toInt = a0) (ra0 : 0 ≤ a0 ∧ a0 ≤ 2) (x1 : Int32) (a1 : Int) (hx1 : x1.toInt = a1) {Q : Option Value → h_S → Prop} (kk : ∀ (r : Int32) (b : Int) (hb : r.toInt = b), (r = g_bs (σ 98 1) (fun p => g_yM (σ 105) (fun i => σ 99 (19 + 2 * i)) (fun i => σ 99 (19 + 2 * i + 1)) (σ 99 25) p (g_orn (σ 99 (29 + a0))) a1) 6 0 0) → Q (some (.int r)) σ) : h_T g_P (g_Y ns) 169 0 [(0, .ref 98), (1, .int x0), (2, .int x1)] [] σ Q := by
  refine h_iconst (pc' := 1) (x := (Int32.ofInt 0)) rfl rfl rfl ?_
  refine h_istore_n (pc' := 2) (M := [(3, .int (Int32.ofInt 0)), (0, .ref 98), (1, .int x0), (2, .int x1)]) rfl rfl rfl rfl ?_
  refine h_iconst (pc' := 3) (x := (Int32.ofInt 0)) rfl rfl rfl ?_
  refine h_istore (pc' := 5) (M := [(4, .int (Int32.ofInt 0)), (3, .int (Int32.ofInt 0)), (0, .ref 98), (1, .int x0), (2, .int x1)]) rfl rfl rfl rfl ?_
  exact h_wk [(0, .ref 98), (1, .int x0), (2, .int x1), (3, .int (Int32.ofInt 0)), (4, .int (Int32.ofInt 0))] ⟨rfl, rfl, rfl, rfl, rfl, trivial⟩ ((n_lets_l ns σ hI x0 a0 hx0 ra0 x1 a1 hx1 kk 1000000000000) (Int32.ofInt 0) _ ci_0 (Int32.ofInt 0) _ ci_0 (by omega) rfl (by omega))
