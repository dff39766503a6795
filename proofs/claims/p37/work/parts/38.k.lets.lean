/-! SUMS OF WENT, LETSBY -/
def g_su (n : Int) (f : Int → Int) : Nat → Int → Int32 → Int32
  | 0, _, b => b
  | m + 1, g, b => if g < n then g_su n f m (g + 1) (b + Int32.ofInt (f g)) else b
theorem g_su_s {n g v : Int} {f : Int → Int} {m m' : Nat} {b b' x T : Int32} (h : g_su n f m g b = T) (hm : m = m' + 1) (hg : g < n) (hb : b' = b + x) (hx : x.toInt = v) (hv : v = f g) : g_su n f m' (g + 1) b' = T := by
  subst hm; subst hb; subst hv
  rw [← h]
  show _ = (if g < n then g_su n f m' (g + 1) (b + Int32.ofInt (f g)) else b)
  rw [if_pos hg, g_ofi hx]
theorem g_su_o {n g : Int} {f : Int → Int} {m : Nat} {b T : Int32} (h : g_su n f m g b = T) (hg : m = 0 ∨ n ≤ g) : b = T := by
  rw [← h]
  cases m with
  | zero => rfl
  | succ k =>
    show b = (if g < n then _ else b)
    rw [if_neg (by omega)]
theorem g_su_eq {n : Int} {f f' : Int → Int} (h : ∀ g, 0 ≤ g → g < n → f g = f' g) : ∀ (m : Nat) (g : Int) (b : Int32), 0 ≤ g → g_su n f m g b = g_su n f' m g b
  | 0, _, _, _ => rfl
  | m + 1, g, b, g0 => by
    show (if g < n then g_su n f m (g + 1) (b + Int32.ofInt (f g)) else b) = (if g < n then g_su n f' m (g + 1) (b + Int32.ofInt (f' g)) else b)
    by_cases z : g < n
    · rw [if_pos z, if_pos z, h g g0 z]
      exact g_su_eq h m _ _ (by omega)
    · rw [if_neg z, if_neg z]
theorem c_R.su {s : h_S} (h : c_R true s) {n : Int} {S : Int → Int} (hn : n = s 98 2) (hS : S = s 99) : g_su (s 10 9) (s 21) 3 0 0 = g_su n (fun g => S (32 + g)) 3 0 0 := by
  rw [hn, hS, ← h.sz.2.1]
  exact g_su_eq (fun g a b => (h.lw a b).2) 3 0 0 (by omega)
theorem g_su_c {n n' : Int} {f f' : Int → Int} (e1 : n = n') (e2 : f = f') : g_su n f 3 0 0 = g_su n' f' 3 0 0 := by rw [e1, e2]
set_option maxHeartbeats 100000000 in
theorem n_wentX_l (ns : Nat) (σ : h_S) (hI : h_I σ) {Q : Option Value → h_S → Prop} (kk : ∀ (r : Int32) (b : Int) (hb : r.toInt = b), (r = g_su (σ 10 9) (σ 21) 3 0 0) → Q (some (.int r)) σ) : ∀ n : Nat, (∀ (y1 : Int32) (b1 : Int), y1.toInt = b1 → ∀ (y2 : Int32) (b2 : Int), y2.toInt = b2 → (0 ≤ b2 ∧ b2 ≤ 3) → (g_su (σ 10 9) (σ 21) (3 - b2).toNat b2 y1 = g_su (σ 10 9) (σ 21) 3 0 0) → (3 + 1 - b2) * 1000000 + 1000000000 ≤ (n : Int) → h_T g_P (g_Y ns) 11 4 [(0, .ref 10), (1, .int y1), (2, .int y2)] [] σ Q) := by
  intro n
  induction n with
  | zero => exact by intro  y1 b1 hy1 y2 b2 hy2 ry2 ex0 hm; exfalso; omega
  | succ n ih =>
    intro  y1 b1 hy1 y2 b2 hy2 ry2 ex0 hm
    refine h_iload_n (pc' := 5) rfl rfl rfl ?_
    refine h_aload_n (pc' := 6) rfl rfl rfl ?_
    refine h_getI (pc' := 9) (v := σ 10 9) rfl rfl rfl rfl rfl rfl (fun z1 hz1 => ?_)
    have tz1 := tf_10_9 hI
    refine h_cge (tg := 27) (pc' := 12) rfl rfl rfl hy2 hz1 (fun c2 => ?_) (fun c2 => ?_)
    · refine h_iload_n (pc' := 28) rfl rfl rfl ?_
      exact h_iret rfl rfl (kk _ _ hy1 (g_su_o ex0 (by omega)))
    · refine h_iload_n (pc' := 13) rfl rfl rfl ?_
      refine h_aload_n (pc' := 14) rfl rfl rfl ?_
      refine h_getR (pc' := 17) rfl rfl rfl rfl rfl ?_
      refine h_iload_n (pc' := 18) rfl rfl rfl ?_
      refine h_iald (pc' := 19) (v := σ 21 b2) rfl rfl rfl hy2 (by omega) (by omega) rfl (fun z3 hz3 => ?_)
      have tz3 := ty_21 hI b2
      refine h_iaddA (pc' := 20) rfl rfl (fun z4 hz4 => ?_)
      refine h_istore_n (pc' := 21) (M := [(1, .int z4), (0, .ref 10), (2, .int y2)]) rfl rfl rfl rfl ?_
      refine h_iinc (pc' := 24) (M := fun z5 => [(2, .int z5), (1, .int z4), (0, .ref 10)]) rfl rfl rfl rfl hy2 ci_1 rfl (by omega) (by omega) (fun _ => rfl) (fun z5 hz5 => ?_)
      refine h_goto (pc' := 4) rfl rfl ?_
      exact h_wk [(0, .ref 10), (1, .int z4), (2, .int z5)] ⟨rfl, rfl, rfl, trivial⟩ (ih z4 _ rfl z5 _ hz5 (by omega) (g_su_s ex0 (by omega) (by omega) hz4 hz3 rfl) (by omega))
set_option maxHeartbeats 100000000 in
theorem n_wentX {ns : Nat} (σ : h_S) (hI : h_I σ) {Q : Option Value → h_S → Prop} (kk : ∀ (r : Int32) (b : Int) (hb : r.toInt = b), (r = g_su (σ 10 9) (σ 21) 3 0 0) → Q (some (.int r)) σ) : h_T g_P (g_Y ns) 11 0 [(0, .ref 10)] [] σ Q := by
  refine h_iconst (pc' := 1) (x := (Int32.ofInt 0)) rfl rfl rfl ?_
  refine h_istore_n (pc' := 2) (M := [(1, .int (Int32.ofInt 0)), (0, .ref 10)]) rfl rfl rfl rfl ?_
  refine h_iconst (pc' := 3) (x := (Int32.ofInt 0)) rfl rfl rfl ?_
  refine h_istore_n (pc' := 4) (M := [(2, .int (Int32.ofInt 0)), (1, .int (Int32.ofInt 0)), (0, .ref 10)]) rfl rfl rfl rfl ?_
  exact h_wk [(0, .ref 10), (1, .int (Int32.ofInt 0)), (2, .int (Int32.ofInt 0))] ⟨rfl, rfl, rfl, trivial⟩ ((n_wentX_l ns σ hI  kk 1000000000000) (Int32.ofInt 0) _ ci_0 (Int32.ofInt 0) _ ci_0 (by omega) rfl (by omega))
set_option maxHeartbeats 100000000 in
theorem n_wentM_l (ns : Nat) (σ : h_S) (hI : h_I σ) {Q : Option Value → h_S → Prop} (kk : ∀ (r : Int32) (b : Int) (hb : r.toInt = b), (r = g_su (σ 98 2) (fun g => σ 99 (32 + g)) 3 0 0) → Q (some (.int r)) σ) : ∀ n : Nat, (∀ (y1 : Int32) (b1 : Int), y1.toInt = b1 → ∀ (y2 : Int32) (b2 : Int), y2.toInt = b2 → (0 ≤ b2 ∧ b2 ≤ 3) → (g_su (σ 98 2) (fun g => σ 99 (32 + g)) (3 - b2).toNat b2 y1 = g_su (σ 98 2) (fun g => σ 99 (32 + g)) 3 0 0) → (3 + 1 - b2) * 1000000 + 1000000000 ≤ (n : Int) → h_T g_P (g_Y ns) 159 4 [(0, .ref 98), (1, .int y1), (2, .int y2)] [] σ Q) := by
  intro n
  induction n with
  | zero => exact by intro  y1 b1 hy1 y2 b2 hy2 ry2 ex0 hm; exfalso; omega
  | succ n ih =>
    intro  y1 b1 hy1 y2 b2 hy2 ry2 ex0 hm
    refine h_iload_n (pc' := 5) rfl rfl rfl ?_
    refine h_aload_n (pc' := 6) rfl rfl rfl ?_
    refine h_getI (pc' := 9) (v := σ 98 2) rfl rfl rfl rfl rfl rfl (fun z1 hz1 => ?_)
    have tz1 := tf_98_2 hI
    refine h_cge (tg := 30) (pc' := 12) rfl rfl rfl hy2 hz1 (fun c2 => ?_) (fun c2 => ?_)
    · refine h_iload_n (pc' := 31) rfl rfl rfl ?_
      exact h_iret rfl rfl (kk _ _ hy1 (g_su_o ex0 (by omega)))
    · refine h_iload_n (pc' := 13) rfl rfl rfl ?_
      refine h_aload_n (pc' := 14) rfl rfl rfl ?_
      refine h_getR (pc' := 17) rfl rfl rfl rfl rfl ?_
      refine h_bipush (pc' := 19) (x := (Int32.ofInt 32)) rfl rfl cb_32 ?_
      refine h_iload_n (pc' := 20) rfl rfl rfl ?_
      refine h_iadd (pc' := 21) rfl rfl ci_32 hy2 rfl (by omega) (by omega) (fun z3 hz3 => ?_)
      refine h_iald (pc' := 22) (v := σ 99 (32 + b2)) rfl rfl rfl hz3 (by omega) (by omega) rfl (fun z4 hz4 => ?_)
      have tz4 := ty_99_8 hI (32 + b2) (by omega)
      refine h_iaddA (pc' := 23) rfl rfl (fun z5 hz5 => ?_)
      refine h_istore_n (pc' := 24) (M := [(1, .int z5), (0, .ref 98), (2, .int y2)]) rfl rfl rfl rfl ?_
      refine h_iinc (pc' := 27) (M := fun z6 => [(2, .int z6), (1, .int z5), (0, .ref 98)]) rfl rfl rfl rfl hy2 ci_1 rfl (by omega) (by omega) (fun _ => rfl) (fun z6 hz6 => ?_)
      refine h_goto (pc' := 4) rfl rfl ?_
      exact h_wk [(0, .ref 98), (1, .int z5), (2, .int z6)] ⟨rfl, rfl, rfl, trivial⟩ (ih z5 _ rfl z6 _ hz6 (by omega) (g_su_s ex0 (by omega) (by omega) hz5 hz4 rfl) (by omega))
set_option maxHeartbeats 100000000 in
theorem n_wentM {ns : Nat} (σ : h_S) (hI : h_I σ) {Q : Option Value → h_S → Prop} (kk : ∀ (r : Int32) (b : Int) (hb : r.toInt = b), (r = g_su (σ 98 2) (fun g => σ 99 (32 + g)) 3 0 0) → Q (some (.int r)) σ) : h_T g_P (g_Y ns) 159 0 [(0, .ref 98)] [] σ Q := by
  refine h_iconst (pc' := 1) (x := (Int32.ofInt 0)) rfl rfl rfl ?_
  refine h_istore_n (pc' := 2) (M := [(1, .int (Int32.ofInt 0)), (0, .ref 98)]) rfl rfl rfl rfl ?_
  refine h_iconst (pc' := 3) (x := (Int32.ofInt 0)) rfl rfl rfl ?_
  refine h_istore_n (pc' := 4) (M := [(2, .int (Int32.ofInt 0)), (1, .int (Int32.ofInt 0)), (0, .ref 98)]) rfl rfl rfl rfl ?_
  exact h_wk [(0, .ref 98), (1, .int (Int32.ofInt 0)), (2, .int (Int32.ofInt 0))] ⟨rfl, rfl, rfl, trivial⟩ ((n_wentM_l ns σ hI  kk 1000000000000) (Int32.ofInt 0) _ ci_0 (Int32.ofInt 0) _ ci_0 (by omega) rfl (by omega))
