/-! TAKING AWAY, EXACTLY -/
def g_shd (d : Int) (f f' : Int → Int) (i k : Int) : Prop := ∀ j, f' j = if i ≤ j ∧ j < k then f (j + d) else f j
theorem g_shd_0 {d : Int} {f : Int → Int} {i k : Int} (h : k ≤ i) : g_shd d f f i k := fun j => by rw [if_neg (by omega)]
theorem g_shd_s {d : Int} {f f' f'' : Int → Int} {i k e v : Int} (h : g_shd d f f' i k) (u : ∀ j, f'' j = if j = e then v else f' j) (he : e = k) (hv : v = f' (k + d)) (hd : 0 ≤ d) (hi : i ≤ k) : g_shd d f f'' i (k + 1) := fun j => by
  subst he
  rw [u]
  by_cases c : j = e
  · subst c
    rw [if_pos rfl, if_pos (by omega), hv, h, if_neg (by omega)]
  · rw [if_neg c, h]
    by_cases x : i ≤ j ∧ j < e
    · rw [if_pos x, if_pos (by omega)]
    · rw [if_neg x, if_neg (by omega)]
theorem g_shd_e {d : Int} {f f' : Int → Int} {i k k' : Int} (h : g_shd d f f' i k) (e : k = k') : g_shd d f f' i k' := e ▸ h
def g_und (f f' : Int → Int) (t i : Int) : Prop := ∀ j, f' j = if j = t + 6 then f (t + 6) - 1 else if t + 2 * i ≤ j ∧ j < t + 4 then f (j + 2) else f j
theorem g_und_mk {f f' f'' : Int → Int} {t i l k e v : Int} (h : g_shd 2 f f' l k) (hl : l = t + 2 * i) (hk : k = t + 4) (u : ∀ j, f'' j = if j = e then v else f' j) (he : e = t + 6) (hv : v = f (t + 6) - 1) : g_und f f'' t i := fun j => by
  subst hl
  subst hk
  subst he
  rw [u, hv, h]
def kf_n_drop13 : List Nat := [13314, 15359, 16383]
set_option maxHeartbeats 100000000 in
set_option maxHeartbeats 100000000 in
theorem n_drop13_l (ns : Nat) (σ : h_S) (hI : h_I σ) (x0 : Int32) (a0 : Int) (hx0 : x0.toInt = a0) (ra0 : 0 ≤ a0 ∧ a0 ≤ 2) (pr0 : a0 < σ 13 2) {Q : Option Value → h_S → Prop} (kk : ∀ (τ : h_S), h_I τ → h_F (k_in kf_n_drop13) τ σ → (τ 13 2 = σ 13 2 - 1) → (g_shd 1 (σ 14) (τ 14) a0 (σ 13 2 - 1)) → (g_shd 1 (σ 15) (τ 15) a0 (σ 13 2 - 1)) → Q none τ) : ∀ n : Nat, (∀ (s0 : h_S), h_I s0 → h_F (k_in kf_n_drop13) s0 σ → ∀ (y2 : Int32) (b2 : Int), y2.toInt = b2 → (0 ≤ b2 ∧ b2 ≤ 2) → (a0 ≤ b2) → (b2 ≤ σ 13 2 - 1) → (s0 13 2 = σ 13 2) → (g_shd 1 (σ 14) (s0 14) a0 b2) → (g_shd 1 (σ 15) (s0 15) a0 b2) → (2 + 1 - b2) * 1000000 + 1000000000 ≤ (n : Int) → h_T g_P (g_Y ns) 48 11 [(0, .ref 13), (1, .int x0), (2, .int y2)] [] s0 Q) := by
  intro n
  induction n with
  | zero => exact by intro s0 I0 F0_ y2 b2 hy2 ry2 ex0 ex1 ex2 ex3 ex4 hm; have gh0 := tf_13_2 hI; have gh1 := tf_13_2 I0; exfalso; omega
  | succ n ih =>
    intro s0 I0 F0_ y2 b2 hy2 ry2 ex0 ex1 ex2 ex3 ex4 hm; have gh0 := tf_13_2 hI; have gh1 := tf_13_2 I0
    refine h_iload_n (pc' := 12) rfl rfl rfl ?_
    refine h_iconst (pc' := 13) (x := (Int32.ofInt 1)) rfl rfl rfl ?_
    refine h_iadd (pc' := 14) rfl rfl hy2 ci_1 rfl (by omega) (by omega) (fun z1 hz1 => ?_)
    refine h_aload_n (pc' := 15) rfl rfl rfl ?_
    refine h_getI (pc' := 18) (v := s0 13 2) rfl rfl rfl rfl rfl rfl (fun z2 hz2 => ?_)
    have tz2 := tf_13_2 I0
    refine h_cge (tg := 55) (pc' := 21) rfl rfl rfl hz1 hz2 (fun c3 => ?_) (fun c3 => ?_)
    · refine h_aload_n (pc' := 56) rfl rfl rfl ?_
      refine h_dup (pc' := 57) rfl rfl rfl ?_
      refine h_getI (pc' := 60) (v := s0 13 2) rfl rfl rfl rfl rfl rfl (fun z4 hz4 => ?_)
      have tz4 := tf_13_2 I0
      refine h_iconst (pc' := 61) (x := (Int32.ofInt 1)) rfl rfl rfl ?_
      refine h_isub (pc' := 62) rfl rfl hz4 ci_1 rfl (by omega) (by omega) (fun z5 hz5 => ?_)
      refine h_put (pc' := 65) rfl rfl rfl rfl rfl rfl hz5 rfl (h_fgt (E := fun s => s 13 2 = ((s0 13 2) - 1) ∧ s = h_up s0 13 2 ((s0 13 2) - 1)) _ (if_13_2 I0 (by omega)) (F0_.up rfl) ⟨rfl, rfl⟩ (fun s6 Is6 Fs6 (es6 : s6 13 2 = ((s0 13 2) - 1) ∧ s6 = h_up s0 13 2 ((s0 13 2) - 1)) => ?_))
      have us6 := es6.2
      exact h_vret rfl rfl (kk _ Is6 Fs6 (by omega) (g_shd_e (k := b2) (fun j => (h_upo us6 rfl j).trans (ex3 j)) (by omega)) (g_shd_e (k := b2) (fun j => (h_upo us6 rfl j).trans (ex4 j)) (by omega)))
    · refine h_aload_n (pc' := 22) rfl rfl rfl ?_
      refine h_getR (pc' := 25) rfl rfl rfl rfl rfl ?_
      refine h_iload_n (pc' := 26) rfl rfl rfl ?_
      refine h_aload_n (pc' := 27) rfl rfl rfl ?_
      refine h_getR (pc' := 30) rfl rfl rfl rfl rfl ?_
      refine h_iload_n (pc' := 31) rfl rfl rfl ?_
      refine h_iconst (pc' := 32) (x := (Int32.ofInt 1)) rfl rfl rfl ?_
      refine h_iadd (pc' := 33) rfl rfl hy2 ci_1 rfl (by omega) (by omega) (fun z7 hz7 => ?_)
      refine h_iald (pc' := 34) (v := s0 14 (b2 + 1)) rfl rfl rfl hz7 (by omega) (by omega) rfl (fun z8 hz8 => ?_)
      have tz8 := ty_14 I0 (b2 + 1)
      refine h_iast (pc' := 35) rfl rfl rfl rfl hy2 (by omega) (by omega) hz8 (h_fgt (E := fun s => s 13 2 = s0 13 2 ∧ s = h_up s0 14 b2 (s0 14 (b2 + 1))) _ (in_14 I0 (by omega)) (F0_.up rfl) ⟨rfl, rfl⟩ (fun s9 Is9 Fs9 (es9 : s9 13 2 = s0 13 2 ∧ s9 = h_up s0 14 b2 (s0 14 (b2 + 1))) => ?_))
      have us9 := es9.2
      refine h_aload_n (pc' := 36) rfl rfl rfl ?_
      refine h_getR (pc' := 39) rfl rfl rfl rfl rfl ?_
      refine h_iload_n (pc' := 40) rfl rfl rfl ?_
      refine h_aload_n (pc' := 41) rfl rfl rfl ?_
      refine h_getR (pc' := 44) rfl rfl rfl rfl rfl ?_
      refine h_iload_n (pc' := 45) rfl rfl rfl ?_
      refine h_iconst (pc' := 46) (x := (Int32.ofInt 1)) rfl rfl rfl ?_
      refine h_iadd (pc' := 47) rfl rfl hy2 ci_1 rfl (by omega) (by omega) (fun z10 hz10 => ?_)
      refine h_iald (pc' := 48) (v := s9 15 (b2 + 1)) rfl rfl rfl hz10 (by omega) (by omega) rfl (fun z11 hz11 => ?_)
      have tz11 := ty_15 Is9 (b2 + 1)
      refine h_iast (pc' := 49) rfl rfl rfl rfl hy2 (by omega) (by omega) hz11 (h_fgt (E := fun s => s 13 2 = s0 13 2 ∧ s = h_up s9 15 b2 (s9 15 (b2 + 1))) _ (in_15 Is9 (by omega)) (Fs9.up rfl) ⟨es9.1, rfl⟩ (fun s12 Is12 Fs12 (es12 : s12 13 2 = s0 13 2 ∧ s12 = h_up s9 15 b2 (s9 15 (b2 + 1))) => ?_))
      clear es9
      have us12 := es12.2
      refine h_iinc (pc' := 52) (M := fun z13 => [(2, .int z13), (0, .ref 13), (1, .int x0)]) rfl rfl rfl rfl hy2 ci_1 rfl (by omega) (by omega) (fun _ => rfl) (fun z13 hz13 => ?_)
      refine h_goto (pc' := 11) rfl rfl ?_
      exact h_wk [(0, .ref 13), (1, .int x0), (2, .int z13)] ⟨rfl, rfl, rfl, trivial⟩ (ih _ Is12 Fs12 z13 _ hz13 (by omega) (by omega) (by omega) (by omega) (g_shd_s ex3 (fun j => (h_upo us12 rfl j).trans ((h_upi us9 j))) rfl rfl (by omega) (by omega)) (g_shd_s ex4 (fun j => (h_upi us12 j).trans (congrArg (fun z => if j = b2 then (s9 15 (b2 + 1)) else z) ((h_upo us9 rfl j)))) rfl (h_upo us9 rfl _) (by omega) (by omega)) (by omega))
set_option maxHeartbeats 100000000 in
set_option maxHeartbeats 100000000 in
theorem n_drop13 {ns : Nat} (σ : h_S) (hI : h_I σ) (x0 : Int32) (a0 : Int) (hx0 : x0.toInt = a0) (ra0 : 0 ≤ a0 ∧ a0 ≤ 2) (pr0 : a0 < σ 13 2) {Q : Option Value → h_S → Prop} (kk : ∀ (τ : h_S), h_I τ → h_F (k_in kf_n_drop13) τ σ → (τ 13 2 = σ 13 2 - 1) → (g_shd 1 (σ 14) (τ 14) a0 (σ 13 2 - 1)) → (g_shd 1 (σ 15) (τ 15) a0 (σ 13 2 - 1)) → Q none τ) : h_T g_P (g_Y ns) 48 0 [(0, .ref 13), (1, .int x0)] [] σ Q := by
  have F00 : h_F (k_in kf_n_drop13) σ σ := h_F.rf
  have ge0 := tf_13_2 hI
  refine h_aload_n (pc' := 1) rfl rfl rfl ?_
  refine h_iload_n (pc' := 2) rfl rfl rfl ?_
  refine h_call (sp := false) (pc' := 5) (M := [(0, .ref 13), (1, .int x0)]) rfl rfl rfl rfl rfl rfl rfl rfl ?_
  refine h_iload_n (pc' := 1) rfl rfl rfl ?_
  refine h_zlt (tg := 16) (pc' := 4) rfl rfl rfl hx0 (fun c1 => absurd c1 (by omega)) (fun c1 => ?_)
  refine h_iload_n (pc' := 5) rfl rfl rfl ?_
  refine h_aload_n (pc' := 6) rfl rfl rfl ?_
  refine h_getI (pc' := 9) (v := σ 13 2) rfl rfl rfl rfl rfl rfl (fun z2 hz2 => ?_)
  have tz2 := tf_13_2 hI
  refine h_cge (tg := 16) (pc' := 12) rfl rfl rfl hx0 hz2 (fun c3 => ?_) (fun c3 => ?_)
  · refine h_iconst (pc' := 17) (x := (Int32.ofInt 0)) rfl rfl rfl ?_
    refine h_zret rfl rfl ci_0 (by omega) (h_Kv ?_)
    refine h_zne (tg := 9) (pc' := 8) rfl rfl rfl ci_0 (fun c4 => absurd c4 (by omega)) (fun c4 => ?_)
    exact h_vret rfl rfl (kk _ hI F00 (by exfalso; omega) (by exfalso; omega) (by exfalso; omega))
  · refine h_iconst (pc' := 13) (x := (Int32.ofInt 1)) rfl rfl rfl ?_
    refine h_goto (pc' := 17) rfl rfl ?_
    refine h_zret rfl rfl ci_1 (by omega) (h_Kv ?_)
    refine h_zne (tg := 9) (pc' := 8) rfl rfl rfl ci_1 (fun c5 => ?_) (fun c5 => absurd c5 (by omega))
    refine h_iload_n (pc' := 10) rfl rfl rfl ?_
    refine h_istore_n (pc' := 11) (M := [(2, .int x0), (0, .ref 13), (1, .int x0)]) rfl rfl rfl rfl ?_
    exact h_wk [(0, .ref 13), (1, .int x0), (2, .int x0)] ⟨rfl, rfl, rfl, trivial⟩ ((n_drop13_l ns σ hI x0 a0 hx0 ra0 pr0 kk 1000000000000) _ hI F00 x0 _ hx0 (by omega) (by omega) (by omega) (by omega) (g_shd_0 (by omega)) (g_shd_0 (by omega)) (by omega))
def kf_n_drop16 : List Nat := [16386, 18431, 19455]
set_option maxHeartbeats 100000000 in
set_option maxHeartbeats 100000000 in
theorem n_drop16_l (ns : Nat) (σ : h_S) (hI : h_I σ) (x0 : Int32) (a0 : Int) (hx0 : x0.toInt = a0) (ra0 : 0 ≤ a0 ∧ a0 ≤ 2) (pr0 : a0 < σ 16 2) {Q : Option Value → h_S → Prop} (kk : ∀ (τ : h_S), h_I τ → h_F (k_in kf_n_drop16) τ σ → (τ 16 2 = σ 16 2 - 1) → (g_shd 1 (σ 17) (τ 17) a0 (σ 16 2 - 1)) → (g_shd 1 (σ 18) (τ 18) a0 (σ 16 2 - 1)) → Q none τ) : ∀ n : Nat, (∀ (s0 : h_S), h_I s0 → h_F (k_in kf_n_drop16) s0 σ → ∀ (y2 : Int32) (b2 : Int), y2.toInt = b2 → (0 ≤ b2 ∧ b2 ≤ 2) → (a0 ≤ b2) → (b2 ≤ σ 16 2 - 1) → (s0 16 2 = σ 16 2) → (g_shd 1 (σ 17) (s0 17) a0 b2) → (g_shd 1 (σ 18) (s0 18) a0 b2) → (2 + 1 - b2) * 1000000 + 1000000000 ≤ (n : Int) → h_T g_P (g_Y ns) 48 11 [(0, .ref 16), (1, .int x0), (2, .int y2)] [] s0 Q) := by
  intro n
  induction n with
  | zero => exact by intro s0 I0 F0_ y2 b2 hy2 ry2 ex0 ex1 ex2 ex3 ex4 hm; have gh0 := tf_16_2 hI; have gh1 := tf_16_2 I0; exfalso; omega
  | succ n ih =>
    intro s0 I0 F0_ y2 b2 hy2 ry2 ex0 ex1 ex2 ex3 ex4 hm; have gh0 := tf_16_2 hI; have gh1 := tf_16_2 I0
    refine h_iload_n (pc' := 12) rfl rfl rfl ?_
    refine h_iconst (pc' := 13) (x := (Int32.ofInt 1)) rfl rfl rfl ?_
    refine h_iadd (pc' := 14) rfl rfl hy2 ci_1 rfl (by omega) (by omega) (fun z1 hz1 => ?_)
    refine h_aload_n (pc' := 15) rfl rfl rfl ?_
    refine h_getI (pc' := 18) (v := s0 16 2) rfl rfl rfl rfl rfl rfl (fun z2 hz2 => ?_)
    have tz2 := tf_16_2 I0
    refine h_cge (tg := 55) (pc' := 21) rfl rfl rfl hz1 hz2 (fun c3 => ?_) (fun c3 => ?_)
    · refine h_aload_n (pc' := 56) rfl rfl rfl ?_
      refine h_dup (pc' := 57) rfl rfl rfl ?_
      refine h_getI (pc' := 60) (v := s0 16 2) rfl rfl rfl rfl rfl rfl (fun z4 hz4 => ?_)
      have tz4 := tf_16_2 I0
      refine h_iconst (pc' := 61) (x := (Int32.ofInt 1)) rfl rfl rfl ?_
      refine h_isub (pc' := 62) rfl rfl hz4 ci_1 rfl (by omega) (by omega) (fun z5 hz5 => ?_)
      refine h_put (pc' := 65) rfl rfl rfl rfl rfl rfl hz5 rfl (h_fgt (E := fun s => s 16 2 = ((s0 16 2) - 1) ∧ s = h_up s0 16 2 ((s0 16 2) - 1)) _ (if_16_2 I0 (by omega)) (F0_.up rfl) ⟨rfl, rfl⟩ (fun s6 Is6 Fs6 (es6 : s6 16 2 = ((s0 16 2) - 1) ∧ s6 = h_up s0 16 2 ((s0 16 2) - 1)) => ?_))
      have us6 := es6.2
      exact h_vret rfl rfl (kk _ Is6 Fs6 (by omega) (g_shd_e (k := b2) (fun j => (h_upo us6 rfl j).trans (ex3 j)) (by omega)) (g_shd_e (k := b2) (fun j => (h_upo us6 rfl j).trans (ex4 j)) (by omega)))
    · refine h_aload_n (pc' := 22) rfl rfl rfl ?_
      refine h_getR (pc' := 25) rfl rfl rfl rfl rfl ?_
      refine h_iload_n (pc' := 26) rfl rfl rfl ?_
      refine h_aload_n (pc' := 27) rfl rfl rfl ?_
      refine h_getR (pc' := 30) rfl rfl rfl rfl rfl ?_
      refine h_iload_n (pc' := 31) rfl rfl rfl ?_
      refine h_iconst (pc' := 32) (x := (Int32.ofInt 1)) rfl rfl rfl ?_
      refine h_iadd (pc' := 33) rfl rfl hy2 ci_1 rfl (by omega) (by omega) (fun z7 hz7 => ?_)
      refine h_iald (pc' := 34) (v := s0 17 (b2 + 1)) rfl rfl rfl hz7 (by omega) (by omega) rfl (fun z8 hz8 => ?_)
      have tz8 := ty_17 I0 (b2 + 1)
      refine h_iast (pc' := 35) rfl rfl rfl rfl hy2 (by omega) (by omega) hz8 (h_fgt (E := fun s => s 16 2 = s0 16 2 ∧ s = h_up s0 17 b2 (s0 17 (b2 + 1))) _ (in_17 I0 (by omega)) (F0_.up rfl) ⟨rfl, rfl⟩ (fun s9 Is9 Fs9 (es9 : s9 16 2 = s0 16 2 ∧ s9 = h_up s0 17 b2 (s0 17 (b2 + 1))) => ?_))
      have us9 := es9.2
      refine h_aload_n (pc' := 36) rfl rfl rfl ?_
      refine h_getR (pc' := 39) rfl rfl rfl rfl rfl ?_
      refine h_iload_n (pc' := 40) rfl rfl rfl ?_
      refine h_aload_n (pc' := 41) rfl rfl rfl ?_
      refine h_getR (pc' := 44) rfl rfl rfl rfl rfl ?_
      refine h_iload_n (pc' := 45) rfl rfl rfl ?_
      refine h_iconst (pc' := 46) (x := (Int32.ofInt 1)) rfl rfl rfl ?_
      refine h_iadd (pc' := 47) rfl rfl hy2 ci_1 rfl (by omega) (by omega) (fun z10 hz10 => ?_)
      refine h_iald (pc' := 48) (v := s9 18 (b2 + 1)) rfl rfl rfl hz10 (by omega) (by omega) rfl (fun z11 hz11 => ?_)
      have tz11 := ty_18 Is9 (b2 + 1)
      refine h_iast (pc' := 49) rfl rfl rfl rfl hy2 (by omega) (by omega) hz11 (h_fgt (E := fun s => s 16 2 = s0 16 2 ∧ s = h_up s9 18 b2 (s9 18 (b2 + 1))) _ (in_18 Is9 (by omega)) (Fs9.up rfl) ⟨es9.1, rfl⟩ (fun s12 Is12 Fs12 (es12 : s12 16 2 = s0 16 2 ∧ s12 = h_up s9 18 b2 (s9 18 (b2 + 1))) => ?_))
      clear es9
      have us12 := es12.2
      refine h_iinc (pc' := 52) (M := fun z13 => [(2, .int z13), (0, .ref 16), (1, .int x0)]) rfl rfl rfl rfl hy2 ci_1 rfl (by omega) (by omega) (fun _ => rfl) (fun z13 hz13 => ?_)
      refine h_goto (pc' := 11) rfl rfl ?_
      exact h_wk [(0, .ref 16), (1, .int x0), (2, .int z13)] ⟨rfl, rfl, rfl, trivial⟩ (ih _ Is12 Fs12 z13 _ hz13 (by omega) (by omega) (by omega) (by omega) (g_shd_s ex3 (fun j => (h_upo us12 rfl j).trans ((h_upi us9 j))) rfl rfl (by omega) (by omega)) (g_shd_s ex4 (fun j => (h_upi us12 j).trans (congrArg (fun z => if j = b2 then (s9 18 (b2 + 1)) else z) ((h_upo us9 rfl j)))) rfl (h_upo us9 rfl _) (by omega) (by omega)) (by omega))
set_option maxHeartbeats 100000000 in
set_option maxHeartbeats 100000000 in
theorem n_drop16 {ns : Nat} (σ : h_S) (hI : h_I σ) (x0 : Int32) (a0 : Int) (hx0 : x0.toInt = a0) (ra0 : 0 ≤ a0 ∧ a0 ≤ 2) (pr0 : a0 < σ 16 2) {Q : Option Value → h_S → Prop} (kk : ∀ (τ : h_S), h_I τ → h_F (k_in kf_n_drop16) τ σ → (τ 16 2 = σ 16 2 - 1) → (g_shd 1 (σ 17) (τ 17) a0 (σ 16 2 - 1)) → (g_shd 1 (σ 18) (τ 18) a0 (σ 16 2 - 1)) → Q none τ) : h_T g_P (g_Y ns) 48 0 [(0, .ref 16), (1, .int x0)] [] σ Q := by
  have F00 : h_F (k_in kf_n_drop16) σ σ := h_F.rf
  have ge0 := tf_16_2 hI
  refine h_aload_n (pc' := 1) rfl rfl rfl ?_
  refine h_iload_n (pc' := 2) rfl rfl rfl ?_
  refine h_call (sp := false) (pc' := 5) (M := [(0, .ref 16), (1, .int x0)]) rfl rfl rfl rfl rfl rfl rfl rfl ?_
  refine h_iload_n (pc' := 1) rfl rfl rfl ?_
  refine h_zlt (tg := 16) (pc' := 4) rfl rfl rfl hx0 (fun c1 => absurd c1 (by omega)) (fun c1 => ?_)
  refine h_iload_n (pc' := 5) rfl rfl rfl ?_
  refine h_aload_n (pc' := 6) rfl rfl rfl ?_
  refine h_getI (pc' := 9) (v := σ 16 2) rfl rfl rfl rfl rfl rfl (fun z2 hz2 => ?_)
  have tz2 := tf_16_2 hI
  refine h_cge (tg := 16) (pc' := 12) rfl rfl rfl hx0 hz2 (fun c3 => ?_) (fun c3 => ?_)
  · refine h_iconst (pc' := 17) (x := (Int32.ofInt 0)) rfl rfl rfl ?_
    refine h_zret rfl rfl ci_0 (by omega) (h_Kv ?_)
    refine h_zne (tg := 9) (pc' := 8) rfl rfl rfl ci_0 (fun c4 => absurd c4 (by omega)) (fun c4 => ?_)
    exact h_vret rfl rfl (kk _ hI F00 (by exfalso; omega) (by exfalso; omega) (by exfalso; omega))
  · refine h_iconst (pc' := 13) (x := (Int32.ofInt 1)) rfl rfl rfl ?_
    refine h_goto (pc' := 17) rfl rfl ?_
    refine h_zret rfl rfl ci_1 (by omega) (h_Kv ?_)
    refine h_zne (tg := 9) (pc' := 8) rfl rfl rfl ci_1 (fun c5 => ?_) (fun c5 => absurd c5 (by omega))
    refine h_iload_n (pc' := 10) rfl rfl rfl ?_
    refine h_istore_n (pc' := 11) (M := [(2, .int x0), (0, .ref 16), (1, .int x0)]) rfl rfl rfl rfl ?_
    exact h_wk [(0, .ref 16), (1, .int x0), (2, .int x0)] ⟨rfl, rfl, rfl, trivial⟩ ((n_drop16_l ns σ hI x0 a0 hx0 ra0 pr0 kk 1000000000000) _ hI F00 x0 _ hx0 (by omega) (by omega) (by omega) (by omega) (g_shd_0 (by omega)) (g_shd_0 (by omega)) (by omega))
def kf_n_undo0 : List Nat := [101898, 101899]
set_option maxHeartbeats 100000000 in
set_option maxHeartbeats 100000000 in
theorem n_undo0_l (ns : Nat) (σ : h_S) (hI : h_I σ) (x1 : Int32) (a1 : Int) (hx1 : x1.toInt = a1) {Q : Option Value → h_S → Prop} (kk : ∀ (r : Int32) (b : Int) (hb : r.toInt = b) (τ : h_S), h_I τ → h_F (k_in kf_n_undo0) τ σ → ((-1) ≤ b ∧ b ≤ 2) → ((b = -1 ∧ (a1 < 0 ∨ σ 99 18 ≤ a1) ∧ ∀ j, τ 99 j = σ 99 j) ∨ (0 ≤ a1 ∧ a1 < σ 99 18 ∧ b = σ 99 18 - 1 ∧ g_und (σ 99) (τ 99) 12 a1)) → Q (some (.int r)) τ) : ∀ n : Nat, (∀ (s0 : h_S), h_I s0 → h_F (k_in kf_n_undo0) s0 σ → ∀ (y4 : Int32) (b4 : Int), y4.toInt = b4 → (0 ≤ b4 ∧ b4 ≤ 4) → (0 ≤ a1 ∧ a1 ≤ σ 99 18 - 1) → (2 * a1 ≤ b4 ∧ b4 ≤ 4) → (s0 99 18 = σ 99 18) → (g_shd 2 (σ 99) (s0 99) (12 + 2 * a1) (12 + b4)) → (5 - b4) ≤ (n : Int) → h_T g_P (g_Y ns) 183 21 [(0, .ref 98), (1, .int (Int32.ofInt 0)), (2, .int x1), (3, .int (Int32.ofInt 12)), (4, .int y4)] [] s0 Q) := by
  intro n
  induction n with
  | zero => exact by intro s0 I0 F0_ y4 b4 hy4 ry4 ex0 ex1 ex2 ex3 hm; have gh0 := ty_99_3 hI 18 (by omega); exfalso; omega
  | succ n ih =>
    intro s0 I0 F0_ y4 b4 hy4 ry4 ex0 ex1 ex2 ex3 hm; have gh0 := ty_99_3 hI 18 (by omega)
    refine h_iload (pc' := 23) rfl rfl rfl ?_
    refine h_iconst (pc' := 24) (x := (Int32.ofInt 4)) rfl rfl rfl ?_
    refine h_cge (tg := 53) (pc' := 27) rfl rfl rfl hy4 ci_4 (fun c1 => ?_) (fun c1 => ?_)
    · refine h_aload_n (pc' := 54) rfl rfl rfl ?_
      refine h_getR (pc' := 57) rfl rfl rfl rfl rfl ?_
      refine h_iload_n (pc' := 58) rfl rfl rfl ?_
      refine h_bipush (pc' := 60) (x := (Int32.ofInt 6)) rfl rfl cb_6 ?_
      refine h_iadd (pc' := 61) (c := 18) rfl rfl ci_12 ci_6 rfl (by omega) (by omega) (fun z2 hz2 => ?_)
      refine h_dup2 (pc' := 62) rfl rfl rfl ?_
      refine h_iald (pc' := 63) (v := s0 99 18) rfl rfl rfl hz2 (by omega) (by omega) rfl (fun z3 hz3 => ?_)
      have tz3 := ty_99_3 I0 18 (by omega)
      refine h_iconst (pc' := 64) (x := (Int32.ofInt 1)) rfl rfl rfl ?_
      refine h_isub (pc' := 65) rfl rfl hz3 ci_1 rfl (by omega) (by omega) (fun z4 hz4 => ?_)
      refine h_iast (pc' := 66) rfl rfl rfl rfl hz2 (by omega) (by omega) hz4 (h_fgt (E := fun s => s 99 18 = ((s0 99 18) - 1) ∧ s = h_up s0 99 18 ((s0 99 18) - 1)) _ (ip_99_3 I0 (by omega) (by omega)) (F0_.up (k_is3 rfl (by omega))) ⟨rfl, rfl⟩ (fun s5 Is5 Fs5 (es5 : s5 99 18 = ((s0 99 18) - 1) ∧ s5 = h_up s0 99 18 ((s0 99 18) - 1)) => ?_))
      have us5 := es5.2
      refine h_aload_n (pc' := 67) rfl rfl rfl ?_
      refine h_getR (pc' := 70) rfl rfl rfl rfl rfl ?_
      refine h_iload_n (pc' := 71) rfl rfl rfl ?_
      refine h_bipush (pc' := 73) (x := (Int32.ofInt 6)) rfl rfl cb_6 ?_
      refine h_iadd (pc' := 74) (c := 18) rfl rfl ci_12 ci_6 rfl (by omega) (by omega) (fun z6 hz6 => ?_)
      refine h_iald (pc' := 75) (v := ((s0 99 18) - 1)) rfl rfl rfl hz6 (by omega) (by omega) es5.1 (fun z7 hz7 => ?_)
      exact h_iret rfl rfl (kk _ _ hz7 _ Is5 Fs5 (by omega) (Or.inr ⟨by omega, by omega, by omega, g_und_mk ex3 rfl (by omega) (fun j => (h_upi us5 j)) (by omega) (show _ = σ 99 18 - 1 by have ga := ex2; omega)⟩))
    · refine h_aload_n (pc' := 28) rfl rfl rfl ?_
      refine h_getR (pc' := 31) rfl rfl rfl rfl rfl ?_
      refine h_iload_n (pc' := 32) rfl rfl rfl ?_
      refine h_iload (pc' := 34) rfl rfl rfl ?_
      refine h_iadd (pc' := 35) rfl rfl ci_12 hy4 rfl (by omega) (by omega) (fun z8 hz8 => ?_)
      refine h_aload_n (pc' := 36) rfl rfl rfl ?_
      refine h_getR (pc' := 39) rfl rfl rfl rfl rfl ?_
      refine h_iload_n (pc' := 40) rfl rfl rfl ?_
      refine h_iload (pc' := 42) rfl rfl rfl ?_
      refine h_iadd (pc' := 43) rfl rfl ci_12 hy4 rfl (by omega) (by omega) (fun z9 hz9 => ?_)
      refine h_iconst (pc' := 44) (x := (Int32.ofInt 2)) rfl rfl rfl ?_
      refine h_iadd (pc' := 45) rfl rfl hz9 ci_2 rfl (by omega) (by omega) (fun z10 hz10 => ?_)
      refine h_iald (pc' := 46) (v := s0 99 ((12 + b4) + 2)) rfl rfl rfl hz10 (by omega) (by omega) rfl (fun z11 hz11 => ?_)
      have tz11 := ty_99_2 I0 ((12 + b4) + 2) (by omega)
      refine h_iast (pc' := 47) rfl rfl rfl rfl hz8 (by omega) (by omega) hz11 (h_fgt (E := fun s => s 99 18 = s0 99 18 ∧ s = h_up s0 99 (12 + b4) (s0 99 ((12 + b4) + 2))) _ (ip_99_2 I0 (by omega) (by omega)) (F0_.up (k_is2 rfl (by omega))) ⟨h_up_n2 (by omega) rfl, rfl⟩ (fun s12 Is12 Fs12 (es12 : s12 99 18 = s0 99 18 ∧ s12 = h_up s0 99 (12 + b4) (s0 99 ((12 + b4) + 2))) => ?_))
      have us12 := es12.2
      refine h_iinc (pc' := 50) (M := fun z13 => [(4, .int z13), (0, .ref 98), (1, .int (Int32.ofInt 0)), (2, .int x1), (3, .int (Int32.ofInt 12))]) rfl rfl rfl rfl hy4 ci_1 rfl (by omega) (by omega) (fun _ => rfl) (fun z13 hz13 => ?_)
      refine h_goto (pc' := 21) rfl rfl ?_
      exact h_wk [(0, .ref 98), (1, .int (Int32.ofInt 0)), (2, .int x1), (3, .int (Int32.ofInt 12)), (4, .int z13)] ⟨rfl, rfl, rfl, rfl, rfl, trivial⟩ (ih _ Is12 Fs12 z13 _ hz13 (by omega) (by omega) (by omega) (by omega) (g_shd_e (g_shd_s ex3 (fun j => (h_upi us12 j)) rfl (by first | rfl | exact congrArg _ (by omega)) (by omega) (by omega)) (by omega)) (by omega))
set_option maxHeartbeats 100000000 in
set_option maxHeartbeats 100000000 in
theorem n_undo0 {ns : Nat} (σ : h_S) (hI : h_I σ) (x1 : Int32) (a1 : Int) (hx1 : x1.toInt = a1) {Q : Option Value → h_S → Prop} (kk : ∀ (r : Int32) (b : Int) (hb : r.toInt = b) (τ : h_S), h_I τ → h_F (k_in kf_n_undo0) τ σ → ((-1) ≤ b ∧ b ≤ 2) → ((b = -1 ∧ (a1 < 0 ∨ σ 99 18 ≤ a1) ∧ ∀ j, τ 99 j = σ 99 j) ∨ (0 ≤ a1 ∧ a1 < σ 99 18 ∧ b = σ 99 18 - 1 ∧ g_und (σ 99) (τ 99) 12 a1)) → Q (some (.int r)) τ) : h_T g_P (g_Y ns) 183 0 [(0, .ref 98), (1, .int (Int32.ofInt 0)), (2, .int x1)] [] σ Q := by
  have F00 : h_F (k_in kf_n_undo0) σ σ := h_F.rf
  have ge0 := ty_99_3 hI 18 (by omega)
  refine h_aload_n (pc' := 1) rfl rfl rfl ?_
  refine h_iload_n (pc' := 2) rfl rfl rfl ?_
  refine h_iload_n (pc' := 3) rfl rfl rfl ?_
  refine h_call (sp := false) (pc' := 6) (M := [(0, .ref 98), (1, .int (Int32.ofInt 0)), (2, .int x1)]) rfl rfl rfl rfl rfl rfl rfl rfl ?_
  refine h_iload_n (pc' := 1) rfl rfl rfl ?_
  refine h_i2l (pc' := 2) rfl rfl ci_0 (fun z1 hz1 => ?_)
  refine h_lconst (pc' := 3) (x := (Int64.ofInt 0)) rfl rfl rfl ?_
  refine h_lconst (pc' := 4) (x := (Int64.ofInt 1)) rfl rfl rfl ?_
  refine h_calls (pc' := 7) (M := [(0, .long z1), (2, .long (Int64.ofInt 0)), (4, .long (Int64.ofInt 1))]) rfl rfl rfl rfl rfl rfl ?_
  refine h_lload_n (pc' := 1) rfl rfl rfl ?_
  refine h_lload_n (pc' := 2) rfl rfl rfl ?_
  refine h_lcmp (pc' := 3) rfl rfl hz1 cl_0 (fun z2 hz2 => ?_)
  refine h_zlt (tg := 17) (pc' := 6) rfl rfl rfl rfl (fun c3 => absurd c3 (by omega)) (fun c3 => ?_)
  replace c3 := (h_lcr hz2).2.1 c3
  clear hz2
  refine h_lload_n (pc' := 7) rfl rfl rfl ?_
  refine h_lload (pc' := 9) rfl rfl rfl ?_
  refine h_lcmp (pc' := 10) rfl rfl hz1 cl_1 (fun z4 hz4 => ?_)
  refine h_zgt (tg := 17) (pc' := 13) rfl rfl rfl rfl (fun c5 => absurd c5 (by omega)) (fun c5 => ?_)
  replace c5 := (h_lcr hz4).2.2.1 c5
  clear hz4
  refine h_iconst (pc' := 14) (x := (Int32.ofInt 1)) rfl rfl rfl ?_
  refine h_goto (pc' := 18) rfl rfl ?_
  refine h_zret rfl rfl ci_1 (by omega) (h_Kv ?_)
  refine h_zeq (tg := 38) (pc' := 10) rfl rfl rfl ci_1 (fun c6 => absurd c6 (by omega)) (fun c6 => ?_)
  refine h_iload_n (pc' := 11) rfl rfl rfl ?_
  refine h_i2l (pc' := 12) rfl rfl hx1 (fun z7 hz7 => ?_)
  refine h_lconst (pc' := 13) (x := (Int64.ofInt 0)) rfl rfl rfl ?_
  refine h_aload_n (pc' := 14) rfl rfl rfl ?_
  refine h_getR (pc' := 17) rfl rfl rfl rfl rfl ?_
  refine h_iload_n (pc' := 18) rfl rfl rfl ?_
  refine h_calls (pc' := 21) (M := [(0, .int (Int32.ofInt 0))]) rfl rfl rfl rfl rfl rfl ?_
  refine h_iload_n (pc' := 1) rfl rfl rfl ?_
  refine h_zne (tg := 9) (pc' := 4) rfl rfl rfl ci_0 (fun c8 => absurd c8 (by omega)) (fun c8 => ?_)
  refine h_bipush (pc' := 6) (x := (Int32.ofInt 12)) rfl rfl cb_12 ?_
  refine h_goto (pc' := 11) rfl rfl ?_
  refine h_iret rfl rfl (h_Kv ?_)
  refine h_bipush (pc' := 23) (x := (Int32.ofInt 6)) rfl rfl cb_6 ?_
  refine h_iadd (pc' := 24) (c := 18) rfl rfl ci_12 ci_6 rfl (by omega) (by omega) (fun z9 hz9 => ?_)
  refine h_iald (pc' := 25) (v := σ 99 18) rfl rfl rfl hz9 (by omega) (by omega) rfl (fun z10 hz10 => ?_)
  have tz10 := ty_99_3 hI 18 (by omega)
  refine h_iconst (pc' := 26) (x := (Int32.ofInt 1)) rfl rfl rfl ?_
  refine h_isub (pc' := 27) rfl rfl hz10 ci_1 rfl (by omega) (by omega) (fun z11 hz11 => ?_)
  refine h_i2l (pc' := 28) rfl rfl hz11 (fun z12 hz12 => ?_)
  refine h_calls (pc' := 31) (M := [(0, .long z7), (2, .long (Int64.ofInt 0)), (4, .long z12)]) rfl rfl rfl rfl rfl rfl ?_
  refine h_lload_n (pc' := 1) rfl rfl rfl ?_
  refine h_lload_n (pc' := 2) rfl rfl rfl ?_
  refine h_lcmp (pc' := 3) rfl rfl hz7 cl_0 (fun z13 hz13 => ?_)
  refine h_zlt (tg := 17) (pc' := 6) rfl rfl rfl rfl (fun c14 => ?_) (fun c14 => ?_)
  · replace c14 := (h_lcr hz13).1 c14
    clear hz13
    refine h_iconst (pc' := 18) (x := (Int32.ofInt 0)) rfl rfl rfl ?_
    refine h_zret rfl rfl ci_0 (by omega) (h_Kv ?_)
    refine h_zeq (tg := 38) (pc' := 34) rfl rfl rfl ci_0 (fun c15 => ?_) (fun c15 => absurd c15 (by omega))
    refine h_iconst (pc' := 39) (x := (Int32.ofInt 0)) rfl rfl rfl ?_
    refine h_zret rfl rfl ci_0 (by omega) (h_Kv ?_)
    refine h_zne (tg := 11) (pc' := 9) rfl rfl rfl ci_0 (fun c16 => absurd c16 (by omega)) (fun c16 => ?_)
    refine h_iconst (pc' := 10) (x := (Int32.ofInt (-1))) rfl rfl rfl ?_
    exact h_iret rfl rfl (kk _ _ ci_m1 _ hI F00 (by omega) (Or.inl ⟨rfl, by omega, fun j => rfl⟩))
  · replace c14 := (h_lcr hz13).2.1 c14
    clear hz13
    refine h_lload_n (pc' := 7) rfl rfl rfl ?_
    refine h_lload (pc' := 9) rfl rfl rfl ?_
    refine h_lcmp (pc' := 10) rfl rfl hz7 hz12 (fun z17 hz17 => ?_)
    refine h_zgt (tg := 17) (pc' := 13) rfl rfl rfl rfl (fun c18 => ?_) (fun c18 => ?_)
    · replace c18 := (h_lcr hz17).2.2.2.1 c18
      clear hz17
      refine h_iconst (pc' := 18) (x := (Int32.ofInt 0)) rfl rfl rfl ?_
      refine h_zret rfl rfl ci_0 (by omega) (h_Kv ?_)
      refine h_zeq (tg := 38) (pc' := 34) rfl rfl rfl ci_0 (fun c19 => ?_) (fun c19 => absurd c19 (by omega))
      refine h_iconst (pc' := 39) (x := (Int32.ofInt 0)) rfl rfl rfl ?_
      refine h_zret rfl rfl ci_0 (by omega) (h_Kv ?_)
      refine h_zne (tg := 11) (pc' := 9) rfl rfl rfl ci_0 (fun c20 => absurd c20 (by omega)) (fun c20 => ?_)
      refine h_iconst (pc' := 10) (x := (Int32.ofInt (-1))) rfl rfl rfl ?_
      exact h_iret rfl rfl (kk _ _ ci_m1 _ hI F00 (by omega) (Or.inl ⟨rfl, by omega, fun j => rfl⟩))
    · replace c18 := (h_lcr hz17).2.2.1 c18
      clear hz17
      refine h_iconst (pc' := 14) (x := (Int32.ofInt 1)) rfl rfl rfl ?_
      refine h_goto (pc' := 18) rfl rfl ?_
      refine h_zret rfl rfl ci_1 (by omega) (h_Kv ?_)
      refine h_zeq (tg := 38) (pc' := 34) rfl rfl rfl ci_1 (fun c21 => absurd c21 (by omega)) (fun c21 => ?_)
      refine h_iconst (pc' := 35) (x := (Int32.ofInt 1)) rfl rfl rfl ?_
      refine h_goto (pc' := 39) rfl rfl ?_
      refine h_zret rfl rfl ci_1 (by omega) (h_Kv ?_)
      refine h_zne (tg := 11) (pc' := 9) rfl rfl rfl ci_1 (fun c22 => ?_) (fun c22 => absurd c22 (by omega))
      refine h_iload_n (pc' := 12) rfl rfl rfl ?_
      refine h_calls (pc' := 15) (M := [(0, .int (Int32.ofInt 0))]) rfl rfl rfl rfl rfl rfl ?_
      refine h_iload_n (pc' := 1) rfl rfl rfl ?_
      refine h_zne (tg := 9) (pc' := 4) rfl rfl rfl ci_0 (fun c23 => absurd c23 (by omega)) (fun c23 => ?_)
      refine h_bipush (pc' := 6) (x := (Int32.ofInt 12)) rfl rfl cb_12 ?_
      refine h_goto (pc' := 11) rfl rfl ?_
      refine h_iret rfl rfl (h_Kv ?_)
      refine h_istore_n (pc' := 16) (M := [(3, .int (Int32.ofInt 12)), (0, .ref 98), (1, .int (Int32.ofInt 0)), (2, .int x1)]) rfl rfl rfl rfl ?_
      refine h_iconst (pc' := 17) (x := (Int32.ofInt 2)) rfl rfl rfl ?_
      refine h_iload_n (pc' := 18) rfl rfl rfl ?_
      refine h_imul (pc' := 19) rfl rfl ci_2 hx1 rfl (by have g0 := h_rgv hx1; omega) (by have g0 := h_rgv hx1; omega) (fun z24 hz24 => ?_)
      refine h_istore (pc' := 21) (M := [(4, .int z24), (3, .int (Int32.ofInt 12)), (0, .ref 98), (1, .int (Int32.ofInt 0)), (2, .int x1)]) rfl rfl rfl rfl ?_
      exact h_wk [(0, .ref 98), (1, .int (Int32.ofInt 0)), (2, .int x1), (3, .int (Int32.ofInt 12)), (4, .int z24)] ⟨rfl, rfl, rfl, rfl, rfl, trivial⟩ ((n_undo0_l ns σ hI x1 a1 hx1 kk 1000000000000) _ hI F00 z24 _ hz24 (by omega) (by omega) (by omega) (by omega) (g_shd_0 (by omega)) (by omega))
def kf_n_undo1 : List Nat := [101900, 101901]
set_option maxHeartbeats 100000000 in
set_option maxHeartbeats 100000000 in
theorem n_undo1_l (ns : Nat) (σ : h_S) (hI : h_I σ) (x1 : Int32) (a1 : Int) (hx1 : x1.toInt = a1) {Q : Option Value → h_S → Prop} (kk : ∀ (r : Int32) (b : Int) (hb : r.toInt = b) (τ : h_S), h_I τ → h_F (k_in kf_n_undo1) τ σ → ((-1) ≤ b ∧ b ≤ 2) → ((b = -1 ∧ (a1 < 0 ∨ σ 99 25 ≤ a1) ∧ ∀ j, τ 99 j = σ 99 j) ∨ (0 ≤ a1 ∧ a1 < σ 99 25 ∧ b = σ 99 25 - 1 ∧ g_und (σ 99) (τ 99) 19 a1)) → Q (some (.int r)) τ) : ∀ n : Nat, (∀ (s0 : h_S), h_I s0 → h_F (k_in kf_n_undo1) s0 σ → ∀ (y4 : Int32) (b4 : Int), y4.toInt = b4 → (0 ≤ b4 ∧ b4 ≤ 4) → (0 ≤ a1 ∧ a1 ≤ σ 99 25 - 1) → (2 * a1 ≤ b4 ∧ b4 ≤ 4) → (s0 99 25 = σ 99 25) → (g_shd 2 (σ 99) (s0 99) (19 + 2 * a1) (19 + b4)) → (5 - b4) ≤ (n : Int) → h_T g_P (g_Y ns) 183 21 [(0, .ref 98), (1, .int (Int32.ofInt 1)), (2, .int x1), (3, .int (Int32.ofInt 19)), (4, .int y4)] [] s0 Q) := by
  intro n
  induction n with
  | zero => exact by intro s0 I0 F0_ y4 b4 hy4 ry4 ex0 ex1 ex2 ex3 hm; have gh0 := ty_99_5 hI 25 (by omega); exfalso; omega
  | succ n ih =>
    intro s0 I0 F0_ y4 b4 hy4 ry4 ex0 ex1 ex2 ex3 hm; have gh0 := ty_99_5 hI 25 (by omega)
    refine h_iload (pc' := 23) rfl rfl rfl ?_
    refine h_iconst (pc' := 24) (x := (Int32.ofInt 4)) rfl rfl rfl ?_
    refine h_cge (tg := 53) (pc' := 27) rfl rfl rfl hy4 ci_4 (fun c1 => ?_) (fun c1 => ?_)
    · refine h_aload_n (pc' := 54) rfl rfl rfl ?_
      refine h_getR (pc' := 57) rfl rfl rfl rfl rfl ?_
      refine h_iload_n (pc' := 58) rfl rfl rfl ?_
      refine h_bipush (pc' := 60) (x := (Int32.ofInt 6)) rfl rfl cb_6 ?_
      refine h_iadd (pc' := 61) (c := 25) rfl rfl ci_19 ci_6 rfl (by omega) (by omega) (fun z2 hz2 => ?_)
      refine h_dup2 (pc' := 62) rfl rfl rfl ?_
      refine h_iald (pc' := 63) (v := s0 99 25) rfl rfl rfl hz2 (by omega) (by omega) rfl (fun z3 hz3 => ?_)
      have tz3 := ty_99_5 I0 25 (by omega)
      refine h_iconst (pc' := 64) (x := (Int32.ofInt 1)) rfl rfl rfl ?_
      refine h_isub (pc' := 65) rfl rfl hz3 ci_1 rfl (by omega) (by omega) (fun z4 hz4 => ?_)
      refine h_iast (pc' := 66) rfl rfl rfl rfl hz2 (by omega) (by omega) hz4 (h_fgt (E := fun s => s 99 25 = ((s0 99 25) - 1) ∧ s = h_up s0 99 25 ((s0 99 25) - 1)) _ (ip_99_5 I0 (by omega) (by omega)) (F0_.up (k_is5 rfl (by omega))) ⟨rfl, rfl⟩ (fun s5 Is5 Fs5 (es5 : s5 99 25 = ((s0 99 25) - 1) ∧ s5 = h_up s0 99 25 ((s0 99 25) - 1)) => ?_))
      have us5 := es5.2
      refine h_aload_n (pc' := 67) rfl rfl rfl ?_
      refine h_getR (pc' := 70) rfl rfl rfl rfl rfl ?_
      refine h_iload_n (pc' := 71) rfl rfl rfl ?_
      refine h_bipush (pc' := 73) (x := (Int32.ofInt 6)) rfl rfl cb_6 ?_
      refine h_iadd (pc' := 74) (c := 25) rfl rfl ci_19 ci_6 rfl (by omega) (by omega) (fun z6 hz6 => ?_)
      refine h_iald (pc' := 75) (v := ((s0 99 25) - 1)) rfl rfl rfl hz6 (by omega) (by omega) es5.1 (fun z7 hz7 => ?_)
      exact h_iret rfl rfl (kk _ _ hz7 _ Is5 Fs5 (by omega) (Or.inr ⟨by omega, by omega, by omega, g_und_mk ex3 rfl (by omega) (fun j => (h_upi us5 j)) (by omega) (show _ = σ 99 25 - 1 by have ga := ex2; omega)⟩))
    · refine h_aload_n (pc' := 28) rfl rfl rfl ?_
      refine h_getR (pc' := 31) rfl rfl rfl rfl rfl ?_
      refine h_iload_n (pc' := 32) rfl rfl rfl ?_
      refine h_iload (pc' := 34) rfl rfl rfl ?_
      refine h_iadd (pc' := 35) rfl rfl ci_19 hy4 rfl (by omega) (by omega) (fun z8 hz8 => ?_)
      refine h_aload_n (pc' := 36) rfl rfl rfl ?_
      refine h_getR (pc' := 39) rfl rfl rfl rfl rfl ?_
      refine h_iload_n (pc' := 40) rfl rfl rfl ?_
      refine h_iload (pc' := 42) rfl rfl rfl ?_
      refine h_iadd (pc' := 43) rfl rfl ci_19 hy4 rfl (by omega) (by omega) (fun z9 hz9 => ?_)
      refine h_iconst (pc' := 44) (x := (Int32.ofInt 2)) rfl rfl rfl ?_
      refine h_iadd (pc' := 45) rfl rfl hz9 ci_2 rfl (by omega) (by omega) (fun z10 hz10 => ?_)
      refine h_iald (pc' := 46) (v := s0 99 ((19 + b4) + 2)) rfl rfl rfl hz10 (by omega) (by omega) rfl (fun z11 hz11 => ?_)
      have tz11 := ty_99_4 I0 ((19 + b4) + 2) (by omega)
      refine h_iast (pc' := 47) rfl rfl rfl rfl hz8 (by omega) (by omega) hz11 (h_fgt (E := fun s => s 99 25 = s0 99 25 ∧ s = h_up s0 99 (19 + b4) (s0 99 ((19 + b4) + 2))) _ (ip_99_4 I0 (by omega) (by omega)) (F0_.up (k_is4 rfl (by omega))) ⟨h_up_n2 (by omega) rfl, rfl⟩ (fun s12 Is12 Fs12 (es12 : s12 99 25 = s0 99 25 ∧ s12 = h_up s0 99 (19 + b4) (s0 99 ((19 + b4) + 2))) => ?_))
      have us12 := es12.2
      refine h_iinc (pc' := 50) (M := fun z13 => [(4, .int z13), (0, .ref 98), (1, .int (Int32.ofInt 1)), (2, .int x1), (3, .int (Int32.ofInt 19))]) rfl rfl rfl rfl hy4 ci_1 rfl (by omega) (by omega) (fun _ => rfl) (fun z13 hz13 => ?_)
      refine h_goto (pc' := 21) rfl rfl ?_
      exact h_wk [(0, .ref 98), (1, .int (Int32.ofInt 1)), (2, .int x1), (3, .int (Int32.ofInt 19)), (4, .int z13)] ⟨rfl, rfl, rfl, rfl, rfl, trivial⟩ (ih _ Is12 Fs12 z13 _ hz13 (by omega) (by omega) (by omega) (by omega) (g_shd_e (g_shd_s ex3 (fun j => (h_upi us12 j)) rfl (by first | rfl | exact congrArg _ (by omega)) (by omega) (by omega)) (by omega)) (by omega))
set_option maxHeartbeats 100000000 in
set_option maxHeartbeats 100000000 in
theorem n_undo1 {ns : Nat} (σ : h_S) (hI : h_I σ) (x1 : Int32) (a1 : Int) (hx1 : x1.toInt = a1) {Q : Option Value → h_S → Prop} (kk : ∀ (r : Int32) (b : Int) (hb : r.toInt = b) (τ : h_S), h_I τ → h_F (k_in kf_n_undo1) τ σ → ((-1) ≤ b ∧ b ≤ 2) → ((b = -1 ∧ (a1 < 0 ∨ σ 99 25 ≤ a1) ∧ ∀ j, τ 99 j = σ 99 j) ∨ (0 ≤ a1 ∧ a1 < σ 99 25 ∧ b = σ 99 25 - 1 ∧ g_und (σ 99) (τ 99) 19 a1)) → Q (some (.int r)) τ) : h_T g_P (g_Y ns) 183 0 [(0, .ref 98), (1, .int (Int32.ofInt 1)), (2, .int x1)] [] σ Q := by
  have F00 : h_F (k_in kf_n_undo1) σ σ := h_F.rf
  have ge0 := ty_99_5 hI 25 (by omega)
  refine h_aload_n (pc' := 1) rfl rfl rfl ?_
  refine h_iload_n (pc' := 2) rfl rfl rfl ?_
  refine h_iload_n (pc' := 3) rfl rfl rfl ?_
  refine h_call (sp := false) (pc' := 6) (M := [(0, .ref 98), (1, .int (Int32.ofInt 1)), (2, .int x1)]) rfl rfl rfl rfl rfl rfl rfl rfl ?_
  refine h_iload_n (pc' := 1) rfl rfl rfl ?_
  refine h_i2l (pc' := 2) rfl rfl ci_1 (fun z1 hz1 => ?_)
  refine h_lconst (pc' := 3) (x := (Int64.ofInt 0)) rfl rfl rfl ?_
  refine h_lconst (pc' := 4) (x := (Int64.ofInt 1)) rfl rfl rfl ?_
  refine h_calls (pc' := 7) (M := [(0, .long z1), (2, .long (Int64.ofInt 0)), (4, .long (Int64.ofInt 1))]) rfl rfl rfl rfl rfl rfl ?_
  refine h_lload_n (pc' := 1) rfl rfl rfl ?_
  refine h_lload_n (pc' := 2) rfl rfl rfl ?_
  refine h_lcmp (pc' := 3) rfl rfl hz1 cl_0 (fun z2 hz2 => ?_)
  refine h_zlt (tg := 17) (pc' := 6) rfl rfl rfl rfl (fun c3 => absurd c3 (by omega)) (fun c3 => ?_)
  replace c3 := (h_lcr hz2).2.1 c3
  clear hz2
  refine h_lload_n (pc' := 7) rfl rfl rfl ?_
  refine h_lload (pc' := 9) rfl rfl rfl ?_
  refine h_lcmp (pc' := 10) rfl rfl hz1 cl_1 (fun z4 hz4 => ?_)
  refine h_zgt (tg := 17) (pc' := 13) rfl rfl rfl rfl (fun c5 => absurd c5 (by omega)) (fun c5 => ?_)
  replace c5 := (h_lcr hz4).2.2.1 c5
  clear hz4
  refine h_iconst (pc' := 14) (x := (Int32.ofInt 1)) rfl rfl rfl ?_
  refine h_goto (pc' := 18) rfl rfl ?_
  refine h_zret rfl rfl ci_1 (by omega) (h_Kv ?_)
  refine h_zeq (tg := 38) (pc' := 10) rfl rfl rfl ci_1 (fun c6 => absurd c6 (by omega)) (fun c6 => ?_)
  refine h_iload_n (pc' := 11) rfl rfl rfl ?_
  refine h_i2l (pc' := 12) rfl rfl hx1 (fun z7 hz7 => ?_)
  refine h_lconst (pc' := 13) (x := (Int64.ofInt 0)) rfl rfl rfl ?_
  refine h_aload_n (pc' := 14) rfl rfl rfl ?_
  refine h_getR (pc' := 17) rfl rfl rfl rfl rfl ?_
  refine h_iload_n (pc' := 18) rfl rfl rfl ?_
  refine h_calls (pc' := 21) (M := [(0, .int (Int32.ofInt 1))]) rfl rfl rfl rfl rfl rfl ?_
  refine h_iload_n (pc' := 1) rfl rfl rfl ?_
  refine h_zne (tg := 9) (pc' := 4) rfl rfl rfl ci_1 (fun c8 => ?_) (fun c8 => absurd c8 (by omega))
  refine h_bipush (pc' := 11) (x := (Int32.ofInt 19)) rfl rfl cb_19 ?_
  refine h_iret rfl rfl (h_Kv ?_)
  refine h_bipush (pc' := 23) (x := (Int32.ofInt 6)) rfl rfl cb_6 ?_
  refine h_iadd (pc' := 24) (c := 25) rfl rfl ci_19 ci_6 rfl (by omega) (by omega) (fun z9 hz9 => ?_)
  refine h_iald (pc' := 25) (v := σ 99 25) rfl rfl rfl hz9 (by omega) (by omega) rfl (fun z10 hz10 => ?_)
  have tz10 := ty_99_5 hI 25 (by omega)
  refine h_iconst (pc' := 26) (x := (Int32.ofInt 1)) rfl rfl rfl ?_
  refine h_isub (pc' := 27) rfl rfl hz10 ci_1 rfl (by omega) (by omega) (fun z11 hz11 => ?_)
  refine h_i2l (pc' := 28) rfl rfl hz11 (fun z12 hz12 => ?_)
  refine h_calls (pc' := 31) (M := [(0, .long z7), (2, .long (Int64.ofInt 0)), (4, .long z12)]) rfl rfl rfl rfl rfl rfl ?_
  refine h_lload_n (pc' := 1) rfl rfl rfl ?_
  refine h_lload_n (pc' := 2) rfl rfl rfl ?_
  refine h_lcmp (pc' := 3) rfl rfl hz7 cl_0 (fun z13 hz13 => ?_)
  refine h_zlt (tg := 17) (pc' := 6) rfl rfl rfl rfl (fun c14 => ?_) (fun c14 => ?_)
  · replace c14 := (h_lcr hz13).1 c14
    clear hz13
    refine h_iconst (pc' := 18) (x := (Int32.ofInt 0)) rfl rfl rfl ?_
    refine h_zret rfl rfl ci_0 (by omega) (h_Kv ?_)
    refine h_zeq (tg := 38) (pc' := 34) rfl rfl rfl ci_0 (fun c15 => ?_) (fun c15 => absurd c15 (by omega))
    refine h_iconst (pc' := 39) (x := (Int32.ofInt 0)) rfl rfl rfl ?_
    refine h_zret rfl rfl ci_0 (by omega) (h_Kv ?_)
    refine h_zne (tg := 11) (pc' := 9) rfl rfl rfl ci_0 (fun c16 => absurd c16 (by omega)) (fun c16 => ?_)
    refine h_iconst (pc' := 10) (x := (Int32.ofInt (-1))) rfl rfl rfl ?_
    exact h_iret rfl rfl (kk _ _ ci_m1 _ hI F00 (by omega) (Or.inl ⟨rfl, by omega, fun j => rfl⟩))
  · replace c14 := (h_lcr hz13).2.1 c14
    clear hz13
    refine h_lload_n (pc' := 7) rfl rfl rfl ?_
    refine h_lload (pc' := 9) rfl rfl rfl ?_
    refine h_lcmp (pc' := 10) rfl rfl hz7 hz12 (fun z17 hz17 => ?_)
    refine h_zgt (tg := 17) (pc' := 13) rfl rfl rfl rfl (fun c18 => ?_) (fun c18 => ?_)
    · replace c18 := (h_lcr hz17).2.2.2.1 c18
      clear hz17
      refine h_iconst (pc' := 18) (x := (Int32.ofInt 0)) rfl rfl rfl ?_
      refine h_zret rfl rfl ci_0 (by omega) (h_Kv ?_)
      refine h_zeq (tg := 38) (pc' := 34) rfl rfl rfl ci_0 (fun c19 => ?_) (fun c19 => absurd c19 (by omega))
      refine h_iconst (pc' := 39) (x := (Int32.ofInt 0)) rfl rfl rfl ?_
      refine h_zret rfl rfl ci_0 (by omega) (h_Kv ?_)
      refine h_zne (tg := 11) (pc' := 9) rfl rfl rfl ci_0 (fun c20 => absurd c20 (by omega)) (fun c20 => ?_)
      refine h_iconst (pc' := 10) (x := (Int32.ofInt (-1))) rfl rfl rfl ?_
      exact h_iret rfl rfl (kk _ _ ci_m1 _ hI F00 (by omega) (Or.inl ⟨rfl, by omega, fun j => rfl⟩))
    · replace c18 := (h_lcr hz17).2.2.1 c18
      clear hz17
      refine h_iconst (pc' := 14) (x := (Int32.ofInt 1)) rfl rfl rfl ?_
      refine h_goto (pc' := 18) rfl rfl ?_
      refine h_zret rfl rfl ci_1 (by omega) (h_Kv ?_)
      refine h_zeq (tg := 38) (pc' := 34) rfl rfl rfl ci_1 (fun c21 => absurd c21 (by omega)) (fun c21 => ?_)
      refine h_iconst (pc' := 35) (x := (Int32.ofInt 1)) rfl rfl rfl ?_
      refine h_goto (pc' := 39) rfl rfl ?_
      refine h_zret rfl rfl ci_1 (by omega) (h_Kv ?_)
      refine h_zne (tg := 11) (pc' := 9) rfl rfl rfl ci_1 (fun c22 => ?_) (fun c22 => absurd c22 (by omega))
      refine h_iload_n (pc' := 12) rfl rfl rfl ?_
      refine h_calls (pc' := 15) (M := [(0, .int (Int32.ofInt 1))]) rfl rfl rfl rfl rfl rfl ?_
      refine h_iload_n (pc' := 1) rfl rfl rfl ?_
      refine h_zne (tg := 9) (pc' := 4) rfl rfl rfl ci_1 (fun c23 => ?_) (fun c23 => absurd c23 (by omega))
      refine h_bipush (pc' := 11) (x := (Int32.ofInt 19)) rfl rfl cb_19 ?_
      refine h_iret rfl rfl (h_Kv ?_)
      refine h_istore_n (pc' := 16) (M := [(3, .int (Int32.ofInt 19)), (0, .ref 98), (1, .int (Int32.ofInt 1)), (2, .int x1)]) rfl rfl rfl rfl ?_
      refine h_iconst (pc' := 17) (x := (Int32.ofInt 2)) rfl rfl rfl ?_
      refine h_iload_n (pc' := 18) rfl rfl rfl ?_
      refine h_imul (pc' := 19) rfl rfl ci_2 hx1 rfl (by have g0 := h_rgv hx1; omega) (by have g0 := h_rgv hx1; omega) (fun z24 hz24 => ?_)
      refine h_istore (pc' := 21) (M := [(4, .int z24), (3, .int (Int32.ofInt 19)), (0, .ref 98), (1, .int (Int32.ofInt 1)), (2, .int x1)]) rfl rfl rfl rfl ?_
      exact h_wk [(0, .ref 98), (1, .int (Int32.ofInt 1)), (2, .int x1), (3, .int (Int32.ofInt 19)), (4, .int z24)] ⟨rfl, rfl, rfl, rfl, rfl, trivial⟩ ((n_undo1_l ns σ hI x1 a1 hx1 kk 1000000000000) _ hI F00 z24 _ hz24 (by omega) (by omega) (by omega) (by omega) (g_shd_0 (by omega)) (by omega))
