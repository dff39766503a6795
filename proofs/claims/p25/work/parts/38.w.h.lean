def kf_n_place_10 : List Nat := [87044, 89087]
set_option maxHeartbeats 100000000 in
set_option maxHeartbeats 100000000 in
theorem n_place_10_l (ns : Nat) (σ : h_S) (hI : h_I σ) (x2 : Int32) (a2 : Int) (hx2 : x2.toInt = a2) (ra2 : 0 ≤ a2 ∧ a2 ≤ 2) {Q : Option Value → h_S → Prop} (kk : ∀ (τ : h_S), h_I τ → h_F (k_in kf_n_place_10) τ σ → (τ 85 4 = σ 10 8) → (g_cq (σ 10 8) (fun p => (g_bs (σ 79 2) (g_lq (σ 79 2) (σ 80) (σ 81) p (σ 19 a2)) 6 0 0).toInt) (τ 86)) → (τ 86 6 = (g_bs (σ 79 2) (g_lq (σ 79 2) (σ 80) (σ 81) (σ 20 a2) (σ 19 a2)) 6 0 0).toInt) → Q none τ) : ∀ n : Nat, (∀ (s0 : h_S), h_I s0 → h_F (k_in kf_n_place_10) s0 σ → ∀ (y4 : Int32) (b4 : Int), y4.toInt = b4 → (0 ≤ b4 ∧ b4 ≤ 6) → (s0 85 4 = σ 10 8) → (g_cq b4 (fun p => (g_bs (σ 79 2) (g_lq (σ 79 2) (σ 80) (σ 81) p (σ 19 a2)) 6 0 0).toInt) (s0 86)) → (b4 ≤ σ 10 8) → (6 + 1 - b4) * 1000000 + 1000000000 ≤ (n : Int) → h_T g_P (g_Y ns) 32 11 [(0, .ref 85), (1, .ref 10), (2, .ref 79), (3, .int x2), (4, .int y4)] [] s0 Q) := by
  intro n
  induction n with
  | zero => exact by intro s0 I0 F0_ y4 b4 hy4 ry4 ex0 ex1 ex2 hm; have gh0 := tf_10_8 hI; exfalso; omega
  | succ n ih =>
    intro s0 I0 F0_ y4 b4 hy4 ry4 ex0 ex1 ex2 hm; have gh0 := tf_10_8 hI
    refine h_iload (pc' := 13) rfl rfl rfl ?_
    refine h_aload_n (pc' := 14) rfl rfl rfl ?_
    refine h_getI (pc' := 17) (v := s0 85 4) rfl rfl rfl rfl rfl rfl (fun z1 hz1 => ?_)
    have tz1 := tf_85_4 I0
    refine h_cge (tg := 45) (pc' := 20) rfl rfl rfl hy4 hz1 (fun c2 => ?_) (fun c2 => ?_)
    · refine h_aload_n (pc' := 46) rfl rfl rfl ?_
      refine h_getR (pc' := 49) rfl rfl rfl rfl rfl ?_
      refine h_bipush (pc' := 51) (x := (Int32.ofInt 6)) rfl rfl cb_6 ?_
      refine h_aload_n (pc' := 52) rfl rfl rfl ?_
      refine h_aload_n (pc' := 53) rfl rfl rfl ?_
      refine h_getR (pc' := 56) rfl rfl rfl rfl rfl ?_
      refine h_iload_n (pc' := 57) rfl rfl rfl ?_
      refine h_iald (pc' := 58) (v := σ 20 a2) rfl rfl rfl hx2 (by omega) (by omega) (F0_ 20 _ rfl) (fun z3 hz3 => ?_)
      have tz3 := ty_20 hI a2
      refine h_aload_n (pc' := 59) rfl rfl rfl ?_
      refine h_getR (pc' := 62) rfl rfl rfl rfl rfl ?_
      refine h_iload_n (pc' := 63) rfl rfl rfl ?_
      refine h_iald (pc' := 64) (v := σ 19 a2) rfl rfl rfl hx2 (by omega) (by omega) (F0_ 19 _ rfl) (fun z4 hz4 => ?_)
      have tz4 := ty_19 hI a2
      refine h_call (sp := false) (pc' := 67) (M := [(0, .ref 79), (1, .int z3), (2, .int z4)]) rfl rfl rfl rfl rfl rfl rfl rfl ?_
      refine n_let _ I0 z3 _ hz3 z4 _ hz4 (fun r5 br5 hr5 ps6_0 => h_Kv ?_)
      refine h_iast (pc' := 68) rfl rfl rfl rfl ci_6 (by omega) (by omega) hr5 (h_fgt (E := fun s => s 98 13 = s0 98 13 ∧ s = h_up s0 86 6 br5) _ (in_86 I0 (h_rgv hr5)) (F0_.up rfl) ⟨rfl, rfl⟩ (fun s7 Is7 Fs7 (es7 : s7 98 13 = s0 98 13 ∧ s7 = h_up s0 86 6 br5) => ?_))
      have us7 := es7.2
      exact h_vret rfl rfl (kk _ Is7 Fs7 ((h_upo us7 rfl 4).trans ex0) (fun p p0 p1 => (h_upd us7 (by omega)).trans (ex1 p p0 (by omega))) ((h_upv us7).trans (hr5.symm.trans (congrArg Int32.toInt (ps6_0.trans (g_bl_e (F0_ 79 2 rfl) (funext (fun j => F0_ 80 j rfl)) (funext (fun j => F0_ 81 j rfl))))))))
    · refine h_aload_n (pc' := 21) rfl rfl rfl ?_
      refine h_getR (pc' := 24) rfl rfl rfl rfl rfl ?_
      refine h_iload (pc' := 26) rfl rfl rfl ?_
      refine h_aload_n (pc' := 27) rfl rfl rfl ?_
      refine h_iload (pc' := 29) rfl rfl rfl ?_
      refine h_aload_n (pc' := 30) rfl rfl rfl ?_
      refine h_getR (pc' := 33) rfl rfl rfl rfl rfl ?_
      refine h_iload_n (pc' := 34) rfl rfl rfl ?_
      refine h_iald (pc' := 35) (v := σ 19 a2) rfl rfl rfl hx2 (by omega) (by omega) (F0_ 19 _ rfl) (fun z8 hz8 => ?_)
      have tz8 := ty_19 hI a2
      refine h_call (sp := false) (pc' := 38) (M := [(0, .ref 79), (1, .int y4), (2, .int z8)]) rfl rfl rfl rfl rfl rfl rfl rfl ?_
      refine n_let _ I0 y4 _ hy4 z8 _ hz8 (fun r9 br9 hr9 ps10_0 => h_Kv ?_)
      refine h_iast (pc' := 39) rfl rfl rfl rfl hy4 (by omega) (by omega) hr9 (h_fgt (E := fun s => s 98 13 = s0 98 13 ∧ s = h_up s0 86 b4 br9) _ (in_86 I0 (h_rgv hr9)) (F0_.up rfl) ⟨rfl, rfl⟩ (fun s11 Is11 Fs11 (es11 : s11 98 13 = s0 98 13 ∧ s11 = h_up s0 86 b4 br9) => ?_))
      have us11 := es11.2
      refine h_iinc (pc' := 42) (M := fun z12 => [(4, .int z12), (0, .ref 85), (1, .ref 10), (2, .ref 79), (3, .int x2)]) rfl rfl rfl rfl hy4 ci_1 rfl (by omega) (by omega) (fun _ => rfl) (fun z12 hz12 => ?_)
      refine h_goto (pc' := 11) rfl rfl ?_
      exact h_wk [(0, .ref 85), (1, .ref 10), (2, .ref 79), (3, .int x2), (4, .int z12)] ⟨rfl, rfl, rfl, rfl, rfl, trivial⟩ (ih _ Is11 Fs11 z12 _ hz12 (by omega) ((h_upo us11 rfl 4).trans ex0) (g_cq_s ex1 (h_upf us11) rfl (hr9.symm.trans (congrArg Int32.toInt (ps10_0.trans (g_bl_e (F0_ 79 2 rfl) (funext (fun j => F0_ 80 j rfl)) (funext (fun j => F0_ 81 j rfl))))))) (by omega) (by omega))
set_option maxHeartbeats 100000000 in
set_option maxHeartbeats 100000000 in
theorem n_place_10 {ns : Nat} (σ : h_S) (hI : h_I σ) (x2 : Int32) (a2 : Int) (hx2 : x2.toInt = a2) (ra2 : 0 ≤ a2 ∧ a2 ≤ 2) {Q : Option Value → h_S → Prop} (kk : ∀ (τ : h_S), h_I τ → h_F (k_in kf_n_place_10) τ σ → (τ 85 4 = σ 10 8) → (g_cq (σ 10 8) (fun p => (g_bs (σ 79 2) (g_lq (σ 79 2) (σ 80) (σ 81) p (σ 19 a2)) 6 0 0).toInt) (τ 86)) → (τ 86 6 = (g_bs (σ 79 2) (g_lq (σ 79 2) (σ 80) (σ 81) (σ 20 a2) (σ 19 a2)) 6 0 0).toInt) → Q none τ) : h_T g_P (g_Y ns) 32 0 [(0, .ref 85), (1, .ref 10), (2, .ref 79), (3, .int x2)] [] σ Q := by
  have F00 : h_F (k_in kf_n_place_10) σ σ := h_F.rf
  refine h_aload_n (pc' := 1) rfl rfl rfl ?_
  refine h_aload_n (pc' := 2) rfl rfl rfl ?_
  refine h_getI (pc' := 5) (v := σ 10 8) rfl rfl rfl rfl rfl rfl (fun z1 hz1 => ?_)
  have tz1 := tf_10_8 hI
  refine h_put (pc' := 8) rfl rfl rfl rfl rfl rfl hz1 rfl (h_fgt (E := fun s => s 98 13 = σ 98 13 ∧ s = h_up σ 85 4 (σ 10 8)) _ (if_85_4 hI (by omega)) (F00.up rfl) ⟨rfl, rfl⟩ (fun s2 Is2 Fs2 (es2 : s2 98 13 = σ 98 13 ∧ s2 = h_up σ 85 4 (σ 10 8)) => ?_))
  have us2 := es2.2
  refine h_iconst (pc' := 9) (x := (Int32.ofInt 0)) rfl rfl rfl ?_
  refine h_istore (pc' := 11) (M := [(4, .int (Int32.ofInt 0)), (0, .ref 85), (1, .ref 10), (2, .ref 79), (3, .int x2)]) rfl rfl rfl rfl ?_
  exact h_wk [(0, .ref 85), (1, .ref 10), (2, .ref 79), (3, .int x2), (4, .int (Int32.ofInt 0))] ⟨rfl, rfl, rfl, rfl, rfl, trivial⟩ ((n_place_10_l ns σ hI x2 a2 hx2 ra2 kk 1000000000000) _ Is2 Fs2 (Int32.ofInt 0) _ ci_0 (by omega) (h_upv us2) g_cq_0 (by omega) (by omega))
def kf_n_place_23 : List Nat := [87044, 89087]
set_option maxHeartbeats 100000000 in
set_option maxHeartbeats 100000000 in
theorem n_place_23_l (ns : Nat) (σ : h_S) (hI : h_I σ) (x2 : Int32) (a2 : Int) (hx2 : x2.toInt = a2) (ra2 : 0 ≤ a2 ∧ a2 ≤ 2) {Q : Option Value → h_S → Prop} (kk : ∀ (τ : h_S), h_I τ → h_F (k_in kf_n_place_23) τ σ → (τ 85 4 = σ 23 8) → (g_cq (σ 23 8) (fun p => (g_bs (σ 79 2) (g_lq (σ 79 2) (σ 80) (σ 81) p (σ 32 a2)) 6 0 0).toInt) (τ 86)) → (τ 86 6 = (g_bs (σ 79 2) (g_lq (σ 79 2) (σ 80) (σ 81) (σ 33 a2) (σ 32 a2)) 6 0 0).toInt) → Q none τ) : ∀ n : Nat, (∀ (s0 : h_S), h_I s0 → h_F (k_in kf_n_place_23) s0 σ → ∀ (y4 : Int32) (b4 : Int), y4.toInt = b4 → (0 ≤ b4 ∧ b4 ≤ 6) → (s0 85 4 = σ 23 8) → (g_cq b4 (fun p => (g_bs (σ 79 2) (g_lq (σ 79 2) (σ 80) (σ 81) p (σ 32 a2)) 6 0 0).toInt) (s0 86)) → (b4 ≤ σ 23 8) → (6 + 1 - b4) * 1000000 + 1000000000 ≤ (n : Int) → h_T g_P (g_Y ns) 32 11 [(0, .ref 85), (1, .ref 23), (2, .ref 79), (3, .int x2), (4, .int y4)] [] s0 Q) := by
  intro n
  induction n with
  | zero => exact by intro s0 I0 F0_ y4 b4 hy4 ry4 ex0 ex1 ex2 hm; have gh0 := tf_23_8 hI; exfalso; omega
  | succ n ih =>
    intro s0 I0 F0_ y4 b4 hy4 ry4 ex0 ex1 ex2 hm; have gh0 := tf_23_8 hI
    refine h_iload (pc' := 13) rfl rfl rfl ?_
    refine h_aload_n (pc' := 14) rfl rfl rfl ?_
    refine h_getI (pc' := 17) (v := s0 85 4) rfl rfl rfl rfl rfl rfl (fun z1 hz1 => ?_)
    have tz1 := tf_85_4 I0
    refine h_cge (tg := 45) (pc' := 20) rfl rfl rfl hy4 hz1 (fun c2 => ?_) (fun c2 => ?_)
    · refine h_aload_n (pc' := 46) rfl rfl rfl ?_
      refine h_getR (pc' := 49) rfl rfl rfl rfl rfl ?_
      refine h_bipush (pc' := 51) (x := (Int32.ofInt 6)) rfl rfl cb_6 ?_
      refine h_aload_n (pc' := 52) rfl rfl rfl ?_
      refine h_aload_n (pc' := 53) rfl rfl rfl ?_
      refine h_getR (pc' := 56) rfl rfl rfl rfl rfl ?_
      refine h_iload_n (pc' := 57) rfl rfl rfl ?_
      refine h_iald (pc' := 58) (v := σ 33 a2) rfl rfl rfl hx2 (by omega) (by omega) (F0_ 33 _ rfl) (fun z3 hz3 => ?_)
      have tz3 := ty_33 hI a2
      refine h_aload_n (pc' := 59) rfl rfl rfl ?_
      refine h_getR (pc' := 62) rfl rfl rfl rfl rfl ?_
      refine h_iload_n (pc' := 63) rfl rfl rfl ?_
      refine h_iald (pc' := 64) (v := σ 32 a2) rfl rfl rfl hx2 (by omega) (by omega) (F0_ 32 _ rfl) (fun z4 hz4 => ?_)
      have tz4 := ty_32 hI a2
      refine h_call (sp := false) (pc' := 67) (M := [(0, .ref 79), (1, .int z3), (2, .int z4)]) rfl rfl rfl rfl rfl rfl rfl rfl ?_
      refine n_let _ I0 z3 _ hz3 z4 _ hz4 (fun r5 br5 hr5 ps6_0 => h_Kv ?_)
      refine h_iast (pc' := 68) rfl rfl rfl rfl ci_6 (by omega) (by omega) hr5 (h_fgt (E := fun s => s 98 13 = s0 98 13 ∧ s = h_up s0 86 6 br5) _ (in_86 I0 (h_rgv hr5)) (F0_.up rfl) ⟨rfl, rfl⟩ (fun s7 Is7 Fs7 (es7 : s7 98 13 = s0 98 13 ∧ s7 = h_up s0 86 6 br5) => ?_))
      have us7 := es7.2
      exact h_vret rfl rfl (kk _ Is7 Fs7 ((h_upo us7 rfl 4).trans ex0) (fun p p0 p1 => (h_upd us7 (by omega)).trans (ex1 p p0 (by omega))) ((h_upv us7).trans (hr5.symm.trans (congrArg Int32.toInt (ps6_0.trans (g_bl_e (F0_ 79 2 rfl) (funext (fun j => F0_ 80 j rfl)) (funext (fun j => F0_ 81 j rfl))))))))
    · refine h_aload_n (pc' := 21) rfl rfl rfl ?_
      refine h_getR (pc' := 24) rfl rfl rfl rfl rfl ?_
      refine h_iload (pc' := 26) rfl rfl rfl ?_
      refine h_aload_n (pc' := 27) rfl rfl rfl ?_
      refine h_iload (pc' := 29) rfl rfl rfl ?_
      refine h_aload_n (pc' := 30) rfl rfl rfl ?_
      refine h_getR (pc' := 33) rfl rfl rfl rfl rfl ?_
      refine h_iload_n (pc' := 34) rfl rfl rfl ?_
      refine h_iald (pc' := 35) (v := σ 32 a2) rfl rfl rfl hx2 (by omega) (by omega) (F0_ 32 _ rfl) (fun z8 hz8 => ?_)
      have tz8 := ty_32 hI a2
      refine h_call (sp := false) (pc' := 38) (M := [(0, .ref 79), (1, .int y4), (2, .int z8)]) rfl rfl rfl rfl rfl rfl rfl rfl ?_
      refine n_let _ I0 y4 _ hy4 z8 _ hz8 (fun r9 br9 hr9 ps10_0 => h_Kv ?_)
      refine h_iast (pc' := 39) rfl rfl rfl rfl hy4 (by omega) (by omega) hr9 (h_fgt (E := fun s => s 98 13 = s0 98 13 ∧ s = h_up s0 86 b4 br9) _ (in_86 I0 (h_rgv hr9)) (F0_.up rfl) ⟨rfl, rfl⟩ (fun s11 Is11 Fs11 (es11 : s11 98 13 = s0 98 13 ∧ s11 = h_up s0 86 b4 br9) => ?_))
      have us11 := es11.2
      refine h_iinc (pc' := 42) (M := fun z12 => [(4, .int z12), (0, .ref 85), (1, .ref 23), (2, .ref 79), (3, .int x2)]) rfl rfl rfl rfl hy4 ci_1 rfl (by omega) (by omega) (fun _ => rfl) (fun z12 hz12 => ?_)
      refine h_goto (pc' := 11) rfl rfl ?_
      exact h_wk [(0, .ref 85), (1, .ref 23), (2, .ref 79), (3, .int x2), (4, .int z12)] ⟨rfl, rfl, rfl, rfl, rfl, trivial⟩ (ih _ Is11 Fs11 z12 _ hz12 (by omega) ((h_upo us11 rfl 4).trans ex0) (g_cq_s ex1 (h_upf us11) rfl (hr9.symm.trans (congrArg Int32.toInt (ps10_0.trans (g_bl_e (F0_ 79 2 rfl) (funext (fun j => F0_ 80 j rfl)) (funext (fun j => F0_ 81 j rfl))))))) (by omega) (by omega))
set_option maxHeartbeats 100000000 in
set_option maxHeartbeats 100000000 in
theorem n_place_23 {ns : Nat} (σ : h_S) (hI : h_I σ) (x2 : Int32) (a2 : Int) (hx2 : x2.toInt = a2) (ra2 : 0 ≤ a2 ∧ a2 ≤ 2) {Q : Option Value → h_S → Prop} (kk : ∀ (τ : h_S), h_I τ → h_F (k_in kf_n_place_23) τ σ → (τ 85 4 = σ 23 8) → (g_cq (σ 23 8) (fun p => (g_bs (σ 79 2) (g_lq (σ 79 2) (σ 80) (σ 81) p (σ 32 a2)) 6 0 0).toInt) (τ 86)) → (τ 86 6 = (g_bs (σ 79 2) (g_lq (σ 79 2) (σ 80) (σ 81) (σ 33 a2) (σ 32 a2)) 6 0 0).toInt) → Q none τ) : h_T g_P (g_Y ns) 32 0 [(0, .ref 85), (1, .ref 23), (2, .ref 79), (3, .int x2)] [] σ Q := by
  have F00 : h_F (k_in kf_n_place_23) σ σ := h_F.rf
  refine h_aload_n (pc' := 1) rfl rfl rfl ?_
  refine h_aload_n (pc' := 2) rfl rfl rfl ?_
  refine h_getI (pc' := 5) (v := σ 23 8) rfl rfl rfl rfl rfl rfl (fun z1 hz1 => ?_)
  have tz1 := tf_23_8 hI
  refine h_put (pc' := 8) rfl rfl rfl rfl rfl rfl hz1 rfl (h_fgt (E := fun s => s 98 13 = σ 98 13 ∧ s = h_up σ 85 4 (σ 23 8)) _ (if_85_4 hI (by omega)) (F00.up rfl) ⟨rfl, rfl⟩ (fun s2 Is2 Fs2 (es2 : s2 98 13 = σ 98 13 ∧ s2 = h_up σ 85 4 (σ 23 8)) => ?_))
  have us2 := es2.2
  refine h_iconst (pc' := 9) (x := (Int32.ofInt 0)) rfl rfl rfl ?_
  refine h_istore (pc' := 11) (M := [(4, .int (Int32.ofInt 0)), (0, .ref 85), (1, .ref 23), (2, .ref 79), (3, .int x2)]) rfl rfl rfl rfl ?_
  exact h_wk [(0, .ref 85), (1, .ref 23), (2, .ref 79), (3, .int x2), (4, .int (Int32.ofInt 0))] ⟨rfl, rfl, rfl, rfl, rfl, trivial⟩ ((n_place_23_l ns σ hI x2 a2 hx2 ra2 kk 1000000000000) _ Is2 Fs2 (Int32.ofInt 0) _ ci_0 (by omega) (h_upv us2) g_cq_0 (by omega) (by omega))
