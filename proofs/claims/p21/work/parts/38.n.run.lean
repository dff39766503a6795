def kf_n_admit_10 : List Nat := [83970, 87039]
set_option maxHeartbeats 100000000 in
set_option maxHeartbeats 100000000 in
theorem n_admit_10 {ns : Nat} (σ : h_S) (hI : h_I σ) (x0 : Int32) (a0 : Int) (hx0 : x0.toInt = a0) (ra0 : 0 ≤ a0 ∧ a0 ≤ 5) (x1 : Int32) (a1 : Int) (hx1 : x1.toInt = a1) (ra1 : 0 ≤ a1 ∧ a1 ≤ 2) (pr0 : g_op (σ 10 8) (σ 80) (σ 81) (σ 19) (σ 10 9) 0 (σ 83)) (pr1 : a0 < σ 10 8) (pr2 : a1 < σ 10 9) (pr3 : σ 84 a1 = -4 ∨ (0 ≤ σ 84 a1 ∧ σ 84 a1 < σ 10 8)) {Q : Option Value → h_S → Prop} (kk : ∀ (r : Int32) (b : Int) (hb : r.toInt = b) (τ : h_S), h_I τ → h_F (k_in kf_n_admit_10) τ σ → (0 ≤ b ∧ b ≤ 1) → ((b = 1 ∧ g_yX (σ 10 8) (σ 80) (σ 81) a0 (σ 84 a1) (σ 19 a1) = true ∧ τ 84 = g_set (σ 84) a1 a0 ∧ Int32.ofInt (τ 82 2) = g_or (Int32.ofInt (σ 82 2)) a0) ∨ (b = 0 ∧ g_yX (σ 10 8) (σ 80) (σ 81) a0 (σ 84 a1) (σ 19 a1) = false ∧ τ 84 = σ 84 ∧ τ 82 2 = σ 82 2)) → Q (some (.int r)) τ) : h_T g_P (g_Y ns) 20 0 [(0, .ref 82), (1, .int x0), (2, .int x1)] [] σ Q := by
  have F00 : h_F (k_in kf_n_admit_10) σ σ := h_F.rf
  have ge0 := tf_10_8 hI
  have ge1 := tf_10_9 hI
  refine h_aload_n (pc' := 1) rfl rfl rfl ?_
  refine h_getR (pc' := 4) rfl rfl rfl rfl rfl ?_
  refine h_iload_n (pc' := 5) rfl rfl rfl ?_
  refine h_iald (pc' := 6) (v := σ 84 a1) rfl rfl rfl hx1 (by omega) (by omega) rfl (fun z1 hz1 => ?_)
  have tz1 := ty_84 hI a1
  refine h_bipush (pc' := 8) (x := (Int32.ofInt (-4))) rfl rfl cb_m4 ?_
  refine h_cne (tg := 16) (pc' := 11) rfl rfl rfl hz1 ci_m4 (fun c2 => ?_) (fun c2 => ?_)
  · refine h_aload_n (pc' := 17) rfl rfl rfl ?_
    refine h_getR (pc' := 20) rfl rfl rfl rfl rfl ?_
    refine h_iload_n (pc' := 21) rfl rfl rfl ?_
    refine h_iald (pc' := 22) (v := σ 84 a1) rfl rfl rfl hx1 (by omega) (by omega) rfl (fun z3 hz3 => ?_)
    have tz3 := ty_84 hI a1
    refine h_istore_n (pc' := 23) (M := [(3, .int z3), (0, .ref 82), (1, .int x0), (2, .int x1)]) rfl rfl rfl rfl ?_
    refine h_aload_n (pc' := 24) rfl rfl rfl ?_
    refine h_getR (pc' := 27) rfl rfl rfl rfl rfl ?_
    refine h_iload_n (pc' := 28) rfl rfl rfl ?_
    refine h_bipush (pc' := 30) (x := (Int32.ofInt 7)) rfl rfl cb_7 ?_
    refine h_imul (pc' := 31) rfl rfl hx1 ci_7 rfl (by omega) (by omega) (fun z4 hz4 => ?_)
    refine h_iload_n (pc' := 32) rfl rfl rfl ?_
    refine h_iadd (pc' := 33) rfl rfl hz4 hz3 rfl (by omega) (by omega) (fun z5 hz5 => ?_)
    refine h_iald (pc' := 34) (v := σ 83 ((a1 * 7) + (σ 84 a1))) rfl rfl rfl hz5 (by omega) (by omega) rfl (fun z6 hz6 => ?_)
    have tz6 := ty_83 hI ((a1 * 7) + (σ 84 a1))
    refine h_iload_n (pc' := 35) rfl rfl rfl ?_
    refine h_calls (pc' := 38) (M := [(0, .int z6), (1, .int x0)]) rfl rfl rfl rfl rfl rfl ?_
    refine h_iload_n (pc' := 1) rfl rfl rfl ?_
    refine h_iload_n (pc' := 2) rfl rfl rfl ?_
    refine h_ishr (pc' := 3) rfl rfl (fun z7 hz7 => ?_)
    refine h_iconst (pc' := 4) (x := (Int32.ofInt 1)) rfl rfl rfl ?_
    refine h_iand (pc' := 5) rfl rfl (fun z8 hz8 uz8 vz8 => ?_)
    clear uz8
    rw [ci_1] at vz8
    have yz8 := vz8 (by omega)
    refine h_zeq (tg := 12) (pc' := 8) rfl rfl rfl rfl (fun c9 => ?_) (fun c9 => ?_)
    · refine h_iconst (pc' := 13) (x := (Int32.ofInt 0)) rfl rfl rfl ?_
      refine h_zret rfl rfl ci_0 (by omega) (h_Kv ?_)
      refine h_zne (tg := 43) (pc' := 41) rfl rfl rfl ci_0 (fun c10 => absurd c10 (by omega)) (fun c10 => ?_)
      refine h_iconst (pc' := 42) (x := (Int32.ofInt 0)) rfl rfl rfl ?_
      exact h_zret rfl rfl ci_0 (by omega) (kk _ _ ci_0 _ hI F00 (by omega) (by have gh := g_adm (p := a0) (g := a1) (l := σ 84 a1) pr0 (by omega) (by omega) (by omega) (by omega) (by omega) (by omega) (by omega) hz6; have gz := g_hb_of hz8 hz7 hx0; exact Or.inr ⟨rfl, g_go_n gh gz (by omega), rfl, rfl⟩))
    · refine h_iconst (pc' := 9) (x := (Int32.ofInt 1)) rfl rfl rfl ?_
      refine h_goto (pc' := 13) rfl rfl ?_
      refine h_zret rfl rfl ci_1 (by omega) (h_Kv ?_)
      refine h_zne (tg := 43) (pc' := 41) rfl rfl rfl ci_1 (fun c11 => ?_) (fun c11 => absurd c11 (by omega))
      refine h_aload_n (pc' := 44) rfl rfl rfl ?_
      refine h_getR (pc' := 47) rfl rfl rfl rfl rfl ?_
      refine h_iload_n (pc' := 48) rfl rfl rfl ?_
      refine h_iload_n (pc' := 49) rfl rfl rfl ?_
      refine h_iast (pc' := 50) rfl rfl rfl rfl hx1 (by omega) (by omega) hx0 (h_fgt (E := fun s => s 98 13 = σ 98 13 ∧ s = h_up σ 84 a1 a0) _ (in_84 hI (by omega)) (F00.up rfl) ⟨rfl, rfl⟩ (fun s12 Is12 Fs12 (es12 : s12 98 13 = σ 98 13 ∧ s12 = h_up σ 84 a1 a0) => ?_))
      have us12 := es12.2
      refine h_aload_n (pc' := 51) rfl rfl rfl ?_
      refine h_dup (pc' := 52) rfl rfl rfl ?_
      refine h_getI (pc' := 55) (v := s12 82 2) rfl rfl rfl rfl rfl rfl (fun z13 hz13 => ?_)
      have tz13 := tf_82_2 Is12
      refine h_iconst (pc' := 56) (x := (Int32.ofInt 1)) rfl rfl rfl ?_
      refine h_iload_n (pc' := 57) rfl rfl rfl ?_
      refine h_shl1 (pc' := 58) rfl rfl ci_1 hx0 (by omega) (by omega) (fun z14 hz14 vz14 => ?_)
      refine h_ior (pc' := 59) rfl rfl (fun z15 hz15 => ?_)
      refine h_put (pc' := 62) rfl rfl rfl rfl rfl rfl rfl rfl (h_fgt (E := fun s => s 98 13 = σ 98 13 ∧ s = h_up s12 82 2 z15.toInt) _ (if_82_2 Is12 (h_rgv rfl)) (Fs12.up rfl) ⟨es12.1, rfl⟩ (fun s16 Is16 Fs16 (es16 : s16 98 13 = σ 98 13 ∧ s16 = h_up s12 82 2 z15.toInt) => ?_))
      clear es12
      have us16 := es16.2
      refine h_iconst (pc' := 63) (x := (Int32.ofInt 1)) rfl rfl rfl ?_
      exact h_zret rfl rfl ci_1 (by omega) (kk _ _ ci_1 _ Is16 Fs16 (by omega) (by have gh := g_adm (p := a0) (g := a1) (l := σ 84 a1) pr0 (by omega) (by omega) (by omega) (by omega) (by omega) (by omega) (by omega) hz6; have gz := g_hb_of hz8 hz7 hx0; exact Or.inl ⟨rfl, g_go_y gh gz (by omega), ((h_upg us16 rfl).trans (h_upf us12)), (congrArg Int32.ofInt (h_upv us16)).trans (g_came hz15 hz14 hx0 (hz13.trans (h_upo us12 rfl 2)))⟩))
  · refine h_bipush (pc' := 13) (x := (Int32.ofInt 6)) rfl rfl cb_6 ?_
    refine h_goto (pc' := 22) rfl rfl ?_
    refine h_istore_n (pc' := 23) (M := [(3, .int (Int32.ofInt 6)), (0, .ref 82), (1, .int x0), (2, .int x1)]) rfl rfl rfl rfl ?_
    refine h_aload_n (pc' := 24) rfl rfl rfl ?_
    refine h_getR (pc' := 27) rfl rfl rfl rfl rfl ?_
    refine h_iload_n (pc' := 28) rfl rfl rfl ?_
    refine h_bipush (pc' := 30) (x := (Int32.ofInt 7)) rfl rfl cb_7 ?_
    refine h_imul (pc' := 31) rfl rfl hx1 ci_7 rfl (by omega) (by omega) (fun z17 hz17 => ?_)
    refine h_iload_n (pc' := 32) rfl rfl rfl ?_
    refine h_iadd (pc' := 33) rfl rfl hz17 ci_6 rfl (by omega) (by omega) (fun z18 hz18 => ?_)
    refine h_iald (pc' := 34) (v := σ 83 ((a1 * 7) + 6)) rfl rfl rfl hz18 (by omega) (by omega) rfl (fun z19 hz19 => ?_)
    have tz19 := ty_83 hI ((a1 * 7) + 6)
    refine h_iload_n (pc' := 35) rfl rfl rfl ?_
    refine h_calls (pc' := 38) (M := [(0, .int z19), (1, .int x0)]) rfl rfl rfl rfl rfl rfl ?_
    refine h_iload_n (pc' := 1) rfl rfl rfl ?_
    refine h_iload_n (pc' := 2) rfl rfl rfl ?_
    refine h_ishr (pc' := 3) rfl rfl (fun z20 hz20 => ?_)
    refine h_iconst (pc' := 4) (x := (Int32.ofInt 1)) rfl rfl rfl ?_
    refine h_iand (pc' := 5) rfl rfl (fun z21 hz21 uz21 vz21 => ?_)
    clear uz21
    rw [ci_1] at vz21
    have yz21 := vz21 (by omega)
    refine h_zeq (tg := 12) (pc' := 8) rfl rfl rfl rfl (fun c22 => ?_) (fun c22 => ?_)
    · refine h_iconst (pc' := 13) (x := (Int32.ofInt 0)) rfl rfl rfl ?_
      refine h_zret rfl rfl ci_0 (by omega) (h_Kv ?_)
      refine h_zne (tg := 43) (pc' := 41) rfl rfl rfl ci_0 (fun c23 => absurd c23 (by omega)) (fun c23 => ?_)
      refine h_iconst (pc' := 42) (x := (Int32.ofInt 0)) rfl rfl rfl ?_
      exact h_zret rfl rfl ci_0 (by omega) (kk _ _ ci_0 _ hI F00 (by omega) (by have gh := g_adm (p := a0) (g := a1) (l := σ 84 a1) pr0 (by omega) (by omega) (by omega) (by omega) (by omega) (by omega) (by omega) hz19; have gz := g_hb_of hz21 hz20 hx0; exact Or.inr ⟨rfl, g_go_n gh gz (by omega), rfl, rfl⟩))
    · refine h_iconst (pc' := 9) (x := (Int32.ofInt 1)) rfl rfl rfl ?_
      refine h_goto (pc' := 13) rfl rfl ?_
      refine h_zret rfl rfl ci_1 (by omega) (h_Kv ?_)
      refine h_zne (tg := 43) (pc' := 41) rfl rfl rfl ci_1 (fun c24 => ?_) (fun c24 => absurd c24 (by omega))
      refine h_aload_n (pc' := 44) rfl rfl rfl ?_
      refine h_getR (pc' := 47) rfl rfl rfl rfl rfl ?_
      refine h_iload_n (pc' := 48) rfl rfl rfl ?_
      refine h_iload_n (pc' := 49) rfl rfl rfl ?_
      refine h_iast (pc' := 50) rfl rfl rfl rfl hx1 (by omega) (by omega) hx0 (h_fgt (E := fun s => s 98 13 = σ 98 13 ∧ s = h_up σ 84 a1 a0) _ (in_84 hI (by omega)) (F00.up rfl) ⟨rfl, rfl⟩ (fun s25 Is25 Fs25 (es25 : s25 98 13 = σ 98 13 ∧ s25 = h_up σ 84 a1 a0) => ?_))
      have us25 := es25.2
      refine h_aload_n (pc' := 51) rfl rfl rfl ?_
      refine h_dup (pc' := 52) rfl rfl rfl ?_
      refine h_getI (pc' := 55) (v := s25 82 2) rfl rfl rfl rfl rfl rfl (fun z26 hz26 => ?_)
      have tz26 := tf_82_2 Is25
      refine h_iconst (pc' := 56) (x := (Int32.ofInt 1)) rfl rfl rfl ?_
      refine h_iload_n (pc' := 57) rfl rfl rfl ?_
      refine h_shl1 (pc' := 58) rfl rfl ci_1 hx0 (by omega) (by omega) (fun z27 hz27 vz27 => ?_)
      refine h_ior (pc' := 59) rfl rfl (fun z28 hz28 => ?_)
      refine h_put (pc' := 62) rfl rfl rfl rfl rfl rfl rfl rfl (h_fgt (E := fun s => s 98 13 = σ 98 13 ∧ s = h_up s25 82 2 z28.toInt) _ (if_82_2 Is25 (h_rgv rfl)) (Fs25.up rfl) ⟨es25.1, rfl⟩ (fun s29 Is29 Fs29 (es29 : s29 98 13 = σ 98 13 ∧ s29 = h_up s25 82 2 z28.toInt) => ?_))
      clear es25
      have us29 := es29.2
      refine h_iconst (pc' := 63) (x := (Int32.ofInt 1)) rfl rfl rfl ?_
      exact h_zret rfl rfl ci_1 (by omega) (kk _ _ ci_1 _ Is29 Fs29 (by omega) (by have gh := g_adm (p := a0) (g := a1) (l := σ 84 a1) pr0 (by omega) (by omega) (by omega) (by omega) (by omega) (by omega) (by omega) hz19; have gz := g_hb_of hz21 hz20 hx0; exact Or.inl ⟨rfl, g_go_y gh gz (by omega), ((h_upg us29 rfl).trans (h_upf us25)), (congrArg Int32.ofInt (h_upv us29)).trans (g_came hz28 hz27 hx0 (hz26.trans (h_upo us25 rfl 2)))⟩))
def kf_n_run_10 : List Nat := [83970, 87039]
set_option maxHeartbeats 100000000 in
set_option maxHeartbeats 100000000 in
theorem n_run_10_l (ns : Nat) (σ : h_S) (hI : h_I σ) (x1 : Int32) (a1 : Int) (hx1 : x1.toInt = a1) (pr0 : g_op (σ 10 8) (σ 80) (σ 81) (σ 19) (σ 10 9) 0 (σ 83)) (pr1 : g_lk' (σ 10 8) (σ 10 9) (σ 20)) (pr2 : ∀ i, 0 ≤ i → i < σ 10 10 → 0 ≤ σ 22 i ∧ σ 22 i / 10 < σ 10 8 ∧ σ 22 i % 10 < σ 10 9) {Q : Option Value → h_S → Prop} (kk : ∀ (r : Int32) (b : Int) (hb : r.toInt = b) (τ : h_S), h_I τ → h_F (k_in kf_n_run_10) τ σ → (∃ L0, g_cq (σ 10 9) (σ 20) L0 ∧ (τ 84, Int32.ofInt (τ 82 2), r) = g_pf (fun p l g => g_yX (σ 10 8) (σ 80) (σ 81) p l (σ 19 g)) x1 (σ 22) (L0, 0, 0) (σ 10 10).toNat) → Q (some (.int r)) τ) : ∀ n : Nat, (∀ (s0 : h_S), h_I s0 → h_F (k_in kf_n_run_10) s0 σ → ∀ (y3 : Int32) (b3 : Int), y3.toInt = b3 → ∀ (y4 : Int32) (b4 : Int), y4.toInt = b4 → (0 ≤ b4 ∧ b4 ≤ 8) → (∃ L0, g_cq (σ 10 9) (σ 20) L0 ∧ (s0 84, Int32.ofInt (s0 82 2), y3) = g_pf (fun p l g => g_yX (σ 10 8) (σ 80) (σ 81) p l (σ 19 g)) x1 (σ 22) (L0, 0, 0) b4.toNat) → (g_lk' (σ 10 8) (σ 10 9) (s0 84)) → (b4 ≤ σ 10 10) → (8 + 1 - b4) * 1000000 + 1000000000 ≤ (n : Int) → h_T g_P (g_Y ns) 21 10 [(0, .ref 82), (1, .ref 10), (2, .int x1), (3, .int y3), (4, .int y4)] [] s0 Q) := by
  intro n
  induction n with
  | zero => exact by intro s0 I0 F0_ y3 b3 hy3 y4 b4 hy4 ry4 ex0 ex1 ex2 hm; have gh0 := F0_ 10 8 rfl; have gh1 := F0_ 10 9 rfl; have gh2 := F0_ 10 10 rfl; have gh3 := tf_10_8 hI; have gh4 := tf_10_9 hI; have gh5 := tf_10_10 hI; exfalso; omega
  | succ n ih =>
    intro s0 I0 F0_ y3 b3 hy3 y4 b4 hy4 ry4 ex0 ex1 ex2 hm; have gh0 := F0_ 10 8 rfl; have gh1 := F0_ 10 9 rfl; have gh2 := F0_ 10 10 rfl; have gh3 := tf_10_8 hI; have gh4 := tf_10_9 hI; have gh5 := tf_10_10 hI
    refine h_iload (pc' := 12) rfl rfl rfl ?_
    refine h_aload_n (pc' := 13) rfl rfl rfl ?_
    refine h_getI (pc' := 16) (v := σ 10 10) rfl rfl rfl rfl rfl (F0_ 10 10 rfl) (fun z1 hz1 => ?_)
    have tz1 := tf_10_10 hI
    refine h_cge (tg := 72) (pc' := 19) rfl rfl rfl hy4 hz1 (fun c2 => ?_) (fun c2 => ?_)
    · refine h_iload_n (pc' := 73) rfl rfl rfl ?_
      exact h_iret rfl rfl (kk _ _ hy3 _ I0 F0_ (by rw [show b4 = σ 10 10 by omega] at ex0; exact ex0))
    · refine h_aload_n (pc' := 20) rfl rfl rfl ?_
      refine h_getR (pc' := 23) rfl rfl rfl rfl rfl ?_
      refine h_iload (pc' := 25) rfl rfl rfl ?_
      refine h_iald (pc' := 26) (v := σ 22 b4) rfl rfl rfl hy4 (by omega) (by omega) (F0_ 22 _ rfl) (fun z3 hz3 => ?_)
      have tz3 := ty_22 hI b4
      refine h_bipush (pc' := 28) (x := (Int32.ofInt 10)) rfl rfl cb_10 ?_
      refine h_idiv (pc' := 29) rfl rfl hz3 ci_10 (by omega) (by omega) (fun z4 hz4 => ?_)
      refine h_istore (pc' := 31) (M := [(5, .int z4), (0, .ref 82), (1, .ref 10), (2, .int x1), (3, .int y3), (4, .int y4)]) rfl rfl rfl rfl ?_
      refine h_iload_n (pc' := 32) rfl rfl rfl ?_
      refine h_iload (pc' := 34) rfl rfl rfl ?_
      refine h_calls (pc' := 37) (M := [(0, .int x1), (1, .int z4)]) rfl rfl rfl rfl rfl rfl ?_
      refine h_iload_n (pc' := 1) rfl rfl rfl ?_
      refine h_iload_n (pc' := 2) rfl rfl rfl ?_
      refine h_ishr (pc' := 3) rfl rfl (fun z5 hz5 => ?_)
      refine h_iconst (pc' := 4) (x := (Int32.ofInt 1)) rfl rfl rfl ?_
      refine h_iand (pc' := 5) rfl rfl (fun z6 hz6 uz6 vz6 => ?_)
      clear uz6
      rw [ci_1] at vz6
      have yz6 := vz6 (by omega)
      refine h_zeq (tg := 12) (pc' := 8) rfl rfl rfl rfl (fun c7 => ?_) (fun c7 => ?_)
      · refine h_iconst (pc' := 13) (x := (Int32.ofInt 0)) rfl rfl rfl ?_
        refine h_zret rfl rfl ci_0 (by omega) (h_Kv ?_)
        refine h_zne (tg := 66) (pc' := 40) rfl rfl rfl ci_0 (fun c8 => absurd c8 (by omega)) (fun c8 => ?_)
        refine h_aload_n (pc' := 41) rfl rfl rfl ?_
        refine h_iload (pc' := 43) rfl rfl rfl ?_
        refine h_aload_n (pc' := 44) rfl rfl rfl ?_
        refine h_getR (pc' := 47) rfl rfl rfl rfl rfl ?_
        refine h_iload (pc' := 49) rfl rfl rfl ?_
        refine h_iald (pc' := 50) (v := σ 22 b4) rfl rfl rfl hy4 (by omega) (by omega) (F0_ 22 _ rfl) (fun z9 hz9 => ?_)
        have tz9 := ty_22 hI b4
        refine h_bipush (pc' := 52) (x := (Int32.ofInt 10)) rfl rfl cb_10 ?_
        refine h_irem (pc' := 53) rfl rfl hz9 ci_10 (by omega) (by omega) (fun z10 hz10 => ?_)
        refine h_call (sp := false) (pc' := 56) (M := [(0, .ref 82), (1, .int z4), (2, .int z10)]) rfl rfl rfl rfl rfl rfl rfl rfl ?_
        refine n_admit_10 _ I0 z4 _ hz4 (by omega) z10 _ hz10 (by omega) (g_op_t pr0 (F0_ 10 8 rfl).symm (funext (fun j => (F0_ 80 j rfl).symm)) (funext (fun j => (F0_ 81 j rfl).symm)) (funext (fun j => (F0_ 19 j rfl).symm)) (F0_ 10 9 rfl).symm (funext (fun j => (F0_ 83 j rfl).symm))) (by have gq := pr2 b4 (by omega) (by omega); omega) (by have gq := pr2 b4 (by omega) (by omega); omega) (by have gq := pr2 b4 (by omega) (by omega); have gl := ex1 (((σ 22 b4) % 10)) (by omega) (by omega); omega) (fun r11 br11 hr11 s12 Is12 Gs12 tr11 ps12_0 => h_Kv ?_)
        have Fs12 := (Gs12.mono (B := kf_n_run_10) rfl).tr F0_
        have es12_0 : s12 98 13 = s0 98 13 := (Gs12 98 13 rfl).trans rfl
        refine h_zeq (tg := 66) (pc' := 59) rfl rfl rfl hr11 (fun c13 => ?_) (fun c13 => ?_)
        · refine h_iinc (pc' := 69) (M := fun z14 => [(4, .int z14), (5, .int z4), (0, .ref 82), (1, .ref 10), (2, .int x1), (3, .int y3)]) rfl rfl rfl rfl hy4 ci_1 rfl (by omega) (by omega) (fun _ => rfl) (fun z14 hz14 => ?_)
          refine h_goto (pc' := 10) rfl rfl ?_
          exact h_wk [(0, .ref 82), (1, .ref 10), (2, .int x1), (3, .int y3), (4, .int z14)] ⟨rfl, rfl, rfl, rfl, rfl, trivial⟩ (ih _ Is12 Fs12 y3 _ hy3 z14 _ hz14 (by omega) (by have gz := g_hb_of hz6 hz5 hz4; have gq := pr2 b4 (by omega) (by omega); have q0 := ps12_0; rw [show s0 10 8 = σ 10 8 from F0_ 10 8 rfl, show s0 80 = σ 80 from funext (fun j => F0_ 80 j rfl), show s0 81 = σ 81 from funext (fun j => F0_ 81 j rfl), show s0 19 = σ 19 from funext (fun j => F0_ 19 j rfl)] at q0; obtain ⟨L0, z1, z2⟩ := ex0; refine ⟨L0, z1, ?_⟩; rw [g_pf_s (by omega)]; rcases q0 with q | q; (first | exact g_ps_y (p := σ 22 b4 / 10) (g := σ 22 b4 % 10) z2 rfl rfl (by omega) q.2.1 q.2.2.1 q.2.2.2 rfl | (exfalso; omega)); (first | exact g_ps_n (p := σ 22 b4 / 10) (g := σ 22 b4 % 10) z2 rfl rfl (Or.inr q.2.1) q.2.2.1 (congrArg Int32.ofInt q.2.2.2) rfl | (exfalso; omega))) (by have gq := pr2 b4 (by omega) (by omega); exact g_lk'_s ex1 (b := True) (c := True) (p := σ 22 b4 / 10) (g := σ 22 b4 % 10) (by omega) (by rcases ps12_0 with q | q; exact Or.inl ⟨trivial, q.2.2.1⟩; exact Or.inr ⟨trivial, q.2.2.1⟩)) (by omega) (by omega))
        · refine h_iload_n (pc' := 60) rfl rfl rfl ?_
          refine h_iconst (pc' := 61) (x := (Int32.ofInt 1)) rfl rfl rfl ?_
          refine h_iload (pc' := 63) rfl rfl rfl ?_
          refine h_ishl (pc' := 64) rfl rfl (fun z15 hz15 => ?_)
          refine h_ior (pc' := 65) rfl rfl (fun z16 hz16 => ?_)
          refine h_istore_n (pc' := 66) (M := [(3, .int z16), (5, .int z4), (0, .ref 82), (1, .ref 10), (2, .int x1), (4, .int y4)]) rfl rfl rfl rfl ?_
          refine h_iinc (pc' := 69) (M := fun z17 => [(4, .int z17), (3, .int z16), (5, .int z4), (0, .ref 82), (1, .ref 10), (2, .int x1)]) rfl rfl rfl rfl hy4 ci_1 rfl (by omega) (by omega) (fun _ => rfl) (fun z17 hz17 => ?_)
          refine h_goto (pc' := 10) rfl rfl ?_
          exact h_wk [(0, .ref 82), (1, .ref 10), (2, .int x1), (3, .int z16), (4, .int z17)] ⟨rfl, rfl, rfl, rfl, rfl, trivial⟩ (ih _ Is12 Fs12 z16 _ rfl z17 _ hz17 (by omega) (by have gz := g_hb_of hz6 hz5 hz4; have gq := pr2 b4 (by omega) (by omega); have q0 := ps12_0; rw [show s0 10 8 = σ 10 8 from F0_ 10 8 rfl, show s0 80 = σ 80 from funext (fun j => F0_ 80 j rfl), show s0 81 = σ 81 from funext (fun j => F0_ 81 j rfl), show s0 19 = σ 19 from funext (fun j => F0_ 19 j rfl)] at q0; obtain ⟨L0, z1, z2⟩ := ex0; refine ⟨L0, z1, ?_⟩; rw [g_pf_s (by omega)]; rcases q0 with q | q; (first | exact g_ps_y (p := σ 22 b4 / 10) (g := σ 22 b4 % 10) z2 rfl rfl (by omega) q.2.1 q.2.2.1 q.2.2.2 (g_or_of hz16 hz15 hy4) | (exfalso; omega)); (first | exact g_ps_n (p := σ 22 b4 / 10) (g := σ 22 b4 % 10) z2 rfl rfl (Or.inr q.2.1) q.2.2.1 (congrArg Int32.ofInt q.2.2.2) rfl | (exfalso; omega))) (by have gq := pr2 b4 (by omega) (by omega); exact g_lk'_s ex1 (b := True) (c := True) (p := σ 22 b4 / 10) (g := σ 22 b4 % 10) (by omega) (by rcases ps12_0 with q | q; exact Or.inl ⟨trivial, q.2.2.1⟩; exact Or.inr ⟨trivial, q.2.2.1⟩)) (by omega) (by omega))
      · refine h_iconst (pc' := 9) (x := (Int32.ofInt 1)) rfl rfl rfl ?_
        refine h_goto (pc' := 13) rfl rfl ?_
        refine h_zret rfl rfl ci_1 (by omega) (h_Kv ?_)
        refine h_zne (tg := 66) (pc' := 40) rfl rfl rfl ci_1 (fun c18 => ?_) (fun c18 => absurd c18 (by omega))
        refine h_iinc (pc' := 69) (M := fun z19 => [(4, .int z19), (5, .int z4), (0, .ref 82), (1, .ref 10), (2, .int x1), (3, .int y3)]) rfl rfl rfl rfl hy4 ci_1 rfl (by omega) (by omega) (fun _ => rfl) (fun z19 hz19 => ?_)
        refine h_goto (pc' := 10) rfl rfl ?_
        exact h_wk [(0, .ref 82), (1, .ref 10), (2, .int x1), (3, .int y3), (4, .int z19)] ⟨rfl, rfl, rfl, rfl, rfl, trivial⟩ (ih _ I0 F0_ y3 _ hy3 z19 _ hz19 (by omega) (by have gz := g_hb_of hz6 hz5 hz4; obtain ⟨L0, z1, z2⟩ := ex0; refine ⟨L0, z1, ?_⟩; rw [g_pf_s (by omega)]; exact g_ps_n (p := σ 22 b4 / 10) (g := σ 22 b4 % 10) z2 rfl rfl (Or.inl (by omega)) rfl rfl rfl) ex1 (by omega) (by omega))
set_option maxHeartbeats 100000000 in
set_option maxHeartbeats 100000000 in
theorem n_run_10 {ns : Nat} (σ : h_S) (hI : h_I σ) (x1 : Int32) (a1 : Int) (hx1 : x1.toInt = a1) (pr0 : g_op (σ 10 8) (σ 80) (σ 81) (σ 19) (σ 10 9) 0 (σ 83)) (pr1 : g_lk' (σ 10 8) (σ 10 9) (σ 20)) (pr2 : ∀ i, 0 ≤ i → i < σ 10 10 → 0 ≤ σ 22 i ∧ σ 22 i / 10 < σ 10 8 ∧ σ 22 i % 10 < σ 10 9) {Q : Option Value → h_S → Prop} (kk : ∀ (r : Int32) (b : Int) (hb : r.toInt = b) (τ : h_S), h_I τ → h_F (k_in kf_n_run_10) τ σ → (∃ L0, g_cq (σ 10 9) (σ 20) L0 ∧ (τ 84, Int32.ofInt (τ 82 2), r) = g_pf (fun p l g => g_yX (σ 10 8) (σ 80) (σ 81) p l (σ 19 g)) x1 (σ 22) (L0, 0, 0) (σ 10 10).toNat) → Q (some (.int r)) τ) : h_T g_P (g_Y ns) 21 0 [(0, .ref 82), (1, .ref 10), (2, .int x1)] [] σ Q := by
  have F00 : h_F (k_in kf_n_run_10) σ σ := h_F.rf
  have ge0 := tf_10_10 hI
  refine h_aload_n (pc' := 1) rfl rfl rfl ?_
  refine h_aload_n (pc' := 2) rfl rfl rfl ?_
  refine h_call (sp := false) (pc' := 5) (M := [(0, .ref 82), (1, .ref 10)]) rfl rfl rfl rfl rfl rfl rfl rfl ?_
  refine n_restart_10 _ hI  (fun s2 Is2 Gs2 ps2_0 ps2_1 => h_Kn ?_)
  have Fs2 := (Gs2.mono (B := kf_n_run_10) rfl).tr F00
  have es2_0 : s2 98 13 = σ 98 13 := (Gs2 98 13 rfl).trans rfl
  refine h_iconst (pc' := 6) (x := (Int32.ofInt 0)) rfl rfl rfl ?_
  refine h_istore_n (pc' := 7) (M := [(3, .int (Int32.ofInt 0)), (0, .ref 82), (1, .ref 10), (2, .int x1)]) rfl rfl rfl rfl ?_
  refine h_iconst (pc' := 8) (x := (Int32.ofInt 0)) rfl rfl rfl ?_
  refine h_istore (pc' := 10) (M := [(4, .int (Int32.ofInt 0)), (3, .int (Int32.ofInt 0)), (0, .ref 82), (1, .ref 10), (2, .int x1)]) rfl rfl rfl rfl ?_
  exact h_wk [(0, .ref 82), (1, .ref 10), (2, .int x1), (3, .int (Int32.ofInt 0)), (4, .int (Int32.ofInt 0))] ⟨rfl, rfl, rfl, rfl, rfl, trivial⟩ ((n_run_10_l ns σ hI x1 a1 hx1 pr0 pr1 pr2 kk 1000000000000) _ Is2 Fs2 (Int32.ofInt 0) _ ci_0 (Int32.ofInt 0) _ ci_0 (by omega) ⟨s2 84, ps2_1, by rw [ps2_0]; rfl⟩ (fun g a b => by rw [ps2_1 g a b]; exact pr1 g a b) (by omega) (by omega))
def kf_n_plan0 : List Nat := [100374, 100375, 101891, 108543]
set_option maxHeartbeats 100000000 in
set_option maxHeartbeats 100000000 in
theorem n_plan0_l (ns : Nat) (σ : h_S) (hI : h_I σ) (x1 : Int32) (a1 : Int) (hx1 : x1.toInt = a1) (pr0 : ∀ i, 0 ≤ i → i < σ 99 43 → 0 ≤ σ 99 (35 + i) ∧ σ 99 (35 + i) / 10 < 6 ∧ σ 99 (35 + i) % 10 < 3) {Q : Option Value → h_S → Prop} (kk : ∀ (τ : h_S), h_I τ → h_F (k_in kf_n_plan0) τ σ → (g_DM (σ 98 1) (σ 99 18) (σ 99) (σ 100) (τ 105)) → (g_pmI (fun p l g => g_yM (τ 105) (fun i => σ 99 (19 + 2 * i)) (fun i => σ 99 (19 + 2 * i + 1)) (σ 99 25) p l (σ 99 (26 + g))) x1 (fun i => σ 99 (35 + i)) (fun g => g_orn (σ 99 (29 + g))) (σ 99 43) (τ 99) (τ 98 22) (τ 98 23)) → Q none τ) : ∀ n : Nat, (∀ (s0 : h_S), h_I s0 → h_F (k_in kf_n_plan0) s0 σ → ∀ (y3 : Int32) (b3 : Int), y3.toInt = b3 → (0 ≤ b3 ∧ b3 ≤ 8) → (g_DM (σ 98 1) (σ 99 18) (σ 99) (σ 100) (s0 105)) → (∀ g, 0 ≤ g → g ≤ 2 → s0 99 (158 + g) = σ 99 (26 + g)) → (g_pmI (fun p l g => g_yM (s0 105) (fun i => σ 99 (19 + 2 * i)) (fun i => σ 99 (19 + 2 * i + 1)) (σ 99 25) p l (σ 99 (26 + g))) x1 (fun i => σ 99 (35 + i)) (fun g => g_orn (σ 99 (29 + g))) b3 (s0 99) (s0 98 22) (s0 98 23)) → (b3 ≤ σ 99 43) → (8 + 1 - b3) * 1000000 + 1000000000 ≤ (n : Int) → h_T g_P (g_Y ns) 191 25 [(0, .ref 98), (1, .int (Int32.ofInt 0)), (2, .int x1), (3, .int y3)] [] s0 Q) := by
  intro n
  induction n with
  | zero => exact by intro s0 I0 F0_ y3 b3 hy3 ry3 ex0 ex1 ex2 ex3 hm; have gh0 := ty_99_10 hI 43 (by omega); have gh1 := ty_99_5 hI 25 (by omega); have gh2 := F0_.no (q := 99) (l := 0) (u := 131) (j := 43) rfl (by omega) (by omega); have gh3 := F0_.no (q := 99) (l := 0) (u := 131) (j := 35 + b3) rfl (by omega) (by omega); exfalso; omega
  | succ n ih =>
    intro s0 I0 F0_ y3 b3 hy3 ry3 ex0 ex1 ex2 ex3 hm; have gh0 := ty_99_10 hI 43 (by omega); have gh1 := ty_99_5 hI 25 (by omega); have gh2 := F0_.no (q := 99) (l := 0) (u := 131) (j := 43) rfl (by omega) (by omega); have gh3 := F0_.no (q := 99) (l := 0) (u := 131) (j := 35 + b3) rfl (by omega) (by omega)
    refine h_iload_n (pc' := 26) rfl rfl rfl ?_
    refine h_aload_n (pc' := 27) rfl rfl rfl ?_
    refine h_getR (pc' := 30) rfl rfl rfl rfl rfl ?_
    refine h_bipush (pc' := 32) (x := (Int32.ofInt 43)) rfl rfl cb_43 ?_
    refine h_iald (pc' := 33) (v := σ 99 43) rfl rfl rfl ci_43 (by omega) (by omega) (F0_ 99 _ (k_no (l := 43) (h := 43) rfl (by omega) (by omega))) (fun z1 hz1 => ?_)
    have tz1 := ty_99_10 hI 43 (by omega)
    refine h_cge (tg := 114) (pc' := 36) rfl rfl rfl hy3 hz1 (fun c2 => ?_) (fun c2 => ?_)
    · exact h_vret rfl rfl (kk _ I0 F0_ ex0 (by rw [show σ 99 43 = b3 by omega]; exact ex2))
    · refine h_aload_n (pc' := 37) rfl rfl rfl ?_
      refine h_getR (pc' := 40) rfl rfl rfl rfl rfl ?_
      refine h_bipush (pc' := 42) (x := (Int32.ofInt 35)) rfl rfl cb_35 ?_
      refine h_iload_n (pc' := 43) rfl rfl rfl ?_
      refine h_iadd (pc' := 44) rfl rfl ci_35 hy3 rfl (by omega) (by omega) (fun z3 hz3 => ?_)
      refine h_iald (pc' := 45) (v := σ 99 (35 + b3)) rfl rfl rfl hz3 (by omega) (by omega) (F0_ 99 _ (k_no (l := 35) (h := 42) rfl (by omega) (by omega))) (fun z4 hz4 => ?_)
      have tz4 := ty_99_9 hI (35 + b3) (by omega)
      refine h_bipush (pc' := 47) (x := (Int32.ofInt 10)) rfl rfl cb_10 ?_
      refine h_idiv (pc' := 48) rfl rfl hz4 ci_10 (by omega) (by omega) (fun z5 hz5 => ?_)
      refine h_istore (pc' := 50) (M := [(4, .int z5), (0, .ref 98), (1, .int (Int32.ofInt 0)), (2, .int x1), (3, .int y3)]) rfl rfl rfl rfl ?_
      refine h_iload_n (pc' := 51) rfl rfl rfl ?_
      refine h_iload (pc' := 53) rfl rfl rfl ?_
      refine h_ishr (pc' := 54) rfl rfl (fun z6 hz6 => ?_)
      refine h_iconst (pc' := 55) (x := (Int32.ofInt 1)) rfl rfl rfl ?_
      refine h_iand (pc' := 56) rfl rfl (fun z7 hz7 uz7 vz7 => ?_)
      clear uz7
      rw [ci_1] at vz7
      have yz7 := vz7 (by omega)
      refine h_zne (tg := 108) (pc' := 59) rfl rfl rfl rfl (fun c8 => ?_) (fun c8 => ?_)
      · refine h_iinc (pc' := 111) (M := fun z9 => [(3, .int z9), (4, .int z5), (0, .ref 98), (1, .int (Int32.ofInt 0)), (2, .int x1)]) rfl rfl rfl rfl hy3 ci_1 rfl (by omega) (by omega) (fun _ => rfl) (fun z9 hz9 => ?_)
        refine h_goto (pc' := 25) rfl rfl ?_
        exact h_wk [(0, .ref 98), (1, .int (Int32.ofInt 0)), (2, .int x1), (3, .int z9)] ⟨rfl, rfl, rfl, rfl, trivial⟩ (ih _ I0 F0_ z9 _ hz9 (by omega) ex0 ex1 (by have gq := pr0 b3 (by omega) (by omega); have gz := g_hb_of hz7 hz6 hz5; exact g_pmI_n (k := b3) (p := σ 99 (35 + b3) / 10) (g := σ 99 (35 + b3) % 10) ex2 rfl (by omega) rfl rfl (by omega) (by omega) (Or.inl (by omega)) rfl rfl rfl) (by omega) (by omega))
      · refine h_aload_n (pc' := 60) rfl rfl rfl ?_
        refine h_sipush (pc' := 63) (x := (Int32.ofInt 132)) rfl rfl cs_132 ?_
        refine h_iload (pc' := 65) rfl rfl rfl ?_
        refine h_aload_n (pc' := 66) rfl rfl rfl ?_
        refine h_getR (pc' := 69) rfl rfl rfl rfl rfl ?_
        refine h_bipush (pc' := 71) (x := (Int32.ofInt 35)) rfl rfl cb_35 ?_
        refine h_iload_n (pc' := 72) rfl rfl rfl ?_
        refine h_iadd (pc' := 73) rfl rfl ci_35 hy3 rfl (by omega) (by omega) (fun z10 hz10 => ?_)
        refine h_iald (pc' := 74) (v := σ 99 (35 + b3)) rfl rfl rfl hz10 (by omega) (by omega) (F0_ 99 _ (k_no (l := 35) (h := 42) rfl (by omega) (by omega))) (fun z11 hz11 => ?_)
        have tz11 := ty_99_9 hI (35 + b3) (by omega)
        refine h_bipush (pc' := 76) (x := (Int32.ofInt 10)) rfl rfl cb_10 ?_
        refine h_irem (pc' := 77) rfl rfl hz11 ci_10 (by omega) (by omega) (fun z12 hz12 => ?_)
        refine h_call (sp := false) (pc' := 80) (M := [(0, .ref 98), (1, .int (Int32.ofInt 132)), (2, .int z5), (3, .int z12)]) rfl rfl rfl rfl rfl rfl rfl rfl ?_
        refine n_goesOn132 _ I0  z5 _ hz5 (by omega) z12 _ hz12 (by omega) (fun r13 br13 hr13 s14 Is14 Gs14 tr13 ps14_0 => h_Kv ?_)
        have Fs14 := (Gs14.mono (B := kf_n_plan0) rfl).tr F0_
        have es14_0 : s14 98 13 = s0 98 13 := (Gs14 98 13 rfl).trans rfl
        refine h_zeq (tg := 108) (pc' := 83) rfl rfl rfl hr13 (fun c15 => ?_) (fun c15 => ?_)
        · refine h_iinc (pc' := 111) (M := fun z16 => [(3, .int z16), (4, .int z5), (0, .ref 98), (1, .int (Int32.ofInt 0)), (2, .int x1)]) rfl rfl rfl rfl hy3 ci_1 rfl (by omega) (by omega) (fun _ => rfl) (fun z16 hz16 => ?_)
          refine h_goto (pc' := 25) rfl rfl ?_
          exact h_wk [(0, .ref 98), (1, .int (Int32.ofInt 0)), (2, .int x1), (3, .int z16)] ⟨rfl, rfl, rfl, rfl, trivial⟩ (ih _ Is14 Fs14 z16 _ hz16 (by omega) (g_DM_e ex0 (funext (fun j => Gs14 105 j rfl))) (by have gq := pr0 b3 (by omega) (by omega); have gz := g_hb_of hz7 hz6 hz5; rcases ps14_0 with q | q; (intro g a b; rw [show s14 99 (158 + g) = s14 99 (158 + g) from congrFun rfl _, q.2.2, g_set_n (by omega), g_set_n (by omega)]; exact ex1 g a b); (intro g a b; rw [show s14 99 (158 + g) = s14 99 (158 + g) from congrFun rfl _, q.2.2]; exact ex1 g a b)) (by have gq := pr0 b3 (by omega) (by omega); have gz := g_hb_of hz7 hz6 hz5; rcases ps14_0 with q | q; (exfalso; omega); (exact g_pmI_n (k := b3) (p := σ 99 (35 + b3) / 10) (g := σ 99 (35 + b3) % 10) ex2 (g_pmD (funext (fun j => Gs14 105 j rfl))) (by omega) rfl rfl (by omega) (by omega) (Or.inr ((g_yM_m (D := s0 105) (F0_.no (q := 99) (l := 0) (u := 131) (j := 25) rfl (by omega) (by omega)) (by omega) (fun i i0 i2 => ⟨(F0_.no (q := 99) (l := 0) (u := 131) (j := 19 + 2 * i) rfl (by omega) (by omega)), (F0_.no (q := 99) (l := 0) (u := 131) (j := 19 + 2 * i + 1) rfl (by omega) (by omega))⟩) (ex1 (σ 99 (35 + b3) % 10) (by omega) (by omega))).symm.trans q.2.1)) (rfl.trans q.2.2) (Gs14 98 22 rfl) (Gs14 98 23 rfl))) (by omega) (by omega))
        · refine h_aload_n (pc' := 84) rfl rfl rfl ?_
          refine h_dup (pc' := 85) rfl rfl rfl ?_
          refine h_getI (pc' := 88) (v := s14 98 23) rfl rfl rfl rfl rfl rfl (fun z17 hz17 => ?_)
          have tz17 := tf_98_23 Is14
          refine h_iconst (pc' := 89) (x := (Int32.ofInt 1)) rfl rfl rfl ?_
          refine h_iload_n (pc' := 90) rfl rfl rfl ?_
          refine h_ishl (pc' := 91) rfl rfl (fun z18 hz18 => ?_)
          refine h_ior (pc' := 92) rfl rfl (fun z19 hz19 => ?_)
          refine h_put (pc' := 95) rfl rfl rfl rfl rfl rfl rfl rfl (h_fgt (E := fun s => s 98 13 = s0 98 13 ∧ s = h_up s14 98 23 z19.toInt) _ (if_98_23 Is14 (h_rgv rfl)) (Fs14.up rfl) ⟨es14_0, rfl⟩ (fun s20 Is20 Fs20 (es20 : s20 98 13 = s0 98 13 ∧ s20 = h_up s14 98 23 z19.toInt) => ?_))
          have us20 := es20.2
          refine h_aload_n (pc' := 96) rfl rfl rfl ?_
          refine h_dup (pc' := 97) rfl rfl rfl ?_
          refine h_getI (pc' := 100) (v := s20 98 22) rfl rfl rfl rfl rfl rfl (fun z21 hz21 => ?_)
          have tz21 := tf_98_22 Is20
          refine h_iconst (pc' := 101) (x := (Int32.ofInt 1)) rfl rfl rfl ?_
          refine h_iload (pc' := 103) rfl rfl rfl ?_
          refine h_shl1 (pc' := 104) rfl rfl ci_1 hz5 (by omega) (by omega) (fun z22 hz22 vz22 => ?_)
          refine h_ior (pc' := 105) rfl rfl (fun z23 hz23 => ?_)
          refine h_put (pc' := 108) rfl rfl rfl rfl rfl rfl rfl rfl (h_fgt (E := fun s => s 98 13 = s0 98 13 ∧ s = h_up s20 98 22 z23.toInt) _ (if_98_22 Is20 (h_rgv rfl)) (Fs20.up rfl) ⟨es20.1, rfl⟩ (fun s24 Is24 Fs24 (es24 : s24 98 13 = s0 98 13 ∧ s24 = h_up s20 98 22 z23.toInt) => ?_))
          clear es20
          have us24 := es24.2
          refine h_iinc (pc' := 111) (M := fun z25 => [(3, .int z25), (4, .int z5), (0, .ref 98), (1, .int (Int32.ofInt 0)), (2, .int x1)]) rfl rfl rfl rfl hy3 ci_1 rfl (by omega) (by omega) (fun _ => rfl) (fun z25 hz25 => ?_)
          refine h_goto (pc' := 25) rfl rfl ?_
          exact h_wk [(0, .ref 98), (1, .int (Int32.ofInt 0)), (2, .int x1), (3, .int z25)] ⟨rfl, rfl, rfl, rfl, trivial⟩ (ih _ Is24 Fs24 z25 _ hz25 (by omega) (g_DM_e ex0 ((h_upg us24 rfl).trans ((h_upg us20 rfl).trans (funext (fun j => Gs14 105 j rfl))))) (by have gq := pr0 b3 (by omega) (by omega); have gz := g_hb_of hz7 hz6 hz5; rcases ps14_0 with q | q; (intro g a b; rw [show s24 99 (158 + g) = s14 99 (158 + g) from congrFun ((h_upg us24 rfl).trans (h_upg us20 rfl)) _, q.2.2, g_set_n (by omega), g_set_n (by omega)]; exact ex1 g a b); (intro g a b; rw [show s24 99 (158 + g) = s14 99 (158 + g) from congrFun ((h_upg us24 rfl).trans (h_upg us20 rfl)) _, q.2.2]; exact ex1 g a b)) (by have gq := pr0 b3 (by omega) (by omega); have gz := g_hb_of hz7 hz6 hz5; rcases ps14_0 with q | q; (exact g_pmI_y (k := b3) (p := σ 99 (35 + b3) / 10) (g := σ 99 (35 + b3) % 10) ex2 (g_pmD ((h_upg us24 rfl).trans ((h_upg us20 rfl).trans (funext (fun j => Gs14 105 j rfl))))) (by omega) rfl rfl (by omega) (by omega) (by omega) ((g_yM_m (D := s0 105) (F0_.no (q := 99) (l := 0) (u := 131) (j := 25) rfl (by omega) (by omega)) (by omega) (fun i i0 i2 => ⟨(F0_.no (q := 99) (l := 0) (u := 131) (j := 19 + 2 * i) rfl (by omega) (by omega)), (F0_.no (q := 99) (l := 0) (u := 131) (j := 19 + 2 * i + 1) rfl (by omega) (by omega))⟩) (ex1 (σ 99 (35 + b3) % 10) (by omega) (by omega))).symm.trans q.2.1) (((h_upg us24 rfl).trans (h_upg us20 rfl)).trans q.2.2) (((congrArg Int32.ofInt (h_upv us24)).trans (g_came hz23 hz22 hz5 hz21)).trans (congrArg (fun z => g_or (Int32.ofInt z) (σ 99 (35 + b3) / 10)) ((h_upd us20 (by decide)).trans (Gs14 98 22 rfl)))) (((congrArg Int32.ofInt (h_upd us24 (by decide))).trans ((congrArg Int32.ofInt (h_upv us20)).trans (g_came hz19 hz18 hy3 hz17))).trans (congrArg (fun z => g_or (Int32.ofInt z) (b3)) (Gs14 98 23 rfl)))); (exfalso; omega)) (by omega) (by omega))
set_option maxHeartbeats 100000000 in
set_option maxHeartbeats 100000000 in
theorem n_plan0 {ns : Nat} (σ : h_S) (hI : h_I σ) (x1 : Int32) (a1 : Int) (hx1 : x1.toInt = a1) (pr0 : ∀ i, 0 ≤ i → i < σ 99 43 → 0 ≤ σ 99 (35 + i) ∧ σ 99 (35 + i) / 10 < 6 ∧ σ 99 (35 + i) % 10 < 3) {Q : Option Value → h_S → Prop} (kk : ∀ (τ : h_S), h_I τ → h_F (k_in kf_n_plan0) τ σ → (g_DM (σ 98 1) (σ 99 18) (σ 99) (σ 100) (τ 105)) → (g_pmI (fun p l g => g_yM (τ 105) (fun i => σ 99 (19 + 2 * i)) (fun i => σ 99 (19 + 2 * i + 1)) (σ 99 25) p l (σ 99 (26 + g))) x1 (fun i => σ 99 (35 + i)) (fun g => g_orn (σ 99 (29 + g))) (σ 99 43) (τ 99) (τ 98 22) (τ 98 23)) → Q none τ) : h_T g_P (g_Y ns) 191 0 [(0, .ref 98), (1, .int (Int32.ofInt 0)), (2, .int x1)] [] σ Q := by
  have F00 : h_F (k_in kf_n_plan0) σ σ := h_F.rf
  have ge0 := ty_99_10 hI 43 (by omega)
  refine h_aload_n (pc' := 1) rfl rfl rfl ?_
  refine h_iload_n (pc' := 2) rfl rfl rfl ?_
  refine h_call (sp := false) (pc' := 5) (M := [(0, .ref 98), (1, .int (Int32.ofInt 0))]) rfl rfl rfl rfl rfl rfl rfl rfl ?_
  refine n_lays _ hI  (fun s2 Is2 Gs2 ps2_0 => h_Kn ?_)
  have Fs2 := (Gs2.mono (B := kf_n_plan0) rfl).tr F00
  have es2_0 : s2 98 13 = σ 98 13 := (Gs2 98 13 rfl).trans rfl
  refine h_aload_n (pc' := 6) rfl rfl rfl ?_
  refine h_iload_n (pc' := 7) rfl rfl rfl ?_
  refine h_sipush (pc' := 10) (x := (Int32.ofInt 132)) rfl rfl cs_132 ?_
  refine h_call (sp := false) (pc' := 13) (M := [(0, .ref 98), (1, .int (Int32.ofInt 0)), (2, .int (Int32.ofInt 132))]) rfl rfl rfl rfl rfl rfl rfl rfl ?_
  refine n_copies_0_132 _ Is2   (fun s4 Is4 Gs4 ps4_0 => h_Kn ?_)
  have Fs4 := (Gs4.mono (B := kf_n_plan0) rfl).tr Fs2
  have es4_0 : s4 98 13 = σ 98 13 := (Gs4 98 13 rfl).trans es2_0
  refine h_aload_n (pc' := 14) rfl rfl rfl ?_
  refine h_iconst (pc' := 15) (x := (Int32.ofInt 0)) rfl rfl rfl ?_
  refine h_put (pc' := 18) rfl rfl rfl rfl rfl rfl ci_0 rfl (h_fgt (E := fun s => s 98 13 = σ 98 13 ∧ s = h_up s4 98 22 0) _ (if_98_22 Is4 (h_rgv ci_0)) (Fs4.up rfl) ⟨es4_0, rfl⟩ (fun s5 Is5 Fs5 (es5 : s5 98 13 = σ 98 13 ∧ s5 = h_up s4 98 22 0) => ?_))
  have us5 := es5.2
  refine h_aload_n (pc' := 19) rfl rfl rfl ?_
  refine h_iconst (pc' := 20) (x := (Int32.ofInt 0)) rfl rfl rfl ?_
  refine h_put (pc' := 23) rfl rfl rfl rfl rfl rfl ci_0 rfl (h_fgt (E := fun s => s 98 13 = σ 98 13 ∧ s = h_up s5 98 23 0) _ (if_98_23 Is5 (h_rgv ci_0)) (Fs5.up rfl) ⟨es5.1, rfl⟩ (fun s6 Is6 Fs6 (es6 : s6 98 13 = σ 98 13 ∧ s6 = h_up s5 98 23 0) => ?_))
  clear es5
  have us6 := es6.2
  refine h_iconst (pc' := 24) (x := (Int32.ofInt 0)) rfl rfl rfl ?_
  refine h_istore_n (pc' := 25) (M := [(3, .int (Int32.ofInt 0)), (0, .ref 98), (1, .int (Int32.ofInt 0)), (2, .int x1)]) rfl rfl rfl rfl ?_
  exact h_wk [(0, .ref 98), (1, .int (Int32.ofInt 0)), (2, .int x1), (3, .int (Int32.ofInt 0))] ⟨rfl, rfl, rfl, rfl, trivial⟩ ((n_plan0_l ns σ hI x1 a1 hx1 pr0 kk 1000000000000) _ Is6 Fs6 (Int32.ofInt 0) _ ci_0 (by omega) (g_DM_e ps2_0 ((h_upg us6 rfl).trans ((h_upg us5 rfl).trans (funext (fun j => Gs4 105 j rfl))))) (fun g a b => ((congrFun ((h_upg us6 rfl).trans (h_upg us5 rfl)) (158 + g)).trans ((congrArg (s4 99) (show 158 + g = 132 + (26 + g) by omega)).trans ((ps4_0 (26 + g) (by omega) (by omega)).trans ((congrFun (funext (fun j => Gs2 99 j rfl)) (0 + (26 + g))).trans (congrArg (σ 99) (show 0 + (26 + g) = 26 + g by omega))))))) (g_pmI_0 rfl (fun g a b => congrArg g_orn ((congrFun ((h_upg us6 rfl).trans (h_upg us5 rfl)) (161 + g)).trans ((congrArg (s4 99) (show 161 + g = 132 + (29 + g) by omega)).trans ((ps4_0 (29 + g) (by omega) (by omega)).trans ((congrFun (funext (fun j => Gs2 99 j rfl)) (0 + (29 + g))).trans (congrArg (σ 99) (show 0 + (29 + g) = 29 + g by omega))))))) ((h_upd us6 (by decide)).trans (h_upv us5)) (h_upv us6)) (by omega) (by omega))
