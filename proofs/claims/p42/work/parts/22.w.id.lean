def kf_v_endM : List Nat := [100363]
set_option maxHeartbeats 100000000 in
theorem v_endM {ns : Nat} (σ : h_S) (hI : h_I σ) (x0 : Int32) (a0 : Int) (hx0 : x0.toInt = a0) {Q : Option Value → h_S → Prop} (kk : ∀ (r : Int32) (b : Int) (hb : r.toInt = b) (τ : h_S), h_I τ → h_F (k_in kf_v_endM) τ σ → ((-1) ≤ b ∧ b ≤ 160) → ((0 ≤ a0 ∧ a0 ≤ σ 98 11 ∧ b = σ 98 11 ∧ τ 98 11 = a0) ∨ ((a0 < 0 ∨ σ 98 11 < a0) ∧ b = -1 ∧ τ 98 11 = σ 98 11)) → (τ 64 1 = σ 64 1) → Q (some (.int r)) τ) : h_T g_P (g_Y ns) 144 0 [(0, .ref 98), (1, .int x0)] [] σ Q := by
  have F00 : h_F (k_in kf_v_endM) σ σ := h_F.rf
  refine h_iload_n (pc' := 1) rfl rfl rfl ?_
  refine h_i2l (pc' := 2) rfl rfl hx0 (fun z1 hz1 => ?_)
  refine h_lconst (pc' := 3) (x := (Int64.ofInt 0)) rfl rfl rfl ?_
  refine h_aload_n (pc' := 4) rfl rfl rfl ?_
  refine h_getI (pc' := 7) (v := σ 98 11) rfl rfl rfl rfl rfl rfl (fun z2 hz2 => ?_)
  have tz2 := tf_98_11 hI
  refine h_i2l (pc' := 8) rfl rfl hz2 (fun z3 hz3 => ?_)
  refine h_calls (pc' := 11) (M := [(0, .long z1), (2, .long (Int64.ofInt 0)), (4, .long z3)]) rfl rfl rfl rfl rfl rfl ?_
  refine h_lload_n (pc' := 1) rfl rfl rfl ?_
  refine h_lload_n (pc' := 2) rfl rfl rfl ?_
  refine h_lcmp (pc' := 3) rfl rfl hz1 cl_0 (fun z4 hz4 => ?_)
  refine h_zlt (tg := 17) (pc' := 6) rfl rfl rfl rfl (fun c5 => ?_) (fun c5 => ?_)
  · replace c5 := (h_lcr hz4).1 c5
    clear hz4
    refine h_iconst (pc' := 18) (x := (Int32.ofInt 0)) rfl rfl rfl ?_
    refine h_zret rfl rfl ci_0 (by omega) (h_Kv ?_)
    refine h_zne (tg := 16) (pc' := 14) rfl rfl rfl ci_0 (fun c6 => absurd c6 (by omega)) (fun c6 => ?_)
    refine h_iconst (pc' := 15) (x := (Int32.ofInt (-1))) rfl rfl rfl ?_
    exact h_iret rfl rfl (kk _ _ ci_m1 _ hI F00 (by omega) (by omega) (by omega))
  · replace c5 := (h_lcr hz4).2.1 c5
    clear hz4
    refine h_lload_n (pc' := 7) rfl rfl rfl ?_
    refine h_lload (pc' := 9) rfl rfl rfl ?_
    refine h_lcmp (pc' := 10) rfl rfl hz1 hz3 (fun z7 hz7 => ?_)
    refine h_zgt (tg := 17) (pc' := 13) rfl rfl rfl rfl (fun c8 => ?_) (fun c8 => ?_)
    · replace c8 := (h_lcr hz7).2.2.2.1 c8
      clear hz7
      refine h_iconst (pc' := 18) (x := (Int32.ofInt 0)) rfl rfl rfl ?_
      refine h_zret rfl rfl ci_0 (by omega) (h_Kv ?_)
      refine h_zne (tg := 16) (pc' := 14) rfl rfl rfl ci_0 (fun c9 => absurd c9 (by omega)) (fun c9 => ?_)
      refine h_iconst (pc' := 15) (x := (Int32.ofInt (-1))) rfl rfl rfl ?_
      exact h_iret rfl rfl (kk _ _ ci_m1 _ hI F00 (by omega) (by omega) (by omega))
    · replace c8 := (h_lcr hz7).2.2.1 c8
      clear hz7
      refine h_iconst (pc' := 14) (x := (Int32.ofInt 1)) rfl rfl rfl ?_
      refine h_goto (pc' := 18) rfl rfl ?_
      refine h_zret rfl rfl ci_1 (by omega) (h_Kv ?_)
      refine h_zne (tg := 16) (pc' := 14) rfl rfl rfl ci_1 (fun c10 => ?_) (fun c10 => absurd c10 (by omega))
      refine h_aload_n (pc' := 17) rfl rfl rfl ?_
      refine h_getI (pc' := 20) (v := σ 98 11) rfl rfl rfl rfl rfl rfl (fun z11 hz11 => ?_)
      have tz11 := tf_98_11 hI
      refine h_istore_n (pc' := 21) (M := [(2, .int z11), (0, .ref 98), (1, .int x0)]) rfl rfl rfl rfl ?_
      refine h_aload_n (pc' := 22) rfl rfl rfl ?_
      refine h_iload_n (pc' := 23) rfl rfl rfl ?_
      refine h_put (pc' := 26) rfl rfl rfl rfl rfl rfl hx0 rfl (h_fgt (E := fun s => s 64 1 = σ 64 1 ∧ s 98 11 = a0) _ (if_98_11 hI (by omega)) (F00.up rfl) ⟨rfl, rfl⟩ (fun s12 Is12 Fs12 (es12 : s12 64 1 = σ 64 1 ∧ s12 98 11 = a0) => ?_))
      refine h_iload_n (pc' := 27) rfl rfl rfl ?_
      exact h_iret rfl rfl (kk _ _ hz11 _ Is12 Fs12 (by omega) (by omega) (by omega))
