/-! THE PLAN RUN BY ITSELF -/
/-! ADMIT, RUNPLAN, PLANGOES -/
theorem g_came {z y w u : Int32} {q v : Int} (hz : z = y ||| w) (hw : w = (Int32.ofInt 1) <<< (u &&& 31)) (hu : u.toInt = q) (hy : y.toInt = v) : Int32.ofInt z.toInt = g_or (Int32.ofInt v) q := by
  rw [Int32.ofInt_toInt, g_ofi hy]
  exact g_or_of hz hw hu
theorem g_yM_m {D A B A' B' : Int → Int} {m m' p l r r' : Int} (hm : m' = m) (m3 : m ≤ 3) (hA : ∀ j, 0 ≤ j → j ≤ 2 → A' j = A j ∧ B' j = B j) (hr : r' = r) : g_yM D A' B' m' p l r' = g_yM D A B m p l r := by
  subst hm; subst hr
  unfold g_yM
  rw [g_fo_eq m'.toNat (fun j j0 j1 => hA j j0 (by omega))]
theorem g_pmD {D D' A B R : Int → Int} {m : Int} (e : D' = D) : (fun p l g => g_yM D' A B m p l (R g)) = (fun p l g => g_yM D A B m p l (R g)) := by rw [e]
def kf_n_copies_0_132 : List Nat := [101891]
set_option maxHeartbeats 100000000 in
set_option maxHeartbeats 100000000 in
theorem n_copies_0_132_l (ns : Nat) (σ : h_S) (hI : h_I σ) {Q : Option Value → h_S → Prop} (kk : ∀ (τ : h_S), h_I τ → h_F (k_in kf_n_copies_0_132) τ σ → (∀ j, 0 ≤ j → j < 44 → τ 99 (132 + j) = σ 99 (0 + j)) → Q none τ) : ∀ n : Nat, (∀ (s0 : h_S), h_I s0 → h_F (k_in kf_n_copies_0_132) s0 σ → ∀ (y3 : Int32) (b3 : Int), y3.toInt = b3 → (0 ≤ b3 ∧ b3 ≤ 44) → (∀ j, 0 ≤ j → j < b3 → s0 99 (132 + j) = σ 99 (0 + j)) → (44 + 1 - b3) * 1000000 + 1000000000 ≤ (n : Int) → h_T g_P (g_Y ns) 190 2 [(0, .ref 98), (1, .int (Int32.ofInt 0)), (2, .int (Int32.ofInt 132)), (3, .int y3)] [] s0 Q) := by
  intro n
  induction n with
  | zero => exact by intro s0 I0 F0_ y3 b3 hy3 ry3 ex0 hm; exfalso; omega
  | succ n ih =>
    intro s0 I0 F0_ y3 b3 hy3 ry3 ex0 hm
    refine h_iload_n (pc' := 3) rfl rfl rfl ?_
    refine h_bipush (pc' := 5) (x := (Int32.ofInt 44)) rfl rfl cb_44 ?_
    refine h_cge (tg := 30) (pc' := 8) rfl rfl rfl hy3 ci_44 (fun c1 => ?_) (fun c1 => ?_)
    · exact h_vret rfl rfl (kk _ I0 F0_ (fun j a b => ex0 j a (by omega)))
    · refine h_aload_n (pc' := 9) rfl rfl rfl ?_
      refine h_getR (pc' := 12) rfl rfl rfl rfl rfl ?_
      refine h_iload_n (pc' := 13) rfl rfl rfl ?_
      refine h_iload_n (pc' := 14) rfl rfl rfl ?_
      refine h_iadd (pc' := 15) rfl rfl ci_132 hy3 rfl (by omega) (by omega) (fun z2 hz2 => ?_)
      refine h_aload_n (pc' := 16) rfl rfl rfl ?_
      refine h_getR (pc' := 19) rfl rfl rfl rfl rfl ?_
      refine h_iload_n (pc' := 20) rfl rfl rfl ?_
      refine h_iload_n (pc' := 21) rfl rfl rfl ?_
      refine h_iadd (pc' := 22) rfl rfl ci_0 hy3 rfl (by omega) (by omega) (fun z3 hz3 => ?_)
      refine h_iald (pc' := 23) (v := σ 99 (0 + b3)) rfl rfl rfl hz3 (by omega) (by omega) (F0_ 99 _ (k_no (l := 0) (h := 43) rfl (by omega) (by omega))) (fun z4 hz4 => ?_)
      have tz4 := h_rng z4
      rw [hz4] at tz4
      refine h_iast (pc' := 24) rfl rfl rfl rfl hz2 (by omega) (by omega) hz4 (h_fgt (E := fun s => s 98 13 = s0 98 13 ∧ s = h_up s0 99 (132 + b3) (σ 99 (0 + b3))) _ (im_99 (i := (0 + b3)) I0 (by omega) (hI 99 (0 + b3))) (F0_.up (k_ipg (p := 3) rfl rfl (by omega))) ⟨rfl, rfl⟩ (fun s5 Is5 Fs5 (es5 : s5 98 13 = s0 98 13 ∧ s5 = h_up s0 99 (132 + b3) (σ 99 (0 + b3))) => ?_))
      have us5 := es5.2
      refine h_iinc (pc' := 27) (M := fun z6 => [(3, .int z6), (0, .ref 98), (1, .int (Int32.ofInt 0)), (2, .int (Int32.ofInt 132))]) rfl rfl rfl rfl hy3 ci_1 rfl (by omega) (by omega) (fun _ => rfl) (fun z6 hz6 => ?_)
      refine h_goto (pc' := 2) rfl rfl ?_
      exact h_wk [(0, .ref 98), (1, .int (Int32.ofInt 0)), (2, .int (Int32.ofInt 132)), (3, .int z6)] ⟨rfl, rfl, rfl, rfl, trivial⟩ (ih _ Is5 Fs5 z6 _ hz6 (by omega) (cp_s (F := fun j => σ 99 (0 + j)) us5 rfl rfl ex0) (by omega))
set_option maxHeartbeats 100000000 in
set_option maxHeartbeats 100000000 in
theorem n_copies_0_132 {ns : Nat} (σ : h_S) (hI : h_I σ) {Q : Option Value → h_S → Prop} (kk : ∀ (τ : h_S), h_I τ → h_F (k_in kf_n_copies_0_132) τ σ → (∀ j, 0 ≤ j → j < 44 → τ 99 (132 + j) = σ 99 (0 + j)) → Q none τ) : h_T g_P (g_Y ns) 190 0 [(0, .ref 98), (1, .int (Int32.ofInt 0)), (2, .int (Int32.ofInt 132))] [] σ Q := by
  have F00 : h_F (k_in kf_n_copies_0_132) σ σ := h_F.rf
  refine h_iconst (pc' := 1) (x := (Int32.ofInt 0)) rfl rfl rfl ?_
  refine h_istore_n (pc' := 2) (M := [(3, .int (Int32.ofInt 0)), (0, .ref 98), (1, .int (Int32.ofInt 0)), (2, .int (Int32.ofInt 132))]) rfl rfl rfl rfl ?_
  exact h_wk [(0, .ref 98), (1, .int (Int32.ofInt 0)), (2, .int (Int32.ofInt 132)), (3, .int (Int32.ofInt 0))] ⟨rfl, rfl, rfl, rfl, trivial⟩ ((n_copies_0_132_l ns σ hI  kk 1000000000000) _ hI F00 (Int32.ofInt 0) _ ci_0 (by omega) (fun j a b => absurd b (by omega)) (by omega))
def kf_n_goesOn132 : List Nat := [101891]
set_option maxHeartbeats 100000000 in
set_option maxHeartbeats 100000000 in
theorem n_goesOn132 {ns : Nat} (σ : h_S) (hI : h_I σ) (x1 : Int32) (a1 : Int) (hx1 : x1.toInt = a1) (ra1 : 0 ≤ a1 ∧ a1 ≤ 5) (x2 : Int32) (a2 : Int) (hx2 : x2.toInt = a2) (ra2 : 0 ≤ a2 ∧ a2 ≤ 2) {Q : Option Value → h_S → Prop} (kk : ∀ (r : Int32) (b : Int) (hb : r.toInt = b) (τ : h_S), h_I τ → h_F (k_in kf_n_goesOn132) τ σ → (0 ≤ b ∧ b ≤ 1) → ((b = 1 ∧ g_yM (σ 105) (fun i => σ 99 (19 + 2 * i)) (fun i => σ 99 (19 + 2 * i + 1)) (σ 99 25) a1 (g_orn (σ 99 (161 + a2))) (σ 99 (158 + a2)) = true ∧ τ 99 = g_set (g_set (σ 99) (161 + a2) (a1 + 1)) (164 + a2) (g_w1n (σ 99 (164 + a2)))) ∨ (b = 0 ∧ g_yM (σ 105) (fun i => σ 99 (19 + 2 * i)) (fun i => σ 99 (19 + 2 * i + 1)) (σ 99 25) a1 (g_orn (σ 99 (161 + a2))) (σ 99 (158 + a2)) = false ∧ τ 99 = σ 99)) → Q (some (.int r)) τ) : h_T g_P (g_Y ns) 187 0 [(0, .ref 98), (1, .int (Int32.ofInt 132)), (2, .int x1), (3, .int x2)] [] σ Q := by
  have F00 : h_F (k_in kf_n_goesOn132) σ σ := h_F.rf
  refine h_aload_n (pc' := 1) rfl rfl rfl ?_
  refine h_iload_n (pc' := 2) rfl rfl rfl ?_
  refine h_aload_n (pc' := 3) rfl rfl rfl ?_
  refine h_getR (pc' := 6) rfl rfl rfl rfl rfl ?_
  refine h_iload_n (pc' := 7) rfl rfl rfl ?_
  refine h_bipush (pc' := 9) (x := (Int32.ofInt 29)) rfl rfl cb_29 ?_
  refine h_iadd (pc' := 10) (c := 161) rfl rfl ci_132 ci_29 rfl (by omega) (by omega) (fun z1 hz1 => ?_)
  refine h_iload_n (pc' := 11) rfl rfl rfl ?_
  refine h_iadd (pc' := 12) rfl rfl hz1 hx2 rfl (by omega) (by omega) (fun z2 hz2 => ?_)
  refine h_iald (pc' := 13) (v := σ 99 (161 + a2)) rfl rfl rfl hz2 (by omega) (by omega) rfl (fun z3 hz3 => ?_)
  have tz3 := ty_99_7 hI (161 + a2) (by omega)
  refine h_calls (pc' := 16) (M := [(0, .int z3)]) rfl rfl rfl rfl rfl rfl ?_
  refine h_iload_n (pc' := 1) rfl rfl rfl ?_
  refine h_zne (tg := 9) (pc' := 4) rfl rfl rfl hz3 (fun c4 => ?_) (fun c4 => ?_)
  · refine h_iload_n (pc' := 10) rfl rfl rfl ?_
    refine h_iconst (pc' := 11) (x := (Int32.ofInt 1)) rfl rfl rfl ?_
    refine h_isub (pc' := 12) rfl rfl hz3 ci_1 rfl (by omega) (by omega) (fun z5 hz5 => ?_)
    refine h_iret rfl rfl (h_Kv ?_)
    refine h_aload_n (pc' := 17) rfl rfl rfl ?_
    refine h_getR (pc' := 20) rfl rfl rfl rfl rfl ?_
    refine h_iload_n (pc' := 21) rfl rfl rfl ?_
    refine h_bipush (pc' := 23) (x := (Int32.ofInt 26)) rfl rfl cb_26 ?_
    refine h_iadd (pc' := 24) (c := 158) rfl rfl ci_132 ci_26 rfl (by omega) (by omega) (fun z6 hz6 => ?_)
    refine h_iload_n (pc' := 25) rfl rfl rfl ?_
    refine h_iadd (pc' := 26) rfl rfl hz6 hx2 rfl (by omega) (by omega) (fun z7 hz7 => ?_)
    refine h_iald (pc' := 27) (v := σ 99 (158 + a2)) rfl rfl rfl hz7 (by omega) (by omega) rfl (fun z8 hz8 => ?_)
    have tz8 := ty_99_6 hI (158 + a2) (by omega)
    refine h_call (sp := false) (pc' := 30) (M := [(0, .ref 98), (1, .int x1), (2, .int z5), (3, .int z8)]) rfl rfl rfl rfl rfl rfl rfl rfl ?_
    refine n_may _ hI x1 _ hx1 (by omega) z5 _ hz5 (by omega) z8 _ hz8 (fun r9 br9 hr9 tr9 ps10_0 => h_Kv ?_)
    refine h_zne (tg := 35) (pc' := 33) rfl rfl rfl hr9 (fun c11 => ?_) (fun c11 => ?_)
    · refine h_aload_n (pc' := 36) rfl rfl rfl ?_
      refine h_getR (pc' := 39) rfl rfl rfl rfl rfl ?_
      refine h_iload_n (pc' := 40) rfl rfl rfl ?_
      refine h_bipush (pc' := 42) (x := (Int32.ofInt 29)) rfl rfl cb_29 ?_
      refine h_iadd (pc' := 43) (c := 161) rfl rfl ci_132 ci_29 rfl (by omega) (by omega) (fun z12 hz12 => ?_)
      refine h_iload_n (pc' := 44) rfl rfl rfl ?_
      refine h_iadd (pc' := 45) rfl rfl hz12 hx2 rfl (by omega) (by omega) (fun z13 hz13 => ?_)
      refine h_iload_n (pc' := 46) rfl rfl rfl ?_
      refine h_iconst (pc' := 47) (x := (Int32.ofInt 1)) rfl rfl rfl ?_
      refine h_iadd (pc' := 48) rfl rfl hx1 ci_1 rfl (by omega) (by omega) (fun z14 hz14 => ?_)
      refine h_iast (pc' := 49) rfl rfl rfl rfl hz13 (by omega) (by omega) hz14 (h_fgt (E := fun s => s 98 13 = σ 98 13 ∧ s = h_up σ 99 (161 + a2) (a1 + 1)) _ (ip_99_7 hI (by omega) (by omega)) (F00.up (k_ipg (p := 3) rfl rfl (by omega))) ⟨rfl, rfl⟩ (fun s15 Is15 Fs15 (es15 : s15 98 13 = σ 98 13 ∧ s15 = h_up σ 99 (161 + a2) (a1 + 1)) => ?_))
      have us15 := es15.2
      refine h_aload_n (pc' := 50) rfl rfl rfl ?_
      refine h_getR (pc' := 53) rfl rfl rfl rfl rfl ?_
      refine h_iload_n (pc' := 54) rfl rfl rfl ?_
      refine h_bipush (pc' := 56) (x := (Int32.ofInt 32)) rfl rfl cb_32 ?_
      refine h_iadd (pc' := 57) (c := 164) rfl rfl ci_132 ci_32 rfl (by omega) (by omega) (fun z16 hz16 => ?_)
      refine h_iload_n (pc' := 58) rfl rfl rfl ?_
      refine h_iadd (pc' := 59) rfl rfl hz16 hx2 rfl (by omega) (by omega) (fun z17 hz17 => ?_)
      refine h_dup2 (pc' := 60) rfl rfl rfl ?_
      refine h_iald (pc' := 61) (v := s15 99 (164 + a2)) rfl rfl rfl hz17 (by omega) (by omega) rfl (fun z18 hz18 => ?_)
      have tz18 := ty_99_8 Is15 (164 + a2) (by omega)
      refine h_aload_n (pc' := 62) rfl rfl rfl ?_
      refine h_getR (pc' := 65) rfl rfl rfl rfl rfl ?_
      refine h_iload_n (pc' := 66) rfl rfl rfl ?_
      refine h_bipush (pc' := 68) (x := (Int32.ofInt 32)) rfl rfl cb_32 ?_
      refine h_iadd (pc' := 69) (c := 164) rfl rfl ci_132 ci_32 rfl (by omega) (by omega) (fun z19 hz19 => ?_)
      refine h_iload_n (pc' := 70) rfl rfl rfl ?_
      refine h_iadd (pc' := 71) rfl rfl hz19 hx2 rfl (by omega) (by omega) (fun z20 hz20 => ?_)
      refine h_iald (pc' := 72) (v := s15 99 (164 + a2)) rfl rfl rfl hz20 (by omega) (by omega) rfl (fun z21 hz21 => ?_)
      have tz21 := ty_99_8 Is15 (164 + a2) (by omega)
      refine h_sipush (pc' := 75) (x := (Int32.ofInt 999)) rfl rfl cs_999 ?_
      refine h_cge (tg := 82) (pc' := 78) rfl rfl rfl hz21 ci_999 (fun c22 => ?_) (fun c22 => ?_)
      · refine h_iconst (pc' := 83) (x := (Int32.ofInt 0)) rfl rfl rfl ?_
        refine h_iadd (pc' := 84) rfl rfl hz18 ci_0 rfl (by omega) (by omega) (fun z23 hz23 => ?_)
        refine h_iast (pc' := 85) rfl rfl rfl rfl hz17 (by omega) (by omega) hz23 (h_fgt (E := fun s => s 98 13 = σ 98 13 ∧ s = h_up s15 99 (164 + a2) ((s15 99 (164 + a2)) + 0)) _ (ip_99_8 Is15 (by omega) (by omega)) (Fs15.up (k_ipg (p := 3) rfl rfl (by omega))) ⟨es15.1, rfl⟩ (fun s24 Is24 Fs24 (es24 : s24 98 13 = σ 98 13 ∧ s24 = h_up s15 99 (164 + a2) ((s15 99 (164 + a2)) + 0)) => ?_))
        clear es15
        have us24 := es24.2
        refine h_iconst (pc' := 86) (x := (Int32.ofInt 1)) rfl rfl rfl ?_
        exact h_zret rfl rfl ci_1 (by omega) (kk _ _ ci_1 _ Is24 Fs24 (by omega) (by have gm := ps10_0; have gx := h_upd us15 (j := 164 + a2) (by omega); first | (rw [show σ 99 (161 + a2) - 1 = g_orn (σ 99 (161 + a2)) from g_orn_of (by omega)] at gm; exact Or.inl ⟨rfl, g_gm_y gm (by omega), (((h_upf us24).trans (g_set_c (h_upf us15)))).trans (g_set_e (g_set_e rfl (by omega) (by omega)) (by omega) (g_w1n_of (by omega)))⟩) | (rw [show (-4 : Int) = g_orn (σ 99 (161 + a2)) from g_orn_of (by omega)] at gm; exact Or.inl ⟨rfl, g_gm_y gm (by omega), (((h_upf us24).trans (g_set_c (h_upf us15)))).trans (g_set_e (g_set_e rfl (by omega) (by omega)) (by omega) (g_w1n_of (by omega)))⟩)))
      · refine h_iconst (pc' := 79) (x := (Int32.ofInt 1)) rfl rfl rfl ?_
        refine h_goto (pc' := 83) rfl rfl ?_
        refine h_iadd (pc' := 84) rfl rfl hz18 ci_1 rfl (by omega) (by omega) (fun z25 hz25 => ?_)
        refine h_iast (pc' := 85) rfl rfl rfl rfl hz17 (by omega) (by omega) hz25 (h_fgt (E := fun s => s 98 13 = σ 98 13 ∧ s = h_up s15 99 (164 + a2) ((s15 99 (164 + a2)) + 1)) _ (ip_99_8 Is15 (by omega) (by omega)) (Fs15.up (k_ipg (p := 3) rfl rfl (by omega))) ⟨es15.1, rfl⟩ (fun s26 Is26 Fs26 (es26 : s26 98 13 = σ 98 13 ∧ s26 = h_up s15 99 (164 + a2) ((s15 99 (164 + a2)) + 1)) => ?_))
        clear es15
        have us26 := es26.2
        refine h_iconst (pc' := 86) (x := (Int32.ofInt 1)) rfl rfl rfl ?_
        exact h_zret rfl rfl ci_1 (by omega) (kk _ _ ci_1 _ Is26 Fs26 (by omega) (by have gm := ps10_0; have gx := h_upd us15 (j := 164 + a2) (by omega); first | (rw [show σ 99 (161 + a2) - 1 = g_orn (σ 99 (161 + a2)) from g_orn_of (by omega)] at gm; exact Or.inl ⟨rfl, g_gm_y gm (by omega), (((h_upf us26).trans (g_set_c (h_upf us15)))).trans (g_set_e (g_set_e rfl (by omega) (by omega)) (by omega) (g_w1n_of (by omega)))⟩) | (rw [show (-4 : Int) = g_orn (σ 99 (161 + a2)) from g_orn_of (by omega)] at gm; exact Or.inl ⟨rfl, g_gm_y gm (by omega), (((h_upf us26).trans (g_set_c (h_upf us15)))).trans (g_set_e (g_set_e rfl (by omega) (by omega)) (by omega) (g_w1n_of (by omega)))⟩)))
    · refine h_iconst (pc' := 34) (x := (Int32.ofInt 0)) rfl rfl rfl ?_
      exact h_zret rfl rfl ci_0 (by omega) (kk _ _ ci_0 _ hI F00 (by omega) (by have gm := ps10_0; first | (rw [show σ 99 (161 + a2) - 1 = g_orn (σ 99 (161 + a2)) from g_orn_of (by omega)] at gm; exact Or.inr ⟨rfl, g_gm_n gm (by omega), rfl⟩) | (rw [show (-4 : Int) = g_orn (σ 99 (161 + a2)) from g_orn_of (by omega)] at gm; exact Or.inr ⟨rfl, g_gm_n gm (by omega), rfl⟩)))
  · refine h_bipush (pc' := 6) (x := (Int32.ofInt (-4))) rfl rfl cb_m4 ?_
    refine h_goto (pc' := 12) rfl rfl ?_
    refine h_iret rfl rfl (h_Kv ?_)
    refine h_aload_n (pc' := 17) rfl rfl rfl ?_
    refine h_getR (pc' := 20) rfl rfl rfl rfl rfl ?_
    refine h_iload_n (pc' := 21) rfl rfl rfl ?_
    refine h_bipush (pc' := 23) (x := (Int32.ofInt 26)) rfl rfl cb_26 ?_
    refine h_iadd (pc' := 24) (c := 158) rfl rfl ci_132 ci_26 rfl (by omega) (by omega) (fun z27 hz27 => ?_)
    refine h_iload_n (pc' := 25) rfl rfl rfl ?_
    refine h_iadd (pc' := 26) rfl rfl hz27 hx2 rfl (by omega) (by omega) (fun z28 hz28 => ?_)
    refine h_iald (pc' := 27) (v := σ 99 (158 + a2)) rfl rfl rfl hz28 (by omega) (by omega) rfl (fun z29 hz29 => ?_)
    have tz29 := ty_99_6 hI (158 + a2) (by omega)
    refine h_call (sp := false) (pc' := 30) (M := [(0, .ref 98), (1, .int x1), (2, .int (Int32.ofInt (-4))), (3, .int z29)]) rfl rfl rfl rfl rfl rfl rfl rfl ?_
    refine n_may _ hI x1 _ hx1 (by omega) (Int32.ofInt (-4)) _ ci_m4 (by omega) z29 _ hz29 (fun r30 br30 hr30 tr30 ps31_0 => h_Kv ?_)
    refine h_zne (tg := 35) (pc' := 33) rfl rfl rfl hr30 (fun c32 => ?_) (fun c32 => ?_)
    · refine h_aload_n (pc' := 36) rfl rfl rfl ?_
      refine h_getR (pc' := 39) rfl rfl rfl rfl rfl ?_
      refine h_iload_n (pc' := 40) rfl rfl rfl ?_
      refine h_bipush (pc' := 42) (x := (Int32.ofInt 29)) rfl rfl cb_29 ?_
      refine h_iadd (pc' := 43) (c := 161) rfl rfl ci_132 ci_29 rfl (by omega) (by omega) (fun z33 hz33 => ?_)
      refine h_iload_n (pc' := 44) rfl rfl rfl ?_
      refine h_iadd (pc' := 45) rfl rfl hz33 hx2 rfl (by omega) (by omega) (fun z34 hz34 => ?_)
      refine h_iload_n (pc' := 46) rfl rfl rfl ?_
      refine h_iconst (pc' := 47) (x := (Int32.ofInt 1)) rfl rfl rfl ?_
      refine h_iadd (pc' := 48) rfl rfl hx1 ci_1 rfl (by omega) (by omega) (fun z35 hz35 => ?_)
      refine h_iast (pc' := 49) rfl rfl rfl rfl hz34 (by omega) (by omega) hz35 (h_fgt (E := fun s => s 98 13 = σ 98 13 ∧ s = h_up σ 99 (161 + a2) (a1 + 1)) _ (ip_99_7 hI (by omega) (by omega)) (F00.up (k_ipg (p := 3) rfl rfl (by omega))) ⟨rfl, rfl⟩ (fun s36 Is36 Fs36 (es36 : s36 98 13 = σ 98 13 ∧ s36 = h_up σ 99 (161 + a2) (a1 + 1)) => ?_))
      have us36 := es36.2
      refine h_aload_n (pc' := 50) rfl rfl rfl ?_
      refine h_getR (pc' := 53) rfl rfl rfl rfl rfl ?_
      refine h_iload_n (pc' := 54) rfl rfl rfl ?_
      refine h_bipush (pc' := 56) (x := (Int32.ofInt 32)) rfl rfl cb_32 ?_
      refine h_iadd (pc' := 57) (c := 164) rfl rfl ci_132 ci_32 rfl (by omega) (by omega) (fun z37 hz37 => ?_)
      refine h_iload_n (pc' := 58) rfl rfl rfl ?_
      refine h_iadd (pc' := 59) rfl rfl hz37 hx2 rfl (by omega) (by omega) (fun z38 hz38 => ?_)
      refine h_dup2 (pc' := 60) rfl rfl rfl ?_
      refine h_iald (pc' := 61) (v := s36 99 (164 + a2)) rfl rfl rfl hz38 (by omega) (by omega) rfl (fun z39 hz39 => ?_)
      have tz39 := ty_99_8 Is36 (164 + a2) (by omega)
      refine h_aload_n (pc' := 62) rfl rfl rfl ?_
      refine h_getR (pc' := 65) rfl rfl rfl rfl rfl ?_
      refine h_iload_n (pc' := 66) rfl rfl rfl ?_
      refine h_bipush (pc' := 68) (x := (Int32.ofInt 32)) rfl rfl cb_32 ?_
      refine h_iadd (pc' := 69) (c := 164) rfl rfl ci_132 ci_32 rfl (by omega) (by omega) (fun z40 hz40 => ?_)
      refine h_iload_n (pc' := 70) rfl rfl rfl ?_
      refine h_iadd (pc' := 71) rfl rfl hz40 hx2 rfl (by omega) (by omega) (fun z41 hz41 => ?_)
      refine h_iald (pc' := 72) (v := s36 99 (164 + a2)) rfl rfl rfl hz41 (by omega) (by omega) rfl (fun z42 hz42 => ?_)
      have tz42 := ty_99_8 Is36 (164 + a2) (by omega)
      refine h_sipush (pc' := 75) (x := (Int32.ofInt 999)) rfl rfl cs_999 ?_
      refine h_cge (tg := 82) (pc' := 78) rfl rfl rfl hz42 ci_999 (fun c43 => ?_) (fun c43 => ?_)
      · refine h_iconst (pc' := 83) (x := (Int32.ofInt 0)) rfl rfl rfl ?_
        refine h_iadd (pc' := 84) rfl rfl hz39 ci_0 rfl (by omega) (by omega) (fun z44 hz44 => ?_)
        refine h_iast (pc' := 85) rfl rfl rfl rfl hz38 (by omega) (by omega) hz44 (h_fgt (E := fun s => s 98 13 = σ 98 13 ∧ s = h_up s36 99 (164 + a2) ((s36 99 (164 + a2)) + 0)) _ (ip_99_8 Is36 (by omega) (by omega)) (Fs36.up (k_ipg (p := 3) rfl rfl (by omega))) ⟨es36.1, rfl⟩ (fun s45 Is45 Fs45 (es45 : s45 98 13 = σ 98 13 ∧ s45 = h_up s36 99 (164 + a2) ((s36 99 (164 + a2)) + 0)) => ?_))
        clear es36
        have us45 := es45.2
        refine h_iconst (pc' := 86) (x := (Int32.ofInt 1)) rfl rfl rfl ?_
        exact h_zret rfl rfl ci_1 (by omega) (kk _ _ ci_1 _ Is45 Fs45 (by omega) (by have gm := ps31_0; have gx := h_upd us36 (j := 164 + a2) (by omega); first | (rw [show σ 99 (161 + a2) - 1 = g_orn (σ 99 (161 + a2)) from g_orn_of (by omega)] at gm; exact Or.inl ⟨rfl, g_gm_y gm (by omega), (((h_upf us45).trans (g_set_c (h_upf us36)))).trans (g_set_e (g_set_e rfl (by omega) (by omega)) (by omega) (g_w1n_of (by omega)))⟩) | (rw [show (-4 : Int) = g_orn (σ 99 (161 + a2)) from g_orn_of (by omega)] at gm; exact Or.inl ⟨rfl, g_gm_y gm (by omega), (((h_upf us45).trans (g_set_c (h_upf us36)))).trans (g_set_e (g_set_e rfl (by omega) (by omega)) (by omega) (g_w1n_of (by omega)))⟩)))
      · refine h_iconst (pc' := 79) (x := (Int32.ofInt 1)) rfl rfl rfl ?_
        refine h_goto (pc' := 83) rfl rfl ?_
        refine h_iadd (pc' := 84) rfl rfl hz39 ci_1 rfl (by omega) (by omega) (fun z46 hz46 => ?_)
        refine h_iast (pc' := 85) rfl rfl rfl rfl hz38 (by omega) (by omega) hz46 (h_fgt (E := fun s => s 98 13 = σ 98 13 ∧ s = h_up s36 99 (164 + a2) ((s36 99 (164 + a2)) + 1)) _ (ip_99_8 Is36 (by omega) (by omega)) (Fs36.up (k_ipg (p := 3) rfl rfl (by omega))) ⟨es36.1, rfl⟩ (fun s47 Is47 Fs47 (es47 : s47 98 13 = σ 98 13 ∧ s47 = h_up s36 99 (164 + a2) ((s36 99 (164 + a2)) + 1)) => ?_))
        clear es36
        have us47 := es47.2
        refine h_iconst (pc' := 86) (x := (Int32.ofInt 1)) rfl rfl rfl ?_
        exact h_zret rfl rfl ci_1 (by omega) (kk _ _ ci_1 _ Is47 Fs47 (by omega) (by have gm := ps31_0; have gx := h_upd us36 (j := 164 + a2) (by omega); first | (rw [show σ 99 (161 + a2) - 1 = g_orn (σ 99 (161 + a2)) from g_orn_of (by omega)] at gm; exact Or.inl ⟨rfl, g_gm_y gm (by omega), (((h_upf us47).trans (g_set_c (h_upf us36)))).trans (g_set_e (g_set_e rfl (by omega) (by omega)) (by omega) (g_w1n_of (by omega)))⟩) | (rw [show (-4 : Int) = g_orn (σ 99 (161 + a2)) from g_orn_of (by omega)] at gm; exact Or.inl ⟨rfl, g_gm_y gm (by omega), (((h_upf us47).trans (g_set_c (h_upf us36)))).trans (g_set_e (g_set_e rfl (by omega) (by omega)) (by omega) (g_w1n_of (by omega)))⟩)))
    · refine h_iconst (pc' := 34) (x := (Int32.ofInt 0)) rfl rfl rfl ?_
      exact h_zret rfl rfl ci_0 (by omega) (kk _ _ ci_0 _ hI F00 (by omega) (by have gm := ps31_0; first | (rw [show σ 99 (161 + a2) - 1 = g_orn (σ 99 (161 + a2)) from g_orn_of (by omega)] at gm; exact Or.inr ⟨rfl, g_gm_n gm (by omega), rfl⟩) | (rw [show (-4 : Int) = g_orn (σ 99 (161 + a2)) from g_orn_of (by omega)] at gm; exact Or.inr ⟨rfl, g_gm_n gm (by omega), rfl⟩)))
