/-! A GOING -/
def g_w1n (w : Int) : Int := if w < 999 then w + 1 else 999
def g_orn (v : Int) : Int := if v = 0 then -4 else v - 1
theorem g_go_y {n p l r : Int} {d f : Int → Int} {z x : Int} (h : x = if g_yX n d f p l r = true then 1 else 0) (hz : z = x) (c : ¬ z = 0) : g_yX n d f p l r = true := by
  by_cases y : g_yX n d f p l r = true
  · exact y
  · rw [if_neg y] at h
    exfalso
    omega
theorem g_go_n {n p l r : Int} {d f : Int → Int} {z x : Int} (h : x = if g_yX n d f p l r = true then 1 else 0) (hz : z = x) (c : z = 0) : g_yX n d f p l r = false := by
  by_cases y : g_yX n d f p l r = true
  · rw [if_pos y] at h
    exfalso
    omega
  · exact Bool.eq_false_iff.mpr y
theorem g_gm_y {b : Int} {y : Bool} (h : b = if y = true then 1 else 0) (c : ¬ b = 0) : y = true := by
  by_cases z : y = true
  · exact z
  · rw [if_neg z] at h
    exfalso
    omega
theorem g_gm_n {b : Int} {y : Bool} (h : b = if y = true then 1 else 0) (c : b = 0) : y = false := by
  by_cases z : y = true
  · rw [if_pos z] at h
    exfalso
    omega
  · exact Bool.eq_false_iff.mpr z
theorem g_w1n_of {w v : Int} (h : (w < 999 ∧ v = w + 1) ∨ (999 ≤ w ∧ v = 999)) : v = g_w1n w := by
  unfold g_w1n
  rcases h with c | c
  · rw [if_pos c.1]
    exact c.2
  · rw [if_neg (by omega)]
    exact c.2
theorem g_orn_of {v l : Int} (h : (v = 0 ∧ l = -4) ∨ (¬ v = 0 ∧ l = v - 1)) : l = g_orn v := by
  unfold g_orn
  rcases h with c | c
  · rw [if_pos c.1]
    exact c.2
  · rw [if_neg c.1]
    exact c.2
theorem g_set_e {f f' : Int → Int} {e e' v v' : Int} (h : f = f') (he : e = e') (hv : v = v') : g_set f e v = g_set f' e' v' := by rw [h, he, hv]
def kf_n_good : List Nat := [21503, 22527, 83970, 87039]
set_option maxHeartbeats 100000000 in
set_option maxHeartbeats 100000000 in
theorem n_good {ns : Nat} (σ : h_S) (hI : h_I σ) (x0 : Int32) (a0 : Int) (hx0 : x0.toInt = a0) (ra0 : 0 ≤ a0 ∧ a0 ≤ 5) (x1 : Int32) (a1 : Int) (hx1 : x1.toInt = a1) (ra1 : 0 ≤ a1 ∧ a1 ≤ 2) (pr0 : g_op (σ 10 8) (σ 80) (σ 81) (σ 19) (σ 10 9) 0 (σ 83)) (pr1 : a0 < σ 10 8) (pr2 : a1 < σ 10 9) (pr3 : σ 20 a1 = -4 ∨ (0 ≤ σ 20 a1 ∧ σ 20 a1 < σ 10 8)) {Q : Option Value → h_S → Prop} (kk : ∀ (r : Int32) (b : Int) (hb : r.toInt = b) (τ : h_S), h_I τ → h_F (k_in kf_n_good) τ σ → (0 ≤ b ∧ b ≤ 1) → ((b = 1 ∧ g_yX (σ 10 8) (σ 80) (σ 81) a0 (σ 20 a1) (σ 19 a1) = true ∧ τ 20 = g_set (σ 20) a1 a0 ∧ τ 21 = g_set (σ 21) a1 (g_w1n (σ 21 a1))) ∨ (b = 0 ∧ g_yX (σ 10 8) (σ 80) (σ 81) a0 (σ 20 a1) (σ 19 a1) = false ∧ τ 20 = σ 20 ∧ τ 21 = σ 21)) → Q (some (.int r)) τ) : h_T g_P (g_Y ns) 128 0 [(0, .ref 9), (1, .int x0), (2, .int x1)] [] σ Q := by
  have F00 : h_F (k_in kf_n_good) σ σ := h_F.rf
  have ge0 := tf_10_8 hI
  have ge1 := tf_10_9 hI
  refine h_aload_n (pc' := 1) rfl rfl rfl ?_
  refine h_getR (pc' := 4) rfl rfl rfl rfl rfl ?_
  refine h_aload_n (pc' := 5) rfl rfl rfl ?_
  refine h_getR (pc' := 8) rfl rfl rfl rfl rfl ?_
  refine h_call (sp := false) (pc' := 11) (M := [(0, .ref 82), (1, .ref 10)]) rfl rfl rfl rfl rfl rfl rfl rfl ?_
  refine n_restart_10 _ hI  (fun s2 Is2 Gs2 ps2_0 ps2_1 => h_Kn ?_)
  have Fs2 := (Gs2.mono (B := kf_n_good) rfl).tr F00
  have es2_0 : s2 98 13 = σ 98 13 := (Gs2 98 13 rfl).trans rfl
  refine h_aload_n (pc' := 12) rfl rfl rfl ?_
  refine h_getR (pc' := 15) rfl rfl rfl rfl rfl ?_
  refine h_iload_n (pc' := 16) rfl rfl rfl ?_
  refine h_iload_n (pc' := 17) rfl rfl rfl ?_
  refine h_call (sp := false) (pc' := 20) (M := [(0, .ref 82), (1, .int x0), (2, .int x1)]) rfl rfl rfl rfl rfl rfl rfl rfl ?_
  refine h_aload_n (pc' := 1) rfl rfl rfl ?_
  refine h_getR (pc' := 4) rfl rfl rfl rfl rfl ?_
  refine h_iload_n (pc' := 5) rfl rfl rfl ?_
  refine h_iald (pc' := 6) (v := s2 84 a1) rfl rfl rfl hx1 (by omega) (by omega) rfl (fun z3 hz3 => ?_)
  have tz3 := ty_84 Is2 a1
  refine h_bipush (pc' := 8) (x := (Int32.ofInt (-4))) rfl rfl cb_m4 ?_
  refine h_cne (tg := 16) (pc' := 11) rfl rfl rfl hz3 ci_m4 (fun c4 => ?_) (fun c4 => ?_)
  · refine h_aload_n (pc' := 17) rfl rfl rfl ?_
    refine h_getR (pc' := 20) rfl rfl rfl rfl rfl ?_
    refine h_iload_n (pc' := 21) rfl rfl rfl ?_
    refine h_iald (pc' := 22) (v := s2 84 a1) rfl rfl rfl hx1 (by omega) (by omega) rfl (fun z5 hz5 => ?_)
    have tz5 := ty_84 Is2 a1
    refine h_istore_n (pc' := 23) (M := [(3, .int z5), (0, .ref 82), (1, .int x0), (2, .int x1)]) rfl rfl rfl rfl ?_
    refine h_aload_n (pc' := 24) rfl rfl rfl ?_
    refine h_getR (pc' := 27) rfl rfl rfl rfl rfl ?_
    refine h_iload_n (pc' := 28) rfl rfl rfl ?_
    refine h_bipush (pc' := 30) (x := (Int32.ofInt 7)) rfl rfl cb_7 ?_
    refine h_imul (pc' := 31) rfl rfl hx1 ci_7 rfl (by omega) (by omega) (fun z6 hz6 => ?_)
    refine h_iload_n (pc' := 32) rfl rfl rfl ?_
    refine h_iadd (pc' := 33) rfl rfl hz6 hz5 rfl (by omega) (by omega) (fun z7 hz7 => ?_)
    refine h_iald (pc' := 34) (v := σ 83 ((a1 * 7) + (s2 84 a1))) rfl rfl rfl hz7 (by omega) (by omega) (Fs2 83 _ rfl) (fun z8 hz8 => ?_)
    have tz8 := ty_83 hI ((a1 * 7) + (s2 84 a1))
    refine h_iload_n (pc' := 35) rfl rfl rfl ?_
    refine h_calls (pc' := 38) (M := [(0, .int z8), (1, .int x0)]) rfl rfl rfl rfl rfl rfl ?_
    refine h_iload_n (pc' := 1) rfl rfl rfl ?_
    refine h_iload_n (pc' := 2) rfl rfl rfl ?_
    refine h_ishr (pc' := 3) rfl rfl (fun z9 hz9 => ?_)
    refine h_iconst (pc' := 4) (x := (Int32.ofInt 1)) rfl rfl rfl ?_
    refine h_iand (pc' := 5) rfl rfl (fun z10 hz10 uz10 vz10 => ?_)
    clear uz10
    rw [ci_1] at vz10
    have yz10 := vz10 (by omega)
    refine h_zeq (tg := 12) (pc' := 8) rfl rfl rfl rfl (fun c11 => ?_) (fun c11 => ?_)
    · refine h_iconst (pc' := 13) (x := (Int32.ofInt 0)) rfl rfl rfl ?_
      refine h_zret rfl rfl ci_0 (by omega) (h_Kv ?_)
      refine h_zne (tg := 43) (pc' := 41) rfl rfl rfl ci_0 (fun c12 => absurd c12 (by omega)) (fun c12 => ?_)
      refine h_iconst (pc' := 42) (x := (Int32.ofInt 0)) rfl rfl rfl ?_
      refine h_zret rfl rfl ci_0 (by omega) (h_Kv ?_)
      refine h_zne (tg := 25) (pc' := 23) rfl rfl rfl ci_0 (fun c13 => absurd c13 (by omega)) (fun c13 => ?_)
      refine h_iconst (pc' := 24) (x := (Int32.ofInt 0)) rfl rfl rfl ?_
      exact h_zret rfl rfl ci_0 (by omega) (kk _ _ ci_0 _ Is2 Fs2 (by omega) (by have gq := ps2_1 a1 (by omega) (by omega); have gh := g_adm (p := a0) (g := a1) (l := σ 20 a1) pr0 (by omega) (by omega) (by omega) (by omega) (by omega) (by omega) (by omega) hz8; have gz := g_hb_of hz10 hz9 hx0; first | exact Or.inr ⟨rfl, g_go_n gh gz (by omega), (funext (fun j => Gs2 20 j rfl)), (funext (fun j => Gs2 21 j rfl))⟩ | (exfalso; omega)))
    · refine h_iconst (pc' := 9) (x := (Int32.ofInt 1)) rfl rfl rfl ?_
      refine h_goto (pc' := 13) rfl rfl ?_
      refine h_zret rfl rfl ci_1 (by omega) (h_Kv ?_)
      refine h_zne (tg := 43) (pc' := 41) rfl rfl rfl ci_1 (fun c14 => ?_) (fun c14 => absurd c14 (by omega))
      refine h_aload_n (pc' := 44) rfl rfl rfl ?_
      refine h_getR (pc' := 47) rfl rfl rfl rfl rfl ?_
      refine h_iload_n (pc' := 48) rfl rfl rfl ?_
      refine h_iload_n (pc' := 49) rfl rfl rfl ?_
      refine h_iast (pc' := 50) rfl rfl rfl rfl hx1 (by omega) (by omega) hx0 (h_fgt (E := fun s => s 98 13 = σ 98 13 ∧ s = h_up s2 84 a1 a0) _ (in_84 Is2 (by omega)) (Fs2.up rfl) ⟨es2_0, rfl⟩ (fun s15 Is15 Fs15 (es15 : s15 98 13 = σ 98 13 ∧ s15 = h_up s2 84 a1 a0) => ?_))
      have us15 := es15.2
      refine h_aload_n (pc' := 51) rfl rfl rfl ?_
      refine h_dup (pc' := 52) rfl rfl rfl ?_
      refine h_getI (pc' := 55) (v := s15 82 2) rfl rfl rfl rfl rfl rfl (fun z16 hz16 => ?_)
      have tz16 := tf_82_2 Is15
      refine h_iconst (pc' := 56) (x := (Int32.ofInt 1)) rfl rfl rfl ?_
      refine h_iload_n (pc' := 57) rfl rfl rfl ?_
      refine h_shl1 (pc' := 58) rfl rfl ci_1 hx0 (by omega) (by omega) (fun z17 hz17 vz17 => ?_)
      refine h_ior (pc' := 59) rfl rfl (fun z18 hz18 => ?_)
      refine h_put (pc' := 62) rfl rfl rfl rfl rfl rfl rfl rfl (h_fgt (E := fun s => s 98 13 = σ 98 13 ∧ s = h_up s15 82 2 z18.toInt) _ (if_82_2 Is15 (h_rgv rfl)) (Fs15.up rfl) ⟨es15.1, rfl⟩ (fun s19 Is19 Fs19 (es19 : s19 98 13 = σ 98 13 ∧ s19 = h_up s15 82 2 z18.toInt) => ?_))
      clear es15
      have us19 := es19.2
      refine h_iconst (pc' := 63) (x := (Int32.ofInt 1)) rfl rfl rfl ?_
      refine h_zret rfl rfl ci_1 (by omega) (h_Kv ?_)
      refine h_zne (tg := 25) (pc' := 23) rfl rfl rfl ci_1 (fun c20 => ?_) (fun c20 => absurd c20 (by omega))
      refine h_aload_n (pc' := 26) rfl rfl rfl ?_
      refine h_getR (pc' := 29) rfl rfl rfl rfl rfl ?_
      refine h_iload_n (pc' := 30) rfl rfl rfl ?_
      refine h_iload_n (pc' := 31) rfl rfl rfl ?_
      refine h_call (sp := false) (pc' := 34) (M := [(0, .ref 10), (1, .int x0), (2, .int x1)]) rfl rfl rfl rfl rfl rfl rfl rfl ?_
      refine h_aload_n (pc' := 1) rfl rfl rfl ?_
      refine h_iload_n (pc' := 2) rfl rfl rfl ?_
      refine h_call (sp := false) (pc' := 5) (M := [(0, .ref 10), (1, .int x0)]) rfl rfl rfl rfl rfl rfl rfl rfl ?_
      refine h_iload_n (pc' := 1) rfl rfl rfl ?_
      refine h_zlt (tg := 16) (pc' := 4) rfl rfl rfl hx0 (fun c21 => absurd c21 (by omega)) (fun c21 => ?_)
      refine h_iload_n (pc' := 5) rfl rfl rfl ?_
      refine h_aload_n (pc' := 6) rfl rfl rfl ?_
      refine h_getI (pc' := 9) (v := σ 10 8) rfl rfl rfl rfl rfl (Fs19 10 8 rfl) (fun z22 hz22 => ?_)
      have tz22 := tf_10_8 hI
      refine h_cge (tg := 16) (pc' := 12) rfl rfl rfl hx0 hz22 (fun c23 => ?_) (fun c23 => ?_)
      · refine h_iconst (pc' := 17) (x := (Int32.ofInt 0)) rfl rfl rfl ?_
        refine h_zret rfl rfl ci_0 (by omega) (h_Kv ?_)
        refine h_zeq (tg := 43) (pc' := 8) rfl rfl rfl ci_0 (fun c24 => ?_) (fun c24 => absurd c24 (by omega))
        refine h_vret rfl rfl (h_Kn ?_)
        refine h_iconst (pc' := 35) (x := (Int32.ofInt 1)) rfl rfl rfl ?_
        exact h_zret rfl rfl ci_1 (by omega) (kk _ _ ci_1 _ Is19 Fs19 (by omega) (by have gq := ps2_1 a1 (by omega) (by omega); have gh := g_adm (p := a0) (g := a1) (l := σ 20 a1) pr0 (by omega) (by omega) (by omega) (by omega) (by omega) (by omega) (by omega) hz8; have gz := g_hb_of hz10 hz9 hx0; first | exact Or.inr ⟨rfl, g_go_n gh gz (by omega), ((h_upg us19 rfl).trans ((h_upg us15 rfl).trans (funext (fun j => Gs2 20 j rfl)))), ((h_upg us19 rfl).trans ((h_upg us15 rfl).trans (funext (fun j => Gs2 21 j rfl))))⟩ | (exfalso; omega)))
      · refine h_iconst (pc' := 13) (x := (Int32.ofInt 1)) rfl rfl rfl ?_
        refine h_goto (pc' := 17) rfl rfl ?_
        refine h_zret rfl rfl ci_1 (by omega) (h_Kv ?_)
        refine h_zeq (tg := 43) (pc' := 8) rfl rfl rfl ci_1 (fun c25 => absurd c25 (by omega)) (fun c25 => ?_)
        refine h_aload_n (pc' := 9) rfl rfl rfl ?_
        refine h_iload_n (pc' := 10) rfl rfl rfl ?_
        refine h_call (sp := false) (pc' := 13) (M := [(0, .ref 10), (1, .int x1)]) rfl rfl rfl rfl rfl rfl rfl rfl ?_
        refine h_iload_n (pc' := 1) rfl rfl rfl ?_
        refine h_zlt (tg := 16) (pc' := 4) rfl rfl rfl hx1 (fun c26 => absurd c26 (by omega)) (fun c26 => ?_)
        refine h_iload_n (pc' := 5) rfl rfl rfl ?_
        refine h_aload_n (pc' := 6) rfl rfl rfl ?_
        refine h_getI (pc' := 9) (v := σ 10 9) rfl rfl rfl rfl rfl (Fs19 10 9 rfl) (fun z27 hz27 => ?_)
        have tz27 := tf_10_9 hI
        refine h_cge (tg := 16) (pc' := 12) rfl rfl rfl hx1 hz27 (fun c28 => ?_) (fun c28 => ?_)
        · refine h_iconst (pc' := 17) (x := (Int32.ofInt 0)) rfl rfl rfl ?_
          refine h_zret rfl rfl ci_0 (by omega) (h_Kv ?_)
          refine h_zeq (tg := 43) (pc' := 16) rfl rfl rfl ci_0 (fun c29 => ?_) (fun c29 => absurd c29 (by omega))
          refine h_vret rfl rfl (h_Kn ?_)
          refine h_iconst (pc' := 35) (x := (Int32.ofInt 1)) rfl rfl rfl ?_
          exact h_zret rfl rfl ci_1 (by omega) (kk _ _ ci_1 _ Is19 Fs19 (by omega) (by have gq := ps2_1 a1 (by omega) (by omega); have gh := g_adm (p := a0) (g := a1) (l := σ 20 a1) pr0 (by omega) (by omega) (by omega) (by omega) (by omega) (by omega) (by omega) hz8; have gz := g_hb_of hz10 hz9 hx0; first | exact Or.inr ⟨rfl, g_go_n gh gz (by omega), ((h_upg us19 rfl).trans ((h_upg us15 rfl).trans (funext (fun j => Gs2 20 j rfl)))), ((h_upg us19 rfl).trans ((h_upg us15 rfl).trans (funext (fun j => Gs2 21 j rfl))))⟩ | (exfalso; omega)))
        · refine h_iconst (pc' := 13) (x := (Int32.ofInt 1)) rfl rfl rfl ?_
          refine h_goto (pc' := 17) rfl rfl ?_
          refine h_zret rfl rfl ci_1 (by omega) (h_Kv ?_)
          refine h_zeq (tg := 43) (pc' := 16) rfl rfl rfl ci_1 (fun c30 => absurd c30 (by omega)) (fun c30 => ?_)
          refine h_aload_n (pc' := 17) rfl rfl rfl ?_
          refine h_getR (pc' := 20) rfl rfl rfl rfl rfl ?_
          refine h_iload_n (pc' := 21) rfl rfl rfl ?_
          refine h_iload_n (pc' := 22) rfl rfl rfl ?_
          refine h_iast (pc' := 23) rfl rfl rfl rfl hx1 (by omega) (by omega) hx0 (h_fgt (E := fun s => s 98 13 = σ 98 13 ∧ s = h_up s19 20 a1 a0) _ (in_20 Is19 (by omega)) (Fs19.up rfl) ⟨es19.1, rfl⟩ (fun s31 Is31 Fs31 (es31 : s31 98 13 = σ 98 13 ∧ s31 = h_up s19 20 a1 a0) => ?_))
          clear es19
          have us31 := es31.2
          refine h_aload_n (pc' := 24) rfl rfl rfl ?_
          refine h_getR (pc' := 27) rfl rfl rfl rfl rfl ?_
          refine h_iload_n (pc' := 28) rfl rfl rfl ?_
          refine h_sipush (pc' := 31) (x := (Int32.ofInt 999)) rfl rfl cs_999 ?_
          refine h_aload_n (pc' := 32) rfl rfl rfl ?_
          refine h_getR (pc' := 35) rfl rfl rfl rfl rfl ?_
          refine h_iload_n (pc' := 36) rfl rfl rfl ?_
          refine h_iald (pc' := 37) (v := s31 21 a1) rfl rfl rfl hx1 (by omega) (by omega) rfl (fun z32 hz32 => ?_)
          have tz32 := ty_21 Is31 a1
          refine h_iconst (pc' := 38) (x := (Int32.ofInt 1)) rfl rfl rfl ?_
          refine h_iadd (pc' := 39) rfl rfl hz32 ci_1 rfl (by omega) (by omega) (fun z33 hz33 => ?_)
          refine h_min (pc' := 42) rfl rfl rfl rfl rfl ci_999 hz33 (fun z34 hz34 => ?_)
          refine h_iast (pc' := 43) rfl rfl rfl rfl hx1 (by omega) (by omega) rfl (h_fgt (E := fun s => s 98 13 = σ 98 13 ∧ s = h_up s31 21 a1 z34.toInt) _ (in_21 Is31 (by omega)) (Fs31.up rfl) ⟨es31.1, rfl⟩ (fun s35 Is35 Fs35 (es35 : s35 98 13 = σ 98 13 ∧ s35 = h_up s31 21 a1 z34.toInt) => ?_))
          clear es31
          have us35 := es35.2
          refine h_vret rfl rfl (h_Kn ?_)
          refine h_iconst (pc' := 35) (x := (Int32.ofInt 1)) rfl rfl rfl ?_
          exact h_zret rfl rfl ci_1 (by omega) (kk _ _ ci_1 _ Is35 Fs35 (by omega) (by have gq := ps2_1 a1 (by omega) (by omega); have gh := g_adm (p := a0) (g := a1) (l := σ 20 a1) pr0 (by omega) (by omega) (by omega) (by omega) (by omega) (by omega) (by omega) hz8; have gz := g_hb_of hz10 hz9 hx0; have gx : s31 21 a1 = σ 21 a1 := congrFun ((h_upg us31 rfl).trans ((h_upg us19 rfl).trans ((h_upg us15 rfl).trans (funext (fun j => Gs2 21 j rfl))))) a1; have gt := ty_21 hI a1; exact Or.inl ⟨rfl, g_go_y gh gz (by omega), ((h_upg us35 rfl).trans ((h_upf us31).trans (g_set_c ((h_upg us19 rfl).trans ((h_upg us15 rfl).trans (funext (fun j => Gs2 20 j rfl))))))), (((h_upf us35).trans (g_set_c ((h_upg us31 rfl).trans ((h_upg us19 rfl).trans ((h_upg us15 rfl).trans (funext (fun j => Gs2 21 j rfl)))))))).trans (g_set_e rfl rfl (g_w1n_of (by omega)))⟩))
  · refine h_bipush (pc' := 13) (x := (Int32.ofInt 6)) rfl rfl cb_6 ?_
    refine h_goto (pc' := 22) rfl rfl ?_
    refine h_istore_n (pc' := 23) (M := [(3, .int (Int32.ofInt 6)), (0, .ref 82), (1, .int x0), (2, .int x1)]) rfl rfl rfl rfl ?_
    refine h_aload_n (pc' := 24) rfl rfl rfl ?_
    refine h_getR (pc' := 27) rfl rfl rfl rfl rfl ?_
    refine h_iload_n (pc' := 28) rfl rfl rfl ?_
    refine h_bipush (pc' := 30) (x := (Int32.ofInt 7)) rfl rfl cb_7 ?_
    refine h_imul (pc' := 31) rfl rfl hx1 ci_7 rfl (by omega) (by omega) (fun z36 hz36 => ?_)
    refine h_iload_n (pc' := 32) rfl rfl rfl ?_
    refine h_iadd (pc' := 33) rfl rfl hz36 ci_6 rfl (by omega) (by omega) (fun z37 hz37 => ?_)
    refine h_iald (pc' := 34) (v := σ 83 ((a1 * 7) + 6)) rfl rfl rfl hz37 (by omega) (by omega) (Fs2 83 _ rfl) (fun z38 hz38 => ?_)
    have tz38 := ty_83 hI ((a1 * 7) + 6)
    refine h_iload_n (pc' := 35) rfl rfl rfl ?_
    refine h_calls (pc' := 38) (M := [(0, .int z38), (1, .int x0)]) rfl rfl rfl rfl rfl rfl ?_
    refine h_iload_n (pc' := 1) rfl rfl rfl ?_
    refine h_iload_n (pc' := 2) rfl rfl rfl ?_
    refine h_ishr (pc' := 3) rfl rfl (fun z39 hz39 => ?_)
    refine h_iconst (pc' := 4) (x := (Int32.ofInt 1)) rfl rfl rfl ?_
    refine h_iand (pc' := 5) rfl rfl (fun z40 hz40 uz40 vz40 => ?_)
    clear uz40
    rw [ci_1] at vz40
    have yz40 := vz40 (by omega)
    refine h_zeq (tg := 12) (pc' := 8) rfl rfl rfl rfl (fun c41 => ?_) (fun c41 => ?_)
    · refine h_iconst (pc' := 13) (x := (Int32.ofInt 0)) rfl rfl rfl ?_
      refine h_zret rfl rfl ci_0 (by omega) (h_Kv ?_)
      refine h_zne (tg := 43) (pc' := 41) rfl rfl rfl ci_0 (fun c42 => absurd c42 (by omega)) (fun c42 => ?_)
      refine h_iconst (pc' := 42) (x := (Int32.ofInt 0)) rfl rfl rfl ?_
      refine h_zret rfl rfl ci_0 (by omega) (h_Kv ?_)
      refine h_zne (tg := 25) (pc' := 23) rfl rfl rfl ci_0 (fun c43 => absurd c43 (by omega)) (fun c43 => ?_)
      refine h_iconst (pc' := 24) (x := (Int32.ofInt 0)) rfl rfl rfl ?_
      exact h_zret rfl rfl ci_0 (by omega) (kk _ _ ci_0 _ Is2 Fs2 (by omega) (by have gq := ps2_1 a1 (by omega) (by omega); have gh := g_adm (p := a0) (g := a1) (l := σ 20 a1) pr0 (by omega) (by omega) (by omega) (by omega) (by omega) (by omega) (by omega) hz38; have gz := g_hb_of hz40 hz39 hx0; first | exact Or.inr ⟨rfl, g_go_n gh gz (by omega), (funext (fun j => Gs2 20 j rfl)), (funext (fun j => Gs2 21 j rfl))⟩ | (exfalso; omega)))
    · refine h_iconst (pc' := 9) (x := (Int32.ofInt 1)) rfl rfl rfl ?_
      refine h_goto (pc' := 13) rfl rfl ?_
      refine h_zret rfl rfl ci_1 (by omega) (h_Kv ?_)
      refine h_zne (tg := 43) (pc' := 41) rfl rfl rfl ci_1 (fun c44 => ?_) (fun c44 => absurd c44 (by omega))
      refine h_aload_n (pc' := 44) rfl rfl rfl ?_
      refine h_getR (pc' := 47) rfl rfl rfl rfl rfl ?_
      refine h_iload_n (pc' := 48) rfl rfl rfl ?_
      refine h_iload_n (pc' := 49) rfl rfl rfl ?_
      refine h_iast (pc' := 50) rfl rfl rfl rfl hx1 (by omega) (by omega) hx0 (h_fgt (E := fun s => s 98 13 = σ 98 13 ∧ s = h_up s2 84 a1 a0) _ (in_84 Is2 (by omega)) (Fs2.up rfl) ⟨es2_0, rfl⟩ (fun s45 Is45 Fs45 (es45 : s45 98 13 = σ 98 13 ∧ s45 = h_up s2 84 a1 a0) => ?_))
      have us45 := es45.2
      refine h_aload_n (pc' := 51) rfl rfl rfl ?_
      refine h_dup (pc' := 52) rfl rfl rfl ?_
      refine h_getI (pc' := 55) (v := s45 82 2) rfl rfl rfl rfl rfl rfl (fun z46 hz46 => ?_)
      have tz46 := tf_82_2 Is45
      refine h_iconst (pc' := 56) (x := (Int32.ofInt 1)) rfl rfl rfl ?_
      refine h_iload_n (pc' := 57) rfl rfl rfl ?_
      refine h_shl1 (pc' := 58) rfl rfl ci_1 hx0 (by omega) (by omega) (fun z47 hz47 vz47 => ?_)
      refine h_ior (pc' := 59) rfl rfl (fun z48 hz48 => ?_)
      refine h_put (pc' := 62) rfl rfl rfl rfl rfl rfl rfl rfl (h_fgt (E := fun s => s 98 13 = σ 98 13 ∧ s = h_up s45 82 2 z48.toInt) _ (if_82_2 Is45 (h_rgv rfl)) (Fs45.up rfl) ⟨es45.1, rfl⟩ (fun s49 Is49 Fs49 (es49 : s49 98 13 = σ 98 13 ∧ s49 = h_up s45 82 2 z48.toInt) => ?_))
      clear es45
      have us49 := es49.2
      refine h_iconst (pc' := 63) (x := (Int32.ofInt 1)) rfl rfl rfl ?_
      refine h_zret rfl rfl ci_1 (by omega) (h_Kv ?_)
      refine h_zne (tg := 25) (pc' := 23) rfl rfl rfl ci_1 (fun c50 => ?_) (fun c50 => absurd c50 (by omega))
      refine h_aload_n (pc' := 26) rfl rfl rfl ?_
      refine h_getR (pc' := 29) rfl rfl rfl rfl rfl ?_
      refine h_iload_n (pc' := 30) rfl rfl rfl ?_
      refine h_iload_n (pc' := 31) rfl rfl rfl ?_
      refine h_call (sp := false) (pc' := 34) (M := [(0, .ref 10), (1, .int x0), (2, .int x1)]) rfl rfl rfl rfl rfl rfl rfl rfl ?_
      refine h_aload_n (pc' := 1) rfl rfl rfl ?_
      refine h_iload_n (pc' := 2) rfl rfl rfl ?_
      refine h_call (sp := false) (pc' := 5) (M := [(0, .ref 10), (1, .int x0)]) rfl rfl rfl rfl rfl rfl rfl rfl ?_
      refine h_iload_n (pc' := 1) rfl rfl rfl ?_
      refine h_zlt (tg := 16) (pc' := 4) rfl rfl rfl hx0 (fun c51 => absurd c51 (by omega)) (fun c51 => ?_)
      refine h_iload_n (pc' := 5) rfl rfl rfl ?_
      refine h_aload_n (pc' := 6) rfl rfl rfl ?_
      refine h_getI (pc' := 9) (v := σ 10 8) rfl rfl rfl rfl rfl (Fs49 10 8 rfl) (fun z52 hz52 => ?_)
      have tz52 := tf_10_8 hI
      refine h_cge (tg := 16) (pc' := 12) rfl rfl rfl hx0 hz52 (fun c53 => ?_) (fun c53 => ?_)
      · refine h_iconst (pc' := 17) (x := (Int32.ofInt 0)) rfl rfl rfl ?_
        refine h_zret rfl rfl ci_0 (by omega) (h_Kv ?_)
        refine h_zeq (tg := 43) (pc' := 8) rfl rfl rfl ci_0 (fun c54 => ?_) (fun c54 => absurd c54 (by omega))
        refine h_vret rfl rfl (h_Kn ?_)
        refine h_iconst (pc' := 35) (x := (Int32.ofInt 1)) rfl rfl rfl ?_
        exact h_zret rfl rfl ci_1 (by omega) (kk _ _ ci_1 _ Is49 Fs49 (by omega) (by have gq := ps2_1 a1 (by omega) (by omega); have gh := g_adm (p := a0) (g := a1) (l := σ 20 a1) pr0 (by omega) (by omega) (by omega) (by omega) (by omega) (by omega) (by omega) hz38; have gz := g_hb_of hz40 hz39 hx0; first | exact Or.inr ⟨rfl, g_go_n gh gz (by omega), ((h_upg us49 rfl).trans ((h_upg us45 rfl).trans (funext (fun j => Gs2 20 j rfl)))), ((h_upg us49 rfl).trans ((h_upg us45 rfl).trans (funext (fun j => Gs2 21 j rfl))))⟩ | (exfalso; omega)))
      · refine h_iconst (pc' := 13) (x := (Int32.ofInt 1)) rfl rfl rfl ?_
        refine h_goto (pc' := 17) rfl rfl ?_
        refine h_zret rfl rfl ci_1 (by omega) (h_Kv ?_)
        refine h_zeq (tg := 43) (pc' := 8) rfl rfl rfl ci_1 (fun c55 => absurd c55 (by omega)) (fun c55 => ?_)
        refine h_aload_n (pc' := 9) rfl rfl rfl ?_
        refine h_iload_n (pc' := 10) rfl rfl rfl ?_
        refine h_call (sp := false) (pc' := 13) (M := [(0, .ref 10), (1, .int x1)]) rfl rfl rfl rfl rfl rfl rfl rfl ?_
        refine h_iload_n (pc' := 1) rfl rfl rfl ?_
        refine h_zlt (tg := 16) (pc' := 4) rfl rfl rfl hx1 (fun c56 => absurd c56 (by omega)) (fun c56 => ?_)
        refine h_iload_n (pc' := 5) rfl rfl rfl ?_
        refine h_aload_n (pc' := 6) rfl rfl rfl ?_
        refine h_getI (pc' := 9) (v := σ 10 9) rfl rfl rfl rfl rfl (Fs49 10 9 rfl) (fun z57 hz57 => ?_)
        have tz57 := tf_10_9 hI
        refine h_cge (tg := 16) (pc' := 12) rfl rfl rfl hx1 hz57 (fun c58 => ?_) (fun c58 => ?_)
        · refine h_iconst (pc' := 17) (x := (Int32.ofInt 0)) rfl rfl rfl ?_
          refine h_zret rfl rfl ci_0 (by omega) (h_Kv ?_)
          refine h_zeq (tg := 43) (pc' := 16) rfl rfl rfl ci_0 (fun c59 => ?_) (fun c59 => absurd c59 (by omega))
          refine h_vret rfl rfl (h_Kn ?_)
          refine h_iconst (pc' := 35) (x := (Int32.ofInt 1)) rfl rfl rfl ?_
          exact h_zret rfl rfl ci_1 (by omega) (kk _ _ ci_1 _ Is49 Fs49 (by omega) (by have gq := ps2_1 a1 (by omega) (by omega); have gh := g_adm (p := a0) (g := a1) (l := σ 20 a1) pr0 (by omega) (by omega) (by omega) (by omega) (by omega) (by omega) (by omega) hz38; have gz := g_hb_of hz40 hz39 hx0; first | exact Or.inr ⟨rfl, g_go_n gh gz (by omega), ((h_upg us49 rfl).trans ((h_upg us45 rfl).trans (funext (fun j => Gs2 20 j rfl)))), ((h_upg us49 rfl).trans ((h_upg us45 rfl).trans (funext (fun j => Gs2 21 j rfl))))⟩ | (exfalso; omega)))
        · refine h_iconst (pc' := 13) (x := (Int32.ofInt 1)) rfl rfl rfl ?_
          refine h_goto (pc' := 17) rfl rfl ?_
          refine h_zret rfl rfl ci_1 (by omega) (h_Kv ?_)
          refine h_zeq (tg := 43) (pc' := 16) rfl rfl rfl ci_1 (fun c60 => absurd c60 (by omega)) (fun c60 => ?_)
          refine h_aload_n (pc' := 17) rfl rfl rfl ?_
          refine h_getR (pc' := 20) rfl rfl rfl rfl rfl ?_
          refine h_iload_n (pc' := 21) rfl rfl rfl ?_
          refine h_iload_n (pc' := 22) rfl rfl rfl ?_
          refine h_iast (pc' := 23) rfl rfl rfl rfl hx1 (by omega) (by omega) hx0 (h_fgt (E := fun s => s 98 13 = σ 98 13 ∧ s = h_up s49 20 a1 a0) _ (in_20 Is49 (by omega)) (Fs49.up rfl) ⟨es49.1, rfl⟩ (fun s61 Is61 Fs61 (es61 : s61 98 13 = σ 98 13 ∧ s61 = h_up s49 20 a1 a0) => ?_))
          clear es49
          have us61 := es61.2
          refine h_aload_n (pc' := 24) rfl rfl rfl ?_
          refine h_getR (pc' := 27) rfl rfl rfl rfl rfl ?_
          refine h_iload_n (pc' := 28) rfl rfl rfl ?_
          refine h_sipush (pc' := 31) (x := (Int32.ofInt 999)) rfl rfl cs_999 ?_
          refine h_aload_n (pc' := 32) rfl rfl rfl ?_
          refine h_getR (pc' := 35) rfl rfl rfl rfl rfl ?_
          refine h_iload_n (pc' := 36) rfl rfl rfl ?_
          refine h_iald (pc' := 37) (v := s61 21 a1) rfl rfl rfl hx1 (by omega) (by omega) rfl (fun z62 hz62 => ?_)
          have tz62 := ty_21 Is61 a1
          refine h_iconst (pc' := 38) (x := (Int32.ofInt 1)) rfl rfl rfl ?_
          refine h_iadd (pc' := 39) rfl rfl hz62 ci_1 rfl (by omega) (by omega) (fun z63 hz63 => ?_)
          refine h_min (pc' := 42) rfl rfl rfl rfl rfl ci_999 hz63 (fun z64 hz64 => ?_)
          refine h_iast (pc' := 43) rfl rfl rfl rfl hx1 (by omega) (by omega) rfl (h_fgt (E := fun s => s 98 13 = σ 98 13 ∧ s = h_up s61 21 a1 z64.toInt) _ (in_21 Is61 (by omega)) (Fs61.up rfl) ⟨es61.1, rfl⟩ (fun s65 Is65 Fs65 (es65 : s65 98 13 = σ 98 13 ∧ s65 = h_up s61 21 a1 z64.toInt) => ?_))
          clear es61
          have us65 := es65.2
          refine h_vret rfl rfl (h_Kn ?_)
          refine h_iconst (pc' := 35) (x := (Int32.ofInt 1)) rfl rfl rfl ?_
          exact h_zret rfl rfl ci_1 (by omega) (kk _ _ ci_1 _ Is65 Fs65 (by omega) (by have gq := ps2_1 a1 (by omega) (by omega); have gh := g_adm (p := a0) (g := a1) (l := σ 20 a1) pr0 (by omega) (by omega) (by omega) (by omega) (by omega) (by omega) (by omega) hz38; have gz := g_hb_of hz40 hz39 hx0; have gx : s61 21 a1 = σ 21 a1 := congrFun ((h_upg us61 rfl).trans ((h_upg us49 rfl).trans ((h_upg us45 rfl).trans (funext (fun j => Gs2 21 j rfl))))) a1; have gt := ty_21 hI a1; exact Or.inl ⟨rfl, g_go_y gh gz (by omega), ((h_upg us65 rfl).trans ((h_upf us61).trans (g_set_c ((h_upg us49 rfl).trans ((h_upg us45 rfl).trans (funext (fun j => Gs2 20 j rfl))))))), (((h_upf us65).trans (g_set_c ((h_upg us61 rfl).trans ((h_upg us49 rfl).trans ((h_upg us45 rfl).trans (funext (fun j => Gs2 21 j rfl)))))))).trans (g_set_e rfl rfl (g_w1n_of (by omega)))⟩))
def kf_n_goesOn0 : List Nat := [101903, 101904]
set_option maxHeartbeats 100000000 in
set_option maxHeartbeats 100000000 in
theorem n_goesOn0 {ns : Nat} (σ : h_S) (hI : h_I σ) (x1 : Int32) (a1 : Int) (hx1 : x1.toInt = a1) (ra1 : 0 ≤ a1 ∧ a1 ≤ 5) (x2 : Int32) (a2 : Int) (hx2 : x2.toInt = a2) (ra2 : 0 ≤ a2 ∧ a2 ≤ 2) {Q : Option Value → h_S → Prop} (kk : ∀ (r : Int32) (b : Int) (hb : r.toInt = b) (τ : h_S), h_I τ → h_F (k_in kf_n_goesOn0) τ σ → (0 ≤ b ∧ b ≤ 1) → ((b = 1 ∧ g_yM (σ 105) (fun i => σ 99 (19 + 2 * i)) (fun i => σ 99 (19 + 2 * i + 1)) (σ 99 25) a1 (g_orn (σ 99 (29 + a2))) (σ 99 (26 + a2)) = true ∧ τ 99 = g_set (g_set (σ 99) (29 + a2) (a1 + 1)) (32 + a2) (g_w1n (σ 99 (32 + a2)))) ∨ (b = 0 ∧ g_yM (σ 105) (fun i => σ 99 (19 + 2 * i)) (fun i => σ 99 (19 + 2 * i + 1)) (σ 99 25) a1 (g_orn (σ 99 (29 + a2))) (σ 99 (26 + a2)) = false ∧ τ 99 = σ 99)) → Q (some (.int r)) τ) : h_T g_P (g_Y ns) 187 0 [(0, .ref 98), (1, .int (Int32.ofInt 0)), (2, .int x1), (3, .int x2)] [] σ Q := by
  have F00 : h_F (k_in kf_n_goesOn0) σ σ := h_F.rf
  refine h_aload_n (pc' := 1) rfl rfl rfl ?_
  refine h_iload_n (pc' := 2) rfl rfl rfl ?_
  refine h_aload_n (pc' := 3) rfl rfl rfl ?_
  refine h_getR (pc' := 6) rfl rfl rfl rfl rfl ?_
  refine h_iload_n (pc' := 7) rfl rfl rfl ?_
  refine h_bipush (pc' := 9) (x := (Int32.ofInt 29)) rfl rfl cb_29 ?_
  refine h_iadd (pc' := 10) (c := 29) rfl rfl ci_0 ci_29 rfl (by omega) (by omega) (fun z1 hz1 => ?_)
  refine h_iload_n (pc' := 11) rfl rfl rfl ?_
  refine h_iadd (pc' := 12) rfl rfl hz1 hx2 rfl (by omega) (by omega) (fun z2 hz2 => ?_)
  refine h_iald (pc' := 13) (v := σ 99 (29 + a2)) rfl rfl rfl hz2 (by omega) (by omega) rfl (fun z3 hz3 => ?_)
  have tz3 := ty_99_7 hI (29 + a2) (by omega)
  refine h_calls (pc' := 16) (M := [(0, .int z3)]) rfl rfl rfl rfl rfl rfl ?_
  refine h_iload_n (pc' := 1) rfl rfl rfl ?_
  refine h_zne (tg := 9) (pc' := 4) rfl rfl rfl hz3 (fun c4 => ?_) (fun c4 => ?_)
  · refine h_iload_n (pc' := 10) rfl rfl rfl ?_
    refine h_iconst (pc' := 11) (x := (Int32.ofInt 1)) rfl rfl rfl ?_
    refine h_isub (pc' := 12) rfl rfl hz3 ci_1 rfl (by omega) (by omega) (fun z5 hz5 => ?_)
    refine h_iret rfl rfl (h_Kv ?_)
    refine h_aload_n (pc' := 17) rfl rfl rfl ?_
    refine h_getR (pc' := 20) rfl rfl rfl rfl rfl ?_
    refine h_iload_n (pc' := 21) rfl rfl rfl ?_
    refine h_bipush (pc' := 23) (x := (Int32.ofInt 26)) rfl rfl cb_26 ?_
    refine h_iadd (pc' := 24) (c := 26) rfl rfl ci_0 ci_26 rfl (by omega) (by omega) (fun z6 hz6 => ?_)
    refine h_iload_n (pc' := 25) rfl rfl rfl ?_
    refine h_iadd (pc' := 26) rfl rfl hz6 hx2 rfl (by omega) (by omega) (fun z7 hz7 => ?_)
    refine h_iald (pc' := 27) (v := σ 99 (26 + a2)) rfl rfl rfl hz7 (by omega) (by omega) rfl (fun z8 hz8 => ?_)
    have tz8 := ty_99_6 hI (26 + a2) (by omega)
    refine h_call (sp := false) (pc' := 30) (M := [(0, .ref 98), (1, .int x1), (2, .int z5), (3, .int z8)]) rfl rfl rfl rfl rfl rfl rfl rfl ?_
    refine n_may _ hI x1 _ hx1 (by omega) z5 _ hz5 (by omega) z8 _ hz8 (fun r9 br9 hr9 tr9 ps10_0 => h_Kv ?_)
    refine h_zne (tg := 35) (pc' := 33) rfl rfl rfl hr9 (fun c11 => ?_) (fun c11 => ?_)
    · refine h_aload_n (pc' := 36) rfl rfl rfl ?_
      refine h_getR (pc' := 39) rfl rfl rfl rfl rfl ?_
      refine h_iload_n (pc' := 40) rfl rfl rfl ?_
      refine h_bipush (pc' := 42) (x := (Int32.ofInt 29)) rfl rfl cb_29 ?_
      refine h_iadd (pc' := 43) (c := 29) rfl rfl ci_0 ci_29 rfl (by omega) (by omega) (fun z12 hz12 => ?_)
      refine h_iload_n (pc' := 44) rfl rfl rfl ?_
      refine h_iadd (pc' := 45) rfl rfl hz12 hx2 rfl (by omega) (by omega) (fun z13 hz13 => ?_)
      refine h_iload_n (pc' := 46) rfl rfl rfl ?_
      refine h_iconst (pc' := 47) (x := (Int32.ofInt 1)) rfl rfl rfl ?_
      refine h_iadd (pc' := 48) rfl rfl hx1 ci_1 rfl (by omega) (by omega) (fun z14 hz14 => ?_)
      refine h_iast (pc' := 49) rfl rfl rfl rfl hz13 (by omega) (by omega) hz14 (h_fgt (E := fun s => s 98 13 = σ 98 13 ∧ s = h_up σ 99 (29 + a2) (a1 + 1)) _ (ip_99_7 hI (by omega) (by omega)) (F00.up (k_is7 rfl (by omega))) ⟨rfl, rfl⟩ (fun s15 Is15 Fs15 (es15 : s15 98 13 = σ 98 13 ∧ s15 = h_up σ 99 (29 + a2) (a1 + 1)) => ?_))
      have us15 := es15.2
      refine h_aload_n (pc' := 50) rfl rfl rfl ?_
      refine h_getR (pc' := 53) rfl rfl rfl rfl rfl ?_
      refine h_iload_n (pc' := 54) rfl rfl rfl ?_
      refine h_bipush (pc' := 56) (x := (Int32.ofInt 32)) rfl rfl cb_32 ?_
      refine h_iadd (pc' := 57) (c := 32) rfl rfl ci_0 ci_32 rfl (by omega) (by omega) (fun z16 hz16 => ?_)
      refine h_iload_n (pc' := 58) rfl rfl rfl ?_
      refine h_iadd (pc' := 59) rfl rfl hz16 hx2 rfl (by omega) (by omega) (fun z17 hz17 => ?_)
      refine h_dup2 (pc' := 60) rfl rfl rfl ?_
      refine h_iald (pc' := 61) (v := s15 99 (32 + a2)) rfl rfl rfl hz17 (by omega) (by omega) rfl (fun z18 hz18 => ?_)
      have tz18 := ty_99_8 Is15 (32 + a2) (by omega)
      refine h_aload_n (pc' := 62) rfl rfl rfl ?_
      refine h_getR (pc' := 65) rfl rfl rfl rfl rfl ?_
      refine h_iload_n (pc' := 66) rfl rfl rfl ?_
      refine h_bipush (pc' := 68) (x := (Int32.ofInt 32)) rfl rfl cb_32 ?_
      refine h_iadd (pc' := 69) (c := 32) rfl rfl ci_0 ci_32 rfl (by omega) (by omega) (fun z19 hz19 => ?_)
      refine h_iload_n (pc' := 70) rfl rfl rfl ?_
      refine h_iadd (pc' := 71) rfl rfl hz19 hx2 rfl (by omega) (by omega) (fun z20 hz20 => ?_)
      refine h_iald (pc' := 72) (v := s15 99 (32 + a2)) rfl rfl rfl hz20 (by omega) (by omega) rfl (fun z21 hz21 => ?_)
      have tz21 := ty_99_8 Is15 (32 + a2) (by omega)
      refine h_sipush (pc' := 75) (x := (Int32.ofInt 999)) rfl rfl cs_999 ?_
      refine h_cge (tg := 82) (pc' := 78) rfl rfl rfl hz21 ci_999 (fun c22 => ?_) (fun c22 => ?_)
      · refine h_iconst (pc' := 83) (x := (Int32.ofInt 0)) rfl rfl rfl ?_
        refine h_iadd (pc' := 84) rfl rfl hz18 ci_0 rfl (by omega) (by omega) (fun z23 hz23 => ?_)
        refine h_iast (pc' := 85) rfl rfl rfl rfl hz17 (by omega) (by omega) hz23 (h_fgt (E := fun s => s 98 13 = σ 98 13 ∧ s = h_up s15 99 (32 + a2) ((s15 99 (32 + a2)) + 0)) _ (ip_99_8 Is15 (by omega) (by omega)) (Fs15.up (k_is8 rfl (by omega))) ⟨es15.1, rfl⟩ (fun s24 Is24 Fs24 (es24 : s24 98 13 = σ 98 13 ∧ s24 = h_up s15 99 (32 + a2) ((s15 99 (32 + a2)) + 0)) => ?_))
        clear es15
        have us24 := es24.2
        refine h_iconst (pc' := 86) (x := (Int32.ofInt 1)) rfl rfl rfl ?_
        exact h_zret rfl rfl ci_1 (by omega) (kk _ _ ci_1 _ Is24 Fs24 (by omega) (by have gm := ps10_0; have gx := h_upd us15 (j := 32 + a2) (by omega); first | (rw [show σ 99 (29 + a2) - 1 = g_orn (σ 99 (29 + a2)) from g_orn_of (by omega)] at gm; exact Or.inl ⟨rfl, g_gm_y gm (by omega), (((h_upf us24).trans (g_set_c (h_upf us15)))).trans (g_set_e (g_set_e rfl (by omega) (by omega)) (by omega) (g_w1n_of (by omega)))⟩) | (rw [show (-4 : Int) = g_orn (σ 99 (29 + a2)) from g_orn_of (by omega)] at gm; exact Or.inl ⟨rfl, g_gm_y gm (by omega), (((h_upf us24).trans (g_set_c (h_upf us15)))).trans (g_set_e (g_set_e rfl (by omega) (by omega)) (by omega) (g_w1n_of (by omega)))⟩)))
      · refine h_iconst (pc' := 79) (x := (Int32.ofInt 1)) rfl rfl rfl ?_
        refine h_goto (pc' := 83) rfl rfl ?_
        refine h_iadd (pc' := 84) rfl rfl hz18 ci_1 rfl (by omega) (by omega) (fun z25 hz25 => ?_)
        refine h_iast (pc' := 85) rfl rfl rfl rfl hz17 (by omega) (by omega) hz25 (h_fgt (E := fun s => s 98 13 = σ 98 13 ∧ s = h_up s15 99 (32 + a2) ((s15 99 (32 + a2)) + 1)) _ (ip_99_8 Is15 (by omega) (by omega)) (Fs15.up (k_is8 rfl (by omega))) ⟨es15.1, rfl⟩ (fun s26 Is26 Fs26 (es26 : s26 98 13 = σ 98 13 ∧ s26 = h_up s15 99 (32 + a2) ((s15 99 (32 + a2)) + 1)) => ?_))
        clear es15
        have us26 := es26.2
        refine h_iconst (pc' := 86) (x := (Int32.ofInt 1)) rfl rfl rfl ?_
        exact h_zret rfl rfl ci_1 (by omega) (kk _ _ ci_1 _ Is26 Fs26 (by omega) (by have gm := ps10_0; have gx := h_upd us15 (j := 32 + a2) (by omega); first | (rw [show σ 99 (29 + a2) - 1 = g_orn (σ 99 (29 + a2)) from g_orn_of (by omega)] at gm; exact Or.inl ⟨rfl, g_gm_y gm (by omega), (((h_upf us26).trans (g_set_c (h_upf us15)))).trans (g_set_e (g_set_e rfl (by omega) (by omega)) (by omega) (g_w1n_of (by omega)))⟩) | (rw [show (-4 : Int) = g_orn (σ 99 (29 + a2)) from g_orn_of (by omega)] at gm; exact Or.inl ⟨rfl, g_gm_y gm (by omega), (((h_upf us26).trans (g_set_c (h_upf us15)))).trans (g_set_e (g_set_e rfl (by omega) (by omega)) (by omega) (g_w1n_of (by omega)))⟩)))
    · refine h_iconst (pc' := 34) (x := (Int32.ofInt 0)) rfl rfl rfl ?_
      exact h_zret rfl rfl ci_0 (by omega) (kk _ _ ci_0 _ hI F00 (by omega) (by have gm := ps10_0; first | (rw [show σ 99 (29 + a2) - 1 = g_orn (σ 99 (29 + a2)) from g_orn_of (by omega)] at gm; exact Or.inr ⟨rfl, g_gm_n gm (by omega), rfl⟩) | (rw [show (-4 : Int) = g_orn (σ 99 (29 + a2)) from g_orn_of (by omega)] at gm; exact Or.inr ⟨rfl, g_gm_n gm (by omega), rfl⟩)))
  · refine h_bipush (pc' := 6) (x := (Int32.ofInt (-4))) rfl rfl cb_m4 ?_
    refine h_goto (pc' := 12) rfl rfl ?_
    refine h_iret rfl rfl (h_Kv ?_)
    refine h_aload_n (pc' := 17) rfl rfl rfl ?_
    refine h_getR (pc' := 20) rfl rfl rfl rfl rfl ?_
    refine h_iload_n (pc' := 21) rfl rfl rfl ?_
    refine h_bipush (pc' := 23) (x := (Int32.ofInt 26)) rfl rfl cb_26 ?_
    refine h_iadd (pc' := 24) (c := 26) rfl rfl ci_0 ci_26 rfl (by omega) (by omega) (fun z27 hz27 => ?_)
    refine h_iload_n (pc' := 25) rfl rfl rfl ?_
    refine h_iadd (pc' := 26) rfl rfl hz27 hx2 rfl (by omega) (by omega) (fun z28 hz28 => ?_)
    refine h_iald (pc' := 27) (v := σ 99 (26 + a2)) rfl rfl rfl hz28 (by omega) (by omega) rfl (fun z29 hz29 => ?_)
    have tz29 := ty_99_6 hI (26 + a2) (by omega)
    refine h_call (sp := false) (pc' := 30) (M := [(0, .ref 98), (1, .int x1), (2, .int (Int32.ofInt (-4))), (3, .int z29)]) rfl rfl rfl rfl rfl rfl rfl rfl ?_
    refine n_may _ hI x1 _ hx1 (by omega) (Int32.ofInt (-4)) _ ci_m4 (by omega) z29 _ hz29 (fun r30 br30 hr30 tr30 ps31_0 => h_Kv ?_)
    refine h_zne (tg := 35) (pc' := 33) rfl rfl rfl hr30 (fun c32 => ?_) (fun c32 => ?_)
    · refine h_aload_n (pc' := 36) rfl rfl rfl ?_
      refine h_getR (pc' := 39) rfl rfl rfl rfl rfl ?_
      refine h_iload_n (pc' := 40) rfl rfl rfl ?_
      refine h_bipush (pc' := 42) (x := (Int32.ofInt 29)) rfl rfl cb_29 ?_
      refine h_iadd (pc' := 43) (c := 29) rfl rfl ci_0 ci_29 rfl (by omega) (by omega) (fun z33 hz33 => ?_)
      refine h_iload_n (pc' := 44) rfl rfl rfl ?_
      refine h_iadd (pc' := 45) rfl rfl hz33 hx2 rfl (by omega) (by omega) (fun z34 hz34 => ?_)
      refine h_iload_n (pc' := 46) rfl rfl rfl ?_
      refine h_iconst (pc' := 47) (x := (Int32.ofInt 1)) rfl rfl rfl ?_
      refine h_iadd (pc' := 48) rfl rfl hx1 ci_1 rfl (by omega) (by omega) (fun z35 hz35 => ?_)
      refine h_iast (pc' := 49) rfl rfl rfl rfl hz34 (by omega) (by omega) hz35 (h_fgt (E := fun s => s 98 13 = σ 98 13 ∧ s = h_up σ 99 (29 + a2) (a1 + 1)) _ (ip_99_7 hI (by omega) (by omega)) (F00.up (k_is7 rfl (by omega))) ⟨rfl, rfl⟩ (fun s36 Is36 Fs36 (es36 : s36 98 13 = σ 98 13 ∧ s36 = h_up σ 99 (29 + a2) (a1 + 1)) => ?_))
      have us36 := es36.2
      refine h_aload_n (pc' := 50) rfl rfl rfl ?_
      refine h_getR (pc' := 53) rfl rfl rfl rfl rfl ?_
      refine h_iload_n (pc' := 54) rfl rfl rfl ?_
      refine h_bipush (pc' := 56) (x := (Int32.ofInt 32)) rfl rfl cb_32 ?_
      refine h_iadd (pc' := 57) (c := 32) rfl rfl ci_0 ci_32 rfl (by omega) (by omega) (fun z37 hz37 => ?_)
      refine h_iload_n (pc' := 58) rfl rfl rfl ?_
      refine h_iadd (pc' := 59) rfl rfl hz37 hx2 rfl (by omega) (by omega) (fun z38 hz38 => ?_)
      refine h_dup2 (pc' := 60) rfl rfl rfl ?_
      refine h_iald (pc' := 61) (v := s36 99 (32 + a2)) rfl rfl rfl hz38 (by omega) (by omega) rfl (fun z39 hz39 => ?_)
      have tz39 := ty_99_8 Is36 (32 + a2) (by omega)
      refine h_aload_n (pc' := 62) rfl rfl rfl ?_
      refine h_getR (pc' := 65) rfl rfl rfl rfl rfl ?_
      refine h_iload_n (pc' := 66) rfl rfl rfl ?_
      refine h_bipush (pc' := 68) (x := (Int32.ofInt 32)) rfl rfl cb_32 ?_
      refine h_iadd (pc' := 69) (c := 32) rfl rfl ci_0 ci_32 rfl (by omega) (by omega) (fun z40 hz40 => ?_)
      refine h_iload_n (pc' := 70) rfl rfl rfl ?_
      refine h_iadd (pc' := 71) rfl rfl hz40 hx2 rfl (by omega) (by omega) (fun z41 hz41 => ?_)
      refine h_iald (pc' := 72) (v := s36 99 (32 + a2)) rfl rfl rfl hz41 (by omega) (by omega) rfl (fun z42 hz42 => ?_)
      have tz42 := ty_99_8 Is36 (32 + a2) (by omega)
      refine h_sipush (pc' := 75) (x := (Int32.ofInt 999)) rfl rfl cs_999 ?_
      refine h_cge (tg := 82) (pc' := 78) rfl rfl rfl hz42 ci_999 (fun c43 => ?_) (fun c43 => ?_)
      · refine h_iconst (pc' := 83) (x := (Int32.ofInt 0)) rfl rfl rfl ?_
        refine h_iadd (pc' := 84) rfl rfl hz39 ci_0 rfl (by omega) (by omega) (fun z44 hz44 => ?_)
        refine h_iast (pc' := 85) rfl rfl rfl rfl hz38 (by omega) (by omega) hz44 (h_fgt (E := fun s => s 98 13 = σ 98 13 ∧ s = h_up s36 99 (32 + a2) ((s36 99 (32 + a2)) + 0)) _ (ip_99_8 Is36 (by omega) (by omega)) (Fs36.up (k_is8 rfl (by omega))) ⟨es36.1, rfl⟩ (fun s45 Is45 Fs45 (es45 : s45 98 13 = σ 98 13 ∧ s45 = h_up s36 99 (32 + a2) ((s36 99 (32 + a2)) + 0)) => ?_))
        clear es36
        have us45 := es45.2
        refine h_iconst (pc' := 86) (x := (Int32.ofInt 1)) rfl rfl rfl ?_
        exact h_zret rfl rfl ci_1 (by omega) (kk _ _ ci_1 _ Is45 Fs45 (by omega) (by have gm := ps31_0; have gx := h_upd us36 (j := 32 + a2) (by omega); first | (rw [show σ 99 (29 + a2) - 1 = g_orn (σ 99 (29 + a2)) from g_orn_of (by omega)] at gm; exact Or.inl ⟨rfl, g_gm_y gm (by omega), (((h_upf us45).trans (g_set_c (h_upf us36)))).trans (g_set_e (g_set_e rfl (by omega) (by omega)) (by omega) (g_w1n_of (by omega)))⟩) | (rw [show (-4 : Int) = g_orn (σ 99 (29 + a2)) from g_orn_of (by omega)] at gm; exact Or.inl ⟨rfl, g_gm_y gm (by omega), (((h_upf us45).trans (g_set_c (h_upf us36)))).trans (g_set_e (g_set_e rfl (by omega) (by omega)) (by omega) (g_w1n_of (by omega)))⟩)))
      · refine h_iconst (pc' := 79) (x := (Int32.ofInt 1)) rfl rfl rfl ?_
        refine h_goto (pc' := 83) rfl rfl ?_
        refine h_iadd (pc' := 84) rfl rfl hz39 ci_1 rfl (by omega) (by omega) (fun z46 hz46 => ?_)
        refine h_iast (pc' := 85) rfl rfl rfl rfl hz38 (by omega) (by omega) hz46 (h_fgt (E := fun s => s 98 13 = σ 98 13 ∧ s = h_up s36 99 (32 + a2) ((s36 99 (32 + a2)) + 1)) _ (ip_99_8 Is36 (by omega) (by omega)) (Fs36.up (k_is8 rfl (by omega))) ⟨es36.1, rfl⟩ (fun s47 Is47 Fs47 (es47 : s47 98 13 = σ 98 13 ∧ s47 = h_up s36 99 (32 + a2) ((s36 99 (32 + a2)) + 1)) => ?_))
        clear es36
        have us47 := es47.2
        refine h_iconst (pc' := 86) (x := (Int32.ofInt 1)) rfl rfl rfl ?_
        exact h_zret rfl rfl ci_1 (by omega) (kk _ _ ci_1 _ Is47 Fs47 (by omega) (by have gm := ps31_0; have gx := h_upd us36 (j := 32 + a2) (by omega); first | (rw [show σ 99 (29 + a2) - 1 = g_orn (σ 99 (29 + a2)) from g_orn_of (by omega)] at gm; exact Or.inl ⟨rfl, g_gm_y gm (by omega), (((h_upf us47).trans (g_set_c (h_upf us36)))).trans (g_set_e (g_set_e rfl (by omega) (by omega)) (by omega) (g_w1n_of (by omega)))⟩) | (rw [show (-4 : Int) = g_orn (σ 99 (29 + a2)) from g_orn_of (by omega)] at gm; exact Or.inl ⟨rfl, g_gm_y gm (by omega), (((h_upf us47).trans (g_set_c (h_upf us36)))).trans (g_set_e (g_set_e rfl (by omega) (by omega)) (by omega) (g_w1n_of (by omega)))⟩)))
    · refine h_iconst (pc' := 34) (x := (Int32.ofInt 0)) rfl rfl rfl ?_
      exact h_zret rfl rfl ci_0 (by omega) (kk _ _ ci_0 _ hI F00 (by omega) (by have gm := ps31_0; first | (rw [show σ 99 (29 + a2) - 1 = g_orn (σ 99 (29 + a2)) from g_orn_of (by omega)] at gm; exact Or.inr ⟨rfl, g_gm_n gm (by omega), rfl⟩) | (rw [show (-4 : Int) = g_orn (σ 99 (29 + a2)) from g_orn_of (by omega)] at gm; exact Or.inr ⟨rfl, g_gm_n gm (by omega), rfl⟩)))
