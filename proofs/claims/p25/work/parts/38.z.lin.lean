def kf_n_lines : List Nat := [100378, 100379, 109567, 110591]
set_option maxHeartbeats 100000000 in
set_option maxHeartbeats 100000000 in
theorem n_lines_l (ns : Nat) (σ : h_S) (hI : h_I σ) (x0 : Int32) (a0 : Int) (hx0 : x0.toInt = a0) (ra0 : 0 ≤ a0 ∧ a0 ≤ 2) {Q : Option Value → h_S → Prop} (kk : ∀ (τ : h_S), h_I τ → h_F (k_in kf_n_lines) τ σ → (τ 98 26 = g_T (σ 98 1).toNat (fun l p => g_yM (σ 105) (fun i => σ 99 (19 + 2 * i)) (fun i => σ 99 (19 + 2 * i + 1)) (σ 99 25) p l (σ 99 (26 + a0))) 7 (fun _ => true) (g_orn (σ 99 (29 + a0)))) → Q none τ) : ∀ n : Nat, (∀ (s0 : h_S), h_I s0 → h_F (k_in kf_n_lines) s0 σ → (g_Mx (s0 98 26) (g_rm (σ 98 1).toNat (fun l p => g_yM (σ 105) (fun i => σ 99 (19 + 2 * i)) (fun i => σ 99 (19 + 2 * i + 1)) (σ 99 25) p l (σ 99 (26 + a0))) (s0 106) (g_orn (σ 99 (29 + a0))) 0) = g_T (σ 98 1).toNat (fun l p => g_yM (σ 105) (fun i => σ 99 (19 + 2 * i)) (fun i => σ 99 (19 + 2 * i + 1)) (σ 99 25) p l (σ 99 (26 + a0))) 7 (fun _ => true) (g_orn (σ 99 (29 + a0)))) → 1 ≤ (n : Int) → h_T g_P (g_Y ns) 198 19 [(0, .ref 98), (1, .int x0), (2, .int (Int32.ofInt (-1)))] [] s0 Q) ∧ (∀ (s0 : h_S), h_I s0 → h_F (k_in kf_n_lines) s0 σ → (-1 ≤ s0 106 0 ∧ s0 106 0 ≤ 5) → (g_Mx (s0 98 26) (g_rm (σ 98 1).toNat (fun l p => g_yM (σ 105) (fun i => σ 99 (19 + 2 * i)) (fun i => σ 99 (19 + 2 * i + 1)) (σ 99 25) p l (σ 99 (26 + a0))) (s0 106) (g_orn (σ 99 (29 + a0))) 1) = g_T (σ 98 1).toNat (fun l p => g_yM (σ 105) (fun i => σ 99 (19 + 2 * i)) (fun i => σ 99 (19 + 2 * i + 1)) (σ 99 25) p l (σ 99 (26 + a0))) 7 (fun _ => true) (g_orn (σ 99 (29 + a0)))) → (7 - s0 106 0) * 16777216 + 1 ≤ (n : Int) → h_T g_P (g_Y ns) 198 19 [(0, .ref 98), (1, .int x0), (2, .int (Int32.ofInt 0))] [] s0 Q) ∧ (∀ (s0 : h_S), h_I s0 → h_F (k_in kf_n_lines) s0 σ → (0 ≤ s0 106 0 ∧ s0 106 0 ≤ 5) → (-1 ≤ s0 106 1 ∧ s0 106 1 ≤ 5) → (g_Mx (s0 98 26) (g_rm (σ 98 1).toNat (fun l p => g_yM (σ 105) (fun i => σ 99 (19 + 2 * i)) (fun i => σ 99 (19 + 2 * i + 1)) (σ 99 25) p l (σ 99 (26 + a0))) (s0 106) (g_orn (σ 99 (29 + a0))) 2) = g_T (σ 98 1).toNat (fun l p => g_yM (σ 105) (fun i => σ 99 (19 + 2 * i)) (fun i => σ 99 (19 + 2 * i + 1)) (σ 99 25) p l (σ 99 (26 + a0))) 7 (fun _ => true) (g_orn (σ 99 (29 + a0)))) → (7 - s0 106 0) * 16777216 + (7 - s0 106 1) * 1048576 + 1 ≤ (n : Int) → h_T g_P (g_Y ns) 198 19 [(0, .ref 98), (1, .int x0), (2, .int (Int32.ofInt 1))] [] s0 Q) ∧ (∀ (s0 : h_S), h_I s0 → h_F (k_in kf_n_lines) s0 σ → (0 ≤ s0 106 0 ∧ s0 106 0 ≤ 5) → (0 ≤ s0 106 1 ∧ s0 106 1 ≤ 5) → (-1 ≤ s0 106 2 ∧ s0 106 2 ≤ 5) → (h_ne (s0 106 0) (s0 106 1)) → (g_Mx (s0 98 26) (g_rm (σ 98 1).toNat (fun l p => g_yM (σ 105) (fun i => σ 99 (19 + 2 * i)) (fun i => σ 99 (19 + 2 * i + 1)) (σ 99 25) p l (σ 99 (26 + a0))) (s0 106) (g_orn (σ 99 (29 + a0))) 3) = g_T (σ 98 1).toNat (fun l p => g_yM (σ 105) (fun i => σ 99 (19 + 2 * i)) (fun i => σ 99 (19 + 2 * i + 1)) (σ 99 25) p l (σ 99 (26 + a0))) 7 (fun _ => true) (g_orn (σ 99 (29 + a0)))) → (7 - s0 106 0) * 16777216 + (7 - s0 106 1) * 1048576 + (7 - s0 106 2) * 65536 + 1 ≤ (n : Int) → h_T g_P (g_Y ns) 198 19 [(0, .ref 98), (1, .int x0), (2, .int (Int32.ofInt 2))] [] s0 Q) ∧ (∀ (s0 : h_S), h_I s0 → h_F (k_in kf_n_lines) s0 σ → (0 ≤ s0 106 0 ∧ s0 106 0 ≤ 5) → (0 ≤ s0 106 1 ∧ s0 106 1 ≤ 5) → (0 ≤ s0 106 2 ∧ s0 106 2 ≤ 5) → (-1 ≤ s0 106 3 ∧ s0 106 3 ≤ 5) → (h_ne (s0 106 0) (s0 106 1)) → (h_ne (s0 106 0) (s0 106 2)) → (h_ne (s0 106 1) (s0 106 2)) → (g_Mx (s0 98 26) (g_rm (σ 98 1).toNat (fun l p => g_yM (σ 105) (fun i => σ 99 (19 + 2 * i)) (fun i => σ 99 (19 + 2 * i + 1)) (σ 99 25) p l (σ 99 (26 + a0))) (s0 106) (g_orn (σ 99 (29 + a0))) 4) = g_T (σ 98 1).toNat (fun l p => g_yM (σ 105) (fun i => σ 99 (19 + 2 * i)) (fun i => σ 99 (19 + 2 * i + 1)) (σ 99 25) p l (σ 99 (26 + a0))) 7 (fun _ => true) (g_orn (σ 99 (29 + a0)))) → (7 - s0 106 0) * 16777216 + (7 - s0 106 1) * 1048576 + (7 - s0 106 2) * 65536 + (7 - s0 106 3) * 4096 + 1 ≤ (n : Int) → h_T g_P (g_Y ns) 198 19 [(0, .ref 98), (1, .int x0), (2, .int (Int32.ofInt 3))] [] s0 Q) ∧ (∀ (s0 : h_S), h_I s0 → h_F (k_in kf_n_lines) s0 σ → (0 ≤ s0 106 0 ∧ s0 106 0 ≤ 5) → (0 ≤ s0 106 1 ∧ s0 106 1 ≤ 5) → (0 ≤ s0 106 2 ∧ s0 106 2 ≤ 5) → (0 ≤ s0 106 3 ∧ s0 106 3 ≤ 5) → (-1 ≤ s0 106 4 ∧ s0 106 4 ≤ 5) → (h_ne (s0 106 0) (s0 106 1)) → (h_ne (s0 106 0) (s0 106 2)) → (h_ne (s0 106 1) (s0 106 2)) → (h_ne (s0 106 0) (s0 106 3)) → (h_ne (s0 106 1) (s0 106 3)) → (h_ne (s0 106 2) (s0 106 3)) → (g_Mx (s0 98 26) (g_rm (σ 98 1).toNat (fun l p => g_yM (σ 105) (fun i => σ 99 (19 + 2 * i)) (fun i => σ 99 (19 + 2 * i + 1)) (σ 99 25) p l (σ 99 (26 + a0))) (s0 106) (g_orn (σ 99 (29 + a0))) 5) = g_T (σ 98 1).toNat (fun l p => g_yM (σ 105) (fun i => σ 99 (19 + 2 * i)) (fun i => σ 99 (19 + 2 * i + 1)) (σ 99 25) p l (σ 99 (26 + a0))) 7 (fun _ => true) (g_orn (σ 99 (29 + a0)))) → (7 - s0 106 0) * 16777216 + (7 - s0 106 1) * 1048576 + (7 - s0 106 2) * 65536 + (7 - s0 106 3) * 4096 + (7 - s0 106 4) * 256 + 1 ≤ (n : Int) → h_T g_P (g_Y ns) 198 19 [(0, .ref 98), (1, .int x0), (2, .int (Int32.ofInt 4))] [] s0 Q) ∧ (∀ (s0 : h_S), h_I s0 → h_F (k_in kf_n_lines) s0 σ → (0 ≤ s0 106 0 ∧ s0 106 0 ≤ 5) → (0 ≤ s0 106 1 ∧ s0 106 1 ≤ 5) → (0 ≤ s0 106 2 ∧ s0 106 2 ≤ 5) → (0 ≤ s0 106 3 ∧ s0 106 3 ≤ 5) → (0 ≤ s0 106 4 ∧ s0 106 4 ≤ 5) → (-1 ≤ s0 106 5 ∧ s0 106 5 ≤ 5) → (h_ne (s0 106 0) (s0 106 1)) → (h_ne (s0 106 0) (s0 106 2)) → (h_ne (s0 106 1) (s0 106 2)) → (h_ne (s0 106 0) (s0 106 3)) → (h_ne (s0 106 1) (s0 106 3)) → (h_ne (s0 106 2) (s0 106 3)) → (h_ne (s0 106 0) (s0 106 4)) → (h_ne (s0 106 1) (s0 106 4)) → (h_ne (s0 106 2) (s0 106 4)) → (h_ne (s0 106 3) (s0 106 4)) → (g_Mx (s0 98 26) (g_rm (σ 98 1).toNat (fun l p => g_yM (σ 105) (fun i => σ 99 (19 + 2 * i)) (fun i => σ 99 (19 + 2 * i + 1)) (σ 99 25) p l (σ 99 (26 + a0))) (s0 106) (g_orn (σ 99 (29 + a0))) 6) = g_T (σ 98 1).toNat (fun l p => g_yM (σ 105) (fun i => σ 99 (19 + 2 * i)) (fun i => σ 99 (19 + 2 * i + 1)) (σ 99 25) p l (σ 99 (26 + a0))) 7 (fun _ => true) (g_orn (σ 99 (29 + a0)))) → (7 - s0 106 0) * 16777216 + (7 - s0 106 1) * 1048576 + (7 - s0 106 2) * 65536 + (7 - s0 106 3) * 4096 + (7 - s0 106 4) * 256 + (7 - s0 106 5) * 16 + 1 ≤ (n : Int) → h_T g_P (g_Y ns) 198 19 [(0, .ref 98), (1, .int x0), (2, .int (Int32.ofInt 5))] [] s0 Q) ∧ (∀ (s0 : h_S), h_I s0 → h_F (k_in kf_n_lines) s0 σ → (0 ≤ s0 106 0 ∧ s0 106 0 ≤ 5) → (0 ≤ s0 106 1 ∧ s0 106 1 ≤ 5) → (0 ≤ s0 106 2 ∧ s0 106 2 ≤ 5) → (0 ≤ s0 106 3 ∧ s0 106 3 ≤ 5) → (0 ≤ s0 106 4 ∧ s0 106 4 ≤ 5) → (0 ≤ s0 106 5 ∧ s0 106 5 ≤ 5) → (-1 ≤ s0 106 6 ∧ s0 106 6 ≤ 5) → (h_ne (s0 106 0) (s0 106 1)) → (h_ne (s0 106 0) (s0 106 2)) → (h_ne (s0 106 1) (s0 106 2)) → (h_ne (s0 106 0) (s0 106 3)) → (h_ne (s0 106 1) (s0 106 3)) → (h_ne (s0 106 2) (s0 106 3)) → (h_ne (s0 106 0) (s0 106 4)) → (h_ne (s0 106 1) (s0 106 4)) → (h_ne (s0 106 2) (s0 106 4)) → (h_ne (s0 106 3) (s0 106 4)) → (h_ne (s0 106 0) (s0 106 5)) → (h_ne (s0 106 1) (s0 106 5)) → (h_ne (s0 106 2) (s0 106 5)) → (h_ne (s0 106 3) (s0 106 5)) → (h_ne (s0 106 4) (s0 106 5)) → (g_Mx (s0 98 26) (g_rm (σ 98 1).toNat (fun l p => g_yM (σ 105) (fun i => σ 99 (19 + 2 * i)) (fun i => σ 99 (19 + 2 * i + 1)) (σ 99 25) p l (σ 99 (26 + a0))) (s0 106) (g_orn (σ 99 (29 + a0))) 7) = g_T (σ 98 1).toNat (fun l p => g_yM (σ 105) (fun i => σ 99 (19 + 2 * i)) (fun i => σ 99 (19 + 2 * i + 1)) (σ 99 25) p l (σ 99 (26 + a0))) 7 (fun _ => true) (g_orn (σ 99 (29 + a0)))) → (7 - s0 106 0) * 16777216 + (7 - s0 106 1) * 1048576 + (7 - s0 106 2) * 65536 + (7 - s0 106 3) * 4096 + (7 - s0 106 4) * 256 + (7 - s0 106 5) * 16 + (7 - s0 106 6) * 1 + 1 ≤ (n : Int) → h_T g_P (g_Y ns) 198 19 [(0, .ref 98), (1, .int x0), (2, .int (Int32.ofInt 6))] [] s0 Q) := by
  intro n
  induction n with
  | zero => exact ⟨by intro s0 I0 F0_ ex0 hm; have gh0 := tf_98_26 I0; have gh1 := tf_98_1 hI; have gh2 := F0_ 98 1 rfl; exfalso; omega, by intro s0 I0 F0_ ex0 ex1 hm; have gh0 := tf_98_26 I0; have gh1 := tf_98_1 hI; have gh2 := F0_ 98 1 rfl; exfalso; omega, by intro s0 I0 F0_ ex0 ex1 ex2 hm; have gh0 := tf_98_26 I0; have gh1 := tf_98_1 hI; have gh2 := F0_ 98 1 rfl; exfalso; omega, by intro s0 I0 F0_ ex0 ex1 ex2 ex3 ex4 hm; have gh0 := tf_98_26 I0; have gh1 := tf_98_1 hI; have gh2 := F0_ 98 1 rfl; exfalso; omega, by intro s0 I0 F0_ ex0 ex1 ex2 ex3 ex4 ex5 ex6 ex7 hm; have gh0 := tf_98_26 I0; have gh1 := tf_98_1 hI; have gh2 := F0_ 98 1 rfl; exfalso; omega, by intro s0 I0 F0_ ex0 ex1 ex2 ex3 ex4 ex5 ex6 ex7 ex8 ex9 ex10 ex11 hm; have gh0 := tf_98_26 I0; have gh1 := tf_98_1 hI; have gh2 := F0_ 98 1 rfl; exfalso; omega, by intro s0 I0 F0_ ex0 ex1 ex2 ex3 ex4 ex5 ex6 ex7 ex8 ex9 ex10 ex11 ex12 ex13 ex14 ex15 ex16 hm; have gh0 := tf_98_26 I0; have gh1 := tf_98_1 hI; have gh2 := F0_ 98 1 rfl; exfalso; omega, by intro s0 I0 F0_ ex0 ex1 ex2 ex3 ex4 ex5 ex6 ex7 ex8 ex9 ex10 ex11 ex12 ex13 ex14 ex15 ex16 ex17 ex18 ex19 ex20 ex21 ex22 hm; have gh0 := tf_98_26 I0; have gh1 := tf_98_1 hI; have gh2 := F0_ 98 1 rfl; exfalso; omega⟩
  | succ n ih =>
    refine ⟨?_, ?_, ?_, ?_, ?_, ?_, ?_, ?_⟩
    · intro s0 I0 F0_ ex0 hm; have gh0 := tf_98_26 I0; have gh1 := tf_98_1 hI; have gh2 := F0_ 98 1 rfl
      refine h_iload_n (pc' := 20) rfl rfl rfl ?_
      refine h_zlt (tg := 120) (pc' := 23) rfl rfl rfl ci_m1 (fun c1 => ?_) (fun c1 => absurd c1 (by omega))
      exact h_vret rfl rfl (kk _ I0 F0_ (g_ln_z ex0 (by have t := tf_98_26 I0; omega)))
    · intro s0 I0 F0_ ex0 ex1 hm; have gh0 := tf_98_26 I0; have gh1 := tf_98_1 hI; have gh2 := F0_ 98 1 rfl
      refine h_iload_n (pc' := 20) rfl rfl rfl ?_
      refine h_zlt (tg := 120) (pc' := 23) rfl rfl rfl ci_0 (fun c1 => absurd c1 (by omega)) (fun c1 => ?_)
      refine h_aload_n (pc' := 24) rfl rfl rfl ?_
      refine h_getR (pc' := 27) rfl rfl rfl rfl rfl ?_
      refine h_iload_n (pc' := 28) rfl rfl rfl ?_
      refine h_dup2 (pc' := 29) rfl rfl rfl ?_
      refine h_iald (pc' := 30) (v := s0 106 0) rfl rfl rfl ci_0 (by omega) (by omega) rfl (fun z2 hz2 => ?_)
      have tz2 := ty_106 I0 0
      refine h_iconst (pc' := 31) (x := (Int32.ofInt 1)) rfl rfl rfl ?_
      refine h_iadd (pc' := 32) rfl rfl hz2 ci_1 rfl (by omega) (by omega) (fun z3 hz3 => ?_)
      refine h_iast (pc' := 33) rfl rfl rfl rfl ci_0 (by omega) (by omega) hz3 (h_fgt (E := fun s => s 106 0 = ((s0 106 0) + 1) ∧ s 106 1 = s0 106 1 ∧ s 106 2 = s0 106 2 ∧ s 106 3 = s0 106 3 ∧ s 106 4 = s0 106 4 ∧ s 106 5 = s0 106 5 ∧ s 106 6 = s0 106 6 ∧ s 98 26 = s0 98 26 ∧ s = h_up s0 106 0 ((s0 106 0) + 1)) _ (in_106 I0 (by omega)) (F0_.up rfl) ⟨rfl, rfl, rfl, rfl, rfl, rfl, rfl, rfl, rfl⟩ (fun s4 Is4 Fs4 (es4 : s4 106 0 = ((s0 106 0) + 1) ∧ s4 106 1 = s0 106 1 ∧ s4 106 2 = s0 106 2 ∧ s4 106 3 = s0 106 3 ∧ s4 106 4 = s0 106 4 ∧ s4 106 5 = s0 106 5 ∧ s4 106 6 = s0 106 6 ∧ s4 98 26 = s0 98 26 ∧ s4 = h_up s0 106 0 ((s0 106 0) + 1)) => ?_))
      have us4 := es4.2.2.2.2.2.2.2.2
      refine h_aload_n (pc' := 34) rfl rfl rfl ?_
      refine h_getR (pc' := 37) rfl rfl rfl rfl rfl ?_
      refine h_iload_n (pc' := 38) rfl rfl rfl ?_
      refine h_iald (pc' := 39) (v := ((s0 106 0) + 1)) rfl rfl rfl ci_0 (by omega) (by omega) es4.1 (fun z5 hz5 => ?_)
      refine h_aload_n (pc' := 40) rfl rfl rfl ?_
      refine h_getI (pc' := 43) (v := σ 98 1) rfl rfl rfl rfl rfl (Fs4 98 1 rfl) (fun z6 hz6 => ?_)
      have tz6 := tf_98_1 hI
      refine h_clt (tg := 52) (pc' := 46) rfl rfl rfl hz5 hz6 (fun c7 => ?_) (fun c7 => ?_)
      · refine h_aload_n (pc' := 53) rfl rfl rfl ?_
        refine h_iload_n (pc' := 54) rfl rfl rfl ?_
        refine h_iload_n (pc' := 55) rfl rfl rfl ?_
        refine h_call (sp := false) (pc' := 58) (M := [(0, .ref 98), (1, .int x0), (2, .int (Int32.ofInt 0))]) rfl rfl rfl rfl rfl rfl rfl rfl ?_
        refine n_st0 _ Is4 x0 _ hx0 (by omega)  (by omega) (fun r8 br8 hr8 tr8 ps9_0 => h_Kv ?_)
        refine h_zeq (tg := 19) (pc' := 61) rfl rfl rfl hr8 (fun c10 => ?_) (fun c10 => ?_)
        · exact h_wk [(0, .ref 98), (1, .int x0), (2, .int (Int32.ofInt 0))] ⟨rfl, rfl, rfl, trivial⟩ (ih.2.1 _ Is4 Fs4  (by omega) (by have gq := ps9_0; rw [show s4 105 = σ 105 from ((h_upg us4 rfl).trans (funext (fun j => F0_ 105 j rfl))), show s4 99 = σ 99 from ((h_upg us4 rfl).trans (funext (fun j => F0_ 99 j rfl))), show s4 106 0 = s0 106 0 + 1 from h_upv us4] at gq; exact g_ln_c (A := 0) ex1 (by omega) (h_upf us4) rfl (g_if_n gq (by omega)) (by omega)) (by omega))
        · refine h_iload_n (pc' := 62) rfl rfl rfl ?_
          refine h_iconst (pc' := 63) (x := (Int32.ofInt 1)) rfl rfl rfl ?_
          refine h_iadd (pc' := 64) (c := 1) rfl rfl ci_0 ci_1 rfl (by omega) (by omega) (fun z11 hz11 => ?_)
          refine h_aload_n (pc' := 65) rfl rfl rfl ?_
          refine h_getI (pc' := 68) (v := s0 98 26) rfl rfl rfl rfl rfl es4.2.2.2.2.2.2.2.1 (fun z12 hz12 => ?_)
          have tz12 := tf_98_26 I0
          refine h_cle (tg := 83) (pc' := 71) rfl rfl rfl hz11 hz12 (fun c13 => ?_) (fun c13 => ?_)
          · refine h_aload_n (pc' := 84) rfl rfl rfl ?_
            refine h_dup (pc' := 85) rfl rfl rfl ?_
            refine h_getI (pc' := 88) (v := s4 98 27) rfl rfl rfl rfl rfl rfl (fun z14 hz14 => ?_)
            have tz14 := tf_98_27 Is4
            refine h_iload_n (pc' := 89) rfl rfl rfl ?_
            refine h_iconst (pc' := 90) (x := (Int32.ofInt 1)) rfl rfl rfl ?_
            refine h_iadd (pc' := 91) (c := 1) rfl rfl ci_0 ci_1 rfl (by omega) (by omega) (fun z15 hz15 => ?_)
            refine h_aload_n (pc' := 92) rfl rfl rfl ?_
            refine h_getI (pc' := 95) (v := s0 98 26) rfl rfl rfl rfl rfl es4.2.2.2.2.2.2.2.1 (fun z16 hz16 => ?_)
            have tz16 := tf_98_26 I0
            refine h_cne (tg := 102) (pc' := 98) rfl rfl rfl hz15 hz16 (fun c17 => ?_) (fun c17 => ?_)
            · refine h_iconst (pc' := 103) (x := (Int32.ofInt 0)) rfl rfl rfl ?_
              refine h_iadd (pc' := 104) rfl rfl hz14 ci_0 rfl (by have g0 := h_rgv hz14; omega) (by have g0 := h_rgv hz14; omega) (fun z18 hz18 => ?_)
              refine h_put (pc' := 107) rfl rfl rfl rfl rfl rfl hz18 rfl (h_fgt (E := fun s => s 106 0 = ((s0 106 0) + 1) ∧ s 106 1 = s0 106 1 ∧ s 106 2 = s0 106 2 ∧ s 106 3 = s0 106 3 ∧ s 106 4 = s0 106 4 ∧ s 106 5 = s0 106 5 ∧ s 106 6 = s0 106 6 ∧ s 98 26 = s0 98 26 ∧ s = h_up s4 98 27 ((s4 98 27) + 0)) _ (if_98_27 Is4 (h_rgv hz18)) (Fs4.up rfl) ⟨es4.1, es4.2.1, es4.2.2.1, es4.2.2.2.1, es4.2.2.2.2.1, es4.2.2.2.2.2.1, es4.2.2.2.2.2.2.1, es4.2.2.2.2.2.2.2.1, rfl⟩ (fun s19 Is19 Fs19 (es19 : s19 106 0 = ((s0 106 0) + 1) ∧ s19 106 1 = s0 106 1 ∧ s19 106 2 = s0 106 2 ∧ s19 106 3 = s0 106 3 ∧ s19 106 4 = s0 106 4 ∧ s19 106 5 = s0 106 5 ∧ s19 106 6 = s0 106 6 ∧ s19 98 26 = s0 98 26 ∧ s19 = h_up s4 98 27 ((s4 98 27) + 0)) => ?_))
              have us19 := es19.2.2.2.2.2.2.2.2
              refine h_iinc (pc' := 110) (b := 1) (M := fun z20 => [(2, .int z20), (0, .ref 98), (1, .int x0)]) rfl rfl rfl rfl ci_0 ci_1 rfl (by omega) (by omega) (fun _ => rfl) (fun z20 hz20 => ?_)
              refine h_aload_n (pc' := 111) rfl rfl rfl ?_
              refine h_getR (pc' := 114) rfl rfl rfl rfl rfl ?_
              refine h_iload_n (pc' := 115) rfl rfl rfl ?_
              refine h_iconst (pc' := 116) (x := (Int32.ofInt (-1))) rfl rfl rfl ?_
              refine h_iast (pc' := 117) rfl rfl rfl rfl hz20 (by omega) (by omega) ci_m1 (h_fgt (E := fun s => s 106 0 = ((s0 106 0) + 1) ∧ s 106 1 = (-1) ∧ s 106 2 = s0 106 2 ∧ s 106 3 = s0 106 3 ∧ s 106 4 = s0 106 4 ∧ s 106 5 = s0 106 5 ∧ s 106 6 = s0 106 6 ∧ s 98 26 = s0 98 26 ∧ s = h_up s19 106 1 (-1)) _ (in_106 Is19 (by omega)) (Fs19.up rfl) ⟨es19.1, rfl, es19.2.2.1, es19.2.2.2.1, es19.2.2.2.2.1, es19.2.2.2.2.2.1, es19.2.2.2.2.2.2.1, es19.2.2.2.2.2.2.2.1, rfl⟩ (fun s21 Is21 Fs21 (es21 : s21 106 0 = ((s0 106 0) + 1) ∧ s21 106 1 = (-1) ∧ s21 106 2 = s0 106 2 ∧ s21 106 3 = s0 106 3 ∧ s21 106 4 = s0 106 4 ∧ s21 106 5 = s0 106 5 ∧ s21 106 6 = s0 106 6 ∧ s21 98 26 = s0 98 26 ∧ s21 = h_up s19 106 1 (-1)) => ?_))
              clear es19
              have us21 := es21.2.2.2.2.2.2.2.2
              refine h_goto (pc' := 19) rfl rfl ?_
              have qz20 : z20 = (Int32.ofInt 1) := h_lit hz20 ci_1
              subst qz20
              exact h_wk [(0, .ref 98), (1, .int x0), (2, .int (Int32.ofInt 1))] ⟨rfl, rfl, rfl, trivial⟩ (ih.2.2.1 _ Is21 Fs21  (by omega) (by omega) (by have gq := ps9_0; rw [show s4 105 = σ 105 from ((h_upg us4 rfl).trans (funext (fun j => F0_ 105 j rfl))), show s4 99 = σ 99 from ((h_upg us4 rfl).trans (funext (fun j => F0_ 99 j rfl))), show s4 106 0 = s0 106 0 + 1 from h_upv us4] at gq; exact g_ln_b (A := 0) (by omega) ex1 (by omega) (by omega) (h_upf us4) ((h_upf us21).trans (g_set_c (h_upg us19 rfl))) rfl (by omega) (by omega) (g_if_y gq (by omega)) (by omega)) (by omega))
            · refine h_iconst (pc' := 99) (x := (Int32.ofInt 1)) rfl rfl rfl ?_
              refine h_goto (pc' := 103) rfl rfl ?_
              refine h_iaddA (pc' := 104) rfl rfl (fun z22 hz22 => ?_)
              refine h_put (pc' := 107) rfl rfl rfl rfl rfl rfl rfl rfl (h_fgt (E := fun s => s 106 0 = ((s0 106 0) + 1) ∧ s 106 1 = s0 106 1 ∧ s 106 2 = s0 106 2 ∧ s 106 3 = s0 106 3 ∧ s 106 4 = s0 106 4 ∧ s 106 5 = s0 106 5 ∧ s 106 6 = s0 106 6 ∧ s 98 26 = s0 98 26 ∧ s = h_up s4 98 27 z22.toInt) _ (if_98_27 Is4 (h_rgv rfl)) (Fs4.up rfl) ⟨es4.1, es4.2.1, es4.2.2.1, es4.2.2.2.1, es4.2.2.2.2.1, es4.2.2.2.2.2.1, es4.2.2.2.2.2.2.1, es4.2.2.2.2.2.2.2.1, rfl⟩ (fun s23 Is23 Fs23 (es23 : s23 106 0 = ((s0 106 0) + 1) ∧ s23 106 1 = s0 106 1 ∧ s23 106 2 = s0 106 2 ∧ s23 106 3 = s0 106 3 ∧ s23 106 4 = s0 106 4 ∧ s23 106 5 = s0 106 5 ∧ s23 106 6 = s0 106 6 ∧ s23 98 26 = s0 98 26 ∧ s23 = h_up s4 98 27 z22.toInt) => ?_))
              have us23 := es23.2.2.2.2.2.2.2.2
              refine h_iinc (pc' := 110) (b := 1) (M := fun z24 => [(2, .int z24), (0, .ref 98), (1, .int x0)]) rfl rfl rfl rfl ci_0 ci_1 rfl (by omega) (by omega) (fun _ => rfl) (fun z24 hz24 => ?_)
              refine h_aload_n (pc' := 111) rfl rfl rfl ?_
              refine h_getR (pc' := 114) rfl rfl rfl rfl rfl ?_
              refine h_iload_n (pc' := 115) rfl rfl rfl ?_
              refine h_iconst (pc' := 116) (x := (Int32.ofInt (-1))) rfl rfl rfl ?_
              refine h_iast (pc' := 117) rfl rfl rfl rfl hz24 (by omega) (by omega) ci_m1 (h_fgt (E := fun s => s 106 0 = ((s0 106 0) + 1) ∧ s 106 1 = (-1) ∧ s 106 2 = s0 106 2 ∧ s 106 3 = s0 106 3 ∧ s 106 4 = s0 106 4 ∧ s 106 5 = s0 106 5 ∧ s 106 6 = s0 106 6 ∧ s 98 26 = s0 98 26 ∧ s = h_up s23 106 1 (-1)) _ (in_106 Is23 (by omega)) (Fs23.up rfl) ⟨es23.1, rfl, es23.2.2.1, es23.2.2.2.1, es23.2.2.2.2.1, es23.2.2.2.2.2.1, es23.2.2.2.2.2.2.1, es23.2.2.2.2.2.2.2.1, rfl⟩ (fun s25 Is25 Fs25 (es25 : s25 106 0 = ((s0 106 0) + 1) ∧ s25 106 1 = (-1) ∧ s25 106 2 = s0 106 2 ∧ s25 106 3 = s0 106 3 ∧ s25 106 4 = s0 106 4 ∧ s25 106 5 = s0 106 5 ∧ s25 106 6 = s0 106 6 ∧ s25 98 26 = s0 98 26 ∧ s25 = h_up s23 106 1 (-1)) => ?_))
              clear es23
              have us25 := es25.2.2.2.2.2.2.2.2
              refine h_goto (pc' := 19) rfl rfl ?_
              have qz24 : z24 = (Int32.ofInt 1) := h_lit hz24 ci_1
              subst qz24
              exact h_wk [(0, .ref 98), (1, .int x0), (2, .int (Int32.ofInt 1))] ⟨rfl, rfl, rfl, trivial⟩ (ih.2.2.1 _ Is25 Fs25  (by omega) (by omega) (by have gq := ps9_0; rw [show s4 105 = σ 105 from ((h_upg us4 rfl).trans (funext (fun j => F0_ 105 j rfl))), show s4 99 = σ 99 from ((h_upg us4 rfl).trans (funext (fun j => F0_ 99 j rfl))), show s4 106 0 = s0 106 0 + 1 from h_upv us4] at gq; exact g_ln_b (A := 0) (by omega) ex1 (by omega) (by omega) (h_upf us4) ((h_upf us25).trans (g_set_c (h_upg us23 rfl))) rfl (by omega) (by omega) (g_if_y gq (by omega)) (by omega)) (by omega))
          · refine h_aload_n (pc' := 72) rfl rfl rfl ?_
            refine h_iload_n (pc' := 73) rfl rfl rfl ?_
            refine h_iconst (pc' := 74) (x := (Int32.ofInt 1)) rfl rfl rfl ?_
            refine h_iadd (pc' := 75) (c := 1) rfl rfl ci_0 ci_1 rfl (by omega) (by omega) (fun z26 hz26 => ?_)
            refine h_call (sp := false) (pc' := 78) (M := [(0, .ref 98), (1, .int z26)]) rfl rfl rfl rfl rfl rfl rfl rfl ?_
            refine n_keeps _ Is4 z26 _ hz26 (by omega) (fun s28 Is28 Gs28 ps28_0 ps28_1 ps28_2 ps28_3 ps28_4 ps28_5 ps28_6 ps28_7 => h_Kn ?_)
            have Fs28 := (Gs28.mono (B := kf_n_lines) rfl).tr Fs4
            have es28_0 : s28 106 0 = ((s0 106 0) + 1) := (Gs28 106 0 rfl).trans es4.1
            have es28_1 : s28 106 1 = s0 106 1 := (Gs28 106 1 rfl).trans es4.2.1
            have es28_2 : s28 106 2 = s0 106 2 := (Gs28 106 2 rfl).trans es4.2.2.1
            have es28_3 : s28 106 3 = s0 106 3 := (Gs28 106 3 rfl).trans es4.2.2.2.1
            have es28_4 : s28 106 4 = s0 106 4 := (Gs28 106 4 rfl).trans es4.2.2.2.2.1
            have es28_5 : s28 106 5 = s0 106 5 := (Gs28 106 5 rfl).trans es4.2.2.2.2.2.1
            have es28_6 : s28 106 6 = s0 106 6 := (Gs28 106 6 rfl).trans es4.2.2.2.2.2.2.1
            refine h_aload_n (pc' := 79) rfl rfl rfl ?_
            refine h_iconst (pc' := 80) (x := (Int32.ofInt 0)) rfl rfl rfl ?_
            refine h_put (pc' := 83) rfl rfl rfl rfl rfl rfl ci_0 rfl (h_fgt (E := fun s => s 106 0 = ((s0 106 0) + 1) ∧ s 106 1 = s0 106 1 ∧ s 106 2 = s0 106 2 ∧ s 106 3 = s0 106 3 ∧ s 106 4 = s0 106 4 ∧ s 106 5 = s0 106 5 ∧ s 106 6 = s0 106 6 ∧ s 98 26 = s28 98 26 ∧ s = h_up s28 98 27 0) _ (if_98_27 Is28 (h_rgv ci_0)) (Fs28.up rfl) ⟨es28_0, es28_1, es28_2, es28_3, es28_4, es28_5, es28_6, rfl, rfl⟩ (fun s29 Is29 Fs29 (es29 : s29 106 0 = ((s0 106 0) + 1) ∧ s29 106 1 = s0 106 1 ∧ s29 106 2 = s0 106 2 ∧ s29 106 3 = s0 106 3 ∧ s29 106 4 = s0 106 4 ∧ s29 106 5 = s0 106 5 ∧ s29 106 6 = s0 106 6 ∧ s29 98 26 = s28 98 26 ∧ s29 = h_up s28 98 27 0) => ?_))
            have us29 := es29.2.2.2.2.2.2.2.2
            refine h_aload_n (pc' := 84) rfl rfl rfl ?_
            refine h_dup (pc' := 85) rfl rfl rfl ?_
            refine h_getI (pc' := 88) (v := s29 98 27) rfl rfl rfl rfl rfl rfl (fun z30 hz30 => ?_)
            have tz30 := tf_98_27 Is29
            refine h_iload_n (pc' := 89) rfl rfl rfl ?_
            refine h_iconst (pc' := 90) (x := (Int32.ofInt 1)) rfl rfl rfl ?_
            refine h_iadd (pc' := 91) (c := 1) rfl rfl ci_0 ci_1 rfl (by omega) (by omega) (fun z31 hz31 => ?_)
            refine h_aload_n (pc' := 92) rfl rfl rfl ?_
            refine h_getI (pc' := 95) (v := s28 98 26) rfl rfl rfl rfl rfl es29.2.2.2.2.2.2.2.1 (fun z32 hz32 => ?_)
            have tz32 := tf_98_26 Is28
            refine h_cne (tg := 102) (pc' := 98) rfl rfl rfl hz31 hz32 (fun c33 => ?_) (fun c33 => ?_)
            · refine h_iconst (pc' := 103) (x := (Int32.ofInt 0)) rfl rfl rfl ?_
              refine h_iadd (pc' := 104) rfl rfl hz30 ci_0 rfl (by have g0 := h_rgv hz30; omega) (by have g0 := h_rgv hz30; omega) (fun z34 hz34 => ?_)
              refine h_put (pc' := 107) rfl rfl rfl rfl rfl rfl hz34 rfl (h_fgt (E := fun s => s 106 0 = ((s0 106 0) + 1) ∧ s 106 1 = s0 106 1 ∧ s 106 2 = s0 106 2 ∧ s 106 3 = s0 106 3 ∧ s 106 4 = s0 106 4 ∧ s 106 5 = s0 106 5 ∧ s 106 6 = s0 106 6 ∧ s 98 26 = s28 98 26 ∧ s = h_up s29 98 27 ((s29 98 27) + 0)) _ (if_98_27 Is29 (h_rgv hz34)) (Fs29.up rfl) ⟨es29.1, es29.2.1, es29.2.2.1, es29.2.2.2.1, es29.2.2.2.2.1, es29.2.2.2.2.2.1, es29.2.2.2.2.2.2.1, es29.2.2.2.2.2.2.2.1, rfl⟩ (fun s35 Is35 Fs35 (es35 : s35 106 0 = ((s0 106 0) + 1) ∧ s35 106 1 = s0 106 1 ∧ s35 106 2 = s0 106 2 ∧ s35 106 3 = s0 106 3 ∧ s35 106 4 = s0 106 4 ∧ s35 106 5 = s0 106 5 ∧ s35 106 6 = s0 106 6 ∧ s35 98 26 = s28 98 26 ∧ s35 = h_up s29 98 27 ((s29 98 27) + 0)) => ?_))
              clear es29
              have us35 := es35.2.2.2.2.2.2.2.2
              refine h_iinc (pc' := 110) (b := 1) (M := fun z36 => [(2, .int z36), (0, .ref 98), (1, .int x0)]) rfl rfl rfl rfl ci_0 ci_1 rfl (by omega) (by omega) (fun _ => rfl) (fun z36 hz36 => ?_)
              refine h_aload_n (pc' := 111) rfl rfl rfl ?_
              refine h_getR (pc' := 114) rfl rfl rfl rfl rfl ?_
              refine h_iload_n (pc' := 115) rfl rfl rfl ?_
              refine h_iconst (pc' := 116) (x := (Int32.ofInt (-1))) rfl rfl rfl ?_
              refine h_iast (pc' := 117) rfl rfl rfl rfl hz36 (by omega) (by omega) ci_m1 (h_fgt (E := fun s => s 106 0 = ((s0 106 0) + 1) ∧ s 106 1 = (-1) ∧ s 106 2 = s0 106 2 ∧ s 106 3 = s0 106 3 ∧ s 106 4 = s0 106 4 ∧ s 106 5 = s0 106 5 ∧ s 106 6 = s0 106 6 ∧ s 98 26 = s28 98 26 ∧ s = h_up s35 106 1 (-1)) _ (in_106 Is35 (by omega)) (Fs35.up rfl) ⟨es35.1, rfl, es35.2.2.1, es35.2.2.2.1, es35.2.2.2.2.1, es35.2.2.2.2.2.1, es35.2.2.2.2.2.2.1, es35.2.2.2.2.2.2.2.1, rfl⟩ (fun s37 Is37 Fs37 (es37 : s37 106 0 = ((s0 106 0) + 1) ∧ s37 106 1 = (-1) ∧ s37 106 2 = s0 106 2 ∧ s37 106 3 = s0 106 3 ∧ s37 106 4 = s0 106 4 ∧ s37 106 5 = s0 106 5 ∧ s37 106 6 = s0 106 6 ∧ s37 98 26 = s28 98 26 ∧ s37 = h_up s35 106 1 (-1)) => ?_))
              clear es35
              have us37 := es37.2.2.2.2.2.2.2.2
              refine h_goto (pc' := 19) rfl rfl ?_
              have qz36 : z36 = (Int32.ofInt 1) := h_lit hz36 ci_1
              subst qz36
              exact h_wk [(0, .ref 98), (1, .int x0), (2, .int (Int32.ofInt 1))] ⟨rfl, rfl, rfl, trivial⟩ (ih.2.2.1 _ Is37 Fs37  (by omega) (by omega) (by have gq := ps9_0; rw [show s4 105 = σ 105 from ((h_upg us4 rfl).trans (funext (fun j => F0_ 105 j rfl))), show s4 99 = σ 99 from ((h_upg us4 rfl).trans (funext (fun j => F0_ 99 j rfl))), show s4 106 0 = s0 106 0 + 1 from h_upv us4] at gq; exact g_ln_b (A := 0) (by omega) ex1 (by omega) (by omega) (h_upf us4) ((h_upf us37).trans (g_set_c ((h_upg us35 rfl).trans ((h_upg us29 rfl).trans (funext (fun j => Gs28 106 j rfl)))))) rfl (by omega) (by omega) (g_if_y gq (by omega)) (by omega)) (by omega))
            · refine h_iconst (pc' := 99) (x := (Int32.ofInt 1)) rfl rfl rfl ?_
              refine h_goto (pc' := 103) rfl rfl ?_
              refine h_iaddA (pc' := 104) rfl rfl (fun z38 hz38 => ?_)
              refine h_put (pc' := 107) rfl rfl rfl rfl rfl rfl rfl rfl (h_fgt (E := fun s => s 106 0 = ((s0 106 0) + 1) ∧ s 106 1 = s0 106 1 ∧ s 106 2 = s0 106 2 ∧ s 106 3 = s0 106 3 ∧ s 106 4 = s0 106 4 ∧ s 106 5 = s0 106 5 ∧ s 106 6 = s0 106 6 ∧ s 98 26 = s28 98 26 ∧ s = h_up s29 98 27 z38.toInt) _ (if_98_27 Is29 (h_rgv rfl)) (Fs29.up rfl) ⟨es29.1, es29.2.1, es29.2.2.1, es29.2.2.2.1, es29.2.2.2.2.1, es29.2.2.2.2.2.1, es29.2.2.2.2.2.2.1, es29.2.2.2.2.2.2.2.1, rfl⟩ (fun s39 Is39 Fs39 (es39 : s39 106 0 = ((s0 106 0) + 1) ∧ s39 106 1 = s0 106 1 ∧ s39 106 2 = s0 106 2 ∧ s39 106 3 = s0 106 3 ∧ s39 106 4 = s0 106 4 ∧ s39 106 5 = s0 106 5 ∧ s39 106 6 = s0 106 6 ∧ s39 98 26 = s28 98 26 ∧ s39 = h_up s29 98 27 z38.toInt) => ?_))
              clear es29
              have us39 := es39.2.2.2.2.2.2.2.2
              refine h_iinc (pc' := 110) (b := 1) (M := fun z40 => [(2, .int z40), (0, .ref 98), (1, .int x0)]) rfl rfl rfl rfl ci_0 ci_1 rfl (by omega) (by omega) (fun _ => rfl) (fun z40 hz40 => ?_)
              refine h_aload_n (pc' := 111) rfl rfl rfl ?_
              refine h_getR (pc' := 114) rfl rfl rfl rfl rfl ?_
              refine h_iload_n (pc' := 115) rfl rfl rfl ?_
              refine h_iconst (pc' := 116) (x := (Int32.ofInt (-1))) rfl rfl rfl ?_
              refine h_iast (pc' := 117) rfl rfl rfl rfl hz40 (by omega) (by omega) ci_m1 (h_fgt (E := fun s => s 106 0 = ((s0 106 0) + 1) ∧ s 106 1 = (-1) ∧ s 106 2 = s0 106 2 ∧ s 106 3 = s0 106 3 ∧ s 106 4 = s0 106 4 ∧ s 106 5 = s0 106 5 ∧ s 106 6 = s0 106 6 ∧ s 98 26 = s28 98 26 ∧ s = h_up s39 106 1 (-1)) _ (in_106 Is39 (by omega)) (Fs39.up rfl) ⟨es39.1, rfl, es39.2.2.1, es39.2.2.2.1, es39.2.2.2.2.1, es39.2.2.2.2.2.1, es39.2.2.2.2.2.2.1, es39.2.2.2.2.2.2.2.1, rfl⟩ (fun s41 Is41 Fs41 (es41 : s41 106 0 = ((s0 106 0) + 1) ∧ s41 106 1 = (-1) ∧ s41 106 2 = s0 106 2 ∧ s41 106 3 = s0 106 3 ∧ s41 106 4 = s0 106 4 ∧ s41 106 5 = s0 106 5 ∧ s41 106 6 = s0 106 6 ∧ s41 98 26 = s28 98 26 ∧ s41 = h_up s39 106 1 (-1)) => ?_))
              clear es39
              have us41 := es41.2.2.2.2.2.2.2.2
              refine h_goto (pc' := 19) rfl rfl ?_
              have qz40 : z40 = (Int32.ofInt 1) := h_lit hz40 ci_1
              subst qz40
              exact h_wk [(0, .ref 98), (1, .int x0), (2, .int (Int32.ofInt 1))] ⟨rfl, rfl, rfl, trivial⟩ (ih.2.2.1 _ Is41 Fs41  (by omega) (by omega) (by have gq := ps9_0; rw [show s4 105 = σ 105 from ((h_upg us4 rfl).trans (funext (fun j => F0_ 105 j rfl))), show s4 99 = σ 99 from ((h_upg us4 rfl).trans (funext (fun j => F0_ 99 j rfl))), show s4 106 0 = s0 106 0 + 1 from h_upv us4] at gq; exact g_ln_b (A := 0) (by omega) ex1 (by omega) (by omega) (h_upf us4) ((h_upf us41).trans (g_set_c ((h_upg us39 rfl).trans ((h_upg us29 rfl).trans (funext (fun j => Gs28 106 j rfl)))))) rfl (by omega) (by omega) (g_if_y gq (by omega)) (by omega)) (by omega))
      · refine h_iinc (pc' := 49) (b := (-1)) (M := fun z42 => [(2, .int z42), (0, .ref 98), (1, .int x0)]) rfl rfl rfl rfl ci_0 ci_m1 rfl (by omega) (by omega) (fun _ => rfl) (fun z42 hz42 => ?_)
        refine h_goto (pc' := 19) rfl rfl ?_
        have qz42 : z42 = (Int32.ofInt (-1)) := h_lit hz42 ci_m1
        subst qz42
        exact h_wk [(0, .ref 98), (1, .int x0), (2, .int (Int32.ofInt (-1)))] ⟨rfl, rfl, rfl, trivial⟩ (ih.1 _ Is4 Fs4  (g_ln_a (A := 0) ex1 (by omega) rfl (h_upf us4) rfl (by omega) (by omega)) (by omega))
    · intro s0 I0 F0_ ex0 ex1 ex2 hm; have gh0 := tf_98_26 I0; have gh1 := tf_98_1 hI; have gh2 := F0_ 98 1 rfl
      refine h_iload_n (pc' := 20) rfl rfl rfl ?_
      refine h_zlt (tg := 120) (pc' := 23) rfl rfl rfl ci_1 (fun c1 => absurd c1 (by omega)) (fun c1 => ?_)
      refine h_aload_n (pc' := 24) rfl rfl rfl ?_
      refine h_getR (pc' := 27) rfl rfl rfl rfl rfl ?_
      refine h_iload_n (pc' := 28) rfl rfl rfl ?_
      refine h_dup2 (pc' := 29) rfl rfl rfl ?_
      refine h_iald (pc' := 30) (v := s0 106 1) rfl rfl rfl ci_1 (by omega) (by omega) rfl (fun z2 hz2 => ?_)
      have tz2 := ty_106 I0 1
      refine h_iconst (pc' := 31) (x := (Int32.ofInt 1)) rfl rfl rfl ?_
      refine h_iadd (pc' := 32) rfl rfl hz2 ci_1 rfl (by omega) (by omega) (fun z3 hz3 => ?_)
      refine h_iast (pc' := 33) rfl rfl rfl rfl ci_1 (by omega) (by omega) hz3 (h_fgt (E := fun s => s 106 0 = s0 106 0 ∧ s 106 1 = ((s0 106 1) + 1) ∧ s 106 2 = s0 106 2 ∧ s 106 3 = s0 106 3 ∧ s 106 4 = s0 106 4 ∧ s 106 5 = s0 106 5 ∧ s 106 6 = s0 106 6 ∧ s 98 26 = s0 98 26 ∧ s = h_up s0 106 1 ((s0 106 1) + 1)) _ (in_106 I0 (by omega)) (F0_.up rfl) ⟨rfl, rfl, rfl, rfl, rfl, rfl, rfl, rfl, rfl⟩ (fun s4 Is4 Fs4 (es4 : s4 106 0 = s0 106 0 ∧ s4 106 1 = ((s0 106 1) + 1) ∧ s4 106 2 = s0 106 2 ∧ s4 106 3 = s0 106 3 ∧ s4 106 4 = s0 106 4 ∧ s4 106 5 = s0 106 5 ∧ s4 106 6 = s0 106 6 ∧ s4 98 26 = s0 98 26 ∧ s4 = h_up s0 106 1 ((s0 106 1) + 1)) => ?_))
      have us4 := es4.2.2.2.2.2.2.2.2
      refine h_aload_n (pc' := 34) rfl rfl rfl ?_
      refine h_getR (pc' := 37) rfl rfl rfl rfl rfl ?_
      refine h_iload_n (pc' := 38) rfl rfl rfl ?_
      refine h_iald (pc' := 39) (v := ((s0 106 1) + 1)) rfl rfl rfl ci_1 (by omega) (by omega) es4.2.1 (fun z5 hz5 => ?_)
      refine h_aload_n (pc' := 40) rfl rfl rfl ?_
      refine h_getI (pc' := 43) (v := σ 98 1) rfl rfl rfl rfl rfl (Fs4 98 1 rfl) (fun z6 hz6 => ?_)
      have tz6 := tf_98_1 hI
      refine h_clt (tg := 52) (pc' := 46) rfl rfl rfl hz5 hz6 (fun c7 => ?_) (fun c7 => ?_)
      · refine h_aload_n (pc' := 53) rfl rfl rfl ?_
        refine h_iload_n (pc' := 54) rfl rfl rfl ?_
        refine h_iload_n (pc' := 55) rfl rfl rfl ?_
        refine h_call (sp := false) (pc' := 58) (M := [(0, .ref 98), (1, .int x0), (2, .int (Int32.ofInt 1))]) rfl rfl rfl rfl rfl rfl rfl rfl ?_
        refine n_st1 _ Is4 x0 _ hx0 (by omega)  (by omega) (by omega) (fun r8 br8 hr8 tr8 ps9_0 ps9_1 => h_Kv ?_)
        refine h_zeq (tg := 19) (pc' := 61) rfl rfl rfl hr8 (fun c10 => ?_) (fun c10 => ?_)
        · exact h_wk [(0, .ref 98), (1, .int x0), (2, .int (Int32.ofInt 1))] ⟨rfl, rfl, rfl, trivial⟩ (ih.2.2.1 _ Is4 Fs4  (by omega) (by omega) (by have gq := ps9_0; rw [show s4 105 = σ 105 from ((h_upg us4 rfl).trans (funext (fun j => F0_ 105 j rfl))), show s4 99 = σ 99 from ((h_upg us4 rfl).trans (funext (fun j => F0_ 99 j rfl))), show s4 106 1 = s0 106 1 + 1 from h_upv us4] at gq; exact g_ln_c (A := 1) ex2 (by omega) (h_upf us4) rfl (g_if_n gq (by omega)) (by omega)) (by omega))
        · refine h_iload_n (pc' := 62) rfl rfl rfl ?_
          refine h_iconst (pc' := 63) (x := (Int32.ofInt 1)) rfl rfl rfl ?_
          refine h_iadd (pc' := 64) (c := 2) rfl rfl ci_1 ci_1 rfl (by omega) (by omega) (fun z11 hz11 => ?_)
          refine h_aload_n (pc' := 65) rfl rfl rfl ?_
          refine h_getI (pc' := 68) (v := s0 98 26) rfl rfl rfl rfl rfl es4.2.2.2.2.2.2.2.1 (fun z12 hz12 => ?_)
          have tz12 := tf_98_26 I0
          refine h_cle (tg := 83) (pc' := 71) rfl rfl rfl hz11 hz12 (fun c13 => ?_) (fun c13 => ?_)
          · refine h_aload_n (pc' := 84) rfl rfl rfl ?_
            refine h_dup (pc' := 85) rfl rfl rfl ?_
            refine h_getI (pc' := 88) (v := s4 98 27) rfl rfl rfl rfl rfl rfl (fun z14 hz14 => ?_)
            have tz14 := tf_98_27 Is4
            refine h_iload_n (pc' := 89) rfl rfl rfl ?_
            refine h_iconst (pc' := 90) (x := (Int32.ofInt 1)) rfl rfl rfl ?_
            refine h_iadd (pc' := 91) (c := 2) rfl rfl ci_1 ci_1 rfl (by omega) (by omega) (fun z15 hz15 => ?_)
            refine h_aload_n (pc' := 92) rfl rfl rfl ?_
            refine h_getI (pc' := 95) (v := s0 98 26) rfl rfl rfl rfl rfl es4.2.2.2.2.2.2.2.1 (fun z16 hz16 => ?_)
            have tz16 := tf_98_26 I0
            refine h_cne (tg := 102) (pc' := 98) rfl rfl rfl hz15 hz16 (fun c17 => ?_) (fun c17 => ?_)
            · refine h_iconst (pc' := 103) (x := (Int32.ofInt 0)) rfl rfl rfl ?_
              refine h_iadd (pc' := 104) rfl rfl hz14 ci_0 rfl (by have g0 := h_rgv hz14; omega) (by have g0 := h_rgv hz14; omega) (fun z18 hz18 => ?_)
              refine h_put (pc' := 107) rfl rfl rfl rfl rfl rfl hz18 rfl (h_fgt (E := fun s => s 106 0 = s0 106 0 ∧ s 106 1 = ((s0 106 1) + 1) ∧ s 106 2 = s0 106 2 ∧ s 106 3 = s0 106 3 ∧ s 106 4 = s0 106 4 ∧ s 106 5 = s0 106 5 ∧ s 106 6 = s0 106 6 ∧ s 98 26 = s0 98 26 ∧ s = h_up s4 98 27 ((s4 98 27) + 0)) _ (if_98_27 Is4 (h_rgv hz18)) (Fs4.up rfl) ⟨es4.1, es4.2.1, es4.2.2.1, es4.2.2.2.1, es4.2.2.2.2.1, es4.2.2.2.2.2.1, es4.2.2.2.2.2.2.1, es4.2.2.2.2.2.2.2.1, rfl⟩ (fun s19 Is19 Fs19 (es19 : s19 106 0 = s0 106 0 ∧ s19 106 1 = ((s0 106 1) + 1) ∧ s19 106 2 = s0 106 2 ∧ s19 106 3 = s0 106 3 ∧ s19 106 4 = s0 106 4 ∧ s19 106 5 = s0 106 5 ∧ s19 106 6 = s0 106 6 ∧ s19 98 26 = s0 98 26 ∧ s19 = h_up s4 98 27 ((s4 98 27) + 0)) => ?_))
              have us19 := es19.2.2.2.2.2.2.2.2
              refine h_iinc (pc' := 110) (b := 2) (M := fun z20 => [(2, .int z20), (0, .ref 98), (1, .int x0)]) rfl rfl rfl rfl ci_1 ci_1 rfl (by omega) (by omega) (fun _ => rfl) (fun z20 hz20 => ?_)
              refine h_aload_n (pc' := 111) rfl rfl rfl ?_
              refine h_getR (pc' := 114) rfl rfl rfl rfl rfl ?_
              refine h_iload_n (pc' := 115) rfl rfl rfl ?_
              refine h_iconst (pc' := 116) (x := (Int32.ofInt (-1))) rfl rfl rfl ?_
              refine h_iast (pc' := 117) rfl rfl rfl rfl hz20 (by omega) (by omega) ci_m1 (h_fgt (E := fun s => s 106 0 = s0 106 0 ∧ s 106 1 = ((s0 106 1) + 1) ∧ s 106 2 = (-1) ∧ s 106 3 = s0 106 3 ∧ s 106 4 = s0 106 4 ∧ s 106 5 = s0 106 5 ∧ s 106 6 = s0 106 6 ∧ s 98 26 = s0 98 26 ∧ s = h_up s19 106 2 (-1)) _ (in_106 Is19 (by omega)) (Fs19.up rfl) ⟨es19.1, es19.2.1, rfl, es19.2.2.2.1, es19.2.2.2.2.1, es19.2.2.2.2.2.1, es19.2.2.2.2.2.2.1, es19.2.2.2.2.2.2.2.1, rfl⟩ (fun s21 Is21 Fs21 (es21 : s21 106 0 = s0 106 0 ∧ s21 106 1 = ((s0 106 1) + 1) ∧ s21 106 2 = (-1) ∧ s21 106 3 = s0 106 3 ∧ s21 106 4 = s0 106 4 ∧ s21 106 5 = s0 106 5 ∧ s21 106 6 = s0 106 6 ∧ s21 98 26 = s0 98 26 ∧ s21 = h_up s19 106 2 (-1)) => ?_))
              clear es19
              have us21 := es21.2.2.2.2.2.2.2.2
              refine h_goto (pc' := 19) rfl rfl ?_
              have qz20 : z20 = (Int32.ofInt 2) := h_lit hz20 ci_2
              subst qz20
              exact h_wk [(0, .ref 98), (1, .int x0), (2, .int (Int32.ofInt 2))] ⟨rfl, rfl, rfl, trivial⟩ (ih.2.2.2.1 _ Is21 Fs21  (by omega) (by omega) (by omega) (h_ni (by omega)) (by have gq := ps9_0; rw [show s4 105 = σ 105 from ((h_upg us4 rfl).trans (funext (fun j => F0_ 105 j rfl))), show s4 99 = σ 99 from ((h_upg us4 rfl).trans (funext (fun j => F0_ 99 j rfl))), show s4 106 1 = s0 106 1 + 1 from h_upv us4] at gq; exact g_ln_b (A := 1) (by omega) ex2 (by omega) (by omega) (h_upf us4) ((h_upf us21).trans (g_set_c (h_upg us19 rfl))) rfl (by omega) (by omega) (g_if_y gq (by omega)) (by omega)) (by omega))
            · refine h_iconst (pc' := 99) (x := (Int32.ofInt 1)) rfl rfl rfl ?_
              refine h_goto (pc' := 103) rfl rfl ?_
              refine h_iaddA (pc' := 104) rfl rfl (fun z22 hz22 => ?_)
              refine h_put (pc' := 107) rfl rfl rfl rfl rfl rfl rfl rfl (h_fgt (E := fun s => s 106 0 = s0 106 0 ∧ s 106 1 = ((s0 106 1) + 1) ∧ s 106 2 = s0 106 2 ∧ s 106 3 = s0 106 3 ∧ s 106 4 = s0 106 4 ∧ s 106 5 = s0 106 5 ∧ s 106 6 = s0 106 6 ∧ s 98 26 = s0 98 26 ∧ s = h_up s4 98 27 z22.toInt) _ (if_98_27 Is4 (h_rgv rfl)) (Fs4.up rfl) ⟨es4.1, es4.2.1, es4.2.2.1, es4.2.2.2.1, es4.2.2.2.2.1, es4.2.2.2.2.2.1, es4.2.2.2.2.2.2.1, es4.2.2.2.2.2.2.2.1, rfl⟩ (fun s23 Is23 Fs23 (es23 : s23 106 0 = s0 106 0 ∧ s23 106 1 = ((s0 106 1) + 1) ∧ s23 106 2 = s0 106 2 ∧ s23 106 3 = s0 106 3 ∧ s23 106 4 = s0 106 4 ∧ s23 106 5 = s0 106 5 ∧ s23 106 6 = s0 106 6 ∧ s23 98 26 = s0 98 26 ∧ s23 = h_up s4 98 27 z22.toInt) => ?_))
              have us23 := es23.2.2.2.2.2.2.2.2
              refine h_iinc (pc' := 110) (b := 2) (M := fun z24 => [(2, .int z24), (0, .ref 98), (1, .int x0)]) rfl rfl rfl rfl ci_1 ci_1 rfl (by omega) (by omega) (fun _ => rfl) (fun z24 hz24 => ?_)
              refine h_aload_n (pc' := 111) rfl rfl rfl ?_
              refine h_getR (pc' := 114) rfl rfl rfl rfl rfl ?_
              refine h_iload_n (pc' := 115) rfl rfl rfl ?_
              refine h_iconst (pc' := 116) (x := (Int32.ofInt (-1))) rfl rfl rfl ?_
              refine h_iast (pc' := 117) rfl rfl rfl rfl hz24 (by omega) (by omega) ci_m1 (h_fgt (E := fun s => s 106 0 = s0 106 0 ∧ s 106 1 = ((s0 106 1) + 1) ∧ s 106 2 = (-1) ∧ s 106 3 = s0 106 3 ∧ s 106 4 = s0 106 4 ∧ s 106 5 = s0 106 5 ∧ s 106 6 = s0 106 6 ∧ s 98 26 = s0 98 26 ∧ s = h_up s23 106 2 (-1)) _ (in_106 Is23 (by omega)) (Fs23.up rfl) ⟨es23.1, es23.2.1, rfl, es23.2.2.2.1, es23.2.2.2.2.1, es23.2.2.2.2.2.1, es23.2.2.2.2.2.2.1, es23.2.2.2.2.2.2.2.1, rfl⟩ (fun s25 Is25 Fs25 (es25 : s25 106 0 = s0 106 0 ∧ s25 106 1 = ((s0 106 1) + 1) ∧ s25 106 2 = (-1) ∧ s25 106 3 = s0 106 3 ∧ s25 106 4 = s0 106 4 ∧ s25 106 5 = s0 106 5 ∧ s25 106 6 = s0 106 6 ∧ s25 98 26 = s0 98 26 ∧ s25 = h_up s23 106 2 (-1)) => ?_))
              clear es23
              have us25 := es25.2.2.2.2.2.2.2.2
              refine h_goto (pc' := 19) rfl rfl ?_
              have qz24 : z24 = (Int32.ofInt 2) := h_lit hz24 ci_2
              subst qz24
              exact h_wk [(0, .ref 98), (1, .int x0), (2, .int (Int32.ofInt 2))] ⟨rfl, rfl, rfl, trivial⟩ (ih.2.2.2.1 _ Is25 Fs25  (by omega) (by omega) (by omega) (h_ni (by omega)) (by have gq := ps9_0; rw [show s4 105 = σ 105 from ((h_upg us4 rfl).trans (funext (fun j => F0_ 105 j rfl))), show s4 99 = σ 99 from ((h_upg us4 rfl).trans (funext (fun j => F0_ 99 j rfl))), show s4 106 1 = s0 106 1 + 1 from h_upv us4] at gq; exact g_ln_b (A := 1) (by omega) ex2 (by omega) (by omega) (h_upf us4) ((h_upf us25).trans (g_set_c (h_upg us23 rfl))) rfl (by omega) (by omega) (g_if_y gq (by omega)) (by omega)) (by omega))
          · refine h_aload_n (pc' := 72) rfl rfl rfl ?_
            refine h_iload_n (pc' := 73) rfl rfl rfl ?_
            refine h_iconst (pc' := 74) (x := (Int32.ofInt 1)) rfl rfl rfl ?_
            refine h_iadd (pc' := 75) (c := 2) rfl rfl ci_1 ci_1 rfl (by omega) (by omega) (fun z26 hz26 => ?_)
            refine h_call (sp := false) (pc' := 78) (M := [(0, .ref 98), (1, .int z26)]) rfl rfl rfl rfl rfl rfl rfl rfl ?_
            refine n_keeps _ Is4 z26 _ hz26 (by omega) (fun s28 Is28 Gs28 ps28_0 ps28_1 ps28_2 ps28_3 ps28_4 ps28_5 ps28_6 ps28_7 => h_Kn ?_)
            have Fs28 := (Gs28.mono (B := kf_n_lines) rfl).tr Fs4
            have es28_0 : s28 106 0 = s0 106 0 := (Gs28 106 0 rfl).trans es4.1
            have es28_1 : s28 106 1 = ((s0 106 1) + 1) := (Gs28 106 1 rfl).trans es4.2.1
            have es28_2 : s28 106 2 = s0 106 2 := (Gs28 106 2 rfl).trans es4.2.2.1
            have es28_3 : s28 106 3 = s0 106 3 := (Gs28 106 3 rfl).trans es4.2.2.2.1
            have es28_4 : s28 106 4 = s0 106 4 := (Gs28 106 4 rfl).trans es4.2.2.2.2.1
            have es28_5 : s28 106 5 = s0 106 5 := (Gs28 106 5 rfl).trans es4.2.2.2.2.2.1
            have es28_6 : s28 106 6 = s0 106 6 := (Gs28 106 6 rfl).trans es4.2.2.2.2.2.2.1
            refine h_aload_n (pc' := 79) rfl rfl rfl ?_
            refine h_iconst (pc' := 80) (x := (Int32.ofInt 0)) rfl rfl rfl ?_
            refine h_put (pc' := 83) rfl rfl rfl rfl rfl rfl ci_0 rfl (h_fgt (E := fun s => s 106 0 = s0 106 0 ∧ s 106 1 = ((s0 106 1) + 1) ∧ s 106 2 = s0 106 2 ∧ s 106 3 = s0 106 3 ∧ s 106 4 = s0 106 4 ∧ s 106 5 = s0 106 5 ∧ s 106 6 = s0 106 6 ∧ s 98 26 = s28 98 26 ∧ s = h_up s28 98 27 0) _ (if_98_27 Is28 (h_rgv ci_0)) (Fs28.up rfl) ⟨es28_0, es28_1, es28_2, es28_3, es28_4, es28_5, es28_6, rfl, rfl⟩ (fun s29 Is29 Fs29 (es29 : s29 106 0 = s0 106 0 ∧ s29 106 1 = ((s0 106 1) + 1) ∧ s29 106 2 = s0 106 2 ∧ s29 106 3 = s0 106 3 ∧ s29 106 4 = s0 106 4 ∧ s29 106 5 = s0 106 5 ∧ s29 106 6 = s0 106 6 ∧ s29 98 26 = s28 98 26 ∧ s29 = h_up s28 98 27 0) => ?_))
            have us29 := es29.2.2.2.2.2.2.2.2
            refine h_aload_n (pc' := 84) rfl rfl rfl ?_
            refine h_dup (pc' := 85) rfl rfl rfl ?_
            refine h_getI (pc' := 88) (v := s29 98 27) rfl rfl rfl rfl rfl rfl (fun z30 hz30 => ?_)
            have tz30 := tf_98_27 Is29
            refine h_iload_n (pc' := 89) rfl rfl rfl ?_
            refine h_iconst (pc' := 90) (x := (Int32.ofInt 1)) rfl rfl rfl ?_
            refine h_iadd (pc' := 91) (c := 2) rfl rfl ci_1 ci_1 rfl (by omega) (by omega) (fun z31 hz31 => ?_)
            refine h_aload_n (pc' := 92) rfl rfl rfl ?_
            refine h_getI (pc' := 95) (v := s28 98 26) rfl rfl rfl rfl rfl es29.2.2.2.2.2.2.2.1 (fun z32 hz32 => ?_)
            have tz32 := tf_98_26 Is28
            refine h_cne (tg := 102) (pc' := 98) rfl rfl rfl hz31 hz32 (fun c33 => ?_) (fun c33 => ?_)
            · refine h_iconst (pc' := 103) (x := (Int32.ofInt 0)) rfl rfl rfl ?_
              refine h_iadd (pc' := 104) rfl rfl hz30 ci_0 rfl (by have g0 := h_rgv hz30; omega) (by have g0 := h_rgv hz30; omega) (fun z34 hz34 => ?_)
              refine h_put (pc' := 107) rfl rfl rfl rfl rfl rfl hz34 rfl (h_fgt (E := fun s => s 106 0 = s0 106 0 ∧ s 106 1 = ((s0 106 1) + 1) ∧ s 106 2 = s0 106 2 ∧ s 106 3 = s0 106 3 ∧ s 106 4 = s0 106 4 ∧ s 106 5 = s0 106 5 ∧ s 106 6 = s0 106 6 ∧ s 98 26 = s28 98 26 ∧ s = h_up s29 98 27 ((s29 98 27) + 0)) _ (if_98_27 Is29 (h_rgv hz34)) (Fs29.up rfl) ⟨es29.1, es29.2.1, es29.2.2.1, es29.2.2.2.1, es29.2.2.2.2.1, es29.2.2.2.2.2.1, es29.2.2.2.2.2.2.1, es29.2.2.2.2.2.2.2.1, rfl⟩ (fun s35 Is35 Fs35 (es35 : s35 106 0 = s0 106 0 ∧ s35 106 1 = ((s0 106 1) + 1) ∧ s35 106 2 = s0 106 2 ∧ s35 106 3 = s0 106 3 ∧ s35 106 4 = s0 106 4 ∧ s35 106 5 = s0 106 5 ∧ s35 106 6 = s0 106 6 ∧ s35 98 26 = s28 98 26 ∧ s35 = h_up s29 98 27 ((s29 98 27) + 0)) => ?_))
              clear es29
              have us35 := es35.2.2.2.2.2.2.2.2
              refine h_iinc (pc' := 110) (b := 2) (M := fun z36 => [(2, .int z36), (0, .ref 98), (1, .int x0)]) rfl rfl rfl rfl ci_1 ci_1 rfl (by omega) (by omega) (fun _ => rfl) (fun z36 hz36 => ?_)
              refine h_aload_n (pc' := 111) rfl rfl rfl ?_
              refine h_getR (pc' := 114) rfl rfl rfl rfl rfl ?_
              refine h_iload_n (pc' := 115) rfl rfl rfl ?_
              refine h_iconst (pc' := 116) (x := (Int32.ofInt (-1))) rfl rfl rfl ?_
              refine h_iast (pc' := 117) rfl rfl rfl rfl hz36 (by omega) (by omega) ci_m1 (h_fgt (E := fun s => s 106 0 = s0 106 0 ∧ s 106 1 = ((s0 106 1) + 1) ∧ s 106 2 = (-1) ∧ s 106 3 = s0 106 3 ∧ s 106 4 = s0 106 4 ∧ s 106 5 = s0 106 5 ∧ s 106 6 = s0 106 6 ∧ s 98 26 = s28 98 26 ∧ s = h_up s35 106 2 (-1)) _ (in_106 Is35 (by omega)) (Fs35.up rfl) ⟨es35.1, es35.2.1, rfl, es35.2.2.2.1, es35.2.2.2.2.1, es35.2.2.2.2.2.1, es35.2.2.2.2.2.2.1, es35.2.2.2.2.2.2.2.1, rfl⟩ (fun s37 Is37 Fs37 (es37 : s37 106 0 = s0 106 0 ∧ s37 106 1 = ((s0 106 1) + 1) ∧ s37 106 2 = (-1) ∧ s37 106 3 = s0 106 3 ∧ s37 106 4 = s0 106 4 ∧ s37 106 5 = s0 106 5 ∧ s37 106 6 = s0 106 6 ∧ s37 98 26 = s28 98 26 ∧ s37 = h_up s35 106 2 (-1)) => ?_))
              clear es35
              have us37 := es37.2.2.2.2.2.2.2.2
              refine h_goto (pc' := 19) rfl rfl ?_
              have qz36 : z36 = (Int32.ofInt 2) := h_lit hz36 ci_2
              subst qz36
              exact h_wk [(0, .ref 98), (1, .int x0), (2, .int (Int32.ofInt 2))] ⟨rfl, rfl, rfl, trivial⟩ (ih.2.2.2.1 _ Is37 Fs37  (by omega) (by omega) (by omega) (h_ni (by omega)) (by have gq := ps9_0; rw [show s4 105 = σ 105 from ((h_upg us4 rfl).trans (funext (fun j => F0_ 105 j rfl))), show s4 99 = σ 99 from ((h_upg us4 rfl).trans (funext (fun j => F0_ 99 j rfl))), show s4 106 1 = s0 106 1 + 1 from h_upv us4] at gq; exact g_ln_b (A := 1) (by omega) ex2 (by omega) (by omega) (h_upf us4) ((h_upf us37).trans (g_set_c ((h_upg us35 rfl).trans ((h_upg us29 rfl).trans (funext (fun j => Gs28 106 j rfl)))))) rfl (by omega) (by omega) (g_if_y gq (by omega)) (by omega)) (by omega))
            · refine h_iconst (pc' := 99) (x := (Int32.ofInt 1)) rfl rfl rfl ?_
              refine h_goto (pc' := 103) rfl rfl ?_
              refine h_iaddA (pc' := 104) rfl rfl (fun z38 hz38 => ?_)
              refine h_put (pc' := 107) rfl rfl rfl rfl rfl rfl rfl rfl (h_fgt (E := fun s => s 106 0 = s0 106 0 ∧ s 106 1 = ((s0 106 1) + 1) ∧ s 106 2 = s0 106 2 ∧ s 106 3 = s0 106 3 ∧ s 106 4 = s0 106 4 ∧ s 106 5 = s0 106 5 ∧ s 106 6 = s0 106 6 ∧ s 98 26 = s28 98 26 ∧ s = h_up s29 98 27 z38.toInt) _ (if_98_27 Is29 (h_rgv rfl)) (Fs29.up rfl) ⟨es29.1, es29.2.1, es29.2.2.1, es29.2.2.2.1, es29.2.2.2.2.1, es29.2.2.2.2.2.1, es29.2.2.2.2.2.2.1, es29.2.2.2.2.2.2.2.1, rfl⟩ (fun s39 Is39 Fs39 (es39 : s39 106 0 = s0 106 0 ∧ s39 106 1 = ((s0 106 1) + 1) ∧ s39 106 2 = s0 106 2 ∧ s39 106 3 = s0 106 3 ∧ s39 106 4 = s0 106 4 ∧ s39 106 5 = s0 106 5 ∧ s39 106 6 = s0 106 6 ∧ s39 98 26 = s28 98 26 ∧ s39 = h_up s29 98 27 z38.toInt) => ?_))
              clear es29
              have us39 := es39.2.2.2.2.2.2.2.2
              refine h_iinc (pc' := 110) (b := 2) (M := fun z40 => [(2, .int z40), (0, .ref 98), (1, .int x0)]) rfl rfl rfl rfl ci_1 ci_1 rfl (by omega) (by omega) (fun _ => rfl) (fun z40 hz40 => ?_)
              refine h_aload_n (pc' := 111) rfl rfl rfl ?_
              refine h_getR (pc' := 114) rfl rfl rfl rfl rfl ?_
              refine h_iload_n (pc' := 115) rfl rfl rfl ?_
              refine h_iconst (pc' := 116) (x := (Int32.ofInt (-1))) rfl rfl rfl ?_
              refine h_iast (pc' := 117) rfl rfl rfl rfl hz40 (by omega) (by omega) ci_m1 (h_fgt (E := fun s => s 106 0 = s0 106 0 ∧ s 106 1 = ((s0 106 1) + 1) ∧ s 106 2 = (-1) ∧ s 106 3 = s0 106 3 ∧ s 106 4 = s0 106 4 ∧ s 106 5 = s0 106 5 ∧ s 106 6 = s0 106 6 ∧ s 98 26 = s28 98 26 ∧ s = h_up s39 106 2 (-1)) _ (in_106 Is39 (by omega)) (Fs39.up rfl) ⟨es39.1, es39.2.1, rfl, es39.2.2.2.1, es39.2.2.2.2.1, es39.2.2.2.2.2.1, es39.2.2.2.2.2.2.1, es39.2.2.2.2.2.2.2.1, rfl⟩ (fun s41 Is41 Fs41 (es41 : s41 106 0 = s0 106 0 ∧ s41 106 1 = ((s0 106 1) + 1) ∧ s41 106 2 = (-1) ∧ s41 106 3 = s0 106 3 ∧ s41 106 4 = s0 106 4 ∧ s41 106 5 = s0 106 5 ∧ s41 106 6 = s0 106 6 ∧ s41 98 26 = s28 98 26 ∧ s41 = h_up s39 106 2 (-1)) => ?_))
              clear es39
              have us41 := es41.2.2.2.2.2.2.2.2
              refine h_goto (pc' := 19) rfl rfl ?_
              have qz40 : z40 = (Int32.ofInt 2) := h_lit hz40 ci_2
              subst qz40
              exact h_wk [(0, .ref 98), (1, .int x0), (2, .int (Int32.ofInt 2))] ⟨rfl, rfl, rfl, trivial⟩ (ih.2.2.2.1 _ Is41 Fs41  (by omega) (by omega) (by omega) (h_ni (by omega)) (by have gq := ps9_0; rw [show s4 105 = σ 105 from ((h_upg us4 rfl).trans (funext (fun j => F0_ 105 j rfl))), show s4 99 = σ 99 from ((h_upg us4 rfl).trans (funext (fun j => F0_ 99 j rfl))), show s4 106 1 = s0 106 1 + 1 from h_upv us4] at gq; exact g_ln_b (A := 1) (by omega) ex2 (by omega) (by omega) (h_upf us4) ((h_upf us41).trans (g_set_c ((h_upg us39 rfl).trans ((h_upg us29 rfl).trans (funext (fun j => Gs28 106 j rfl)))))) rfl (by omega) (by omega) (g_if_y gq (by omega)) (by omega)) (by omega))
      · refine h_iinc (pc' := 49) (b := 0) (M := fun z42 => [(2, .int z42), (0, .ref 98), (1, .int x0)]) rfl rfl rfl rfl ci_1 ci_m1 rfl (by omega) (by omega) (fun _ => rfl) (fun z42 hz42 => ?_)
        refine h_goto (pc' := 19) rfl rfl ?_
        have qz42 : z42 = (Int32.ofInt 0) := h_lit hz42 ci_0
        subst qz42
        exact h_wk [(0, .ref 98), (1, .int x0), (2, .int (Int32.ofInt 0))] ⟨rfl, rfl, rfl, trivial⟩ (ih.2.1 _ Is4 Fs4  (by omega) (g_ln_a (A := 1) ex2 (by omega) rfl (h_upf us4) rfl (by omega) (by omega)) (by omega))
    · intro s0 I0 F0_ ex0 ex1 ex2 ex3 ex4 hm; have gh0 := tf_98_26 I0; have gh1 := tf_98_1 hI; have gh2 := F0_ 98 1 rfl
      refine h_iload_n (pc' := 20) rfl rfl rfl ?_
      refine h_zlt (tg := 120) (pc' := 23) rfl rfl rfl ci_2 (fun c1 => absurd c1 (by omega)) (fun c1 => ?_)
      refine h_aload_n (pc' := 24) rfl rfl rfl ?_
      refine h_getR (pc' := 27) rfl rfl rfl rfl rfl ?_
      refine h_iload_n (pc' := 28) rfl rfl rfl ?_
      refine h_dup2 (pc' := 29) rfl rfl rfl ?_
      refine h_iald (pc' := 30) (v := s0 106 2) rfl rfl rfl ci_2 (by omega) (by omega) rfl (fun z2 hz2 => ?_)
      have tz2 := ty_106 I0 2
      refine h_iconst (pc' := 31) (x := (Int32.ofInt 1)) rfl rfl rfl ?_
      refine h_iadd (pc' := 32) rfl rfl hz2 ci_1 rfl (by omega) (by omega) (fun z3 hz3 => ?_)
      refine h_iast (pc' := 33) rfl rfl rfl rfl ci_2 (by omega) (by omega) hz3 (h_fgt (E := fun s => s 106 0 = s0 106 0 ∧ s 106 1 = s0 106 1 ∧ s 106 2 = ((s0 106 2) + 1) ∧ s 106 3 = s0 106 3 ∧ s 106 4 = s0 106 4 ∧ s 106 5 = s0 106 5 ∧ s 106 6 = s0 106 6 ∧ s 98 26 = s0 98 26 ∧ s = h_up s0 106 2 ((s0 106 2) + 1)) _ (in_106 I0 (by omega)) (F0_.up rfl) ⟨rfl, rfl, rfl, rfl, rfl, rfl, rfl, rfl, rfl⟩ (fun s4 Is4 Fs4 (es4 : s4 106 0 = s0 106 0 ∧ s4 106 1 = s0 106 1 ∧ s4 106 2 = ((s0 106 2) + 1) ∧ s4 106 3 = s0 106 3 ∧ s4 106 4 = s0 106 4 ∧ s4 106 5 = s0 106 5 ∧ s4 106 6 = s0 106 6 ∧ s4 98 26 = s0 98 26 ∧ s4 = h_up s0 106 2 ((s0 106 2) + 1)) => ?_))
      have us4 := es4.2.2.2.2.2.2.2.2
      refine h_aload_n (pc' := 34) rfl rfl rfl ?_
      refine h_getR (pc' := 37) rfl rfl rfl rfl rfl ?_
      refine h_iload_n (pc' := 38) rfl rfl rfl ?_
      refine h_iald (pc' := 39) (v := ((s0 106 2) + 1)) rfl rfl rfl ci_2 (by omega) (by omega) es4.2.2.1 (fun z5 hz5 => ?_)
      refine h_aload_n (pc' := 40) rfl rfl rfl ?_
      refine h_getI (pc' := 43) (v := σ 98 1) rfl rfl rfl rfl rfl (Fs4 98 1 rfl) (fun z6 hz6 => ?_)
      have tz6 := tf_98_1 hI
      refine h_clt (tg := 52) (pc' := 46) rfl rfl rfl hz5 hz6 (fun c7 => ?_) (fun c7 => ?_)
      · refine h_aload_n (pc' := 53) rfl rfl rfl ?_
        refine h_iload_n (pc' := 54) rfl rfl rfl ?_
        refine h_iload_n (pc' := 55) rfl rfl rfl ?_
        refine h_call (sp := false) (pc' := 58) (M := [(0, .ref 98), (1, .int x0), (2, .int (Int32.ofInt 2))]) rfl rfl rfl rfl rfl rfl rfl rfl ?_
        refine n_st2 _ Is4 x0 _ hx0 (by omega)  (by omega) (by omega) (fun r8 br8 hr8 tr8 ps9_0 ps9_1 ps9_2 => h_Kv ?_)
        refine h_zeq (tg := 19) (pc' := 61) rfl rfl rfl hr8 (fun c10 => ?_) (fun c10 => ?_)
        · exact h_wk [(0, .ref 98), (1, .int x0), (2, .int (Int32.ofInt 2))] ⟨rfl, rfl, rfl, trivial⟩ (ih.2.2.2.1 _ Is4 Fs4  (by omega) (by omega) (by omega) (h_nf ex3 (by omega) (by omega)) (by have gq := ps9_0; rw [show s4 105 = σ 105 from ((h_upg us4 rfl).trans (funext (fun j => F0_ 105 j rfl))), show s4 99 = σ 99 from ((h_upg us4 rfl).trans (funext (fun j => F0_ 99 j rfl))), show s4 106 2 = s0 106 2 + 1 from h_upv us4] at gq; exact g_ln_c (A := 2) ex4 (by omega) (h_upf us4) rfl (g_if_n gq (by omega)) (by omega)) (by omega))
        · refine h_iload_n (pc' := 62) rfl rfl rfl ?_
          refine h_iconst (pc' := 63) (x := (Int32.ofInt 1)) rfl rfl rfl ?_
          refine h_iadd (pc' := 64) (c := 3) rfl rfl ci_2 ci_1 rfl (by omega) (by omega) (fun z11 hz11 => ?_)
          refine h_aload_n (pc' := 65) rfl rfl rfl ?_
          refine h_getI (pc' := 68) (v := s0 98 26) rfl rfl rfl rfl rfl es4.2.2.2.2.2.2.2.1 (fun z12 hz12 => ?_)
          have tz12 := tf_98_26 I0
          refine h_cle (tg := 83) (pc' := 71) rfl rfl rfl hz11 hz12 (fun c13 => ?_) (fun c13 => ?_)
          · refine h_aload_n (pc' := 84) rfl rfl rfl ?_
            refine h_dup (pc' := 85) rfl rfl rfl ?_
            refine h_getI (pc' := 88) (v := s4 98 27) rfl rfl rfl rfl rfl rfl (fun z14 hz14 => ?_)
            have tz14 := tf_98_27 Is4
            refine h_iload_n (pc' := 89) rfl rfl rfl ?_
            refine h_iconst (pc' := 90) (x := (Int32.ofInt 1)) rfl rfl rfl ?_
            refine h_iadd (pc' := 91) (c := 3) rfl rfl ci_2 ci_1 rfl (by omega) (by omega) (fun z15 hz15 => ?_)
            refine h_aload_n (pc' := 92) rfl rfl rfl ?_
            refine h_getI (pc' := 95) (v := s0 98 26) rfl rfl rfl rfl rfl es4.2.2.2.2.2.2.2.1 (fun z16 hz16 => ?_)
            have tz16 := tf_98_26 I0
            refine h_cne (tg := 102) (pc' := 98) rfl rfl rfl hz15 hz16 (fun c17 => ?_) (fun c17 => ?_)
            · refine h_iconst (pc' := 103) (x := (Int32.ofInt 0)) rfl rfl rfl ?_
              refine h_iadd (pc' := 104) rfl rfl hz14 ci_0 rfl (by have g0 := h_rgv hz14; omega) (by have g0 := h_rgv hz14; omega) (fun z18 hz18 => ?_)
              refine h_put (pc' := 107) rfl rfl rfl rfl rfl rfl hz18 rfl (h_fgt (E := fun s => s 106 0 = s0 106 0 ∧ s 106 1 = s0 106 1 ∧ s 106 2 = ((s0 106 2) + 1) ∧ s 106 3 = s0 106 3 ∧ s 106 4 = s0 106 4 ∧ s 106 5 = s0 106 5 ∧ s 106 6 = s0 106 6 ∧ s 98 26 = s0 98 26 ∧ s = h_up s4 98 27 ((s4 98 27) + 0)) _ (if_98_27 Is4 (h_rgv hz18)) (Fs4.up rfl) ⟨es4.1, es4.2.1, es4.2.2.1, es4.2.2.2.1, es4.2.2.2.2.1, es4.2.2.2.2.2.1, es4.2.2.2.2.2.2.1, es4.2.2.2.2.2.2.2.1, rfl⟩ (fun s19 Is19 Fs19 (es19 : s19 106 0 = s0 106 0 ∧ s19 106 1 = s0 106 1 ∧ s19 106 2 = ((s0 106 2) + 1) ∧ s19 106 3 = s0 106 3 ∧ s19 106 4 = s0 106 4 ∧ s19 106 5 = s0 106 5 ∧ s19 106 6 = s0 106 6 ∧ s19 98 26 = s0 98 26 ∧ s19 = h_up s4 98 27 ((s4 98 27) + 0)) => ?_))
              have us19 := es19.2.2.2.2.2.2.2.2
              refine h_iinc (pc' := 110) (b := 3) (M := fun z20 => [(2, .int z20), (0, .ref 98), (1, .int x0)]) rfl rfl rfl rfl ci_2 ci_1 rfl (by omega) (by omega) (fun _ => rfl) (fun z20 hz20 => ?_)
              refine h_aload_n (pc' := 111) rfl rfl rfl ?_
              refine h_getR (pc' := 114) rfl rfl rfl rfl rfl ?_
              refine h_iload_n (pc' := 115) rfl rfl rfl ?_
              refine h_iconst (pc' := 116) (x := (Int32.ofInt (-1))) rfl rfl rfl ?_
              refine h_iast (pc' := 117) rfl rfl rfl rfl hz20 (by omega) (by omega) ci_m1 (h_fgt (E := fun s => s 106 0 = s0 106 0 ∧ s 106 1 = s0 106 1 ∧ s 106 2 = ((s0 106 2) + 1) ∧ s 106 3 = (-1) ∧ s 106 4 = s0 106 4 ∧ s 106 5 = s0 106 5 ∧ s 106 6 = s0 106 6 ∧ s 98 26 = s0 98 26 ∧ s = h_up s19 106 3 (-1)) _ (in_106 Is19 (by omega)) (Fs19.up rfl) ⟨es19.1, es19.2.1, es19.2.2.1, rfl, es19.2.2.2.2.1, es19.2.2.2.2.2.1, es19.2.2.2.2.2.2.1, es19.2.2.2.2.2.2.2.1, rfl⟩ (fun s21 Is21 Fs21 (es21 : s21 106 0 = s0 106 0 ∧ s21 106 1 = s0 106 1 ∧ s21 106 2 = ((s0 106 2) + 1) ∧ s21 106 3 = (-1) ∧ s21 106 4 = s0 106 4 ∧ s21 106 5 = s0 106 5 ∧ s21 106 6 = s0 106 6 ∧ s21 98 26 = s0 98 26 ∧ s21 = h_up s19 106 3 (-1)) => ?_))
              clear es19
              have us21 := es21.2.2.2.2.2.2.2.2
              refine h_goto (pc' := 19) rfl rfl ?_
              have qz20 : z20 = (Int32.ofInt 3) := h_lit hz20 ci_3
              subst qz20
              exact h_wk [(0, .ref 98), (1, .int x0), (2, .int (Int32.ofInt 3))] ⟨rfl, rfl, rfl, trivial⟩ (ih.2.2.2.2.1 _ Is21 Fs21  (by omega) (by omega) (by omega) (by omega) (h_nf ex3 (by omega) (by omega)) (h_ni (by omega)) (h_ni (by omega)) (by have gq := ps9_0; rw [show s4 105 = σ 105 from ((h_upg us4 rfl).trans (funext (fun j => F0_ 105 j rfl))), show s4 99 = σ 99 from ((h_upg us4 rfl).trans (funext (fun j => F0_ 99 j rfl))), show s4 106 2 = s0 106 2 + 1 from h_upv us4] at gq; exact g_ln_b (A := 2) (by omega) ex4 (by omega) (by omega) (h_upf us4) ((h_upf us21).trans (g_set_c (h_upg us19 rfl))) rfl (by omega) (by omega) (g_if_y gq (by omega)) (by omega)) (by omega))
            · refine h_iconst (pc' := 99) (x := (Int32.ofInt 1)) rfl rfl rfl ?_
              refine h_goto (pc' := 103) rfl rfl ?_
              refine h_iaddA (pc' := 104) rfl rfl (fun z22 hz22 => ?_)
              refine h_put (pc' := 107) rfl rfl rfl rfl rfl rfl rfl rfl (h_fgt (E := fun s => s 106 0 = s0 106 0 ∧ s 106 1 = s0 106 1 ∧ s 106 2 = ((s0 106 2) + 1) ∧ s 106 3 = s0 106 3 ∧ s 106 4 = s0 106 4 ∧ s 106 5 = s0 106 5 ∧ s 106 6 = s0 106 6 ∧ s 98 26 = s0 98 26 ∧ s = h_up s4 98 27 z22.toInt) _ (if_98_27 Is4 (h_rgv rfl)) (Fs4.up rfl) ⟨es4.1, es4.2.1, es4.2.2.1, es4.2.2.2.1, es4.2.2.2.2.1, es4.2.2.2.2.2.1, es4.2.2.2.2.2.2.1, es4.2.2.2.2.2.2.2.1, rfl⟩ (fun s23 Is23 Fs23 (es23 : s23 106 0 = s0 106 0 ∧ s23 106 1 = s0 106 1 ∧ s23 106 2 = ((s0 106 2) + 1) ∧ s23 106 3 = s0 106 3 ∧ s23 106 4 = s0 106 4 ∧ s23 106 5 = s0 106 5 ∧ s23 106 6 = s0 106 6 ∧ s23 98 26 = s0 98 26 ∧ s23 = h_up s4 98 27 z22.toInt) => ?_))
              have us23 := es23.2.2.2.2.2.2.2.2
              refine h_iinc (pc' := 110) (b := 3) (M := fun z24 => [(2, .int z24), (0, .ref 98), (1, .int x0)]) rfl rfl rfl rfl ci_2 ci_1 rfl (by omega) (by omega) (fun _ => rfl) (fun z24 hz24 => ?_)
              refine h_aload_n (pc' := 111) rfl rfl rfl ?_
              refine h_getR (pc' := 114) rfl rfl rfl rfl rfl ?_
              refine h_iload_n (pc' := 115) rfl rfl rfl ?_
              refine h_iconst (pc' := 116) (x := (Int32.ofInt (-1))) rfl rfl rfl ?_
              refine h_iast (pc' := 117) rfl rfl rfl rfl hz24 (by omega) (by omega) ci_m1 (h_fgt (E := fun s => s 106 0 = s0 106 0 ∧ s 106 1 = s0 106 1 ∧ s 106 2 = ((s0 106 2) + 1) ∧ s 106 3 = (-1) ∧ s 106 4 = s0 106 4 ∧ s 106 5 = s0 106 5 ∧ s 106 6 = s0 106 6 ∧ s 98 26 = s0 98 26 ∧ s = h_up s23 106 3 (-1)) _ (in_106 Is23 (by omega)) (Fs23.up rfl) ⟨es23.1, es23.2.1, es23.2.2.1, rfl, es23.2.2.2.2.1, es23.2.2.2.2.2.1, es23.2.2.2.2.2.2.1, es23.2.2.2.2.2.2.2.1, rfl⟩ (fun s25 Is25 Fs25 (es25 : s25 106 0 = s0 106 0 ∧ s25 106 1 = s0 106 1 ∧ s25 106 2 = ((s0 106 2) + 1) ∧ s25 106 3 = (-1) ∧ s25 106 4 = s0 106 4 ∧ s25 106 5 = s0 106 5 ∧ s25 106 6 = s0 106 6 ∧ s25 98 26 = s0 98 26 ∧ s25 = h_up s23 106 3 (-1)) => ?_))
              clear es23
              have us25 := es25.2.2.2.2.2.2.2.2
              refine h_goto (pc' := 19) rfl rfl ?_
              have qz24 : z24 = (Int32.ofInt 3) := h_lit hz24 ci_3
              subst qz24
              exact h_wk [(0, .ref 98), (1, .int x0), (2, .int (Int32.ofInt 3))] ⟨rfl, rfl, rfl, trivial⟩ (ih.2.2.2.2.1 _ Is25 Fs25  (by omega) (by omega) (by omega) (by omega) (h_nf ex3 (by omega) (by omega)) (h_ni (by omega)) (h_ni (by omega)) (by have gq := ps9_0; rw [show s4 105 = σ 105 from ((h_upg us4 rfl).trans (funext (fun j => F0_ 105 j rfl))), show s4 99 = σ 99 from ((h_upg us4 rfl).trans (funext (fun j => F0_ 99 j rfl))), show s4 106 2 = s0 106 2 + 1 from h_upv us4] at gq; exact g_ln_b (A := 2) (by omega) ex4 (by omega) (by omega) (h_upf us4) ((h_upf us25).trans (g_set_c (h_upg us23 rfl))) rfl (by omega) (by omega) (g_if_y gq (by omega)) (by omega)) (by omega))
          · refine h_aload_n (pc' := 72) rfl rfl rfl ?_
            refine h_iload_n (pc' := 73) rfl rfl rfl ?_
            refine h_iconst (pc' := 74) (x := (Int32.ofInt 1)) rfl rfl rfl ?_
            refine h_iadd (pc' := 75) (c := 3) rfl rfl ci_2 ci_1 rfl (by omega) (by omega) (fun z26 hz26 => ?_)
            refine h_call (sp := false) (pc' := 78) (M := [(0, .ref 98), (1, .int z26)]) rfl rfl rfl rfl rfl rfl rfl rfl ?_
            refine n_keeps _ Is4 z26 _ hz26 (by omega) (fun s28 Is28 Gs28 ps28_0 ps28_1 ps28_2 ps28_3 ps28_4 ps28_5 ps28_6 ps28_7 => h_Kn ?_)
            have Fs28 := (Gs28.mono (B := kf_n_lines) rfl).tr Fs4
            have es28_0 : s28 106 0 = s0 106 0 := (Gs28 106 0 rfl).trans es4.1
            have es28_1 : s28 106 1 = s0 106 1 := (Gs28 106 1 rfl).trans es4.2.1
            have es28_2 : s28 106 2 = ((s0 106 2) + 1) := (Gs28 106 2 rfl).trans es4.2.2.1
            have es28_3 : s28 106 3 = s0 106 3 := (Gs28 106 3 rfl).trans es4.2.2.2.1
            have es28_4 : s28 106 4 = s0 106 4 := (Gs28 106 4 rfl).trans es4.2.2.2.2.1
            have es28_5 : s28 106 5 = s0 106 5 := (Gs28 106 5 rfl).trans es4.2.2.2.2.2.1
            have es28_6 : s28 106 6 = s0 106 6 := (Gs28 106 6 rfl).trans es4.2.2.2.2.2.2.1
            refine h_aload_n (pc' := 79) rfl rfl rfl ?_
            refine h_iconst (pc' := 80) (x := (Int32.ofInt 0)) rfl rfl rfl ?_
            refine h_put (pc' := 83) rfl rfl rfl rfl rfl rfl ci_0 rfl (h_fgt (E := fun s => s 106 0 = s0 106 0 ∧ s 106 1 = s0 106 1 ∧ s 106 2 = ((s0 106 2) + 1) ∧ s 106 3 = s0 106 3 ∧ s 106 4 = s0 106 4 ∧ s 106 5 = s0 106 5 ∧ s 106 6 = s0 106 6 ∧ s 98 26 = s28 98 26 ∧ s = h_up s28 98 27 0) _ (if_98_27 Is28 (h_rgv ci_0)) (Fs28.up rfl) ⟨es28_0, es28_1, es28_2, es28_3, es28_4, es28_5, es28_6, rfl, rfl⟩ (fun s29 Is29 Fs29 (es29 : s29 106 0 = s0 106 0 ∧ s29 106 1 = s0 106 1 ∧ s29 106 2 = ((s0 106 2) + 1) ∧ s29 106 3 = s0 106 3 ∧ s29 106 4 = s0 106 4 ∧ s29 106 5 = s0 106 5 ∧ s29 106 6 = s0 106 6 ∧ s29 98 26 = s28 98 26 ∧ s29 = h_up s28 98 27 0) => ?_))
            have us29 := es29.2.2.2.2.2.2.2.2
            refine h_aload_n (pc' := 84) rfl rfl rfl ?_
            refine h_dup (pc' := 85) rfl rfl rfl ?_
            refine h_getI (pc' := 88) (v := s29 98 27) rfl rfl rfl rfl rfl rfl (fun z30 hz30 => ?_)
            have tz30 := tf_98_27 Is29
            refine h_iload_n (pc' := 89) rfl rfl rfl ?_
            refine h_iconst (pc' := 90) (x := (Int32.ofInt 1)) rfl rfl rfl ?_
            refine h_iadd (pc' := 91) (c := 3) rfl rfl ci_2 ci_1 rfl (by omega) (by omega) (fun z31 hz31 => ?_)
            refine h_aload_n (pc' := 92) rfl rfl rfl ?_
            refine h_getI (pc' := 95) (v := s28 98 26) rfl rfl rfl rfl rfl es29.2.2.2.2.2.2.2.1 (fun z32 hz32 => ?_)
            have tz32 := tf_98_26 Is28
            refine h_cne (tg := 102) (pc' := 98) rfl rfl rfl hz31 hz32 (fun c33 => ?_) (fun c33 => ?_)
            · refine h_iconst (pc' := 103) (x := (Int32.ofInt 0)) rfl rfl rfl ?_
              refine h_iadd (pc' := 104) rfl rfl hz30 ci_0 rfl (by have g0 := h_rgv hz30; omega) (by have g0 := h_rgv hz30; omega) (fun z34 hz34 => ?_)
              refine h_put (pc' := 107) rfl rfl rfl rfl rfl rfl hz34 rfl (h_fgt (E := fun s => s 106 0 = s0 106 0 ∧ s 106 1 = s0 106 1 ∧ s 106 2 = ((s0 106 2) + 1) ∧ s 106 3 = s0 106 3 ∧ s 106 4 = s0 106 4 ∧ s 106 5 = s0 106 5 ∧ s 106 6 = s0 106 6 ∧ s 98 26 = s28 98 26 ∧ s = h_up s29 98 27 ((s29 98 27) + 0)) _ (if_98_27 Is29 (h_rgv hz34)) (Fs29.up rfl) ⟨es29.1, es29.2.1, es29.2.2.1, es29.2.2.2.1, es29.2.2.2.2.1, es29.2.2.2.2.2.1, es29.2.2.2.2.2.2.1, es29.2.2.2.2.2.2.2.1, rfl⟩ (fun s35 Is35 Fs35 (es35 : s35 106 0 = s0 106 0 ∧ s35 106 1 = s0 106 1 ∧ s35 106 2 = ((s0 106 2) + 1) ∧ s35 106 3 = s0 106 3 ∧ s35 106 4 = s0 106 4 ∧ s35 106 5 = s0 106 5 ∧ s35 106 6 = s0 106 6 ∧ s35 98 26 = s28 98 26 ∧ s35 = h_up s29 98 27 ((s29 98 27) + 0)) => ?_))
              clear es29
              have us35 := es35.2.2.2.2.2.2.2.2
              refine h_iinc (pc' := 110) (b := 3) (M := fun z36 => [(2, .int z36), (0, .ref 98), (1, .int x0)]) rfl rfl rfl rfl ci_2 ci_1 rfl (by omega) (by omega) (fun _ => rfl) (fun z36 hz36 => ?_)
              refine h_aload_n (pc' := 111) rfl rfl rfl ?_
              refine h_getR (pc' := 114) rfl rfl rfl rfl rfl ?_
              refine h_iload_n (pc' := 115) rfl rfl rfl ?_
              refine h_iconst (pc' := 116) (x := (Int32.ofInt (-1))) rfl rfl rfl ?_
              refine h_iast (pc' := 117) rfl rfl rfl rfl hz36 (by omega) (by omega) ci_m1 (h_fgt (E := fun s => s 106 0 = s0 106 0 ∧ s 106 1 = s0 106 1 ∧ s 106 2 = ((s0 106 2) + 1) ∧ s 106 3 = (-1) ∧ s 106 4 = s0 106 4 ∧ s 106 5 = s0 106 5 ∧ s 106 6 = s0 106 6 ∧ s 98 26 = s28 98 26 ∧ s = h_up s35 106 3 (-1)) _ (in_106 Is35 (by omega)) (Fs35.up rfl) ⟨es35.1, es35.2.1, es35.2.2.1, rfl, es35.2.2.2.2.1, es35.2.2.2.2.2.1, es35.2.2.2.2.2.2.1, es35.2.2.2.2.2.2.2.1, rfl⟩ (fun s37 Is37 Fs37 (es37 : s37 106 0 = s0 106 0 ∧ s37 106 1 = s0 106 1 ∧ s37 106 2 = ((s0 106 2) + 1) ∧ s37 106 3 = (-1) ∧ s37 106 4 = s0 106 4 ∧ s37 106 5 = s0 106 5 ∧ s37 106 6 = s0 106 6 ∧ s37 98 26 = s28 98 26 ∧ s37 = h_up s35 106 3 (-1)) => ?_))
              clear es35
              have us37 := es37.2.2.2.2.2.2.2.2
              refine h_goto (pc' := 19) rfl rfl ?_
              have qz36 : z36 = (Int32.ofInt 3) := h_lit hz36 ci_3
              subst qz36
              exact h_wk [(0, .ref 98), (1, .int x0), (2, .int (Int32.ofInt 3))] ⟨rfl, rfl, rfl, trivial⟩ (ih.2.2.2.2.1 _ Is37 Fs37  (by omega) (by omega) (by omega) (by omega) (h_nf ex3 (by omega) (by omega)) (h_ni (by omega)) (h_ni (by omega)) (by have gq := ps9_0; rw [show s4 105 = σ 105 from ((h_upg us4 rfl).trans (funext (fun j => F0_ 105 j rfl))), show s4 99 = σ 99 from ((h_upg us4 rfl).trans (funext (fun j => F0_ 99 j rfl))), show s4 106 2 = s0 106 2 + 1 from h_upv us4] at gq; exact g_ln_b (A := 2) (by omega) ex4 (by omega) (by omega) (h_upf us4) ((h_upf us37).trans (g_set_c ((h_upg us35 rfl).trans ((h_upg us29 rfl).trans (funext (fun j => Gs28 106 j rfl)))))) rfl (by omega) (by omega) (g_if_y gq (by omega)) (by omega)) (by omega))
            · refine h_iconst (pc' := 99) (x := (Int32.ofInt 1)) rfl rfl rfl ?_
              refine h_goto (pc' := 103) rfl rfl ?_
              refine h_iaddA (pc' := 104) rfl rfl (fun z38 hz38 => ?_)
              refine h_put (pc' := 107) rfl rfl rfl rfl rfl rfl rfl rfl (h_fgt (E := fun s => s 106 0 = s0 106 0 ∧ s 106 1 = s0 106 1 ∧ s 106 2 = ((s0 106 2) + 1) ∧ s 106 3 = s0 106 3 ∧ s 106 4 = s0 106 4 ∧ s 106 5 = s0 106 5 ∧ s 106 6 = s0 106 6 ∧ s 98 26 = s28 98 26 ∧ s = h_up s29 98 27 z38.toInt) _ (if_98_27 Is29 (h_rgv rfl)) (Fs29.up rfl) ⟨es29.1, es29.2.1, es29.2.2.1, es29.2.2.2.1, es29.2.2.2.2.1, es29.2.2.2.2.2.1, es29.2.2.2.2.2.2.1, es29.2.2.2.2.2.2.2.1, rfl⟩ (fun s39 Is39 Fs39 (es39 : s39 106 0 = s0 106 0 ∧ s39 106 1 = s0 106 1 ∧ s39 106 2 = ((s0 106 2) + 1) ∧ s39 106 3 = s0 106 3 ∧ s39 106 4 = s0 106 4 ∧ s39 106 5 = s0 106 5 ∧ s39 106 6 = s0 106 6 ∧ s39 98 26 = s28 98 26 ∧ s39 = h_up s29 98 27 z38.toInt) => ?_))
              clear es29
              have us39 := es39.2.2.2.2.2.2.2.2
              refine h_iinc (pc' := 110) (b := 3) (M := fun z40 => [(2, .int z40), (0, .ref 98), (1, .int x0)]) rfl rfl rfl rfl ci_2 ci_1 rfl (by omega) (by omega) (fun _ => rfl) (fun z40 hz40 => ?_)
              refine h_aload_n (pc' := 111) rfl rfl rfl ?_
              refine h_getR (pc' := 114) rfl rfl rfl rfl rfl ?_
              refine h_iload_n (pc' := 115) rfl rfl rfl ?_
              refine h_iconst (pc' := 116) (x := (Int32.ofInt (-1))) rfl rfl rfl ?_
              refine h_iast (pc' := 117) rfl rfl rfl rfl hz40 (by omega) (by omega) ci_m1 (h_fgt (E := fun s => s 106 0 = s0 106 0 ∧ s 106 1 = s0 106 1 ∧ s 106 2 = ((s0 106 2) + 1) ∧ s 106 3 = (-1) ∧ s 106 4 = s0 106 4 ∧ s 106 5 = s0 106 5 ∧ s 106 6 = s0 106 6 ∧ s 98 26 = s28 98 26 ∧ s = h_up s39 106 3 (-1)) _ (in_106 Is39 (by omega)) (Fs39.up rfl) ⟨es39.1, es39.2.1, es39.2.2.1, rfl, es39.2.2.2.2.1, es39.2.2.2.2.2.1, es39.2.2.2.2.2.2.1, es39.2.2.2.2.2.2.2.1, rfl⟩ (fun s41 Is41 Fs41 (es41 : s41 106 0 = s0 106 0 ∧ s41 106 1 = s0 106 1 ∧ s41 106 2 = ((s0 106 2) + 1) ∧ s41 106 3 = (-1) ∧ s41 106 4 = s0 106 4 ∧ s41 106 5 = s0 106 5 ∧ s41 106 6 = s0 106 6 ∧ s41 98 26 = s28 98 26 ∧ s41 = h_up s39 106 3 (-1)) => ?_))
              clear es39
              have us41 := es41.2.2.2.2.2.2.2.2
              refine h_goto (pc' := 19) rfl rfl ?_
              have qz40 : z40 = (Int32.ofInt 3) := h_lit hz40 ci_3
              subst qz40
              exact h_wk [(0, .ref 98), (1, .int x0), (2, .int (Int32.ofInt 3))] ⟨rfl, rfl, rfl, trivial⟩ (ih.2.2.2.2.1 _ Is41 Fs41  (by omega) (by omega) (by omega) (by omega) (h_nf ex3 (by omega) (by omega)) (h_ni (by omega)) (h_ni (by omega)) (by have gq := ps9_0; rw [show s4 105 = σ 105 from ((h_upg us4 rfl).trans (funext (fun j => F0_ 105 j rfl))), show s4 99 = σ 99 from ((h_upg us4 rfl).trans (funext (fun j => F0_ 99 j rfl))), show s4 106 2 = s0 106 2 + 1 from h_upv us4] at gq; exact g_ln_b (A := 2) (by omega) ex4 (by omega) (by omega) (h_upf us4) ((h_upf us41).trans (g_set_c ((h_upg us39 rfl).trans ((h_upg us29 rfl).trans (funext (fun j => Gs28 106 j rfl)))))) rfl (by omega) (by omega) (g_if_y gq (by omega)) (by omega)) (by omega))
      · refine h_iinc (pc' := 49) (b := 1) (M := fun z42 => [(2, .int z42), (0, .ref 98), (1, .int x0)]) rfl rfl rfl rfl ci_2 ci_m1 rfl (by omega) (by omega) (fun _ => rfl) (fun z42 hz42 => ?_)
        refine h_goto (pc' := 19) rfl rfl ?_
        have qz42 : z42 = (Int32.ofInt 1) := h_lit hz42 ci_1
        subst qz42
        exact h_wk [(0, .ref 98), (1, .int x0), (2, .int (Int32.ofInt 1))] ⟨rfl, rfl, rfl, trivial⟩ (ih.2.2.1 _ Is4 Fs4  (by omega) (by omega) (g_ln_a (A := 2) ex4 (by omega) rfl (h_upf us4) rfl (by omega) (by omega)) (by omega))
    · intro s0 I0 F0_ ex0 ex1 ex2 ex3 ex4 ex5 ex6 ex7 hm; have gh0 := tf_98_26 I0; have gh1 := tf_98_1 hI; have gh2 := F0_ 98 1 rfl
      refine h_iload_n (pc' := 20) rfl rfl rfl ?_
      refine h_zlt (tg := 120) (pc' := 23) rfl rfl rfl ci_3 (fun c1 => absurd c1 (by omega)) (fun c1 => ?_)
      refine h_aload_n (pc' := 24) rfl rfl rfl ?_
      refine h_getR (pc' := 27) rfl rfl rfl rfl rfl ?_
      refine h_iload_n (pc' := 28) rfl rfl rfl ?_
      refine h_dup2 (pc' := 29) rfl rfl rfl ?_
      refine h_iald (pc' := 30) (v := s0 106 3) rfl rfl rfl ci_3 (by omega) (by omega) rfl (fun z2 hz2 => ?_)
      have tz2 := ty_106 I0 3
      refine h_iconst (pc' := 31) (x := (Int32.ofInt 1)) rfl rfl rfl ?_
      refine h_iadd (pc' := 32) rfl rfl hz2 ci_1 rfl (by omega) (by omega) (fun z3 hz3 => ?_)
      refine h_iast (pc' := 33) rfl rfl rfl rfl ci_3 (by omega) (by omega) hz3 (h_fgt (E := fun s => s 106 0 = s0 106 0 ∧ s 106 1 = s0 106 1 ∧ s 106 2 = s0 106 2 ∧ s 106 3 = ((s0 106 3) + 1) ∧ s 106 4 = s0 106 4 ∧ s 106 5 = s0 106 5 ∧ s 106 6 = s0 106 6 ∧ s 98 26 = s0 98 26 ∧ s = h_up s0 106 3 ((s0 106 3) + 1)) _ (in_106 I0 (by omega)) (F0_.up rfl) ⟨rfl, rfl, rfl, rfl, rfl, rfl, rfl, rfl, rfl⟩ (fun s4 Is4 Fs4 (es4 : s4 106 0 = s0 106 0 ∧ s4 106 1 = s0 106 1 ∧ s4 106 2 = s0 106 2 ∧ s4 106 3 = ((s0 106 3) + 1) ∧ s4 106 4 = s0 106 4 ∧ s4 106 5 = s0 106 5 ∧ s4 106 6 = s0 106 6 ∧ s4 98 26 = s0 98 26 ∧ s4 = h_up s0 106 3 ((s0 106 3) + 1)) => ?_))
      have us4 := es4.2.2.2.2.2.2.2.2
      refine h_aload_n (pc' := 34) rfl rfl rfl ?_
      refine h_getR (pc' := 37) rfl rfl rfl rfl rfl ?_
      refine h_iload_n (pc' := 38) rfl rfl rfl ?_
      refine h_iald (pc' := 39) (v := ((s0 106 3) + 1)) rfl rfl rfl ci_3 (by omega) (by omega) es4.2.2.2.1 (fun z5 hz5 => ?_)
      refine h_aload_n (pc' := 40) rfl rfl rfl ?_
      refine h_getI (pc' := 43) (v := σ 98 1) rfl rfl rfl rfl rfl (Fs4 98 1 rfl) (fun z6 hz6 => ?_)
      have tz6 := tf_98_1 hI
      refine h_clt (tg := 52) (pc' := 46) rfl rfl rfl hz5 hz6 (fun c7 => ?_) (fun c7 => ?_)
      · refine h_aload_n (pc' := 53) rfl rfl rfl ?_
        refine h_iload_n (pc' := 54) rfl rfl rfl ?_
        refine h_iload_n (pc' := 55) rfl rfl rfl ?_
        refine h_call (sp := false) (pc' := 58) (M := [(0, .ref 98), (1, .int x0), (2, .int (Int32.ofInt 3))]) rfl rfl rfl rfl rfl rfl rfl rfl ?_
        refine n_st3 _ Is4 x0 _ hx0 (by omega)  (by omega) (by omega) (fun r8 br8 hr8 tr8 ps9_0 ps9_1 ps9_2 ps9_3 => h_Kv ?_)
        refine h_zeq (tg := 19) (pc' := 61) rfl rfl rfl hr8 (fun c10 => ?_) (fun c10 => ?_)
        · exact h_wk [(0, .ref 98), (1, .int x0), (2, .int (Int32.ofInt 3))] ⟨rfl, rfl, rfl, trivial⟩ (ih.2.2.2.2.1 _ Is4 Fs4  (by omega) (by omega) (by omega) (by omega) (h_nf ex4 (by omega) (by omega)) (h_nf ex5 (by omega) (by omega)) (h_nf ex6 (by omega) (by omega)) (by have gq := ps9_0; rw [show s4 105 = σ 105 from ((h_upg us4 rfl).trans (funext (fun j => F0_ 105 j rfl))), show s4 99 = σ 99 from ((h_upg us4 rfl).trans (funext (fun j => F0_ 99 j rfl))), show s4 106 3 = s0 106 3 + 1 from h_upv us4] at gq; exact g_ln_c (A := 3) ex7 (by omega) (h_upf us4) rfl (g_if_n gq (by omega)) (by omega)) (by omega))
        · refine h_iload_n (pc' := 62) rfl rfl rfl ?_
          refine h_iconst (pc' := 63) (x := (Int32.ofInt 1)) rfl rfl rfl ?_
          refine h_iadd (pc' := 64) (c := 4) rfl rfl ci_3 ci_1 rfl (by omega) (by omega) (fun z11 hz11 => ?_)
          refine h_aload_n (pc' := 65) rfl rfl rfl ?_
          refine h_getI (pc' := 68) (v := s0 98 26) rfl rfl rfl rfl rfl es4.2.2.2.2.2.2.2.1 (fun z12 hz12 => ?_)
          have tz12 := tf_98_26 I0
          refine h_cle (tg := 83) (pc' := 71) rfl rfl rfl hz11 hz12 (fun c13 => ?_) (fun c13 => ?_)
          · refine h_aload_n (pc' := 84) rfl rfl rfl ?_
            refine h_dup (pc' := 85) rfl rfl rfl ?_
            refine h_getI (pc' := 88) (v := s4 98 27) rfl rfl rfl rfl rfl rfl (fun z14 hz14 => ?_)
            have tz14 := tf_98_27 Is4
            refine h_iload_n (pc' := 89) rfl rfl rfl ?_
            refine h_iconst (pc' := 90) (x := (Int32.ofInt 1)) rfl rfl rfl ?_
            refine h_iadd (pc' := 91) (c := 4) rfl rfl ci_3 ci_1 rfl (by omega) (by omega) (fun z15 hz15 => ?_)
            refine h_aload_n (pc' := 92) rfl rfl rfl ?_
            refine h_getI (pc' := 95) (v := s0 98 26) rfl rfl rfl rfl rfl es4.2.2.2.2.2.2.2.1 (fun z16 hz16 => ?_)
            have tz16 := tf_98_26 I0
            refine h_cne (tg := 102) (pc' := 98) rfl rfl rfl hz15 hz16 (fun c17 => ?_) (fun c17 => ?_)
            · refine h_iconst (pc' := 103) (x := (Int32.ofInt 0)) rfl rfl rfl ?_
              refine h_iadd (pc' := 104) rfl rfl hz14 ci_0 rfl (by have g0 := h_rgv hz14; omega) (by have g0 := h_rgv hz14; omega) (fun z18 hz18 => ?_)
              refine h_put (pc' := 107) rfl rfl rfl rfl rfl rfl hz18 rfl (h_fgt (E := fun s => s 106 0 = s0 106 0 ∧ s 106 1 = s0 106 1 ∧ s 106 2 = s0 106 2 ∧ s 106 3 = ((s0 106 3) + 1) ∧ s 106 4 = s0 106 4 ∧ s 106 5 = s0 106 5 ∧ s 106 6 = s0 106 6 ∧ s 98 26 = s0 98 26 ∧ s = h_up s4 98 27 ((s4 98 27) + 0)) _ (if_98_27 Is4 (h_rgv hz18)) (Fs4.up rfl) ⟨es4.1, es4.2.1, es4.2.2.1, es4.2.2.2.1, es4.2.2.2.2.1, es4.2.2.2.2.2.1, es4.2.2.2.2.2.2.1, es4.2.2.2.2.2.2.2.1, rfl⟩ (fun s19 Is19 Fs19 (es19 : s19 106 0 = s0 106 0 ∧ s19 106 1 = s0 106 1 ∧ s19 106 2 = s0 106 2 ∧ s19 106 3 = ((s0 106 3) + 1) ∧ s19 106 4 = s0 106 4 ∧ s19 106 5 = s0 106 5 ∧ s19 106 6 = s0 106 6 ∧ s19 98 26 = s0 98 26 ∧ s19 = h_up s4 98 27 ((s4 98 27) + 0)) => ?_))
              have us19 := es19.2.2.2.2.2.2.2.2
              refine h_iinc (pc' := 110) (b := 4) (M := fun z20 => [(2, .int z20), (0, .ref 98), (1, .int x0)]) rfl rfl rfl rfl ci_3 ci_1 rfl (by omega) (by omega) (fun _ => rfl) (fun z20 hz20 => ?_)
              refine h_aload_n (pc' := 111) rfl rfl rfl ?_
              refine h_getR (pc' := 114) rfl rfl rfl rfl rfl ?_
              refine h_iload_n (pc' := 115) rfl rfl rfl ?_
              refine h_iconst (pc' := 116) (x := (Int32.ofInt (-1))) rfl rfl rfl ?_
              refine h_iast (pc' := 117) rfl rfl rfl rfl hz20 (by omega) (by omega) ci_m1 (h_fgt (E := fun s => s 106 0 = s0 106 0 ∧ s 106 1 = s0 106 1 ∧ s 106 2 = s0 106 2 ∧ s 106 3 = ((s0 106 3) + 1) ∧ s 106 4 = (-1) ∧ s 106 5 = s0 106 5 ∧ s 106 6 = s0 106 6 ∧ s 98 26 = s0 98 26 ∧ s = h_up s19 106 4 (-1)) _ (in_106 Is19 (by omega)) (Fs19.up rfl) ⟨es19.1, es19.2.1, es19.2.2.1, es19.2.2.2.1, rfl, es19.2.2.2.2.2.1, es19.2.2.2.2.2.2.1, es19.2.2.2.2.2.2.2.1, rfl⟩ (fun s21 Is21 Fs21 (es21 : s21 106 0 = s0 106 0 ∧ s21 106 1 = s0 106 1 ∧ s21 106 2 = s0 106 2 ∧ s21 106 3 = ((s0 106 3) + 1) ∧ s21 106 4 = (-1) ∧ s21 106 5 = s0 106 5 ∧ s21 106 6 = s0 106 6 ∧ s21 98 26 = s0 98 26 ∧ s21 = h_up s19 106 4 (-1)) => ?_))
              clear es19
              have us21 := es21.2.2.2.2.2.2.2.2
              refine h_goto (pc' := 19) rfl rfl ?_
              have qz20 : z20 = (Int32.ofInt 4) := h_lit hz20 ci_4
              subst qz20
              exact h_wk [(0, .ref 98), (1, .int x0), (2, .int (Int32.ofInt 4))] ⟨rfl, rfl, rfl, trivial⟩ (ih.2.2.2.2.2.1 _ Is21 Fs21  (by omega) (by omega) (by omega) (by omega) (by omega) (h_nf ex4 (by omega) (by omega)) (h_nf ex5 (by omega) (by omega)) (h_nf ex6 (by omega) (by omega)) (h_ni (by omega)) (h_ni (by omega)) (h_ni (by omega)) (by have gq := ps9_0; rw [show s4 105 = σ 105 from ((h_upg us4 rfl).trans (funext (fun j => F0_ 105 j rfl))), show s4 99 = σ 99 from ((h_upg us4 rfl).trans (funext (fun j => F0_ 99 j rfl))), show s4 106 3 = s0 106 3 + 1 from h_upv us4] at gq; exact g_ln_b (A := 3) (by omega) ex7 (by omega) (by omega) (h_upf us4) ((h_upf us21).trans (g_set_c (h_upg us19 rfl))) rfl (by omega) (by omega) (g_if_y gq (by omega)) (by omega)) (by omega))
            · refine h_iconst (pc' := 99) (x := (Int32.ofInt 1)) rfl rfl rfl ?_
              refine h_goto (pc' := 103) rfl rfl ?_
              refine h_iaddA (pc' := 104) rfl rfl (fun z22 hz22 => ?_)
              refine h_put (pc' := 107) rfl rfl rfl rfl rfl rfl rfl rfl (h_fgt (E := fun s => s 106 0 = s0 106 0 ∧ s 106 1 = s0 106 1 ∧ s 106 2 = s0 106 2 ∧ s 106 3 = ((s0 106 3) + 1) ∧ s 106 4 = s0 106 4 ∧ s 106 5 = s0 106 5 ∧ s 106 6 = s0 106 6 ∧ s 98 26 = s0 98 26 ∧ s = h_up s4 98 27 z22.toInt) _ (if_98_27 Is4 (h_rgv rfl)) (Fs4.up rfl) ⟨es4.1, es4.2.1, es4.2.2.1, es4.2.2.2.1, es4.2.2.2.2.1, es4.2.2.2.2.2.1, es4.2.2.2.2.2.2.1, es4.2.2.2.2.2.2.2.1, rfl⟩ (fun s23 Is23 Fs23 (es23 : s23 106 0 = s0 106 0 ∧ s23 106 1 = s0 106 1 ∧ s23 106 2 = s0 106 2 ∧ s23 106 3 = ((s0 106 3) + 1) ∧ s23 106 4 = s0 106 4 ∧ s23 106 5 = s0 106 5 ∧ s23 106 6 = s0 106 6 ∧ s23 98 26 = s0 98 26 ∧ s23 = h_up s4 98 27 z22.toInt) => ?_))
              have us23 := es23.2.2.2.2.2.2.2.2
              refine h_iinc (pc' := 110) (b := 4) (M := fun z24 => [(2, .int z24), (0, .ref 98), (1, .int x0)]) rfl rfl rfl rfl ci_3 ci_1 rfl (by omega) (by omega) (fun _ => rfl) (fun z24 hz24 => ?_)
              refine h_aload_n (pc' := 111) rfl rfl rfl ?_
              refine h_getR (pc' := 114) rfl rfl rfl rfl rfl ?_
              refine h_iload_n (pc' := 115) rfl rfl rfl ?_
              refine h_iconst (pc' := 116) (x := (Int32.ofInt (-1))) rfl rfl rfl ?_
              refine h_iast (pc' := 117) rfl rfl rfl rfl hz24 (by omega) (by omega) ci_m1 (h_fgt (E := fun s => s 106 0 = s0 106 0 ∧ s 106 1 = s0 106 1 ∧ s 106 2 = s0 106 2 ∧ s 106 3 = ((s0 106 3) + 1) ∧ s 106 4 = (-1) ∧ s 106 5 = s0 106 5 ∧ s 106 6 = s0 106 6 ∧ s 98 26 = s0 98 26 ∧ s = h_up s23 106 4 (-1)) _ (in_106 Is23 (by omega)) (Fs23.up rfl) ⟨es23.1, es23.2.1, es23.2.2.1, es23.2.2.2.1, rfl, es23.2.2.2.2.2.1, es23.2.2.2.2.2.2.1, es23.2.2.2.2.2.2.2.1, rfl⟩ (fun s25 Is25 Fs25 (es25 : s25 106 0 = s0 106 0 ∧ s25 106 1 = s0 106 1 ∧ s25 106 2 = s0 106 2 ∧ s25 106 3 = ((s0 106 3) + 1) ∧ s25 106 4 = (-1) ∧ s25 106 5 = s0 106 5 ∧ s25 106 6 = s0 106 6 ∧ s25 98 26 = s0 98 26 ∧ s25 = h_up s23 106 4 (-1)) => ?_))
              clear es23
              have us25 := es25.2.2.2.2.2.2.2.2
              refine h_goto (pc' := 19) rfl rfl ?_
              have qz24 : z24 = (Int32.ofInt 4) := h_lit hz24 ci_4
              subst qz24
              exact h_wk [(0, .ref 98), (1, .int x0), (2, .int (Int32.ofInt 4))] ⟨rfl, rfl, rfl, trivial⟩ (ih.2.2.2.2.2.1 _ Is25 Fs25  (by omega) (by omega) (by omega) (by omega) (by omega) (h_nf ex4 (by omega) (by omega)) (h_nf ex5 (by omega) (by omega)) (h_nf ex6 (by omega) (by omega)) (h_ni (by omega)) (h_ni (by omega)) (h_ni (by omega)) (by have gq := ps9_0; rw [show s4 105 = σ 105 from ((h_upg us4 rfl).trans (funext (fun j => F0_ 105 j rfl))), show s4 99 = σ 99 from ((h_upg us4 rfl).trans (funext (fun j => F0_ 99 j rfl))), show s4 106 3 = s0 106 3 + 1 from h_upv us4] at gq; exact g_ln_b (A := 3) (by omega) ex7 (by omega) (by omega) (h_upf us4) ((h_upf us25).trans (g_set_c (h_upg us23 rfl))) rfl (by omega) (by omega) (g_if_y gq (by omega)) (by omega)) (by omega))
          · refine h_aload_n (pc' := 72) rfl rfl rfl ?_
            refine h_iload_n (pc' := 73) rfl rfl rfl ?_
            refine h_iconst (pc' := 74) (x := (Int32.ofInt 1)) rfl rfl rfl ?_
            refine h_iadd (pc' := 75) (c := 4) rfl rfl ci_3 ci_1 rfl (by omega) (by omega) (fun z26 hz26 => ?_)
            refine h_call (sp := false) (pc' := 78) (M := [(0, .ref 98), (1, .int z26)]) rfl rfl rfl rfl rfl rfl rfl rfl ?_
            refine n_keeps _ Is4 z26 _ hz26 (by omega) (fun s28 Is28 Gs28 ps28_0 ps28_1 ps28_2 ps28_3 ps28_4 ps28_5 ps28_6 ps28_7 => h_Kn ?_)
            have Fs28 := (Gs28.mono (B := kf_n_lines) rfl).tr Fs4
            have es28_0 : s28 106 0 = s0 106 0 := (Gs28 106 0 rfl).trans es4.1
            have es28_1 : s28 106 1 = s0 106 1 := (Gs28 106 1 rfl).trans es4.2.1
            have es28_2 : s28 106 2 = s0 106 2 := (Gs28 106 2 rfl).trans es4.2.2.1
            have es28_3 : s28 106 3 = ((s0 106 3) + 1) := (Gs28 106 3 rfl).trans es4.2.2.2.1
            have es28_4 : s28 106 4 = s0 106 4 := (Gs28 106 4 rfl).trans es4.2.2.2.2.1
            have es28_5 : s28 106 5 = s0 106 5 := (Gs28 106 5 rfl).trans es4.2.2.2.2.2.1
            have es28_6 : s28 106 6 = s0 106 6 := (Gs28 106 6 rfl).trans es4.2.2.2.2.2.2.1
            refine h_aload_n (pc' := 79) rfl rfl rfl ?_
            refine h_iconst (pc' := 80) (x := (Int32.ofInt 0)) rfl rfl rfl ?_
            refine h_put (pc' := 83) rfl rfl rfl rfl rfl rfl ci_0 rfl (h_fgt (E := fun s => s 106 0 = s0 106 0 ∧ s 106 1 = s0 106 1 ∧ s 106 2 = s0 106 2 ∧ s 106 3 = ((s0 106 3) + 1) ∧ s 106 4 = s0 106 4 ∧ s 106 5 = s0 106 5 ∧ s 106 6 = s0 106 6 ∧ s 98 26 = s28 98 26 ∧ s = h_up s28 98 27 0) _ (if_98_27 Is28 (h_rgv ci_0)) (Fs28.up rfl) ⟨es28_0, es28_1, es28_2, es28_3, es28_4, es28_5, es28_6, rfl, rfl⟩ (fun s29 Is29 Fs29 (es29 : s29 106 0 = s0 106 0 ∧ s29 106 1 = s0 106 1 ∧ s29 106 2 = s0 106 2 ∧ s29 106 3 = ((s0 106 3) + 1) ∧ s29 106 4 = s0 106 4 ∧ s29 106 5 = s0 106 5 ∧ s29 106 6 = s0 106 6 ∧ s29 98 26 = s28 98 26 ∧ s29 = h_up s28 98 27 0) => ?_))
            have us29 := es29.2.2.2.2.2.2.2.2
            refine h_aload_n (pc' := 84) rfl rfl rfl ?_
            refine h_dup (pc' := 85) rfl rfl rfl ?_
            refine h_getI (pc' := 88) (v := s29 98 27) rfl rfl rfl rfl rfl rfl (fun z30 hz30 => ?_)
            have tz30 := tf_98_27 Is29
            refine h_iload_n (pc' := 89) rfl rfl rfl ?_
            refine h_iconst (pc' := 90) (x := (Int32.ofInt 1)) rfl rfl rfl ?_
            refine h_iadd (pc' := 91) (c := 4) rfl rfl ci_3 ci_1 rfl (by omega) (by omega) (fun z31 hz31 => ?_)
            refine h_aload_n (pc' := 92) rfl rfl rfl ?_
            refine h_getI (pc' := 95) (v := s28 98 26) rfl rfl rfl rfl rfl es29.2.2.2.2.2.2.2.1 (fun z32 hz32 => ?_)
            have tz32 := tf_98_26 Is28
            refine h_cne (tg := 102) (pc' := 98) rfl rfl rfl hz31 hz32 (fun c33 => ?_) (fun c33 => ?_)
            · refine h_iconst (pc' := 103) (x := (Int32.ofInt 0)) rfl rfl rfl ?_
              refine h_iadd (pc' := 104) rfl rfl hz30 ci_0 rfl (by have g0 := h_rgv hz30; omega) (by have g0 := h_rgv hz30; omega) (fun z34 hz34 => ?_)
              refine h_put (pc' := 107) rfl rfl rfl rfl rfl rfl hz34 rfl (h_fgt (E := fun s => s 106 0 = s0 106 0 ∧ s 106 1 = s0 106 1 ∧ s 106 2 = s0 106 2 ∧ s 106 3 = ((s0 106 3) + 1) ∧ s 106 4 = s0 106 4 ∧ s 106 5 = s0 106 5 ∧ s 106 6 = s0 106 6 ∧ s 98 26 = s28 98 26 ∧ s = h_up s29 98 27 ((s29 98 27) + 0)) _ (if_98_27 Is29 (h_rgv hz34)) (Fs29.up rfl) ⟨es29.1, es29.2.1, es29.2.2.1, es29.2.2.2.1, es29.2.2.2.2.1, es29.2.2.2.2.2.1, es29.2.2.2.2.2.2.1, es29.2.2.2.2.2.2.2.1, rfl⟩ (fun s35 Is35 Fs35 (es35 : s35 106 0 = s0 106 0 ∧ s35 106 1 = s0 106 1 ∧ s35 106 2 = s0 106 2 ∧ s35 106 3 = ((s0 106 3) + 1) ∧ s35 106 4 = s0 106 4 ∧ s35 106 5 = s0 106 5 ∧ s35 106 6 = s0 106 6 ∧ s35 98 26 = s28 98 26 ∧ s35 = h_up s29 98 27 ((s29 98 27) + 0)) => ?_))
              clear es29
              have us35 := es35.2.2.2.2.2.2.2.2
              refine h_iinc (pc' := 110) (b := 4) (M := fun z36 => [(2, .int z36), (0, .ref 98), (1, .int x0)]) rfl rfl rfl rfl ci_3 ci_1 rfl (by omega) (by omega) (fun _ => rfl) (fun z36 hz36 => ?_)
              refine h_aload_n (pc' := 111) rfl rfl rfl ?_
              refine h_getR (pc' := 114) rfl rfl rfl rfl rfl ?_
              refine h_iload_n (pc' := 115) rfl rfl rfl ?_
              refine h_iconst (pc' := 116) (x := (Int32.ofInt (-1))) rfl rfl rfl ?_
              refine h_iast (pc' := 117) rfl rfl rfl rfl hz36 (by omega) (by omega) ci_m1 (h_fgt (E := fun s => s 106 0 = s0 106 0 ∧ s 106 1 = s0 106 1 ∧ s 106 2 = s0 106 2 ∧ s 106 3 = ((s0 106 3) + 1) ∧ s 106 4 = (-1) ∧ s 106 5 = s0 106 5 ∧ s 106 6 = s0 106 6 ∧ s 98 26 = s28 98 26 ∧ s = h_up s35 106 4 (-1)) _ (in_106 Is35 (by omega)) (Fs35.up rfl) ⟨es35.1, es35.2.1, es35.2.2.1, es35.2.2.2.1, rfl, es35.2.2.2.2.2.1, es35.2.2.2.2.2.2.1, es35.2.2.2.2.2.2.2.1, rfl⟩ (fun s37 Is37 Fs37 (es37 : s37 106 0 = s0 106 0 ∧ s37 106 1 = s0 106 1 ∧ s37 106 2 = s0 106 2 ∧ s37 106 3 = ((s0 106 3) + 1) ∧ s37 106 4 = (-1) ∧ s37 106 5 = s0 106 5 ∧ s37 106 6 = s0 106 6 ∧ s37 98 26 = s28 98 26 ∧ s37 = h_up s35 106 4 (-1)) => ?_))
              clear es35
              have us37 := es37.2.2.2.2.2.2.2.2
              refine h_goto (pc' := 19) rfl rfl ?_
              have qz36 : z36 = (Int32.ofInt 4) := h_lit hz36 ci_4
              subst qz36
              exact h_wk [(0, .ref 98), (1, .int x0), (2, .int (Int32.ofInt 4))] ⟨rfl, rfl, rfl, trivial⟩ (ih.2.2.2.2.2.1 _ Is37 Fs37  (by omega) (by omega) (by omega) (by omega) (by omega) (h_nf ex4 (by omega) (by omega)) (h_nf ex5 (by omega) (by omega)) (h_nf ex6 (by omega) (by omega)) (h_ni (by omega)) (h_ni (by omega)) (h_ni (by omega)) (by have gq := ps9_0; rw [show s4 105 = σ 105 from ((h_upg us4 rfl).trans (funext (fun j => F0_ 105 j rfl))), show s4 99 = σ 99 from ((h_upg us4 rfl).trans (funext (fun j => F0_ 99 j rfl))), show s4 106 3 = s0 106 3 + 1 from h_upv us4] at gq; exact g_ln_b (A := 3) (by omega) ex7 (by omega) (by omega) (h_upf us4) ((h_upf us37).trans (g_set_c ((h_upg us35 rfl).trans ((h_upg us29 rfl).trans (funext (fun j => Gs28 106 j rfl)))))) rfl (by omega) (by omega) (g_if_y gq (by omega)) (by omega)) (by omega))
            · refine h_iconst (pc' := 99) (x := (Int32.ofInt 1)) rfl rfl rfl ?_
              refine h_goto (pc' := 103) rfl rfl ?_
              refine h_iaddA (pc' := 104) rfl rfl (fun z38 hz38 => ?_)
              refine h_put (pc' := 107) rfl rfl rfl rfl rfl rfl rfl rfl (h_fgt (E := fun s => s 106 0 = s0 106 0 ∧ s 106 1 = s0 106 1 ∧ s 106 2 = s0 106 2 ∧ s 106 3 = ((s0 106 3) + 1) ∧ s 106 4 = s0 106 4 ∧ s 106 5 = s0 106 5 ∧ s 106 6 = s0 106 6 ∧ s 98 26 = s28 98 26 ∧ s = h_up s29 98 27 z38.toInt) _ (if_98_27 Is29 (h_rgv rfl)) (Fs29.up rfl) ⟨es29.1, es29.2.1, es29.2.2.1, es29.2.2.2.1, es29.2.2.2.2.1, es29.2.2.2.2.2.1, es29.2.2.2.2.2.2.1, es29.2.2.2.2.2.2.2.1, rfl⟩ (fun s39 Is39 Fs39 (es39 : s39 106 0 = s0 106 0 ∧ s39 106 1 = s0 106 1 ∧ s39 106 2 = s0 106 2 ∧ s39 106 3 = ((s0 106 3) + 1) ∧ s39 106 4 = s0 106 4 ∧ s39 106 5 = s0 106 5 ∧ s39 106 6 = s0 106 6 ∧ s39 98 26 = s28 98 26 ∧ s39 = h_up s29 98 27 z38.toInt) => ?_))
              clear es29
              have us39 := es39.2.2.2.2.2.2.2.2
              refine h_iinc (pc' := 110) (b := 4) (M := fun z40 => [(2, .int z40), (0, .ref 98), (1, .int x0)]) rfl rfl rfl rfl ci_3 ci_1 rfl (by omega) (by omega) (fun _ => rfl) (fun z40 hz40 => ?_)
              refine h_aload_n (pc' := 111) rfl rfl rfl ?_
              refine h_getR (pc' := 114) rfl rfl rfl rfl rfl ?_
              refine h_iload_n (pc' := 115) rfl rfl rfl ?_
              refine h_iconst (pc' := 116) (x := (Int32.ofInt (-1))) rfl rfl rfl ?_
              refine h_iast (pc' := 117) rfl rfl rfl rfl hz40 (by omega) (by omega) ci_m1 (h_fgt (E := fun s => s 106 0 = s0 106 0 ∧ s 106 1 = s0 106 1 ∧ s 106 2 = s0 106 2 ∧ s 106 3 = ((s0 106 3) + 1) ∧ s 106 4 = (-1) ∧ s 106 5 = s0 106 5 ∧ s 106 6 = s0 106 6 ∧ s 98 26 = s28 98 26 ∧ s = h_up s39 106 4 (-1)) _ (in_106 Is39 (by omega)) (Fs39.up rfl) ⟨es39.1, es39.2.1, es39.2.2.1, es39.2.2.2.1, rfl, es39.2.2.2.2.2.1, es39.2.2.2.2.2.2.1, es39.2.2.2.2.2.2.2.1, rfl⟩ (fun s41 Is41 Fs41 (es41 : s41 106 0 = s0 106 0 ∧ s41 106 1 = s0 106 1 ∧ s41 106 2 = s0 106 2 ∧ s41 106 3 = ((s0 106 3) + 1) ∧ s41 106 4 = (-1) ∧ s41 106 5 = s0 106 5 ∧ s41 106 6 = s0 106 6 ∧ s41 98 26 = s28 98 26 ∧ s41 = h_up s39 106 4 (-1)) => ?_))
              clear es39
              have us41 := es41.2.2.2.2.2.2.2.2
              refine h_goto (pc' := 19) rfl rfl ?_
              have qz40 : z40 = (Int32.ofInt 4) := h_lit hz40 ci_4
              subst qz40
              exact h_wk [(0, .ref 98), (1, .int x0), (2, .int (Int32.ofInt 4))] ⟨rfl, rfl, rfl, trivial⟩ (ih.2.2.2.2.2.1 _ Is41 Fs41  (by omega) (by omega) (by omega) (by omega) (by omega) (h_nf ex4 (by omega) (by omega)) (h_nf ex5 (by omega) (by omega)) (h_nf ex6 (by omega) (by omega)) (h_ni (by omega)) (h_ni (by omega)) (h_ni (by omega)) (by have gq := ps9_0; rw [show s4 105 = σ 105 from ((h_upg us4 rfl).trans (funext (fun j => F0_ 105 j rfl))), show s4 99 = σ 99 from ((h_upg us4 rfl).trans (funext (fun j => F0_ 99 j rfl))), show s4 106 3 = s0 106 3 + 1 from h_upv us4] at gq; exact g_ln_b (A := 3) (by omega) ex7 (by omega) (by omega) (h_upf us4) ((h_upf us41).trans (g_set_c ((h_upg us39 rfl).trans ((h_upg us29 rfl).trans (funext (fun j => Gs28 106 j rfl)))))) rfl (by omega) (by omega) (g_if_y gq (by omega)) (by omega)) (by omega))
      · refine h_iinc (pc' := 49) (b := 2) (M := fun z42 => [(2, .int z42), (0, .ref 98), (1, .int x0)]) rfl rfl rfl rfl ci_3 ci_m1 rfl (by omega) (by omega) (fun _ => rfl) (fun z42 hz42 => ?_)
        refine h_goto (pc' := 19) rfl rfl ?_
        have qz42 : z42 = (Int32.ofInt 2) := h_lit hz42 ci_2
        subst qz42
        exact h_wk [(0, .ref 98), (1, .int x0), (2, .int (Int32.ofInt 2))] ⟨rfl, rfl, rfl, trivial⟩ (ih.2.2.2.1 _ Is4 Fs4  (by omega) (by omega) (by omega) (h_nf ex4 (by omega) (by omega)) (g_ln_a (A := 3) ex7 (by omega) rfl (h_upf us4) rfl (by omega) (by omega)) (by omega))
    · intro s0 I0 F0_ ex0 ex1 ex2 ex3 ex4 ex5 ex6 ex7 ex8 ex9 ex10 ex11 hm; have gh0 := tf_98_26 I0; have gh1 := tf_98_1 hI; have gh2 := F0_ 98 1 rfl
      refine h_iload_n (pc' := 20) rfl rfl rfl ?_
      refine h_zlt (tg := 120) (pc' := 23) rfl rfl rfl ci_4 (fun c1 => absurd c1 (by omega)) (fun c1 => ?_)
      refine h_aload_n (pc' := 24) rfl rfl rfl ?_
      refine h_getR (pc' := 27) rfl rfl rfl rfl rfl ?_
      refine h_iload_n (pc' := 28) rfl rfl rfl ?_
      refine h_dup2 (pc' := 29) rfl rfl rfl ?_
      refine h_iald (pc' := 30) (v := s0 106 4) rfl rfl rfl ci_4 (by omega) (by omega) rfl (fun z2 hz2 => ?_)
      have tz2 := ty_106 I0 4
      refine h_iconst (pc' := 31) (x := (Int32.ofInt 1)) rfl rfl rfl ?_
      refine h_iadd (pc' := 32) rfl rfl hz2 ci_1 rfl (by omega) (by omega) (fun z3 hz3 => ?_)
      refine h_iast (pc' := 33) rfl rfl rfl rfl ci_4 (by omega) (by omega) hz3 (h_fgt (E := fun s => s 106 0 = s0 106 0 ∧ s 106 1 = s0 106 1 ∧ s 106 2 = s0 106 2 ∧ s 106 3 = s0 106 3 ∧ s 106 4 = ((s0 106 4) + 1) ∧ s 106 5 = s0 106 5 ∧ s 106 6 = s0 106 6 ∧ s 98 26 = s0 98 26 ∧ s = h_up s0 106 4 ((s0 106 4) + 1)) _ (in_106 I0 (by omega)) (F0_.up rfl) ⟨rfl, rfl, rfl, rfl, rfl, rfl, rfl, rfl, rfl⟩ (fun s4 Is4 Fs4 (es4 : s4 106 0 = s0 106 0 ∧ s4 106 1 = s0 106 1 ∧ s4 106 2 = s0 106 2 ∧ s4 106 3 = s0 106 3 ∧ s4 106 4 = ((s0 106 4) + 1) ∧ s4 106 5 = s0 106 5 ∧ s4 106 6 = s0 106 6 ∧ s4 98 26 = s0 98 26 ∧ s4 = h_up s0 106 4 ((s0 106 4) + 1)) => ?_))
      have us4 := es4.2.2.2.2.2.2.2.2
      refine h_aload_n (pc' := 34) rfl rfl rfl ?_
      refine h_getR (pc' := 37) rfl rfl rfl rfl rfl ?_
      refine h_iload_n (pc' := 38) rfl rfl rfl ?_
      refine h_iald (pc' := 39) (v := ((s0 106 4) + 1)) rfl rfl rfl ci_4 (by omega) (by omega) es4.2.2.2.2.1 (fun z5 hz5 => ?_)
      refine h_aload_n (pc' := 40) rfl rfl rfl ?_
      refine h_getI (pc' := 43) (v := σ 98 1) rfl rfl rfl rfl rfl (Fs4 98 1 rfl) (fun z6 hz6 => ?_)
      have tz6 := tf_98_1 hI
      refine h_clt (tg := 52) (pc' := 46) rfl rfl rfl hz5 hz6 (fun c7 => ?_) (fun c7 => ?_)
      · refine h_aload_n (pc' := 53) rfl rfl rfl ?_
        refine h_iload_n (pc' := 54) rfl rfl rfl ?_
        refine h_iload_n (pc' := 55) rfl rfl rfl ?_
        refine h_call (sp := false) (pc' := 58) (M := [(0, .ref 98), (1, .int x0), (2, .int (Int32.ofInt 4))]) rfl rfl rfl rfl rfl rfl rfl rfl ?_
        refine n_st4 _ Is4 x0 _ hx0 (by omega)  (by omega) (by omega) (fun r8 br8 hr8 tr8 ps9_0 ps9_1 ps9_2 ps9_3 ps9_4 => h_Kv ?_)
        refine h_zeq (tg := 19) (pc' := 61) rfl rfl rfl hr8 (fun c10 => ?_) (fun c10 => ?_)
        · exact h_wk [(0, .ref 98), (1, .int x0), (2, .int (Int32.ofInt 4))] ⟨rfl, rfl, rfl, trivial⟩ (ih.2.2.2.2.2.1 _ Is4 Fs4  (by omega) (by omega) (by omega) (by omega) (by omega) (h_nf ex5 (by omega) (by omega)) (h_nf ex6 (by omega) (by omega)) (h_nf ex7 (by omega) (by omega)) (h_nf ex8 (by omega) (by omega)) (h_nf ex9 (by omega) (by omega)) (h_nf ex10 (by omega) (by omega)) (by have gq := ps9_0; rw [show s4 105 = σ 105 from ((h_upg us4 rfl).trans (funext (fun j => F0_ 105 j rfl))), show s4 99 = σ 99 from ((h_upg us4 rfl).trans (funext (fun j => F0_ 99 j rfl))), show s4 106 4 = s0 106 4 + 1 from h_upv us4] at gq; exact g_ln_c (A := 4) ex11 (by omega) (h_upf us4) rfl (g_if_n gq (by omega)) (by omega)) (by omega))
        · refine h_iload_n (pc' := 62) rfl rfl rfl ?_
          refine h_iconst (pc' := 63) (x := (Int32.ofInt 1)) rfl rfl rfl ?_
          refine h_iadd (pc' := 64) (c := 5) rfl rfl ci_4 ci_1 rfl (by omega) (by omega) (fun z11 hz11 => ?_)
          refine h_aload_n (pc' := 65) rfl rfl rfl ?_
          refine h_getI (pc' := 68) (v := s0 98 26) rfl rfl rfl rfl rfl es4.2.2.2.2.2.2.2.1 (fun z12 hz12 => ?_)
          have tz12 := tf_98_26 I0
          refine h_cle (tg := 83) (pc' := 71) rfl rfl rfl hz11 hz12 (fun c13 => ?_) (fun c13 => ?_)
          · refine h_aload_n (pc' := 84) rfl rfl rfl ?_
            refine h_dup (pc' := 85) rfl rfl rfl ?_
            refine h_getI (pc' := 88) (v := s4 98 27) rfl rfl rfl rfl rfl rfl (fun z14 hz14 => ?_)
            have tz14 := tf_98_27 Is4
            refine h_iload_n (pc' := 89) rfl rfl rfl ?_
            refine h_iconst (pc' := 90) (x := (Int32.ofInt 1)) rfl rfl rfl ?_
            refine h_iadd (pc' := 91) (c := 5) rfl rfl ci_4 ci_1 rfl (by omega) (by omega) (fun z15 hz15 => ?_)
            refine h_aload_n (pc' := 92) rfl rfl rfl ?_
            refine h_getI (pc' := 95) (v := s0 98 26) rfl rfl rfl rfl rfl es4.2.2.2.2.2.2.2.1 (fun z16 hz16 => ?_)
            have tz16 := tf_98_26 I0
            refine h_cne (tg := 102) (pc' := 98) rfl rfl rfl hz15 hz16 (fun c17 => ?_) (fun c17 => ?_)
            · refine h_iconst (pc' := 103) (x := (Int32.ofInt 0)) rfl rfl rfl ?_
              refine h_iadd (pc' := 104) rfl rfl hz14 ci_0 rfl (by have g0 := h_rgv hz14; omega) (by have g0 := h_rgv hz14; omega) (fun z18 hz18 => ?_)
              refine h_put (pc' := 107) rfl rfl rfl rfl rfl rfl hz18 rfl (h_fgt (E := fun s => s 106 0 = s0 106 0 ∧ s 106 1 = s0 106 1 ∧ s 106 2 = s0 106 2 ∧ s 106 3 = s0 106 3 ∧ s 106 4 = ((s0 106 4) + 1) ∧ s 106 5 = s0 106 5 ∧ s 106 6 = s0 106 6 ∧ s 98 26 = s0 98 26 ∧ s = h_up s4 98 27 ((s4 98 27) + 0)) _ (if_98_27 Is4 (h_rgv hz18)) (Fs4.up rfl) ⟨es4.1, es4.2.1, es4.2.2.1, es4.2.2.2.1, es4.2.2.2.2.1, es4.2.2.2.2.2.1, es4.2.2.2.2.2.2.1, es4.2.2.2.2.2.2.2.1, rfl⟩ (fun s19 Is19 Fs19 (es19 : s19 106 0 = s0 106 0 ∧ s19 106 1 = s0 106 1 ∧ s19 106 2 = s0 106 2 ∧ s19 106 3 = s0 106 3 ∧ s19 106 4 = ((s0 106 4) + 1) ∧ s19 106 5 = s0 106 5 ∧ s19 106 6 = s0 106 6 ∧ s19 98 26 = s0 98 26 ∧ s19 = h_up s4 98 27 ((s4 98 27) + 0)) => ?_))
              have us19 := es19.2.2.2.2.2.2.2.2
              refine h_iinc (pc' := 110) (b := 5) (M := fun z20 => [(2, .int z20), (0, .ref 98), (1, .int x0)]) rfl rfl rfl rfl ci_4 ci_1 rfl (by omega) (by omega) (fun _ => rfl) (fun z20 hz20 => ?_)
              refine h_aload_n (pc' := 111) rfl rfl rfl ?_
              refine h_getR (pc' := 114) rfl rfl rfl rfl rfl ?_
              refine h_iload_n (pc' := 115) rfl rfl rfl ?_
              refine h_iconst (pc' := 116) (x := (Int32.ofInt (-1))) rfl rfl rfl ?_
              refine h_iast (pc' := 117) rfl rfl rfl rfl hz20 (by omega) (by omega) ci_m1 (h_fgt (E := fun s => s 106 0 = s0 106 0 ∧ s 106 1 = s0 106 1 ∧ s 106 2 = s0 106 2 ∧ s 106 3 = s0 106 3 ∧ s 106 4 = ((s0 106 4) + 1) ∧ s 106 5 = (-1) ∧ s 106 6 = s0 106 6 ∧ s 98 26 = s0 98 26 ∧ s = h_up s19 106 5 (-1)) _ (in_106 Is19 (by omega)) (Fs19.up rfl) ⟨es19.1, es19.2.1, es19.2.2.1, es19.2.2.2.1, es19.2.2.2.2.1, rfl, es19.2.2.2.2.2.2.1, es19.2.2.2.2.2.2.2.1, rfl⟩ (fun s21 Is21 Fs21 (es21 : s21 106 0 = s0 106 0 ∧ s21 106 1 = s0 106 1 ∧ s21 106 2 = s0 106 2 ∧ s21 106 3 = s0 106 3 ∧ s21 106 4 = ((s0 106 4) + 1) ∧ s21 106 5 = (-1) ∧ s21 106 6 = s0 106 6 ∧ s21 98 26 = s0 98 26 ∧ s21 = h_up s19 106 5 (-1)) => ?_))
              clear es19
              have us21 := es21.2.2.2.2.2.2.2.2
              refine h_goto (pc' := 19) rfl rfl ?_
              have qz20 : z20 = (Int32.ofInt 5) := h_lit hz20 ci_5
              subst qz20
              exact h_wk [(0, .ref 98), (1, .int x0), (2, .int (Int32.ofInt 5))] ⟨rfl, rfl, rfl, trivial⟩ (ih.2.2.2.2.2.2.1 _ Is21 Fs21  (by omega) (by omega) (by omega) (by omega) (by omega) (by omega) (h_nf ex5 (by omega) (by omega)) (h_nf ex6 (by omega) (by omega)) (h_nf ex7 (by omega) (by omega)) (h_nf ex8 (by omega) (by omega)) (h_nf ex9 (by omega) (by omega)) (h_nf ex10 (by omega) (by omega)) (h_ni (by omega)) (h_ni (by omega)) (h_ni (by omega)) (h_ni (by omega)) (by have gq := ps9_0; rw [show s4 105 = σ 105 from ((h_upg us4 rfl).trans (funext (fun j => F0_ 105 j rfl))), show s4 99 = σ 99 from ((h_upg us4 rfl).trans (funext (fun j => F0_ 99 j rfl))), show s4 106 4 = s0 106 4 + 1 from h_upv us4] at gq; exact g_ln_b (A := 4) (by omega) ex11 (by omega) (by omega) (h_upf us4) ((h_upf us21).trans (g_set_c (h_upg us19 rfl))) rfl (by omega) (by omega) (g_if_y gq (by omega)) (by omega)) (by omega))
            · refine h_iconst (pc' := 99) (x := (Int32.ofInt 1)) rfl rfl rfl ?_
              refine h_goto (pc' := 103) rfl rfl ?_
              refine h_iaddA (pc' := 104) rfl rfl (fun z22 hz22 => ?_)
              refine h_put (pc' := 107) rfl rfl rfl rfl rfl rfl rfl rfl (h_fgt (E := fun s => s 106 0 = s0 106 0 ∧ s 106 1 = s0 106 1 ∧ s 106 2 = s0 106 2 ∧ s 106 3 = s0 106 3 ∧ s 106 4 = ((s0 106 4) + 1) ∧ s 106 5 = s0 106 5 ∧ s 106 6 = s0 106 6 ∧ s 98 26 = s0 98 26 ∧ s = h_up s4 98 27 z22.toInt) _ (if_98_27 Is4 (h_rgv rfl)) (Fs4.up rfl) ⟨es4.1, es4.2.1, es4.2.2.1, es4.2.2.2.1, es4.2.2.2.2.1, es4.2.2.2.2.2.1, es4.2.2.2.2.2.2.1, es4.2.2.2.2.2.2.2.1, rfl⟩ (fun s23 Is23 Fs23 (es23 : s23 106 0 = s0 106 0 ∧ s23 106 1 = s0 106 1 ∧ s23 106 2 = s0 106 2 ∧ s23 106 3 = s0 106 3 ∧ s23 106 4 = ((s0 106 4) + 1) ∧ s23 106 5 = s0 106 5 ∧ s23 106 6 = s0 106 6 ∧ s23 98 26 = s0 98 26 ∧ s23 = h_up s4 98 27 z22.toInt) => ?_))
              have us23 := es23.2.2.2.2.2.2.2.2
              refine h_iinc (pc' := 110) (b := 5) (M := fun z24 => [(2, .int z24), (0, .ref 98), (1, .int x0)]) rfl rfl rfl rfl ci_4 ci_1 rfl (by omega) (by omega) (fun _ => rfl) (fun z24 hz24 => ?_)
              refine h_aload_n (pc' := 111) rfl rfl rfl ?_
              refine h_getR (pc' := 114) rfl rfl rfl rfl rfl ?_
              refine h_iload_n (pc' := 115) rfl rfl rfl ?_
              refine h_iconst (pc' := 116) (x := (Int32.ofInt (-1))) rfl rfl rfl ?_
              refine h_iast (pc' := 117) rfl rfl rfl rfl hz24 (by omega) (by omega) ci_m1 (h_fgt (E := fun s => s 106 0 = s0 106 0 ∧ s 106 1 = s0 106 1 ∧ s 106 2 = s0 106 2 ∧ s 106 3 = s0 106 3 ∧ s 106 4 = ((s0 106 4) + 1) ∧ s 106 5 = (-1) ∧ s 106 6 = s0 106 6 ∧ s 98 26 = s0 98 26 ∧ s = h_up s23 106 5 (-1)) _ (in_106 Is23 (by omega)) (Fs23.up rfl) ⟨es23.1, es23.2.1, es23.2.2.1, es23.2.2.2.1, es23.2.2.2.2.1, rfl, es23.2.2.2.2.2.2.1, es23.2.2.2.2.2.2.2.1, rfl⟩ (fun s25 Is25 Fs25 (es25 : s25 106 0 = s0 106 0 ∧ s25 106 1 = s0 106 1 ∧ s25 106 2 = s0 106 2 ∧ s25 106 3 = s0 106 3 ∧ s25 106 4 = ((s0 106 4) + 1) ∧ s25 106 5 = (-1) ∧ s25 106 6 = s0 106 6 ∧ s25 98 26 = s0 98 26 ∧ s25 = h_up s23 106 5 (-1)) => ?_))
              clear es23
              have us25 := es25.2.2.2.2.2.2.2.2
              refine h_goto (pc' := 19) rfl rfl ?_
              have qz24 : z24 = (Int32.ofInt 5) := h_lit hz24 ci_5
              subst qz24
              exact h_wk [(0, .ref 98), (1, .int x0), (2, .int (Int32.ofInt 5))] ⟨rfl, rfl, rfl, trivial⟩ (ih.2.2.2.2.2.2.1 _ Is25 Fs25  (by omega) (by omega) (by omega) (by omega) (by omega) (by omega) (h_nf ex5 (by omega) (by omega)) (h_nf ex6 (by omega) (by omega)) (h_nf ex7 (by omega) (by omega)) (h_nf ex8 (by omega) (by omega)) (h_nf ex9 (by omega) (by omega)) (h_nf ex10 (by omega) (by omega)) (h_ni (by omega)) (h_ni (by omega)) (h_ni (by omega)) (h_ni (by omega)) (by have gq := ps9_0; rw [show s4 105 = σ 105 from ((h_upg us4 rfl).trans (funext (fun j => F0_ 105 j rfl))), show s4 99 = σ 99 from ((h_upg us4 rfl).trans (funext (fun j => F0_ 99 j rfl))), show s4 106 4 = s0 106 4 + 1 from h_upv us4] at gq; exact g_ln_b (A := 4) (by omega) ex11 (by omega) (by omega) (h_upf us4) ((h_upf us25).trans (g_set_c (h_upg us23 rfl))) rfl (by omega) (by omega) (g_if_y gq (by omega)) (by omega)) (by omega))
          · refine h_aload_n (pc' := 72) rfl rfl rfl ?_
            refine h_iload_n (pc' := 73) rfl rfl rfl ?_
            refine h_iconst (pc' := 74) (x := (Int32.ofInt 1)) rfl rfl rfl ?_
            refine h_iadd (pc' := 75) (c := 5) rfl rfl ci_4 ci_1 rfl (by omega) (by omega) (fun z26 hz26 => ?_)
            refine h_call (sp := false) (pc' := 78) (M := [(0, .ref 98), (1, .int z26)]) rfl rfl rfl rfl rfl rfl rfl rfl ?_
            refine n_keeps _ Is4 z26 _ hz26 (by omega) (fun s28 Is28 Gs28 ps28_0 ps28_1 ps28_2 ps28_3 ps28_4 ps28_5 ps28_6 ps28_7 => h_Kn ?_)
            have Fs28 := (Gs28.mono (B := kf_n_lines) rfl).tr Fs4
            have es28_0 : s28 106 0 = s0 106 0 := (Gs28 106 0 rfl).trans es4.1
            have es28_1 : s28 106 1 = s0 106 1 := (Gs28 106 1 rfl).trans es4.2.1
            have es28_2 : s28 106 2 = s0 106 2 := (Gs28 106 2 rfl).trans es4.2.2.1
            have es28_3 : s28 106 3 = s0 106 3 := (Gs28 106 3 rfl).trans es4.2.2.2.1
            have es28_4 : s28 106 4 = ((s0 106 4) + 1) := (Gs28 106 4 rfl).trans es4.2.2.2.2.1
            have es28_5 : s28 106 5 = s0 106 5 := (Gs28 106 5 rfl).trans es4.2.2.2.2.2.1
            have es28_6 : s28 106 6 = s0 106 6 := (Gs28 106 6 rfl).trans es4.2.2.2.2.2.2.1
            refine h_aload_n (pc' := 79) rfl rfl rfl ?_
            refine h_iconst (pc' := 80) (x := (Int32.ofInt 0)) rfl rfl rfl ?_
            refine h_put (pc' := 83) rfl rfl rfl rfl rfl rfl ci_0 rfl (h_fgt (E := fun s => s 106 0 = s0 106 0 ∧ s 106 1 = s0 106 1 ∧ s 106 2 = s0 106 2 ∧ s 106 3 = s0 106 3 ∧ s 106 4 = ((s0 106 4) + 1) ∧ s 106 5 = s0 106 5 ∧ s 106 6 = s0 106 6 ∧ s 98 26 = s28 98 26 ∧ s = h_up s28 98 27 0) _ (if_98_27 Is28 (h_rgv ci_0)) (Fs28.up rfl) ⟨es28_0, es28_1, es28_2, es28_3, es28_4, es28_5, es28_6, rfl, rfl⟩ (fun s29 Is29 Fs29 (es29 : s29 106 0 = s0 106 0 ∧ s29 106 1 = s0 106 1 ∧ s29 106 2 = s0 106 2 ∧ s29 106 3 = s0 106 3 ∧ s29 106 4 = ((s0 106 4) + 1) ∧ s29 106 5 = s0 106 5 ∧ s29 106 6 = s0 106 6 ∧ s29 98 26 = s28 98 26 ∧ s29 = h_up s28 98 27 0) => ?_))
            have us29 := es29.2.2.2.2.2.2.2.2
            refine h_aload_n (pc' := 84) rfl rfl rfl ?_
            refine h_dup (pc' := 85) rfl rfl rfl ?_
            refine h_getI (pc' := 88) (v := s29 98 27) rfl rfl rfl rfl rfl rfl (fun z30 hz30 => ?_)
            have tz30 := tf_98_27 Is29
            refine h_iload_n (pc' := 89) rfl rfl rfl ?_
            refine h_iconst (pc' := 90) (x := (Int32.ofInt 1)) rfl rfl rfl ?_
            refine h_iadd (pc' := 91) (c := 5) rfl rfl ci_4 ci_1 rfl (by omega) (by omega) (fun z31 hz31 => ?_)
            refine h_aload_n (pc' := 92) rfl rfl rfl ?_
            refine h_getI (pc' := 95) (v := s28 98 26) rfl rfl rfl rfl rfl es29.2.2.2.2.2.2.2.1 (fun z32 hz32 => ?_)
            have tz32 := tf_98_26 Is28
            refine h_cne (tg := 102) (pc' := 98) rfl rfl rfl hz31 hz32 (fun c33 => ?_) (fun c33 => ?_)
            · refine h_iconst (pc' := 103) (x := (Int32.ofInt 0)) rfl rfl rfl ?_
              refine h_iadd (pc' := 104) rfl rfl hz30 ci_0 rfl (by have g0 := h_rgv hz30; omega) (by have g0 := h_rgv hz30; omega) (fun z34 hz34 => ?_)
              refine h_put (pc' := 107) rfl rfl rfl rfl rfl rfl hz34 rfl (h_fgt (E := fun s => s 106 0 = s0 106 0 ∧ s 106 1 = s0 106 1 ∧ s 106 2 = s0 106 2 ∧ s 106 3 = s0 106 3 ∧ s 106 4 = ((s0 106 4) + 1) ∧ s 106 5 = s0 106 5 ∧ s 106 6 = s0 106 6 ∧ s 98 26 = s28 98 26 ∧ s = h_up s29 98 27 ((s29 98 27) + 0)) _ (if_98_27 Is29 (h_rgv hz34)) (Fs29.up rfl) ⟨es29.1, es29.2.1, es29.2.2.1, es29.2.2.2.1, es29.2.2.2.2.1, es29.2.2.2.2.2.1, es29.2.2.2.2.2.2.1, es29.2.2.2.2.2.2.2.1, rfl⟩ (fun s35 Is35 Fs35 (es35 : s35 106 0 = s0 106 0 ∧ s35 106 1 = s0 106 1 ∧ s35 106 2 = s0 106 2 ∧ s35 106 3 = s0 106 3 ∧ s35 106 4 = ((s0 106 4) + 1) ∧ s35 106 5 = s0 106 5 ∧ s35 106 6 = s0 106 6 ∧ s35 98 26 = s28 98 26 ∧ s35 = h_up s29 98 27 ((s29 98 27) + 0)) => ?_))
              clear es29
              have us35 := es35.2.2.2.2.2.2.2.2
              refine h_iinc (pc' := 110) (b := 5) (M := fun z36 => [(2, .int z36), (0, .ref 98), (1, .int x0)]) rfl rfl rfl rfl ci_4 ci_1 rfl (by omega) (by omega) (fun _ => rfl) (fun z36 hz36 => ?_)
              refine h_aload_n (pc' := 111) rfl rfl rfl ?_
              refine h_getR (pc' := 114) rfl rfl rfl rfl rfl ?_
              refine h_iload_n (pc' := 115) rfl rfl rfl ?_
              refine h_iconst (pc' := 116) (x := (Int32.ofInt (-1))) rfl rfl rfl ?_
              refine h_iast (pc' := 117) rfl rfl rfl rfl hz36 (by omega) (by omega) ci_m1 (h_fgt (E := fun s => s 106 0 = s0 106 0 ∧ s 106 1 = s0 106 1 ∧ s 106 2 = s0 106 2 ∧ s 106 3 = s0 106 3 ∧ s 106 4 = ((s0 106 4) + 1) ∧ s 106 5 = (-1) ∧ s 106 6 = s0 106 6 ∧ s 98 26 = s28 98 26 ∧ s = h_up s35 106 5 (-1)) _ (in_106 Is35 (by omega)) (Fs35.up rfl) ⟨es35.1, es35.2.1, es35.2.2.1, es35.2.2.2.1, es35.2.2.2.2.1, rfl, es35.2.2.2.2.2.2.1, es35.2.2.2.2.2.2.2.1, rfl⟩ (fun s37 Is37 Fs37 (es37 : s37 106 0 = s0 106 0 ∧ s37 106 1 = s0 106 1 ∧ s37 106 2 = s0 106 2 ∧ s37 106 3 = s0 106 3 ∧ s37 106 4 = ((s0 106 4) + 1) ∧ s37 106 5 = (-1) ∧ s37 106 6 = s0 106 6 ∧ s37 98 26 = s28 98 26 ∧ s37 = h_up s35 106 5 (-1)) => ?_))
              clear es35
              have us37 := es37.2.2.2.2.2.2.2.2
              refine h_goto (pc' := 19) rfl rfl ?_
              have qz36 : z36 = (Int32.ofInt 5) := h_lit hz36 ci_5
              subst qz36
              exact h_wk [(0, .ref 98), (1, .int x0), (2, .int (Int32.ofInt 5))] ⟨rfl, rfl, rfl, trivial⟩ (ih.2.2.2.2.2.2.1 _ Is37 Fs37  (by omega) (by omega) (by omega) (by omega) (by omega) (by omega) (h_nf ex5 (by omega) (by omega)) (h_nf ex6 (by omega) (by omega)) (h_nf ex7 (by omega) (by omega)) (h_nf ex8 (by omega) (by omega)) (h_nf ex9 (by omega) (by omega)) (h_nf ex10 (by omega) (by omega)) (h_ni (by omega)) (h_ni (by omega)) (h_ni (by omega)) (h_ni (by omega)) (by have gq := ps9_0; rw [show s4 105 = σ 105 from ((h_upg us4 rfl).trans (funext (fun j => F0_ 105 j rfl))), show s4 99 = σ 99 from ((h_upg us4 rfl).trans (funext (fun j => F0_ 99 j rfl))), show s4 106 4 = s0 106 4 + 1 from h_upv us4] at gq; exact g_ln_b (A := 4) (by omega) ex11 (by omega) (by omega) (h_upf us4) ((h_upf us37).trans (g_set_c ((h_upg us35 rfl).trans ((h_upg us29 rfl).trans (funext (fun j => Gs28 106 j rfl)))))) rfl (by omega) (by omega) (g_if_y gq (by omega)) (by omega)) (by omega))
            · refine h_iconst (pc' := 99) (x := (Int32.ofInt 1)) rfl rfl rfl ?_
              refine h_goto (pc' := 103) rfl rfl ?_
              refine h_iaddA (pc' := 104) rfl rfl (fun z38 hz38 => ?_)
              refine h_put (pc' := 107) rfl rfl rfl rfl rfl rfl rfl rfl (h_fgt (E := fun s => s 106 0 = s0 106 0 ∧ s 106 1 = s0 106 1 ∧ s 106 2 = s0 106 2 ∧ s 106 3 = s0 106 3 ∧ s 106 4 = ((s0 106 4) + 1) ∧ s 106 5 = s0 106 5 ∧ s 106 6 = s0 106 6 ∧ s 98 26 = s28 98 26 ∧ s = h_up s29 98 27 z38.toInt) _ (if_98_27 Is29 (h_rgv rfl)) (Fs29.up rfl) ⟨es29.1, es29.2.1, es29.2.2.1, es29.2.2.2.1, es29.2.2.2.2.1, es29.2.2.2.2.2.1, es29.2.2.2.2.2.2.1, es29.2.2.2.2.2.2.2.1, rfl⟩ (fun s39 Is39 Fs39 (es39 : s39 106 0 = s0 106 0 ∧ s39 106 1 = s0 106 1 ∧ s39 106 2 = s0 106 2 ∧ s39 106 3 = s0 106 3 ∧ s39 106 4 = ((s0 106 4) + 1) ∧ s39 106 5 = s0 106 5 ∧ s39 106 6 = s0 106 6 ∧ s39 98 26 = s28 98 26 ∧ s39 = h_up s29 98 27 z38.toInt) => ?_))
              clear es29
              have us39 := es39.2.2.2.2.2.2.2.2
              refine h_iinc (pc' := 110) (b := 5) (M := fun z40 => [(2, .int z40), (0, .ref 98), (1, .int x0)]) rfl rfl rfl rfl ci_4 ci_1 rfl (by omega) (by omega) (fun _ => rfl) (fun z40 hz40 => ?_)
              refine h_aload_n (pc' := 111) rfl rfl rfl ?_
              refine h_getR (pc' := 114) rfl rfl rfl rfl rfl ?_
              refine h_iload_n (pc' := 115) rfl rfl rfl ?_
              refine h_iconst (pc' := 116) (x := (Int32.ofInt (-1))) rfl rfl rfl ?_
              refine h_iast (pc' := 117) rfl rfl rfl rfl hz40 (by omega) (by omega) ci_m1 (h_fgt (E := fun s => s 106 0 = s0 106 0 ∧ s 106 1 = s0 106 1 ∧ s 106 2 = s0 106 2 ∧ s 106 3 = s0 106 3 ∧ s 106 4 = ((s0 106 4) + 1) ∧ s 106 5 = (-1) ∧ s 106 6 = s0 106 6 ∧ s 98 26 = s28 98 26 ∧ s = h_up s39 106 5 (-1)) _ (in_106 Is39 (by omega)) (Fs39.up rfl) ⟨es39.1, es39.2.1, es39.2.2.1, es39.2.2.2.1, es39.2.2.2.2.1, rfl, es39.2.2.2.2.2.2.1, es39.2.2.2.2.2.2.2.1, rfl⟩ (fun s41 Is41 Fs41 (es41 : s41 106 0 = s0 106 0 ∧ s41 106 1 = s0 106 1 ∧ s41 106 2 = s0 106 2 ∧ s41 106 3 = s0 106 3 ∧ s41 106 4 = ((s0 106 4) + 1) ∧ s41 106 5 = (-1) ∧ s41 106 6 = s0 106 6 ∧ s41 98 26 = s28 98 26 ∧ s41 = h_up s39 106 5 (-1)) => ?_))
              clear es39
              have us41 := es41.2.2.2.2.2.2.2.2
              refine h_goto (pc' := 19) rfl rfl ?_
              have qz40 : z40 = (Int32.ofInt 5) := h_lit hz40 ci_5
              subst qz40
              exact h_wk [(0, .ref 98), (1, .int x0), (2, .int (Int32.ofInt 5))] ⟨rfl, rfl, rfl, trivial⟩ (ih.2.2.2.2.2.2.1 _ Is41 Fs41  (by omega) (by omega) (by omega) (by omega) (by omega) (by omega) (h_nf ex5 (by omega) (by omega)) (h_nf ex6 (by omega) (by omega)) (h_nf ex7 (by omega) (by omega)) (h_nf ex8 (by omega) (by omega)) (h_nf ex9 (by omega) (by omega)) (h_nf ex10 (by omega) (by omega)) (h_ni (by omega)) (h_ni (by omega)) (h_ni (by omega)) (h_ni (by omega)) (by have gq := ps9_0; rw [show s4 105 = σ 105 from ((h_upg us4 rfl).trans (funext (fun j => F0_ 105 j rfl))), show s4 99 = σ 99 from ((h_upg us4 rfl).trans (funext (fun j => F0_ 99 j rfl))), show s4 106 4 = s0 106 4 + 1 from h_upv us4] at gq; exact g_ln_b (A := 4) (by omega) ex11 (by omega) (by omega) (h_upf us4) ((h_upf us41).trans (g_set_c ((h_upg us39 rfl).trans ((h_upg us29 rfl).trans (funext (fun j => Gs28 106 j rfl)))))) rfl (by omega) (by omega) (g_if_y gq (by omega)) (by omega)) (by omega))
      · refine h_iinc (pc' := 49) (b := 3) (M := fun z42 => [(2, .int z42), (0, .ref 98), (1, .int x0)]) rfl rfl rfl rfl ci_4 ci_m1 rfl (by omega) (by omega) (fun _ => rfl) (fun z42 hz42 => ?_)
        refine h_goto (pc' := 19) rfl rfl ?_
        have qz42 : z42 = (Int32.ofInt 3) := h_lit hz42 ci_3
        subst qz42
        exact h_wk [(0, .ref 98), (1, .int x0), (2, .int (Int32.ofInt 3))] ⟨rfl, rfl, rfl, trivial⟩ (ih.2.2.2.2.1 _ Is4 Fs4  (by omega) (by omega) (by omega) (by omega) (h_nf ex5 (by omega) (by omega)) (h_nf ex6 (by omega) (by omega)) (h_nf ex7 (by omega) (by omega)) (g_ln_a (A := 4) ex11 (by omega) rfl (h_upf us4) rfl (by omega) (by omega)) (by omega))
    · intro s0 I0 F0_ ex0 ex1 ex2 ex3 ex4 ex5 ex6 ex7 ex8 ex9 ex10 ex11 ex12 ex13 ex14 ex15 ex16 hm; have gh0 := tf_98_26 I0; have gh1 := tf_98_1 hI; have gh2 := F0_ 98 1 rfl
      refine h_iload_n (pc' := 20) rfl rfl rfl ?_
      refine h_zlt (tg := 120) (pc' := 23) rfl rfl rfl ci_5 (fun c1 => absurd c1 (by omega)) (fun c1 => ?_)
      refine h_aload_n (pc' := 24) rfl rfl rfl ?_
      refine h_getR (pc' := 27) rfl rfl rfl rfl rfl ?_
      refine h_iload_n (pc' := 28) rfl rfl rfl ?_
      refine h_dup2 (pc' := 29) rfl rfl rfl ?_
      refine h_iald (pc' := 30) (v := s0 106 5) rfl rfl rfl ci_5 (by omega) (by omega) rfl (fun z2 hz2 => ?_)
      have tz2 := ty_106 I0 5
      refine h_iconst (pc' := 31) (x := (Int32.ofInt 1)) rfl rfl rfl ?_
      refine h_iadd (pc' := 32) rfl rfl hz2 ci_1 rfl (by omega) (by omega) (fun z3 hz3 => ?_)
      refine h_iast (pc' := 33) rfl rfl rfl rfl ci_5 (by omega) (by omega) hz3 (h_fgt (E := fun s => s 106 0 = s0 106 0 ∧ s 106 1 = s0 106 1 ∧ s 106 2 = s0 106 2 ∧ s 106 3 = s0 106 3 ∧ s 106 4 = s0 106 4 ∧ s 106 5 = ((s0 106 5) + 1) ∧ s 106 6 = s0 106 6 ∧ s 98 26 = s0 98 26 ∧ s = h_up s0 106 5 ((s0 106 5) + 1)) _ (in_106 I0 (by omega)) (F0_.up rfl) ⟨rfl, rfl, rfl, rfl, rfl, rfl, rfl, rfl, rfl⟩ (fun s4 Is4 Fs4 (es4 : s4 106 0 = s0 106 0 ∧ s4 106 1 = s0 106 1 ∧ s4 106 2 = s0 106 2 ∧ s4 106 3 = s0 106 3 ∧ s4 106 4 = s0 106 4 ∧ s4 106 5 = ((s0 106 5) + 1) ∧ s4 106 6 = s0 106 6 ∧ s4 98 26 = s0 98 26 ∧ s4 = h_up s0 106 5 ((s0 106 5) + 1)) => ?_))
      have us4 := es4.2.2.2.2.2.2.2.2
      refine h_aload_n (pc' := 34) rfl rfl rfl ?_
      refine h_getR (pc' := 37) rfl rfl rfl rfl rfl ?_
      refine h_iload_n (pc' := 38) rfl rfl rfl ?_
      refine h_iald (pc' := 39) (v := ((s0 106 5) + 1)) rfl rfl rfl ci_5 (by omega) (by omega) es4.2.2.2.2.2.1 (fun z5 hz5 => ?_)
      refine h_aload_n (pc' := 40) rfl rfl rfl ?_
      refine h_getI (pc' := 43) (v := σ 98 1) rfl rfl rfl rfl rfl (Fs4 98 1 rfl) (fun z6 hz6 => ?_)
      have tz6 := tf_98_1 hI
      refine h_clt (tg := 52) (pc' := 46) rfl rfl rfl hz5 hz6 (fun c7 => ?_) (fun c7 => ?_)
      · refine h_aload_n (pc' := 53) rfl rfl rfl ?_
        refine h_iload_n (pc' := 54) rfl rfl rfl ?_
        refine h_iload_n (pc' := 55) rfl rfl rfl ?_
        refine h_call (sp := false) (pc' := 58) (M := [(0, .ref 98), (1, .int x0), (2, .int (Int32.ofInt 5))]) rfl rfl rfl rfl rfl rfl rfl rfl ?_
        refine n_st5 _ Is4 x0 _ hx0 (by omega)  (by omega) (by omega) (fun r8 br8 hr8 tr8 ps9_0 ps9_1 ps9_2 ps9_3 ps9_4 ps9_5 => h_Kv ?_)
        refine h_zeq (tg := 19) (pc' := 61) rfl rfl rfl hr8 (fun c10 => ?_) (fun c10 => ?_)
        · exact h_wk [(0, .ref 98), (1, .int x0), (2, .int (Int32.ofInt 5))] ⟨rfl, rfl, rfl, trivial⟩ (ih.2.2.2.2.2.2.1 _ Is4 Fs4  (by omega) (by omega) (by omega) (by omega) (by omega) (by omega) (h_nf ex6 (by omega) (by omega)) (h_nf ex7 (by omega) (by omega)) (h_nf ex8 (by omega) (by omega)) (h_nf ex9 (by omega) (by omega)) (h_nf ex10 (by omega) (by omega)) (h_nf ex11 (by omega) (by omega)) (h_nf ex12 (by omega) (by omega)) (h_nf ex13 (by omega) (by omega)) (h_nf ex14 (by omega) (by omega)) (h_nf ex15 (by omega) (by omega)) (by have gq := ps9_0; rw [show s4 105 = σ 105 from ((h_upg us4 rfl).trans (funext (fun j => F0_ 105 j rfl))), show s4 99 = σ 99 from ((h_upg us4 rfl).trans (funext (fun j => F0_ 99 j rfl))), show s4 106 5 = s0 106 5 + 1 from h_upv us4] at gq; exact g_ln_c (A := 5) ex16 (by omega) (h_upf us4) rfl (g_if_n gq (by omega)) (by omega)) (by omega))
        · refine h_iload_n (pc' := 62) rfl rfl rfl ?_
          refine h_iconst (pc' := 63) (x := (Int32.ofInt 1)) rfl rfl rfl ?_
          refine h_iadd (pc' := 64) (c := 6) rfl rfl ci_5 ci_1 rfl (by omega) (by omega) (fun z11 hz11 => ?_)
          refine h_aload_n (pc' := 65) rfl rfl rfl ?_
          refine h_getI (pc' := 68) (v := s0 98 26) rfl rfl rfl rfl rfl es4.2.2.2.2.2.2.2.1 (fun z12 hz12 => ?_)
          have tz12 := tf_98_26 I0
          refine h_cle (tg := 83) (pc' := 71) rfl rfl rfl hz11 hz12 (fun c13 => ?_) (fun c13 => ?_)
          · refine h_aload_n (pc' := 84) rfl rfl rfl ?_
            refine h_dup (pc' := 85) rfl rfl rfl ?_
            refine h_getI (pc' := 88) (v := s4 98 27) rfl rfl rfl rfl rfl rfl (fun z14 hz14 => ?_)
            have tz14 := tf_98_27 Is4
            refine h_iload_n (pc' := 89) rfl rfl rfl ?_
            refine h_iconst (pc' := 90) (x := (Int32.ofInt 1)) rfl rfl rfl ?_
            refine h_iadd (pc' := 91) (c := 6) rfl rfl ci_5 ci_1 rfl (by omega) (by omega) (fun z15 hz15 => ?_)
            refine h_aload_n (pc' := 92) rfl rfl rfl ?_
            refine h_getI (pc' := 95) (v := s0 98 26) rfl rfl rfl rfl rfl es4.2.2.2.2.2.2.2.1 (fun z16 hz16 => ?_)
            have tz16 := tf_98_26 I0
            refine h_cne (tg := 102) (pc' := 98) rfl rfl rfl hz15 hz16 (fun c17 => absurd c17 (by omega)) (fun c17 => ?_)
            refine h_iconst (pc' := 99) (x := (Int32.ofInt 1)) rfl rfl rfl ?_
            refine h_goto (pc' := 103) rfl rfl ?_
            refine h_iaddA (pc' := 104) rfl rfl (fun z18 hz18 => ?_)
            refine h_put (pc' := 107) rfl rfl rfl rfl rfl rfl rfl rfl (h_fgt (E := fun s => s 106 0 = s0 106 0 ∧ s 106 1 = s0 106 1 ∧ s 106 2 = s0 106 2 ∧ s 106 3 = s0 106 3 ∧ s 106 4 = s0 106 4 ∧ s 106 5 = ((s0 106 5) + 1) ∧ s 106 6 = s0 106 6 ∧ s 98 26 = s0 98 26 ∧ s = h_up s4 98 27 z18.toInt) _ (if_98_27 Is4 (h_rgv rfl)) (Fs4.up rfl) ⟨es4.1, es4.2.1, es4.2.2.1, es4.2.2.2.1, es4.2.2.2.2.1, es4.2.2.2.2.2.1, es4.2.2.2.2.2.2.1, es4.2.2.2.2.2.2.2.1, rfl⟩ (fun s19 Is19 Fs19 (es19 : s19 106 0 = s0 106 0 ∧ s19 106 1 = s0 106 1 ∧ s19 106 2 = s0 106 2 ∧ s19 106 3 = s0 106 3 ∧ s19 106 4 = s0 106 4 ∧ s19 106 5 = ((s0 106 5) + 1) ∧ s19 106 6 = s0 106 6 ∧ s19 98 26 = s0 98 26 ∧ s19 = h_up s4 98 27 z18.toInt) => ?_))
            have us19 := es19.2.2.2.2.2.2.2.2
            refine h_iinc (pc' := 110) (b := 6) (M := fun z20 => [(2, .int z20), (0, .ref 98), (1, .int x0)]) rfl rfl rfl rfl ci_5 ci_1 rfl (by omega) (by omega) (fun _ => rfl) (fun z20 hz20 => ?_)
            refine h_aload_n (pc' := 111) rfl rfl rfl ?_
            refine h_getR (pc' := 114) rfl rfl rfl rfl rfl ?_
            refine h_iload_n (pc' := 115) rfl rfl rfl ?_
            refine h_iconst (pc' := 116) (x := (Int32.ofInt (-1))) rfl rfl rfl ?_
            refine h_iast (pc' := 117) rfl rfl rfl rfl hz20 (by omega) (by omega) ci_m1 (h_fgt (E := fun s => s 106 0 = s0 106 0 ∧ s 106 1 = s0 106 1 ∧ s 106 2 = s0 106 2 ∧ s 106 3 = s0 106 3 ∧ s 106 4 = s0 106 4 ∧ s 106 5 = ((s0 106 5) + 1) ∧ s 106 6 = (-1) ∧ s 98 26 = s0 98 26 ∧ s = h_up s19 106 6 (-1)) _ (in_106 Is19 (by omega)) (Fs19.up rfl) ⟨es19.1, es19.2.1, es19.2.2.1, es19.2.2.2.1, es19.2.2.2.2.1, es19.2.2.2.2.2.1, rfl, es19.2.2.2.2.2.2.2.1, rfl⟩ (fun s21 Is21 Fs21 (es21 : s21 106 0 = s0 106 0 ∧ s21 106 1 = s0 106 1 ∧ s21 106 2 = s0 106 2 ∧ s21 106 3 = s0 106 3 ∧ s21 106 4 = s0 106 4 ∧ s21 106 5 = ((s0 106 5) + 1) ∧ s21 106 6 = (-1) ∧ s21 98 26 = s0 98 26 ∧ s21 = h_up s19 106 6 (-1)) => ?_))
            clear es19
            have us21 := es21.2.2.2.2.2.2.2.2
            refine h_goto (pc' := 19) rfl rfl ?_
            have qz20 : z20 = (Int32.ofInt 6) := h_lit hz20 ci_6
            subst qz20
            exact h_wk [(0, .ref 98), (1, .int x0), (2, .int (Int32.ofInt 6))] ⟨rfl, rfl, rfl, trivial⟩ (ih.2.2.2.2.2.2.2 _ Is21 Fs21  (by omega) (by omega) (by omega) (by omega) (by omega) (by omega) (by omega) (h_nf ex6 (by omega) (by omega)) (h_nf ex7 (by omega) (by omega)) (h_nf ex8 (by omega) (by omega)) (h_nf ex9 (by omega) (by omega)) (h_nf ex10 (by omega) (by omega)) (h_nf ex11 (by omega) (by omega)) (h_nf ex12 (by omega) (by omega)) (h_nf ex13 (by omega) (by omega)) (h_nf ex14 (by omega) (by omega)) (h_nf ex15 (by omega) (by omega)) (h_ni (by omega)) (h_ni (by omega)) (h_ni (by omega)) (h_ni (by omega)) (h_ni (by omega)) (by have gq := ps9_0; rw [show s4 105 = σ 105 from ((h_upg us4 rfl).trans (funext (fun j => F0_ 105 j rfl))), show s4 99 = σ 99 from ((h_upg us4 rfl).trans (funext (fun j => F0_ 99 j rfl))), show s4 106 5 = s0 106 5 + 1 from h_upv us4] at gq; exact g_ln_b (A := 5) (by omega) ex16 (by omega) (by omega) (h_upf us4) ((h_upf us21).trans (g_set_c (h_upg us19 rfl))) rfl (by omega) (by omega) (g_if_y gq (by omega)) (by omega)) (by omega))
          · refine h_aload_n (pc' := 72) rfl rfl rfl ?_
            refine h_iload_n (pc' := 73) rfl rfl rfl ?_
            refine h_iconst (pc' := 74) (x := (Int32.ofInt 1)) rfl rfl rfl ?_
            refine h_iadd (pc' := 75) (c := 6) rfl rfl ci_5 ci_1 rfl (by omega) (by omega) (fun z22 hz22 => ?_)
            refine h_call (sp := false) (pc' := 78) (M := [(0, .ref 98), (1, .int z22)]) rfl rfl rfl rfl rfl rfl rfl rfl ?_
            refine n_keeps _ Is4 z22 _ hz22 (by omega) (fun s24 Is24 Gs24 ps24_0 ps24_1 ps24_2 ps24_3 ps24_4 ps24_5 ps24_6 ps24_7 => h_Kn ?_)
            have Fs24 := (Gs24.mono (B := kf_n_lines) rfl).tr Fs4
            have es24_0 : s24 106 0 = s0 106 0 := (Gs24 106 0 rfl).trans es4.1
            have es24_1 : s24 106 1 = s0 106 1 := (Gs24 106 1 rfl).trans es4.2.1
            have es24_2 : s24 106 2 = s0 106 2 := (Gs24 106 2 rfl).trans es4.2.2.1
            have es24_3 : s24 106 3 = s0 106 3 := (Gs24 106 3 rfl).trans es4.2.2.2.1
            have es24_4 : s24 106 4 = s0 106 4 := (Gs24 106 4 rfl).trans es4.2.2.2.2.1
            have es24_5 : s24 106 5 = ((s0 106 5) + 1) := (Gs24 106 5 rfl).trans es4.2.2.2.2.2.1
            have es24_6 : s24 106 6 = s0 106 6 := (Gs24 106 6 rfl).trans es4.2.2.2.2.2.2.1
            refine h_aload_n (pc' := 79) rfl rfl rfl ?_
            refine h_iconst (pc' := 80) (x := (Int32.ofInt 0)) rfl rfl rfl ?_
            refine h_put (pc' := 83) rfl rfl rfl rfl rfl rfl ci_0 rfl (h_fgt (E := fun s => s 106 0 = s0 106 0 ∧ s 106 1 = s0 106 1 ∧ s 106 2 = s0 106 2 ∧ s 106 3 = s0 106 3 ∧ s 106 4 = s0 106 4 ∧ s 106 5 = ((s0 106 5) + 1) ∧ s 106 6 = s0 106 6 ∧ s 98 26 = s24 98 26 ∧ s = h_up s24 98 27 0) _ (if_98_27 Is24 (h_rgv ci_0)) (Fs24.up rfl) ⟨es24_0, es24_1, es24_2, es24_3, es24_4, es24_5, es24_6, rfl, rfl⟩ (fun s25 Is25 Fs25 (es25 : s25 106 0 = s0 106 0 ∧ s25 106 1 = s0 106 1 ∧ s25 106 2 = s0 106 2 ∧ s25 106 3 = s0 106 3 ∧ s25 106 4 = s0 106 4 ∧ s25 106 5 = ((s0 106 5) + 1) ∧ s25 106 6 = s0 106 6 ∧ s25 98 26 = s24 98 26 ∧ s25 = h_up s24 98 27 0) => ?_))
            have us25 := es25.2.2.2.2.2.2.2.2
            refine h_aload_n (pc' := 84) rfl rfl rfl ?_
            refine h_dup (pc' := 85) rfl rfl rfl ?_
            refine h_getI (pc' := 88) (v := s25 98 27) rfl rfl rfl rfl rfl rfl (fun z26 hz26 => ?_)
            have tz26 := tf_98_27 Is25
            refine h_iload_n (pc' := 89) rfl rfl rfl ?_
            refine h_iconst (pc' := 90) (x := (Int32.ofInt 1)) rfl rfl rfl ?_
            refine h_iadd (pc' := 91) (c := 6) rfl rfl ci_5 ci_1 rfl (by omega) (by omega) (fun z27 hz27 => ?_)
            refine h_aload_n (pc' := 92) rfl rfl rfl ?_
            refine h_getI (pc' := 95) (v := s24 98 26) rfl rfl rfl rfl rfl es25.2.2.2.2.2.2.2.1 (fun z28 hz28 => ?_)
            have tz28 := tf_98_26 Is24
            refine h_cne (tg := 102) (pc' := 98) rfl rfl rfl hz27 hz28 (fun c29 => ?_) (fun c29 => ?_)
            · refine h_iconst (pc' := 103) (x := (Int32.ofInt 0)) rfl rfl rfl ?_
              refine h_iadd (pc' := 104) rfl rfl hz26 ci_0 rfl (by have g0 := h_rgv hz26; omega) (by have g0 := h_rgv hz26; omega) (fun z30 hz30 => ?_)
              refine h_put (pc' := 107) rfl rfl rfl rfl rfl rfl hz30 rfl (h_fgt (E := fun s => s 106 0 = s0 106 0 ∧ s 106 1 = s0 106 1 ∧ s 106 2 = s0 106 2 ∧ s 106 3 = s0 106 3 ∧ s 106 4 = s0 106 4 ∧ s 106 5 = ((s0 106 5) + 1) ∧ s 106 6 = s0 106 6 ∧ s 98 26 = s24 98 26 ∧ s = h_up s25 98 27 ((s25 98 27) + 0)) _ (if_98_27 Is25 (h_rgv hz30)) (Fs25.up rfl) ⟨es25.1, es25.2.1, es25.2.2.1, es25.2.2.2.1, es25.2.2.2.2.1, es25.2.2.2.2.2.1, es25.2.2.2.2.2.2.1, es25.2.2.2.2.2.2.2.1, rfl⟩ (fun s31 Is31 Fs31 (es31 : s31 106 0 = s0 106 0 ∧ s31 106 1 = s0 106 1 ∧ s31 106 2 = s0 106 2 ∧ s31 106 3 = s0 106 3 ∧ s31 106 4 = s0 106 4 ∧ s31 106 5 = ((s0 106 5) + 1) ∧ s31 106 6 = s0 106 6 ∧ s31 98 26 = s24 98 26 ∧ s31 = h_up s25 98 27 ((s25 98 27) + 0)) => ?_))
              clear es25
              have us31 := es31.2.2.2.2.2.2.2.2
              refine h_iinc (pc' := 110) (b := 6) (M := fun z32 => [(2, .int z32), (0, .ref 98), (1, .int x0)]) rfl rfl rfl rfl ci_5 ci_1 rfl (by omega) (by omega) (fun _ => rfl) (fun z32 hz32 => ?_)
              refine h_aload_n (pc' := 111) rfl rfl rfl ?_
              refine h_getR (pc' := 114) rfl rfl rfl rfl rfl ?_
              refine h_iload_n (pc' := 115) rfl rfl rfl ?_
              refine h_iconst (pc' := 116) (x := (Int32.ofInt (-1))) rfl rfl rfl ?_
              refine h_iast (pc' := 117) rfl rfl rfl rfl hz32 (by omega) (by omega) ci_m1 (h_fgt (E := fun s => s 106 0 = s0 106 0 ∧ s 106 1 = s0 106 1 ∧ s 106 2 = s0 106 2 ∧ s 106 3 = s0 106 3 ∧ s 106 4 = s0 106 4 ∧ s 106 5 = ((s0 106 5) + 1) ∧ s 106 6 = (-1) ∧ s 98 26 = s24 98 26 ∧ s = h_up s31 106 6 (-1)) _ (in_106 Is31 (by omega)) (Fs31.up rfl) ⟨es31.1, es31.2.1, es31.2.2.1, es31.2.2.2.1, es31.2.2.2.2.1, es31.2.2.2.2.2.1, rfl, es31.2.2.2.2.2.2.2.1, rfl⟩ (fun s33 Is33 Fs33 (es33 : s33 106 0 = s0 106 0 ∧ s33 106 1 = s0 106 1 ∧ s33 106 2 = s0 106 2 ∧ s33 106 3 = s0 106 3 ∧ s33 106 4 = s0 106 4 ∧ s33 106 5 = ((s0 106 5) + 1) ∧ s33 106 6 = (-1) ∧ s33 98 26 = s24 98 26 ∧ s33 = h_up s31 106 6 (-1)) => ?_))
              clear es31
              have us33 := es33.2.2.2.2.2.2.2.2
              refine h_goto (pc' := 19) rfl rfl ?_
              have qz32 : z32 = (Int32.ofInt 6) := h_lit hz32 ci_6
              subst qz32
              exact h_wk [(0, .ref 98), (1, .int x0), (2, .int (Int32.ofInt 6))] ⟨rfl, rfl, rfl, trivial⟩ (ih.2.2.2.2.2.2.2 _ Is33 Fs33  (by omega) (by omega) (by omega) (by omega) (by omega) (by omega) (by omega) (h_nf ex6 (by omega) (by omega)) (h_nf ex7 (by omega) (by omega)) (h_nf ex8 (by omega) (by omega)) (h_nf ex9 (by omega) (by omega)) (h_nf ex10 (by omega) (by omega)) (h_nf ex11 (by omega) (by omega)) (h_nf ex12 (by omega) (by omega)) (h_nf ex13 (by omega) (by omega)) (h_nf ex14 (by omega) (by omega)) (h_nf ex15 (by omega) (by omega)) (h_ni (by omega)) (h_ni (by omega)) (h_ni (by omega)) (h_ni (by omega)) (h_ni (by omega)) (by have gq := ps9_0; rw [show s4 105 = σ 105 from ((h_upg us4 rfl).trans (funext (fun j => F0_ 105 j rfl))), show s4 99 = σ 99 from ((h_upg us4 rfl).trans (funext (fun j => F0_ 99 j rfl))), show s4 106 5 = s0 106 5 + 1 from h_upv us4] at gq; exact g_ln_b (A := 5) (by omega) ex16 (by omega) (by omega) (h_upf us4) ((h_upf us33).trans (g_set_c ((h_upg us31 rfl).trans ((h_upg us25 rfl).trans (funext (fun j => Gs24 106 j rfl)))))) rfl (by omega) (by omega) (g_if_y gq (by omega)) (by omega)) (by omega))
            · refine h_iconst (pc' := 99) (x := (Int32.ofInt 1)) rfl rfl rfl ?_
              refine h_goto (pc' := 103) rfl rfl ?_
              refine h_iaddA (pc' := 104) rfl rfl (fun z34 hz34 => ?_)
              refine h_put (pc' := 107) rfl rfl rfl rfl rfl rfl rfl rfl (h_fgt (E := fun s => s 106 0 = s0 106 0 ∧ s 106 1 = s0 106 1 ∧ s 106 2 = s0 106 2 ∧ s 106 3 = s0 106 3 ∧ s 106 4 = s0 106 4 ∧ s 106 5 = ((s0 106 5) + 1) ∧ s 106 6 = s0 106 6 ∧ s 98 26 = s24 98 26 ∧ s = h_up s25 98 27 z34.toInt) _ (if_98_27 Is25 (h_rgv rfl)) (Fs25.up rfl) ⟨es25.1, es25.2.1, es25.2.2.1, es25.2.2.2.1, es25.2.2.2.2.1, es25.2.2.2.2.2.1, es25.2.2.2.2.2.2.1, es25.2.2.2.2.2.2.2.1, rfl⟩ (fun s35 Is35 Fs35 (es35 : s35 106 0 = s0 106 0 ∧ s35 106 1 = s0 106 1 ∧ s35 106 2 = s0 106 2 ∧ s35 106 3 = s0 106 3 ∧ s35 106 4 = s0 106 4 ∧ s35 106 5 = ((s0 106 5) + 1) ∧ s35 106 6 = s0 106 6 ∧ s35 98 26 = s24 98 26 ∧ s35 = h_up s25 98 27 z34.toInt) => ?_))
              clear es25
              have us35 := es35.2.2.2.2.2.2.2.2
              refine h_iinc (pc' := 110) (b := 6) (M := fun z36 => [(2, .int z36), (0, .ref 98), (1, .int x0)]) rfl rfl rfl rfl ci_5 ci_1 rfl (by omega) (by omega) (fun _ => rfl) (fun z36 hz36 => ?_)
              refine h_aload_n (pc' := 111) rfl rfl rfl ?_
              refine h_getR (pc' := 114) rfl rfl rfl rfl rfl ?_
              refine h_iload_n (pc' := 115) rfl rfl rfl ?_
              refine h_iconst (pc' := 116) (x := (Int32.ofInt (-1))) rfl rfl rfl ?_
              refine h_iast (pc' := 117) rfl rfl rfl rfl hz36 (by omega) (by omega) ci_m1 (h_fgt (E := fun s => s 106 0 = s0 106 0 ∧ s 106 1 = s0 106 1 ∧ s 106 2 = s0 106 2 ∧ s 106 3 = s0 106 3 ∧ s 106 4 = s0 106 4 ∧ s 106 5 = ((s0 106 5) + 1) ∧ s 106 6 = (-1) ∧ s 98 26 = s24 98 26 ∧ s = h_up s35 106 6 (-1)) _ (in_106 Is35 (by omega)) (Fs35.up rfl) ⟨es35.1, es35.2.1, es35.2.2.1, es35.2.2.2.1, es35.2.2.2.2.1, es35.2.2.2.2.2.1, rfl, es35.2.2.2.2.2.2.2.1, rfl⟩ (fun s37 Is37 Fs37 (es37 : s37 106 0 = s0 106 0 ∧ s37 106 1 = s0 106 1 ∧ s37 106 2 = s0 106 2 ∧ s37 106 3 = s0 106 3 ∧ s37 106 4 = s0 106 4 ∧ s37 106 5 = ((s0 106 5) + 1) ∧ s37 106 6 = (-1) ∧ s37 98 26 = s24 98 26 ∧ s37 = h_up s35 106 6 (-1)) => ?_))
              clear es35
              have us37 := es37.2.2.2.2.2.2.2.2
              refine h_goto (pc' := 19) rfl rfl ?_
              have qz36 : z36 = (Int32.ofInt 6) := h_lit hz36 ci_6
              subst qz36
              exact h_wk [(0, .ref 98), (1, .int x0), (2, .int (Int32.ofInt 6))] ⟨rfl, rfl, rfl, trivial⟩ (ih.2.2.2.2.2.2.2 _ Is37 Fs37  (by omega) (by omega) (by omega) (by omega) (by omega) (by omega) (by omega) (h_nf ex6 (by omega) (by omega)) (h_nf ex7 (by omega) (by omega)) (h_nf ex8 (by omega) (by omega)) (h_nf ex9 (by omega) (by omega)) (h_nf ex10 (by omega) (by omega)) (h_nf ex11 (by omega) (by omega)) (h_nf ex12 (by omega) (by omega)) (h_nf ex13 (by omega) (by omega)) (h_nf ex14 (by omega) (by omega)) (h_nf ex15 (by omega) (by omega)) (h_ni (by omega)) (h_ni (by omega)) (h_ni (by omega)) (h_ni (by omega)) (h_ni (by omega)) (by have gq := ps9_0; rw [show s4 105 = σ 105 from ((h_upg us4 rfl).trans (funext (fun j => F0_ 105 j rfl))), show s4 99 = σ 99 from ((h_upg us4 rfl).trans (funext (fun j => F0_ 99 j rfl))), show s4 106 5 = s0 106 5 + 1 from h_upv us4] at gq; exact g_ln_b (A := 5) (by omega) ex16 (by omega) (by omega) (h_upf us4) ((h_upf us37).trans (g_set_c ((h_upg us35 rfl).trans ((h_upg us25 rfl).trans (funext (fun j => Gs24 106 j rfl)))))) rfl (by omega) (by omega) (g_if_y gq (by omega)) (by omega)) (by omega))
      · refine h_iinc (pc' := 49) (b := 4) (M := fun z38 => [(2, .int z38), (0, .ref 98), (1, .int x0)]) rfl rfl rfl rfl ci_5 ci_m1 rfl (by omega) (by omega) (fun _ => rfl) (fun z38 hz38 => ?_)
        refine h_goto (pc' := 19) rfl rfl ?_
        have qz38 : z38 = (Int32.ofInt 4) := h_lit hz38 ci_4
        subst qz38
        exact h_wk [(0, .ref 98), (1, .int x0), (2, .int (Int32.ofInt 4))] ⟨rfl, rfl, rfl, trivial⟩ (ih.2.2.2.2.2.1 _ Is4 Fs4  (by omega) (by omega) (by omega) (by omega) (by omega) (h_nf ex6 (by omega) (by omega)) (h_nf ex7 (by omega) (by omega)) (h_nf ex8 (by omega) (by omega)) (h_nf ex9 (by omega) (by omega)) (h_nf ex10 (by omega) (by omega)) (h_nf ex11 (by omega) (by omega)) (g_ln_a (A := 5) ex16 (by omega) rfl (h_upf us4) rfl (by omega) (by omega)) (by omega))
    · intro s0 I0 F0_ ex0 ex1 ex2 ex3 ex4 ex5 ex6 ex7 ex8 ex9 ex10 ex11 ex12 ex13 ex14 ex15 ex16 ex17 ex18 ex19 ex20 ex21 ex22 hm; have gh0 := tf_98_26 I0; have gh1 := tf_98_1 hI; have gh2 := F0_ 98 1 rfl
      refine h_iload_n (pc' := 20) rfl rfl rfl ?_
      refine h_zlt (tg := 120) (pc' := 23) rfl rfl rfl ci_6 (fun c1 => absurd c1 (by omega)) (fun c1 => ?_)
      refine h_aload_n (pc' := 24) rfl rfl rfl ?_
      refine h_getR (pc' := 27) rfl rfl rfl rfl rfl ?_
      refine h_iload_n (pc' := 28) rfl rfl rfl ?_
      refine h_dup2 (pc' := 29) rfl rfl rfl ?_
      refine h_iald (pc' := 30) (v := s0 106 6) rfl rfl rfl ci_6 (by omega) (by omega) rfl (fun z2 hz2 => ?_)
      have tz2 := ty_106 I0 6
      refine h_iconst (pc' := 31) (x := (Int32.ofInt 1)) rfl rfl rfl ?_
      refine h_iadd (pc' := 32) rfl rfl hz2 ci_1 rfl (by omega) (by omega) (fun z3 hz3 => ?_)
      refine h_iast (pc' := 33) rfl rfl rfl rfl ci_6 (by omega) (by omega) hz3 (h_fgt (E := fun s => s 106 0 = s0 106 0 ∧ s 106 1 = s0 106 1 ∧ s 106 2 = s0 106 2 ∧ s 106 3 = s0 106 3 ∧ s 106 4 = s0 106 4 ∧ s 106 5 = s0 106 5 ∧ s 106 6 = ((s0 106 6) + 1) ∧ s 98 26 = s0 98 26 ∧ s = h_up s0 106 6 ((s0 106 6) + 1)) _ (in_106 I0 (by omega)) (F0_.up rfl) ⟨rfl, rfl, rfl, rfl, rfl, rfl, rfl, rfl, rfl⟩ (fun s4 Is4 Fs4 (es4 : s4 106 0 = s0 106 0 ∧ s4 106 1 = s0 106 1 ∧ s4 106 2 = s0 106 2 ∧ s4 106 3 = s0 106 3 ∧ s4 106 4 = s0 106 4 ∧ s4 106 5 = s0 106 5 ∧ s4 106 6 = ((s0 106 6) + 1) ∧ s4 98 26 = s0 98 26 ∧ s4 = h_up s0 106 6 ((s0 106 6) + 1)) => ?_))
      have us4 := es4.2.2.2.2.2.2.2.2
      refine h_aload_n (pc' := 34) rfl rfl rfl ?_
      refine h_getR (pc' := 37) rfl rfl rfl rfl rfl ?_
      refine h_iload_n (pc' := 38) rfl rfl rfl ?_
      refine h_iald (pc' := 39) (v := ((s0 106 6) + 1)) rfl rfl rfl ci_6 (by omega) (by omega) es4.2.2.2.2.2.2.1 (fun z5 hz5 => ?_)
      refine h_aload_n (pc' := 40) rfl rfl rfl ?_
      refine h_getI (pc' := 43) (v := σ 98 1) rfl rfl rfl rfl rfl (Fs4 98 1 rfl) (fun z6 hz6 => ?_)
      have tz6 := tf_98_1 hI
      refine h_clt (tg := 52) (pc' := 46) rfl rfl rfl hz5 hz6 (fun c7 => ?_) (fun c7 => ?_)
      · refine h_aload_n (pc' := 53) rfl rfl rfl ?_
        refine h_iload_n (pc' := 54) rfl rfl rfl ?_
        refine h_iload_n (pc' := 55) rfl rfl rfl ?_
        refine h_call (sp := false) (pc' := 58) (M := [(0, .ref 98), (1, .int x0), (2, .int (Int32.ofInt 6))]) rfl rfl rfl rfl rfl rfl rfl rfl ?_
        refine n_st6 _ Is4 x0 _ hx0 (by omega)  (by omega) (by omega) (fun r8 br8 hr8 tr8 ps9_0 ps9_1 ps9_2 ps9_3 ps9_4 ps9_5 ps9_6 => h_Kv ?_)
        refine h_zeq (tg := 19) (pc' := 61) rfl rfl rfl hr8 (fun c10 => ?_) (fun c10 => ?_)
        · exact h_wk [(0, .ref 98), (1, .int x0), (2, .int (Int32.ofInt 6))] ⟨rfl, rfl, rfl, trivial⟩ (ih.2.2.2.2.2.2.2 _ Is4 Fs4  (by omega) (by omega) (by omega) (by omega) (by omega) (by omega) (by omega) (h_nf ex7 (by omega) (by omega)) (h_nf ex8 (by omega) (by omega)) (h_nf ex9 (by omega) (by omega)) (h_nf ex10 (by omega) (by omega)) (h_nf ex11 (by omega) (by omega)) (h_nf ex12 (by omega) (by omega)) (h_nf ex13 (by omega) (by omega)) (h_nf ex14 (by omega) (by omega)) (h_nf ex15 (by omega) (by omega)) (h_nf ex16 (by omega) (by omega)) (h_nf ex17 (by omega) (by omega)) (h_nf ex18 (by omega) (by omega)) (h_nf ex19 (by omega) (by omega)) (h_nf ex20 (by omega) (by omega)) (h_nf ex21 (by omega) (by omega)) (by have gq := ps9_0; rw [show s4 105 = σ 105 from ((h_upg us4 rfl).trans (funext (fun j => F0_ 105 j rfl))), show s4 99 = σ 99 from ((h_upg us4 rfl).trans (funext (fun j => F0_ 99 j rfl))), show s4 106 6 = s0 106 6 + 1 from h_upv us4] at gq; exact g_ln_c (A := 6) ex22 (by omega) (h_upf us4) rfl (g_if_n gq (by omega)) (by omega)) (by omega))
        · exact (h_ph7 (s4 106) (by omega) (by omega) (by omega) (by omega) (by omega) (by omega) (by omega) (h_nf ex7 (by omega) (by omega)) (h_nf ex8 (by omega) (by omega)) (h_nf ex9 (by omega) (by omega)) (h_nf ex10 (by omega) (by omega)) (h_nf ex11 (by omega) (by omega)) (h_nf ex12 (by omega) (by omega)) (h_nf ex13 (by omega) (by omega)) (h_nf ex14 (by omega) (by omega)) (h_nf ex15 (by omega) (by omega)) (h_nf ex16 (by omega) (by omega)) (h_nf ex17 (by omega) (by omega)) (h_nf ex18 (by omega) (by omega)) (h_nf ex19 (by omega) (by omega)) (h_nf ex20 (by omega) (by omega)) (h_nf ex21 (by omega) (by omega)) (h_ni (by omega)) (h_ni (by omega)) (h_ni (by omega)) (h_ni (by omega)) (h_ni (by omega)) (h_ni (by omega))).elim
      · refine h_iinc (pc' := 49) (b := 5) (M := fun z11 => [(2, .int z11), (0, .ref 98), (1, .int x0)]) rfl rfl rfl rfl ci_6 ci_m1 rfl (by omega) (by omega) (fun _ => rfl) (fun z11 hz11 => ?_)
        refine h_goto (pc' := 19) rfl rfl ?_
        have qz11 : z11 = (Int32.ofInt 5) := h_lit hz11 ci_5
        subst qz11
        exact h_wk [(0, .ref 98), (1, .int x0), (2, .int (Int32.ofInt 5))] ⟨rfl, rfl, rfl, trivial⟩ (ih.2.2.2.2.2.2.1 _ Is4 Fs4  (by omega) (by omega) (by omega) (by omega) (by omega) (by omega) (h_nf ex7 (by omega) (by omega)) (h_nf ex8 (by omega) (by omega)) (h_nf ex9 (by omega) (by omega)) (h_nf ex10 (by omega) (by omega)) (h_nf ex11 (by omega) (by omega)) (h_nf ex12 (by omega) (by omega)) (h_nf ex13 (by omega) (by omega)) (h_nf ex14 (by omega) (by omega)) (h_nf ex15 (by omega) (by omega)) (h_nf ex16 (by omega) (by omega)) (g_ln_a (A := 6) ex22 (by omega) rfl (h_upf us4) rfl (by omega) (by omega)) (by omega))
set_option maxHeartbeats 100000000 in
set_option maxHeartbeats 100000000 in
theorem n_lines {ns : Nat} (σ : h_S) (hI : h_I σ) (x0 : Int32) (a0 : Int) (hx0 : x0.toInt = a0) (ra0 : 0 ≤ a0 ∧ a0 ≤ 2) {Q : Option Value → h_S → Prop} (kk : ∀ (τ : h_S), h_I τ → h_F (k_in kf_n_lines) τ σ → (τ 98 26 = g_T (σ 98 1).toNat (fun l p => g_yM (σ 105) (fun i => σ 99 (19 + 2 * i)) (fun i => σ 99 (19 + 2 * i + 1)) (σ 99 25) p l (σ 99 (26 + a0))) 7 (fun _ => true) (g_orn (σ 99 (29 + a0)))) → Q none τ) : h_T g_P (g_Y ns) 198 0 [(0, .ref 98), (1, .int x0)] [] σ Q := by
  have F00 : h_F (k_in kf_n_lines) σ σ := h_F.rf
  refine h_aload_n (pc' := 1) rfl rfl rfl ?_
  refine h_iconst (pc' := 2) (x := (Int32.ofInt 0)) rfl rfl rfl ?_
  refine h_put (pc' := 5) rfl rfl rfl rfl rfl rfl ci_0 rfl (h_fgt (E := fun s => s 106 0 = σ 106 0 ∧ s 106 1 = σ 106 1 ∧ s 106 2 = σ 106 2 ∧ s 106 3 = σ 106 3 ∧ s 106 4 = σ 106 4 ∧ s 106 5 = σ 106 5 ∧ s 106 6 = σ 106 6 ∧ s 98 26 = 0 ∧ s = h_up σ 98 26 0) _ (if_98_26 hI (by omega)) (F00.up rfl) ⟨rfl, rfl, rfl, rfl, rfl, rfl, rfl, rfl, rfl⟩ (fun s1 Is1 Fs1 (es1 : s1 106 0 = σ 106 0 ∧ s1 106 1 = σ 106 1 ∧ s1 106 2 = σ 106 2 ∧ s1 106 3 = σ 106 3 ∧ s1 106 4 = σ 106 4 ∧ s1 106 5 = σ 106 5 ∧ s1 106 6 = σ 106 6 ∧ s1 98 26 = 0 ∧ s1 = h_up σ 98 26 0) => ?_))
  have us1 := es1.2.2.2.2.2.2.2.2
  refine h_aload_n (pc' := 6) rfl rfl rfl ?_
  refine h_iconst (pc' := 7) (x := (Int32.ofInt 1)) rfl rfl rfl ?_
  refine h_put (pc' := 10) rfl rfl rfl rfl rfl rfl ci_1 rfl (h_fgt (E := fun s => s 106 0 = σ 106 0 ∧ s 106 1 = σ 106 1 ∧ s 106 2 = σ 106 2 ∧ s 106 3 = σ 106 3 ∧ s 106 4 = σ 106 4 ∧ s 106 5 = σ 106 5 ∧ s 106 6 = σ 106 6 ∧ s 98 26 = 0 ∧ s = h_up s1 98 27 1) _ (if_98_27 Is1 (h_rgv ci_1)) (Fs1.up rfl) ⟨es1.1, es1.2.1, es1.2.2.1, es1.2.2.2.1, es1.2.2.2.2.1, es1.2.2.2.2.2.1, es1.2.2.2.2.2.2.1, es1.2.2.2.2.2.2.2.1, rfl⟩ (fun s2 Is2 Fs2 (es2 : s2 106 0 = σ 106 0 ∧ s2 106 1 = σ 106 1 ∧ s2 106 2 = σ 106 2 ∧ s2 106 3 = σ 106 3 ∧ s2 106 4 = σ 106 4 ∧ s2 106 5 = σ 106 5 ∧ s2 106 6 = σ 106 6 ∧ s2 98 26 = 0 ∧ s2 = h_up s1 98 27 1) => ?_))
  clear es1
  have us2 := es2.2.2.2.2.2.2.2.2
  refine h_iconst (pc' := 11) (x := (Int32.ofInt 0)) rfl rfl rfl ?_
  refine h_istore_n (pc' := 12) (M := [(2, .int (Int32.ofInt 0)), (0, .ref 98), (1, .int x0)]) rfl rfl rfl rfl ?_
  refine h_aload_n (pc' := 13) rfl rfl rfl ?_
  refine h_getR (pc' := 16) rfl rfl rfl rfl rfl ?_
  refine h_iconst (pc' := 17) (x := (Int32.ofInt 0)) rfl rfl rfl ?_
  refine h_iconst (pc' := 18) (x := (Int32.ofInt (-1))) rfl rfl rfl ?_
  refine h_iast (pc' := 19) rfl rfl rfl rfl ci_0 (by omega) (by omega) ci_m1 (h_fgt (E := fun s => s 106 0 = (-1) ∧ s 106 1 = σ 106 1 ∧ s 106 2 = σ 106 2 ∧ s 106 3 = σ 106 3 ∧ s 106 4 = σ 106 4 ∧ s 106 5 = σ 106 5 ∧ s 106 6 = σ 106 6 ∧ s 98 26 = 0 ∧ s = h_up s2 106 0 (-1)) _ (in_106 Is2 (by omega)) (Fs2.up rfl) ⟨rfl, es2.2.1, es2.2.2.1, es2.2.2.2.1, es2.2.2.2.2.1, es2.2.2.2.2.2.1, es2.2.2.2.2.2.2.1, es2.2.2.2.2.2.2.2.1, rfl⟩ (fun s3 Is3 Fs3 (es3 : s3 106 0 = (-1) ∧ s3 106 1 = σ 106 1 ∧ s3 106 2 = σ 106 2 ∧ s3 106 3 = σ 106 3 ∧ s3 106 4 = σ 106 4 ∧ s3 106 5 = σ 106 5 ∧ s3 106 6 = σ 106 6 ∧ s3 98 26 = 0 ∧ s3 = h_up s2 106 0 (-1)) => ?_))
  clear es2
  have us3 := es3.2.2.2.2.2.2.2.2
  exact h_wk [(0, .ref 98), (1, .int x0), (2, .int (Int32.ofInt 0))] ⟨rfl, rfl, rfl, trivial⟩ ((n_lines_l ns σ hI x0 a0 hx0 ra0 kk 1000000000000).2.1 _ Is3 Fs3  (by omega) (g_ln_0 (h_upv us3) (by omega)) (by omega))
def kf_n_matM : List Nat := [100378, 100379, 101888, 101892, 108543, 109567, 110591]
set_option maxHeartbeats 100000000 in
set_option maxHeartbeats 100000000 in
theorem n_matM_l (ns : Nat) (σ : h_S) (hI : h_I σ) (x0 : Int32) (a0 : Int) (hx0 : x0.toInt = a0) (x1 : Int32) (a1 : Int) (hx1 : x1.toInt = a1) {Q : Option Value → h_S → Prop} (kk : ∀ (r : Int32) (b : Int) (hb : r.toInt = b) (τ : h_S), h_I τ → h_F (k_in kf_n_matM) τ σ → ((-4) ≤ b ∧ b ≤ 63) → (c_pg true (fun j => σ 99 (0 + j)) (fun j => τ 99 (0 + j))) → ((¬ (0 ≤ a0 ∧ a0 < σ 98 2 ∧ (a1 = 0 ∨ a1 = 1)) ∧ b = -1) ∨ ((0 ≤ a0 ∧ a0 < σ 98 2 ∧ (a1 = 0 ∨ a1 = 1)) ∧ 3 ≤ σ 99 18 ∧ b = -3) ∨ ((0 ≤ a0 ∧ a0 < σ 98 2 ∧ (a1 = 0 ∨ a1 = 1)) ∧ σ 99 18 ≤ 2 ∧ ∃ x y : Int, g_mi (fun j v => ∃ o, g_qc (j / 6) (j % 6) o σ ∧ g_tM a0 o v) (fun v => ∃ o, g_qb o σ ∧ g_tM a0 o v) (σ 98 1) (6 * σ 98 1) x y ∧ b = g_mo a1 x y)) → Q (some (.int r)) τ) : ∀ n : Nat, (∀ (s0 : h_S), h_I s0 → h_F (k_in kf_n_matM) s0 σ → ∀ (y3 : Int32) (b3 : Int), y3.toInt = b3 → (0 ≤ b3 ∧ b3 ≤ 6) → ∀ (y4 : Int32) (b4 : Int), y4.toInt = b4 → ((-4) ≤ b4 ∧ b4 ≤ 63) → ∀ (y5 : Int32) (b5 : Int), y5.toInt = b5 → (0 ≤ b5 ∧ b5 ≤ 6) → (0 ≤ a0 ∧ a0 < σ 98 2 ∧ (a1 = 0 ∨ a1 = 1)) → (s0 99 18 = σ 99 18 ∧ σ 99 18 ≤ 2) → (∀ j, 0 ≤ j → j < 44 → s0 99 j = σ 99 j) → (∀ j, 0 ≤ j → j < 44 → s0 99 (176 + j) = σ 99 j) → (g_mi (fun j v => ∃ o, g_qc (j / 6) (j % 6) o σ ∧ g_tM a0 o v) (fun v => ∃ o, g_qb o σ ∧ g_tM a0 o v) (σ 98 1) (6 * b5) b3 b4) → (b5 ≤ σ 98 1) → (6 + 1 - b5) * 1000000 + 1000000000 ≤ (n : Int) → h_T g_P (g_Y ns) 202 64 [(0, .ref 98), (1, .int x0), (2, .int x1), (3, .int y3), (4, .int y4), (5, .int y5)] [] s0 Q) ∧ (∀ (s0 : h_S), h_I s0 → h_F (k_in kf_n_matM) s0 σ → ∀ (y3 : Int32) (b3 : Int), y3.toInt = b3 → (0 ≤ b3 ∧ b3 ≤ 6) → ∀ (y4 : Int32) (b4 : Int), y4.toInt = b4 → ((-4) ≤ b4 ∧ b4 ≤ 63) → ∀ (y5 : Int32) (b5 : Int), y5.toInt = b5 → (0 ≤ b5 ∧ b5 ≤ 5) → ∀ (y6 : Int32) (b6 : Int), y6.toInt = b6 → (1 ≤ b6 ∧ b6 ≤ 6) → (0 ≤ a0 ∧ a0 < σ 98 2 ∧ (a1 = 0 ∨ a1 = 1)) → (s0 99 18 = σ 99 18 ∧ σ 99 18 ≤ 2) → (∀ j, 0 ≤ j → j < 44 → s0 99 j = σ 99 j) → (∀ j, 0 ≤ j → j < 44 → s0 99 (176 + j) = σ 99 j) → (g_mi (fun j v => ∃ o, g_qc (j / 6) (j % 6) o σ ∧ g_tM a0 o v) (fun v => ∃ o, g_qb o σ ∧ g_tM a0 o v) (σ 98 1) (6 * b5 + b6) b3 b4) → (b5 < σ 98 1 ∧ b5 < b6 ∧ b6 ≤ σ 98 1) → ((6 + 1 - b5) - 1) * 1000000 + 1000000000 + (6 + 1 - b6) * 1000 + 100000 ≤ (n : Int) → h_T g_P (g_Y ns) 202 79 [(0, .ref 98), (1, .int x0), (2, .int x1), (3, .int y3), (4, .int y4), (5, .int y5), (6, .int y6)] [] s0 Q) := by
  intro n
  induction n with
  | zero => exact ⟨by intro s0 I0 F0_ y3 b3 hy3 ry3 y4 b4 hy4 ry4 y5 b5 hy5 ry5 ex0 ex1 ex2 ex3 ex4 ex5 hm; have gh0 := F0_ 98 1 rfl; have gh1 := tf_98_1 hI; have gh2 := tf_98_2 hI; exfalso; omega, by intro s0 I0 F0_ y3 b3 hy3 ry3 y4 b4 hy4 ry4 y5 b5 hy5 ry5 y6 b6 hy6 ry6 ex0 ex1 ex2 ex3 ex4 ex5 hm; have gh0 := F0_ 98 1 rfl; have gh1 := tf_98_1 hI; have gh2 := tf_98_2 hI; exfalso; omega⟩
  | succ n ih =>
    refine ⟨?_, ?_⟩
    · intro s0 I0 F0_ y3 b3 hy3 ry3 y4 b4 hy4 ry4 y5 b5 hy5 ry5 ex0 ex1 ex2 ex3 ex4 ex5 hm; have gh0 := F0_ 98 1 rfl; have gh1 := tf_98_1 hI; have gh2 := tf_98_2 hI
      refine h_iload (pc' := 66) rfl rfl rfl ?_
      refine h_aload_n (pc' := 67) rfl rfl rfl ?_
      refine h_getI (pc' := 70) (v := σ 98 1) rfl rfl rfl rfl rfl (F0_ 98 1 rfl) (fun z1 hz1 => ?_)
      have tz1 := tf_98_1 hI
      refine h_cge (tg := 168) (pc' := 73) rfl rfl rfl hy5 hz1 (fun c2 => ?_) (fun c2 => ?_)
      · refine h_iload (pc' := 170) rfl rfl rfl ?_
        refine h_bipush (pc' := 172) (x := (Int32.ofInt (-4))) rfl rfl cb_m4 ?_
        refine h_ceq (tg := 179) (pc' := 175) rfl rfl rfl hy4 ci_m4 (fun c3 => ?_) (fun c3 => ?_)
        · refine h_iload (pc' := 181) rfl rfl rfl ?_
          refine h_goto (pc' := 185) rfl rfl ?_
          exact h_iret rfl rfl (kk _ _ hy4 _ I0 F0_ (by omega) (c_pg.all (fun j a b => by show s0 99 (0 + j) = σ 99 (0 + j); rw [Int.zero_add]; exact ex2 j a b)) (Or.inr (Or.inr ⟨by omega, by omega, b3, b4, by rw [show σ 98 1 = b5 by omega] at ex4 ⊢; exact ex4, g_mo_of (by omega)⟩)))
        · refine h_iload_n (pc' := 176) rfl rfl rfl ?_
          refine h_zne (tg := 184) (pc' := 179) rfl rfl rfl hx1 (fun c4 => ?_) (fun c4 => ?_)
          · refine h_iload_n (pc' := 185) rfl rfl rfl ?_
            exact h_iret rfl rfl (kk _ _ hy3 _ I0 F0_ (by omega) (c_pg.all (fun j a b => by show s0 99 (0 + j) = σ 99 (0 + j); rw [Int.zero_add]; exact ex2 j a b)) (Or.inr (Or.inr ⟨by omega, by omega, b3, b4, by rw [show σ 98 1 = b5 by omega] at ex4 ⊢; exact ex4, g_mo_of (by omega)⟩)))
          · refine h_iload (pc' := 181) rfl rfl rfl ?_
            refine h_goto (pc' := 185) rfl rfl ?_
            exact h_iret rfl rfl (kk _ _ hy4 _ I0 F0_ (by omega) (c_pg.all (fun j a b => by show s0 99 (0 + j) = σ 99 (0 + j); rw [Int.zero_add]; exact ex2 j a b)) (Or.inr (Or.inr ⟨by omega, by omega, b3, b4, by rw [show σ 98 1 = b5 by omega] at ex4 ⊢; exact ex4, g_mo_of (by omega)⟩)))
      · refine h_iload (pc' := 75) rfl rfl rfl ?_
        refine h_iconst (pc' := 76) (x := (Int32.ofInt 1)) rfl rfl rfl ?_
        refine h_iadd (pc' := 77) rfl rfl hy5 ci_1 rfl (by omega) (by omega) (fun z5 hz5 => ?_)
        refine h_istore (pc' := 79) (M := [(6, .int z5), (0, .ref 98), (1, .int x0), (2, .int x1), (3, .int y3), (4, .int y4), (5, .int y5)]) rfl rfl rfl rfl ?_
        exact h_wk [(0, .ref 98), (1, .int x0), (2, .int x1), (3, .int y3), (4, .int y4), (5, .int y5), (6, .int z5)] ⟨rfl, rfl, rfl, rfl, rfl, rfl, rfl, trivial⟩ (ih.2 _ I0 F0_ y3 _ hy3 (by omega) y4 _ hy4 (by omega) y5 _ hy5 (by omega) z5 _ hz5 (by omega) (by omega) ex1 ex2 ex3 (g_mi_k ex4 (by omega) (by omega) (fun j x y => by omega)) (by omega) (by omega))
    · intro s0 I0 F0_ y3 b3 hy3 ry3 y4 b4 hy4 ry4 y5 b5 hy5 ry5 y6 b6 hy6 ry6 ex0 ex1 ex2 ex3 ex4 ex5 hm; have gh0 := F0_ 98 1 rfl; have gh1 := tf_98_1 hI; have gh2 := tf_98_2 hI
      refine h_iload (pc' := 81) rfl rfl rfl ?_
      refine h_aload_n (pc' := 82) rfl rfl rfl ?_
      refine h_getI (pc' := 85) (v := σ 98 1) rfl rfl rfl rfl rfl (F0_ 98 1 rfl) (fun z1 hz1 => ?_)
      have tz1 := tf_98_1 hI
      refine h_cge (tg := 162) (pc' := 88) rfl rfl rfl hy6 hz1 (fun c2 => ?_) (fun c2 => ?_)
      · refine h_iinc (pc' := 165) (M := fun z3 => [(5, .int z3), (0, .ref 98), (1, .int x0), (2, .int x1), (3, .int y3), (4, .int y4), (6, .int y6)]) rfl rfl rfl rfl hy5 ci_1 rfl (by omega) (by omega) (fun _ => rfl) (fun z3 hz3 => ?_)
        refine h_goto (pc' := 64) rfl rfl ?_
        exact h_wk [(0, .ref 98), (1, .int x0), (2, .int x1), (3, .int y3), (4, .int y4), (5, .int z3)] ⟨rfl, rfl, rfl, rfl, rfl, rfl, trivial⟩ (ih.1 _ I0 F0_ y3 _ hy3 (by omega) y4 _ hy4 (by omega) z3 _ hz3 (by omega) (by omega) ex1 ex2 ex3 (g_mi_k ex4 (by omega) (by omega) (fun j x y => by omega)) (by omega) (by omega))
      · refine h_aload_n (pc' := 89) rfl rfl rfl ?_
        refine h_iconst (pc' := 90) (x := (Int32.ofInt 0)) rfl rfl rfl ?_
        refine h_iload (pc' := 92) rfl rfl rfl ?_
        refine h_iload (pc' := 94) rfl rfl rfl ?_
        refine h_call (sp := false) (pc' := 97) (M := [(0, .ref 98), (1, .int (Int32.ofInt 0)), (2, .int y5), (3, .int y6)]) rfl rfl rfl rfl rfl rfl rfl rfl ?_
        refine h_aload_n (pc' := 1) rfl rfl rfl ?_
        refine h_iload_n (pc' := 2) rfl rfl rfl ?_
        refine h_call (sp := false) (pc' := 5) (M := [(0, .ref 98), (1, .int y5)]) rfl rfl rfl rfl rfl rfl rfl rfl ?_
        refine h_iload_n (pc' := 1) rfl rfl rfl ?_
        refine h_i2l (pc' := 2) rfl rfl hy5 (fun z4 hz4 => ?_)
        refine h_lconst (pc' := 3) (x := (Int64.ofInt 0)) rfl rfl rfl ?_
        refine h_aload_n (pc' := 4) rfl rfl rfl ?_
        refine h_getI (pc' := 7) (v := σ 98 1) rfl rfl rfl rfl rfl (F0_ 98 1 rfl) (fun z5 hz5 => ?_)
        have tz5 := tf_98_1 hI
        refine h_iconst (pc' := 8) (x := (Int32.ofInt 1)) rfl rfl rfl ?_
        refine h_isub (pc' := 9) rfl rfl hz5 ci_1 rfl (by omega) (by omega) (fun z6 hz6 => ?_)
        refine h_i2l (pc' := 10) rfl rfl hz6 (fun z7 hz7 => ?_)
        refine h_calls (pc' := 13) (M := [(0, .long z4), (2, .long (Int64.ofInt 0)), (4, .long z7)]) rfl rfl rfl rfl rfl rfl ?_
        refine h_lload_n (pc' := 1) rfl rfl rfl ?_
        refine h_lload_n (pc' := 2) rfl rfl rfl ?_
        refine h_lcmp (pc' := 3) rfl rfl hz4 cl_0 (fun z8 hz8 => ?_)
        refine h_zlt (tg := 17) (pc' := 6) rfl rfl rfl rfl (fun c9 => absurd c9 (by omega)) (fun c9 => ?_)
        replace c9 := (h_lcr hz8).2.1 c9
        clear hz8
        refine h_lload_n (pc' := 7) rfl rfl rfl ?_
        refine h_lload (pc' := 9) rfl rfl rfl ?_
        refine h_lcmp (pc' := 10) rfl rfl hz4 hz7 (fun z10 hz10 => ?_)
        refine h_zgt (tg := 17) (pc' := 13) rfl rfl rfl rfl (fun c11 => ?_) (fun c11 => ?_)
        · replace c11 := (h_lcr hz10).2.2.2.1 c11
          clear hz10
          refine h_iconst (pc' := 18) (x := (Int32.ofInt 0)) rfl rfl rfl ?_
          refine h_zret rfl rfl ci_0 (by omega) (h_Kv ?_)
          refine h_zret rfl rfl ci_0 (by omega) (h_Kv ?_)
          refine h_zeq (tg := 21) (pc' := 8) rfl rfl rfl ci_0 (fun c12 => ?_) (fun c12 => absurd c12 (by omega))
          refine h_iconst (pc' := 22) (x := (Int32.ofInt (-1))) rfl rfl rfl ?_
          refine h_iret rfl rfl (h_Kv ?_)
          refine h_pop (pc' := 98) rfl rfl rfl ?_
          refine h_aload_n (pc' := 99) rfl rfl rfl ?_
          refine h_iconst (pc' := 100) (x := (Int32.ofInt 0)) rfl rfl rfl ?_
          refine h_call (sp := false) (pc' := 103) (M := [(0, .ref 98), (1, .int (Int32.ofInt 0))]) rfl rfl rfl rfl rfl rfl rfl rfl ?_
          refine n_lays _ I0  (fun s14 Is14 Gs14 ps14_0 => h_Kn ?_)
          have Fs14 := (Gs14.mono (B := kf_n_matM) rfl).tr F0_
          have es14_0 : s14 98 13 = s0 98 13 := (Gs14 98 13 rfl).trans rfl
          refine h_aload_n (pc' := 104) rfl rfl rfl ?_
          refine h_iload_n (pc' := 105) rfl rfl rfl ?_
          refine h_call (sp := false) (pc' := 108) (M := [(0, .ref 98), (1, .int x0)]) rfl rfl rfl rfl rfl rfl rfl rfl ?_
          refine n_lines _ Is14 x0 _ hx0 (by omega) (fun s16 Is16 Gs16 ps16_0 => h_Kn ?_)
          have Fs16 := (Gs16.mono (B := kf_n_matM) rfl).tr Fs14
          have es16_0 : s16 98 13 = s0 98 13 := (Gs16 98 13 rfl).trans es14_0
          refine h_aload_n (pc' := 109) rfl rfl rfl ?_
          refine h_getI (pc' := 112) (v := s16 98 26) rfl rfl rfl rfl rfl rfl (fun z17 hz17 => ?_)
          have tz17 := tf_98_26 Is16
          refine h_iload_n (pc' := 113) rfl rfl rfl ?_
          refine h_cle (tg := 127) (pc' := 116) rfl rfl rfl hz17 hy3 (fun c18 => ?_) (fun c18 => ?_)
          · refine h_iload (pc' := 129) rfl rfl rfl ?_
            refine h_istore (pc' := 131) (M := [(4, .int y4), (0, .ref 98), (1, .int x0), (2, .int x1), (3, .int y3), (5, .int y5), (6, .int y6)]) rfl rfl rfl rfl ?_
            refine h_aload_n (pc' := 132) rfl rfl rfl ?_
            refine h_getI (pc' := 135) (v := s16 98 26) rfl rfl rfl rfl rfl rfl (fun z19 hz19 => ?_)
            have tz19 := tf_98_26 Is16
            refine h_iload_n (pc' := 136) rfl rfl rfl ?_
            refine h_cle (tg := 146) (pc' := 139) rfl rfl rfl hz19 hy3 (fun c20 => ?_) (fun c20 => ?_)
            · refine h_iload_n (pc' := 147) rfl rfl rfl ?_
              refine h_istore_n (pc' := 148) (M := [(3, .int y3), (4, .int y4), (0, .ref 98), (1, .int x0), (2, .int x1), (5, .int y5), (6, .int y6)]) rfl rfl rfl rfl ?_
              refine h_aload_n (pc' := 149) rfl rfl rfl ?_
              refine h_sipush (pc' := 152) (x := (Int32.ofInt 176)) rfl rfl cs_176 ?_
              refine h_iconst (pc' := 153) (x := (Int32.ofInt 0)) rfl rfl rfl ?_
              refine h_call (sp := false) (pc' := 156) (M := [(0, .ref 98), (1, .int (Int32.ofInt 176)), (2, .int (Int32.ofInt 0))]) rfl rfl rfl rfl rfl rfl rfl rfl ?_
              refine n_copies_176_0 _ Is16   (fun s22 Is22 Gs22 ps22_0 => h_Kn ?_)
              have Fs22 := (Gs22.mono (B := kf_n_matM) rfl).tr Fs16
              have es22_0 : s22 98 13 = s0 98 13 := (Gs22 98 13 rfl).trans es16_0
              refine h_iinc (pc' := 159) (M := fun z23 => [(6, .int z23), (3, .int y3), (4, .int y4), (0, .ref 98), (1, .int x0), (2, .int x1), (5, .int y5)]) rfl rfl rfl rfl hy6 ci_1 rfl (by omega) (by omega) (fun _ => rfl) (fun z23 hz23 => ?_)
              refine h_goto (pc' := 79) rfl rfl ?_
              exact h_wk [(0, .ref 98), (1, .int x0), (2, .int x1), (3, .int y3), (4, .int y4), (5, .int y5), (6, .int z23)] ⟨rfl, rfl, rfl, rfl, rfl, rfl, rfl, trivial⟩ (ih.2 _ Is22 Fs22 y3 _ hy3 (by omega) y4 _ hy4 (by omega) y5 _ hy5 (by omega) z23 _ hz23 (by omega) (by omega) (by exfalso; omega) (by exfalso; omega) (by exfalso; omega) (by exfalso; omega) (by omega) (by omega))
            · refine h_aload_n (pc' := 140) rfl rfl rfl ?_
              refine h_getI (pc' := 143) (v := s16 98 26) rfl rfl rfl rfl rfl rfl (fun z24 hz24 => ?_)
              have tz24 := tf_98_26 Is16
              refine h_goto (pc' := 147) rfl rfl ?_
              refine h_istore_n (pc' := 148) (M := [(3, .int z24), (4, .int y4), (0, .ref 98), (1, .int x0), (2, .int x1), (5, .int y5), (6, .int y6)]) rfl rfl rfl rfl ?_
              refine h_aload_n (pc' := 149) rfl rfl rfl ?_
              refine h_sipush (pc' := 152) (x := (Int32.ofInt 176)) rfl rfl cs_176 ?_
              refine h_iconst (pc' := 153) (x := (Int32.ofInt 0)) rfl rfl rfl ?_
              refine h_call (sp := false) (pc' := 156) (M := [(0, .ref 98), (1, .int (Int32.ofInt 176)), (2, .int (Int32.ofInt 0))]) rfl rfl rfl rfl rfl rfl rfl rfl ?_
              refine n_copies_176_0 _ Is16   (fun s26 Is26 Gs26 ps26_0 => h_Kn ?_)
              have Fs26 := (Gs26.mono (B := kf_n_matM) rfl).tr Fs16
              have es26_0 : s26 98 13 = s0 98 13 := (Gs26 98 13 rfl).trans es16_0
              refine h_iinc (pc' := 159) (M := fun z27 => [(6, .int z27), (3, .int z24), (4, .int y4), (0, .ref 98), (1, .int x0), (2, .int x1), (5, .int y5)]) rfl rfl rfl rfl hy6 ci_1 rfl (by omega) (by omega) (fun _ => rfl) (fun z27 hz27 => ?_)
              refine h_goto (pc' := 79) rfl rfl ?_
              exact h_wk [(0, .ref 98), (1, .int x0), (2, .int x1), (3, .int z24), (4, .int y4), (5, .int y5), (6, .int z27)] ⟨rfl, rfl, rfl, rfl, rfl, rfl, rfl, trivial⟩ (ih.2 _ Is26 Fs26 z24 _ hz24 (by omega) y4 _ hy4 (by omega) y5 _ hy5 (by omega) z27 _ hz27 (by omega) (by omega) (by exfalso; omega) (by exfalso; omega) (by exfalso; omega) (by exfalso; omega) (by omega) (by omega))
          · refine h_bipush (pc' := 118) (x := (Int32.ofInt 10)) rfl rfl cb_10 ?_
            refine h_iload (pc' := 120) rfl rfl rfl ?_
            refine h_imul (pc' := 121) rfl rfl ci_10 hy5 rfl (by omega) (by omega) (fun z28 hz28 => ?_)
            refine h_iload (pc' := 123) rfl rfl rfl ?_
            refine h_iadd (pc' := 124) rfl rfl hz28 hy6 rfl (by omega) (by omega) (fun z29 hz29 => ?_)
            refine h_goto (pc' := 129) rfl rfl ?_
            refine h_istore (pc' := 131) (M := [(4, .int z29), (0, .ref 98), (1, .int x0), (2, .int x1), (3, .int y3), (5, .int y5), (6, .int y6)]) rfl rfl rfl rfl ?_
            refine h_aload_n (pc' := 132) rfl rfl rfl ?_
            refine h_getI (pc' := 135) (v := s16 98 26) rfl rfl rfl rfl rfl rfl (fun z30 hz30 => ?_)
            have tz30 := tf_98_26 Is16
            refine h_iload_n (pc' := 136) rfl rfl rfl ?_
            refine h_cle (tg := 146) (pc' := 139) rfl rfl rfl hz30 hy3 (fun c31 => ?_) (fun c31 => ?_)
            · refine h_iload_n (pc' := 147) rfl rfl rfl ?_
              refine h_istore_n (pc' := 148) (M := [(3, .int y3), (4, .int z29), (0, .ref 98), (1, .int x0), (2, .int x1), (5, .int y5), (6, .int y6)]) rfl rfl rfl rfl ?_
              refine h_aload_n (pc' := 149) rfl rfl rfl ?_
              refine h_sipush (pc' := 152) (x := (Int32.ofInt 176)) rfl rfl cs_176 ?_
              refine h_iconst (pc' := 153) (x := (Int32.ofInt 0)) rfl rfl rfl ?_
              refine h_call (sp := false) (pc' := 156) (M := [(0, .ref 98), (1, .int (Int32.ofInt 176)), (2, .int (Int32.ofInt 0))]) rfl rfl rfl rfl rfl rfl rfl rfl ?_
              refine n_copies_176_0 _ Is16   (fun s33 Is33 Gs33 ps33_0 => h_Kn ?_)
              have Fs33 := (Gs33.mono (B := kf_n_matM) rfl).tr Fs16
              have es33_0 : s33 98 13 = s0 98 13 := (Gs33 98 13 rfl).trans es16_0
              refine h_iinc (pc' := 159) (M := fun z34 => [(6, .int z34), (3, .int y3), (4, .int z29), (0, .ref 98), (1, .int x0), (2, .int x1), (5, .int y5)]) rfl rfl rfl rfl hy6 ci_1 rfl (by omega) (by omega) (fun _ => rfl) (fun z34 hz34 => ?_)
              refine h_goto (pc' := 79) rfl rfl ?_
              exact h_wk [(0, .ref 98), (1, .int x0), (2, .int x1), (3, .int y3), (4, .int z29), (5, .int y5), (6, .int z34)] ⟨rfl, rfl, rfl, rfl, rfl, rfl, rfl, trivial⟩ (ih.2 _ Is33 Fs33 y3 _ hy3 (by omega) z29 _ hz29 (by omega) y5 _ hy5 (by omega) z34 _ hz34 (by omega) (by omega) (by exfalso; omega) (by exfalso; omega) (by exfalso; omega) (by exfalso; omega) (by omega) (by omega))
            · refine h_aload_n (pc' := 140) rfl rfl rfl ?_
              refine h_getI (pc' := 143) (v := s16 98 26) rfl rfl rfl rfl rfl rfl (fun z35 hz35 => ?_)
              have tz35 := tf_98_26 Is16
              refine h_goto (pc' := 147) rfl rfl ?_
              refine h_istore_n (pc' := 148) (M := [(3, .int z35), (4, .int z29), (0, .ref 98), (1, .int x0), (2, .int x1), (5, .int y5), (6, .int y6)]) rfl rfl rfl rfl ?_
              refine h_aload_n (pc' := 149) rfl rfl rfl ?_
              refine h_sipush (pc' := 152) (x := (Int32.ofInt 176)) rfl rfl cs_176 ?_
              refine h_iconst (pc' := 153) (x := (Int32.ofInt 0)) rfl rfl rfl ?_
              refine h_call (sp := false) (pc' := 156) (M := [(0, .ref 98), (1, .int (Int32.ofInt 176)), (2, .int (Int32.ofInt 0))]) rfl rfl rfl rfl rfl rfl rfl rfl ?_
              refine n_copies_176_0 _ Is16   (fun s37 Is37 Gs37 ps37_0 => h_Kn ?_)
              have Fs37 := (Gs37.mono (B := kf_n_matM) rfl).tr Fs16
              have es37_0 : s37 98 13 = s0 98 13 := (Gs37 98 13 rfl).trans es16_0
              refine h_iinc (pc' := 159) (M := fun z38 => [(6, .int z38), (3, .int z35), (4, .int z29), (0, .ref 98), (1, .int x0), (2, .int x1), (5, .int y5)]) rfl rfl rfl rfl hy6 ci_1 rfl (by omega) (by omega) (fun _ => rfl) (fun z38 hz38 => ?_)
              refine h_goto (pc' := 79) rfl rfl ?_
              exact h_wk [(0, .ref 98), (1, .int x0), (2, .int x1), (3, .int z35), (4, .int z29), (5, .int y5), (6, .int z38)] ⟨rfl, rfl, rfl, rfl, rfl, rfl, rfl, trivial⟩ (ih.2 _ Is37 Fs37 z35 _ hz35 (by omega) z29 _ hz29 (by omega) y5 _ hy5 (by omega) z38 _ hz38 (by omega) (by omega) (by exfalso; omega) (by exfalso; omega) (by exfalso; omega) (by exfalso; omega) (by omega) (by omega))
        · replace c11 := (h_lcr hz10).2.2.1 c11
          clear hz10
          refine h_iconst (pc' := 14) (x := (Int32.ofInt 1)) rfl rfl rfl ?_
          refine h_goto (pc' := 18) rfl rfl ?_
          refine h_zret rfl rfl ci_1 (by omega) (h_Kv ?_)
          refine h_zret rfl rfl ci_1 (by omega) (h_Kv ?_)
          refine h_zeq (tg := 21) (pc' := 8) rfl rfl rfl ci_1 (fun c39 => absurd c39 (by omega)) (fun c39 => ?_)
          refine h_aload_n (pc' := 9) rfl rfl rfl ?_
          refine h_iload_n (pc' := 10) rfl rfl rfl ?_
          refine h_call (sp := false) (pc' := 13) (M := [(0, .ref 98), (1, .int y6)]) rfl rfl rfl rfl rfl rfl rfl rfl ?_
          refine h_iload_n (pc' := 1) rfl rfl rfl ?_
          refine h_i2l (pc' := 2) rfl rfl hy6 (fun z40 hz40 => ?_)
          refine h_lconst (pc' := 3) (x := (Int64.ofInt 0)) rfl rfl rfl ?_
          refine h_aload_n (pc' := 4) rfl rfl rfl ?_
          refine h_getI (pc' := 7) (v := σ 98 1) rfl rfl rfl rfl rfl (F0_ 98 1 rfl) (fun z41 hz41 => ?_)
          have tz41 := tf_98_1 hI
          refine h_iconst (pc' := 8) (x := (Int32.ofInt 1)) rfl rfl rfl ?_
          refine h_isub (pc' := 9) rfl rfl hz41 ci_1 rfl (by omega) (by omega) (fun z42 hz42 => ?_)
          refine h_i2l (pc' := 10) rfl rfl hz42 (fun z43 hz43 => ?_)
          refine h_calls (pc' := 13) (M := [(0, .long z40), (2, .long (Int64.ofInt 0)), (4, .long z43)]) rfl rfl rfl rfl rfl rfl ?_
          refine h_lload_n (pc' := 1) rfl rfl rfl ?_
          refine h_lload_n (pc' := 2) rfl rfl rfl ?_
          refine h_lcmp (pc' := 3) rfl rfl hz40 cl_0 (fun z44 hz44 => ?_)
          refine h_zlt (tg := 17) (pc' := 6) rfl rfl rfl rfl (fun c45 => absurd c45 (by omega)) (fun c45 => ?_)
          replace c45 := (h_lcr hz44).2.1 c45
          clear hz44
          refine h_lload_n (pc' := 7) rfl rfl rfl ?_
          refine h_lload (pc' := 9) rfl rfl rfl ?_
          refine h_lcmp (pc' := 10) rfl rfl hz40 hz43 (fun z46 hz46 => ?_)
          refine h_zgt (tg := 17) (pc' := 13) rfl rfl rfl rfl (fun c47 => ?_) (fun c47 => ?_)
          · replace c47 := (h_lcr hz46).2.2.2.1 c47
            clear hz46
            refine h_iconst (pc' := 18) (x := (Int32.ofInt 0)) rfl rfl rfl ?_
            refine h_zret rfl rfl ci_0 (by omega) (h_Kv ?_)
            refine h_zret rfl rfl ci_0 (by omega) (h_Kv ?_)
            refine h_zeq (tg := 21) (pc' := 16) rfl rfl rfl ci_0 (fun c48 => ?_) (fun c48 => absurd c48 (by omega))
            refine h_iconst (pc' := 22) (x := (Int32.ofInt (-1))) rfl rfl rfl ?_
            refine h_iret rfl rfl (h_Kv ?_)
            refine h_pop (pc' := 98) rfl rfl rfl ?_
            refine h_aload_n (pc' := 99) rfl rfl rfl ?_
            refine h_iconst (pc' := 100) (x := (Int32.ofInt 0)) rfl rfl rfl ?_
            refine h_call (sp := false) (pc' := 103) (M := [(0, .ref 98), (1, .int (Int32.ofInt 0))]) rfl rfl rfl rfl rfl rfl rfl rfl ?_
            refine n_lays _ I0  (fun s50 Is50 Gs50 ps50_0 => h_Kn ?_)
            have Fs50 := (Gs50.mono (B := kf_n_matM) rfl).tr F0_
            have es50_0 : s50 98 13 = s0 98 13 := (Gs50 98 13 rfl).trans rfl
            refine h_aload_n (pc' := 104) rfl rfl rfl ?_
            refine h_iload_n (pc' := 105) rfl rfl rfl ?_
            refine h_call (sp := false) (pc' := 108) (M := [(0, .ref 98), (1, .int x0)]) rfl rfl rfl rfl rfl rfl rfl rfl ?_
            refine n_lines _ Is50 x0 _ hx0 (by omega) (fun s52 Is52 Gs52 ps52_0 => h_Kn ?_)
            have Fs52 := (Gs52.mono (B := kf_n_matM) rfl).tr Fs50
            have es52_0 : s52 98 13 = s0 98 13 := (Gs52 98 13 rfl).trans es50_0
            refine h_aload_n (pc' := 109) rfl rfl rfl ?_
            refine h_getI (pc' := 112) (v := s52 98 26) rfl rfl rfl rfl rfl rfl (fun z53 hz53 => ?_)
            have tz53 := tf_98_26 Is52
            refine h_iload_n (pc' := 113) rfl rfl rfl ?_
            refine h_cle (tg := 127) (pc' := 116) rfl rfl rfl hz53 hy3 (fun c54 => ?_) (fun c54 => ?_)
            · refine h_iload (pc' := 129) rfl rfl rfl ?_
              refine h_istore (pc' := 131) (M := [(4, .int y4), (0, .ref 98), (1, .int x0), (2, .int x1), (3, .int y3), (5, .int y5), (6, .int y6)]) rfl rfl rfl rfl ?_
              refine h_aload_n (pc' := 132) rfl rfl rfl ?_
              refine h_getI (pc' := 135) (v := s52 98 26) rfl rfl rfl rfl rfl rfl (fun z55 hz55 => ?_)
              have tz55 := tf_98_26 Is52
              refine h_iload_n (pc' := 136) rfl rfl rfl ?_
              refine h_cle (tg := 146) (pc' := 139) rfl rfl rfl hz55 hy3 (fun c56 => ?_) (fun c56 => ?_)
              · refine h_iload_n (pc' := 147) rfl rfl rfl ?_
                refine h_istore_n (pc' := 148) (M := [(3, .int y3), (4, .int y4), (0, .ref 98), (1, .int x0), (2, .int x1), (5, .int y5), (6, .int y6)]) rfl rfl rfl rfl ?_
                refine h_aload_n (pc' := 149) rfl rfl rfl ?_
                refine h_sipush (pc' := 152) (x := (Int32.ofInt 176)) rfl rfl cs_176 ?_
                refine h_iconst (pc' := 153) (x := (Int32.ofInt 0)) rfl rfl rfl ?_
                refine h_call (sp := false) (pc' := 156) (M := [(0, .ref 98), (1, .int (Int32.ofInt 176)), (2, .int (Int32.ofInt 0))]) rfl rfl rfl rfl rfl rfl rfl rfl ?_
                refine n_copies_176_0 _ Is52   (fun s58 Is58 Gs58 ps58_0 => h_Kn ?_)
                have Fs58 := (Gs58.mono (B := kf_n_matM) rfl).tr Fs52
                have es58_0 : s58 98 13 = s0 98 13 := (Gs58 98 13 rfl).trans es52_0
                refine h_iinc (pc' := 159) (M := fun z59 => [(6, .int z59), (3, .int y3), (4, .int y4), (0, .ref 98), (1, .int x0), (2, .int x1), (5, .int y5)]) rfl rfl rfl rfl hy6 ci_1 rfl (by omega) (by omega) (fun _ => rfl) (fun z59 hz59 => ?_)
                refine h_goto (pc' := 79) rfl rfl ?_
                exact h_wk [(0, .ref 98), (1, .int x0), (2, .int x1), (3, .int y3), (4, .int y4), (5, .int y5), (6, .int z59)] ⟨rfl, rfl, rfl, rfl, rfl, rfl, rfl, trivial⟩ (ih.2 _ Is58 Fs58 y3 _ hy3 (by omega) y4 _ hy4 (by omega) y5 _ hy5 (by omega) z59 _ hz59 (by omega) (by omega) (by exfalso; omega) (by exfalso; omega) (by exfalso; omega) (by exfalso; omega) (by omega) (by omega))
              · refine h_aload_n (pc' := 140) rfl rfl rfl ?_
                refine h_getI (pc' := 143) (v := s52 98 26) rfl rfl rfl rfl rfl rfl (fun z60 hz60 => ?_)
                have tz60 := tf_98_26 Is52
                refine h_goto (pc' := 147) rfl rfl ?_
                refine h_istore_n (pc' := 148) (M := [(3, .int z60), (4, .int y4), (0, .ref 98), (1, .int x0), (2, .int x1), (5, .int y5), (6, .int y6)]) rfl rfl rfl rfl ?_
                refine h_aload_n (pc' := 149) rfl rfl rfl ?_
                refine h_sipush (pc' := 152) (x := (Int32.ofInt 176)) rfl rfl cs_176 ?_
                refine h_iconst (pc' := 153) (x := (Int32.ofInt 0)) rfl rfl rfl ?_
                refine h_call (sp := false) (pc' := 156) (M := [(0, .ref 98), (1, .int (Int32.ofInt 176)), (2, .int (Int32.ofInt 0))]) rfl rfl rfl rfl rfl rfl rfl rfl ?_
                refine n_copies_176_0 _ Is52   (fun s62 Is62 Gs62 ps62_0 => h_Kn ?_)
                have Fs62 := (Gs62.mono (B := kf_n_matM) rfl).tr Fs52
                have es62_0 : s62 98 13 = s0 98 13 := (Gs62 98 13 rfl).trans es52_0
                refine h_iinc (pc' := 159) (M := fun z63 => [(6, .int z63), (3, .int z60), (4, .int y4), (0, .ref 98), (1, .int x0), (2, .int x1), (5, .int y5)]) rfl rfl rfl rfl hy6 ci_1 rfl (by omega) (by omega) (fun _ => rfl) (fun z63 hz63 => ?_)
                refine h_goto (pc' := 79) rfl rfl ?_
                exact h_wk [(0, .ref 98), (1, .int x0), (2, .int x1), (3, .int z60), (4, .int y4), (5, .int y5), (6, .int z63)] ⟨rfl, rfl, rfl, rfl, rfl, rfl, rfl, trivial⟩ (ih.2 _ Is62 Fs62 z60 _ hz60 (by omega) y4 _ hy4 (by omega) y5 _ hy5 (by omega) z63 _ hz63 (by omega) (by omega) (by exfalso; omega) (by exfalso; omega) (by exfalso; omega) (by exfalso; omega) (by omega) (by omega))
            · refine h_bipush (pc' := 118) (x := (Int32.ofInt 10)) rfl rfl cb_10 ?_
              refine h_iload (pc' := 120) rfl rfl rfl ?_
              refine h_imul (pc' := 121) rfl rfl ci_10 hy5 rfl (by omega) (by omega) (fun z64 hz64 => ?_)
              refine h_iload (pc' := 123) rfl rfl rfl ?_
              refine h_iadd (pc' := 124) rfl rfl hz64 hy6 rfl (by omega) (by omega) (fun z65 hz65 => ?_)
              refine h_goto (pc' := 129) rfl rfl ?_
              refine h_istore (pc' := 131) (M := [(4, .int z65), (0, .ref 98), (1, .int x0), (2, .int x1), (3, .int y3), (5, .int y5), (6, .int y6)]) rfl rfl rfl rfl ?_
              refine h_aload_n (pc' := 132) rfl rfl rfl ?_
              refine h_getI (pc' := 135) (v := s52 98 26) rfl rfl rfl rfl rfl rfl (fun z66 hz66 => ?_)
              have tz66 := tf_98_26 Is52
              refine h_iload_n (pc' := 136) rfl rfl rfl ?_
              refine h_cle (tg := 146) (pc' := 139) rfl rfl rfl hz66 hy3 (fun c67 => ?_) (fun c67 => ?_)
              · refine h_iload_n (pc' := 147) rfl rfl rfl ?_
                refine h_istore_n (pc' := 148) (M := [(3, .int y3), (4, .int z65), (0, .ref 98), (1, .int x0), (2, .int x1), (5, .int y5), (6, .int y6)]) rfl rfl rfl rfl ?_
                refine h_aload_n (pc' := 149) rfl rfl rfl ?_
                refine h_sipush (pc' := 152) (x := (Int32.ofInt 176)) rfl rfl cs_176 ?_
                refine h_iconst (pc' := 153) (x := (Int32.ofInt 0)) rfl rfl rfl ?_
                refine h_call (sp := false) (pc' := 156) (M := [(0, .ref 98), (1, .int (Int32.ofInt 176)), (2, .int (Int32.ofInt 0))]) rfl rfl rfl rfl rfl rfl rfl rfl ?_
                refine n_copies_176_0 _ Is52   (fun s69 Is69 Gs69 ps69_0 => h_Kn ?_)
                have Fs69 := (Gs69.mono (B := kf_n_matM) rfl).tr Fs52
                have es69_0 : s69 98 13 = s0 98 13 := (Gs69 98 13 rfl).trans es52_0
                refine h_iinc (pc' := 159) (M := fun z70 => [(6, .int z70), (3, .int y3), (4, .int z65), (0, .ref 98), (1, .int x0), (2, .int x1), (5, .int y5)]) rfl rfl rfl rfl hy6 ci_1 rfl (by omega) (by omega) (fun _ => rfl) (fun z70 hz70 => ?_)
                refine h_goto (pc' := 79) rfl rfl ?_
                exact h_wk [(0, .ref 98), (1, .int x0), (2, .int x1), (3, .int y3), (4, .int z65), (5, .int y5), (6, .int z70)] ⟨rfl, rfl, rfl, rfl, rfl, rfl, rfl, trivial⟩ (ih.2 _ Is69 Fs69 y3 _ hy3 (by omega) z65 _ hz65 (by omega) y5 _ hy5 (by omega) z70 _ hz70 (by omega) (by omega) (by exfalso; omega) (by exfalso; omega) (by exfalso; omega) (by exfalso; omega) (by omega) (by omega))
              · refine h_aload_n (pc' := 140) rfl rfl rfl ?_
                refine h_getI (pc' := 143) (v := s52 98 26) rfl rfl rfl rfl rfl rfl (fun z71 hz71 => ?_)
                have tz71 := tf_98_26 Is52
                refine h_goto (pc' := 147) rfl rfl ?_
                refine h_istore_n (pc' := 148) (M := [(3, .int z71), (4, .int z65), (0, .ref 98), (1, .int x0), (2, .int x1), (5, .int y5), (6, .int y6)]) rfl rfl rfl rfl ?_
                refine h_aload_n (pc' := 149) rfl rfl rfl ?_
                refine h_sipush (pc' := 152) (x := (Int32.ofInt 176)) rfl rfl cs_176 ?_
                refine h_iconst (pc' := 153) (x := (Int32.ofInt 0)) rfl rfl rfl ?_
                refine h_call (sp := false) (pc' := 156) (M := [(0, .ref 98), (1, .int (Int32.ofInt 176)), (2, .int (Int32.ofInt 0))]) rfl rfl rfl rfl rfl rfl rfl rfl ?_
                refine n_copies_176_0 _ Is52   (fun s73 Is73 Gs73 ps73_0 => h_Kn ?_)
                have Fs73 := (Gs73.mono (B := kf_n_matM) rfl).tr Fs52
                have es73_0 : s73 98 13 = s0 98 13 := (Gs73 98 13 rfl).trans es52_0
                refine h_iinc (pc' := 159) (M := fun z74 => [(6, .int z74), (3, .int z71), (4, .int z65), (0, .ref 98), (1, .int x0), (2, .int x1), (5, .int y5)]) rfl rfl rfl rfl hy6 ci_1 rfl (by omega) (by omega) (fun _ => rfl) (fun z74 hz74 => ?_)
                refine h_goto (pc' := 79) rfl rfl ?_
                exact h_wk [(0, .ref 98), (1, .int x0), (2, .int x1), (3, .int z71), (4, .int z65), (5, .int y5), (6, .int z74)] ⟨rfl, rfl, rfl, rfl, rfl, rfl, rfl, trivial⟩ (ih.2 _ Is73 Fs73 z71 _ hz71 (by omega) z65 _ hz65 (by omega) y5 _ hy5 (by omega) z74 _ hz74 (by omega) (by omega) (by exfalso; omega) (by exfalso; omega) (by exfalso; omega) (by exfalso; omega) (by omega) (by omega))
          · replace c47 := (h_lcr hz46).2.2.1 c47
            clear hz46
            refine h_iconst (pc' := 14) (x := (Int32.ofInt 1)) rfl rfl rfl ?_
            refine h_goto (pc' := 18) rfl rfl ?_
            refine h_zret rfl rfl ci_1 (by omega) (h_Kv ?_)
            refine h_zret rfl rfl ci_1 (by omega) (h_Kv ?_)
            refine h_zeq (tg := 21) (pc' := 16) rfl rfl rfl ci_1 (fun c75 => absurd c75 (by omega)) (fun c75 => ?_)
            refine h_iload_n (pc' := 17) rfl rfl rfl ?_
            refine h_iload_n (pc' := 18) rfl rfl rfl ?_
            refine h_cne (tg := 23) (pc' := 21) rfl rfl rfl hy5 hy6 (fun c76 => ?_) (fun c76 => ?_)
            · refine h_iload_n (pc' := 24) rfl rfl rfl ?_
              refine h_calls (pc' := 27) (M := [(0, .int (Int32.ofInt 0))]) rfl rfl rfl rfl rfl rfl ?_
              refine h_iload_n (pc' := 1) rfl rfl rfl ?_
              refine h_zne (tg := 9) (pc' := 4) rfl rfl rfl ci_0 (fun c77 => absurd c77 (by omega)) (fun c77 => ?_)
              refine h_bipush (pc' := 6) (x := (Int32.ofInt 12)) rfl rfl cb_12 ?_
              refine h_goto (pc' := 11) rfl rfl ?_
              refine h_iret rfl rfl (h_Kv ?_)
              refine h_istore (pc' := 29) (M := [(4, .int (Int32.ofInt 12)), (0, .ref 98), (1, .int (Int32.ofInt 0)), (2, .int y5), (3, .int y6)]) rfl rfl rfl rfl ?_
              refine h_aload_n (pc' := 30) rfl rfl rfl ?_
              refine h_getR (pc' := 33) rfl rfl rfl rfl rfl ?_
              refine h_iload (pc' := 35) rfl rfl rfl ?_
              refine h_bipush (pc' := 37) (x := (Int32.ofInt 6)) rfl rfl cb_6 ?_
              refine h_iadd (pc' := 38) (c := 18) rfl rfl ci_12 ci_6 rfl (by omega) (by omega) (fun z78 hz78 => ?_)
              refine h_iald (pc' := 39) (v := s0 99 18) rfl rfl rfl hz78 (by omega) (by omega) rfl (fun z79 hz79 => ?_)
              have tz79 := ty_99_3 I0 18 (by omega)
              refine h_istore (pc' := 41) (M := [(5, .int z79), (4, .int (Int32.ofInt 12)), (0, .ref 98), (1, .int (Int32.ofInt 0)), (2, .int y5), (3, .int y6)]) rfl rfl rfl rfl ?_
              refine h_iload (pc' := 43) rfl rfl rfl ?_
              refine h_iconst (pc' := 44) (x := (Int32.ofInt 3)) rfl rfl rfl ?_
              refine h_cne (tg := 50) (pc' := 47) rfl rfl rfl hz79 ci_3 (fun c80 => ?_) (fun c80 => absurd c80 (by omega))
              refine h_aload_n (pc' := 51) rfl rfl rfl ?_
              refine h_getR (pc' := 54) rfl rfl rfl rfl rfl ?_
              refine h_iload (pc' := 56) rfl rfl rfl ?_
              refine h_iconst (pc' := 57) (x := (Int32.ofInt 2)) rfl rfl rfl ?_
              refine h_iload (pc' := 59) rfl rfl rfl ?_
              refine h_imul (pc' := 60) rfl rfl ci_2 hz79 rfl (by omega) (by omega) (fun z81 hz81 => ?_)
              refine h_iadd (pc' := 61) rfl rfl ci_12 hz81 rfl (by omega) (by omega) (fun z82 hz82 => ?_)
              refine h_iload_n (pc' := 62) rfl rfl rfl ?_
              refine h_iast (pc' := 63) rfl rfl rfl rfl hz82 (by omega) (by omega) hy5 (h_fgt (E := fun s => s 98 13 = s0 98 13 ∧ s = h_up s0 99 (12 + (2 * (s0 99 18))) b5) _ (ip_99_2 I0 (by omega) (by omega)) (F0_.up (k_ipg (p := 0) rfl rfl (by omega))) ⟨rfl, rfl⟩ (fun s83 Is83 Fs83 (es83 : s83 98 13 = s0 98 13 ∧ s83 = h_up s0 99 (12 + (2 * (s0 99 18))) b5) => ?_))
              have us83 := es83.2
              refine h_aload_n (pc' := 64) rfl rfl rfl ?_
              refine h_getR (pc' := 67) rfl rfl rfl rfl rfl ?_
              refine h_iload (pc' := 69) rfl rfl rfl ?_
              refine h_iconst (pc' := 70) (x := (Int32.ofInt 2)) rfl rfl rfl ?_
              refine h_iload (pc' := 72) rfl rfl rfl ?_
              refine h_imul (pc' := 73) rfl rfl ci_2 hz79 rfl (by omega) (by omega) (fun z84 hz84 => ?_)
              refine h_iadd (pc' := 74) rfl rfl ci_12 hz84 rfl (by omega) (by omega) (fun z85 hz85 => ?_)
              refine h_iconst (pc' := 75) (x := (Int32.ofInt 1)) rfl rfl rfl ?_
              refine h_iadd (pc' := 76) rfl rfl hz85 ci_1 rfl (by omega) (by omega) (fun z86 hz86 => ?_)
              refine h_iload_n (pc' := 77) rfl rfl rfl ?_
              refine h_iast (pc' := 78) rfl rfl rfl rfl hz86 (by omega) (by omega) hy6 (h_fgt (E := fun s => s 98 13 = s0 98 13 ∧ s = h_up s83 99 ((12 + (2 * (s0 99 18))) + 1) b6) _ (ip_99_2 Is83 (by omega) (by omega)) (Fs83.up (k_ipg (p := 0) rfl rfl (by omega))) ⟨es83.1, rfl⟩ (fun s87 Is87 Fs87 (es87 : s87 98 13 = s0 98 13 ∧ s87 = h_up s83 99 ((12 + (2 * (s0 99 18))) + 1) b6) => ?_))
              clear es83
              have us87 := es87.2
              have k9 : s87 99 18 = s0 99 18 := (h_upd us87 (by omega)).trans (h_upd us83 (by omega))
              refine h_aload_n (pc' := 79) rfl rfl rfl ?_
              refine h_getR (pc' := 82) rfl rfl rfl rfl rfl ?_
              refine h_iload (pc' := 84) rfl rfl rfl ?_
              refine h_bipush (pc' := 86) (x := (Int32.ofInt 6)) rfl rfl cb_6 ?_
              refine h_iadd (pc' := 87) (c := 18) rfl rfl ci_12 ci_6 rfl (by omega) (by omega) (fun z88 hz88 => ?_)
              refine h_dup2 (pc' := 88) rfl rfl rfl ?_
              refine h_iald (pc' := 89) (v := s87 99 18) rfl rfl rfl hz88 (by omega) (by omega) rfl (fun z89 hz89 => ?_)
              have tz89 := ty_99_3 Is87 18 (by omega)
              refine h_iconst (pc' := 90) (x := (Int32.ofInt 1)) rfl rfl rfl ?_
              refine h_iadd (pc' := 91) rfl rfl hz89 ci_1 rfl (by omega) (by omega) (fun z90 hz90 => ?_)
              refine h_iast (pc' := 92) rfl rfl rfl rfl hz88 (by omega) (by omega) hz90 (h_fgt (E := fun s => s 98 13 = s0 98 13 ∧ s = h_up s87 99 18 ((s87 99 18) + 1)) _ (ip_99_3 Is87 (by omega) (by omega)) (Fs87.up (k_ipg (p := 0) rfl rfl (by omega))) ⟨es87.1, rfl⟩ (fun s91 Is91 Fs91 (es91 : s91 98 13 = s0 98 13 ∧ s91 = h_up s87 99 18 ((s87 99 18) + 1)) => ?_))
              clear es87
              have us91 := es91.2
              refine h_iload (pc' := 94) rfl rfl rfl ?_
              refine h_iconst (pc' := 95) (x := (Int32.ofInt 1)) rfl rfl rfl ?_
              refine h_iadd (pc' := 96) rfl rfl hz79 ci_1 rfl (by omega) (by omega) (fun z92 hz92 => ?_)
              refine h_iret rfl rfl (h_Kv ?_)
              refine h_pop (pc' := 98) rfl rfl rfl ?_
              refine h_aload_n (pc' := 99) rfl rfl rfl ?_
              refine h_iconst (pc' := 100) (x := (Int32.ofInt 0)) rfl rfl rfl ?_
              refine h_call (sp := false) (pc' := 103) (M := [(0, .ref 98), (1, .int (Int32.ofInt 0))]) rfl rfl rfl rfl rfl rfl rfl rfl ?_
              refine n_lays _ Is91  (fun s94 Is94 Gs94 ps94_0 => h_Kn ?_)
              have Fs94 := (Gs94.mono (B := kf_n_matM) rfl).tr Fs91
              have es94_0 : s94 98 13 = s0 98 13 := (Gs94 98 13 rfl).trans es91.1
              refine h_aload_n (pc' := 104) rfl rfl rfl ?_
              refine h_iload_n (pc' := 105) rfl rfl rfl ?_
              refine h_call (sp := false) (pc' := 108) (M := [(0, .ref 98), (1, .int x0)]) rfl rfl rfl rfl rfl rfl rfl rfl ?_
              refine n_lines _ Is94 x0 _ hx0 (by omega) (fun s96 Is96 Gs96 ps96_0 => h_Kn ?_)
              have Fs96 := (Gs96.mono (B := kf_n_matM) rfl).tr Fs94
              have es96_0 : s96 98 13 = s0 98 13 := (Gs96 98 13 rfl).trans es94_0
              refine h_aload_n (pc' := 109) rfl rfl rfl ?_
              refine h_getI (pc' := 112) (v := s96 98 26) rfl rfl rfl rfl rfl rfl (fun z97 hz97 => ?_)
              have tz97 := tf_98_26 Is96
              refine h_iload_n (pc' := 113) rfl rfl rfl ?_
              refine h_cle (tg := 127) (pc' := 116) rfl rfl rfl hz97 hy3 (fun c98 => ?_) (fun c98 => ?_)
              · refine h_iload (pc' := 129) rfl rfl rfl ?_
                refine h_istore (pc' := 131) (M := [(4, .int y4), (0, .ref 98), (1, .int x0), (2, .int x1), (3, .int y3), (5, .int y5), (6, .int y6)]) rfl rfl rfl rfl ?_
                refine h_aload_n (pc' := 132) rfl rfl rfl ?_
                refine h_getI (pc' := 135) (v := s96 98 26) rfl rfl rfl rfl rfl rfl (fun z99 hz99 => ?_)
                have tz99 := tf_98_26 Is96
                refine h_iload_n (pc' := 136) rfl rfl rfl ?_
                refine h_cle (tg := 146) (pc' := 139) rfl rfl rfl hz99 hy3 (fun c100 => ?_) (fun c100 => ?_)
                · refine h_iload_n (pc' := 147) rfl rfl rfl ?_
                  refine h_istore_n (pc' := 148) (M := [(3, .int y3), (4, .int y4), (0, .ref 98), (1, .int x0), (2, .int x1), (5, .int y5), (6, .int y6)]) rfl rfl rfl rfl ?_
                  refine h_aload_n (pc' := 149) rfl rfl rfl ?_
                  refine h_sipush (pc' := 152) (x := (Int32.ofInt 176)) rfl rfl cs_176 ?_
                  refine h_iconst (pc' := 153) (x := (Int32.ofInt 0)) rfl rfl rfl ?_
                  refine h_call (sp := false) (pc' := 156) (M := [(0, .ref 98), (1, .int (Int32.ofInt 176)), (2, .int (Int32.ofInt 0))]) rfl rfl rfl rfl rfl rfl rfl rfl ?_
                  refine n_copies_176_0 _ Is96   (fun s102 Is102 Gs102 ps102_0 => h_Kn ?_)
                  have Fs102 := (Gs102.mono (B := kf_n_matM) rfl).tr Fs96
                  have es102_0 : s102 98 13 = s0 98 13 := (Gs102 98 13 rfl).trans es96_0
                  refine h_iinc (pc' := 159) (M := fun z103 => [(6, .int z103), (3, .int y3), (4, .int y4), (0, .ref 98), (1, .int x0), (2, .int x1), (5, .int y5)]) rfl rfl rfl rfl hy6 ci_1 rfl (by omega) (by omega) (fun _ => rfl) (fun z103 hz103 => ?_)
                  refine h_goto (pc' := 79) rfl rfl ?_
                  exact h_wk [(0, .ref 98), (1, .int x0), (2, .int x1), (3, .int y3), (4, .int y4), (5, .int y5), (6, .int z103)] ⟨rfl, rfl, rfl, rfl, rfl, rfl, rfl, trivial⟩ (ih.2 _ Is102 Fs102 y3 _ hy3 (by omega) y4 _ hy4 (by omega) y5 _ hy5 (by omega) z103 _ hz103 (by omega) (by omega) ⟨(show ∀ j : Int, 0 ≤ j → j < 44 → s102 99 j = σ 99 j from fun j x y => ((congrArg (s102 99) (Int.zero_add j).symm).trans (ps102_0 j x y)).trans (((Gs96 99 (176 + j) rfl).trans ((Gs94 99 (176 + j) rfl).trans ((h_upd us91 (by omega)).trans ((h_upd us87 (by omega)).trans (h_upd us83 (by omega)))))).trans (ex3 j x y))) 18 (by omega) (by omega), ex1.2⟩ (show ∀ j : Int, 0 ≤ j → j < 44 → s102 99 j = σ 99 j from fun j x y => ((congrArg (s102 99) (Int.zero_add j).symm).trans (ps102_0 j x y)).trans (((Gs96 99 (176 + j) rfl).trans ((Gs94 99 (176 + j) rfl).trans ((h_upd us91 (by omega)).trans ((h_upd us87 (by omega)).trans (h_upd us83 (by omega)))))).trans (ex3 j x y))) (fun j x y => ((Gs102.no (q := 99) (l := 176) (u := 219) (j := 176 + j) rfl (by omega) (by omega)).trans ((Gs96 99 (176 + j) rfl).trans ((Gs94 99 (176 + j) rfl).trans ((h_upd us91 (by omega)).trans ((h_upd us87 (by omega)).trans (h_upd us83 (by omega))))))).trans (ex3 j x y)) (g_mi_y ex4 (by omega) (by omega) (v := s96 98 26) ⟨s91, ⟨(((h_upo us91 rfl 1).trans ((h_upo us87 rfl 1).trans (h_upo us83 rfl 1))).trans (F0_ 98 1 rfl)), (((h_upg us91 rfl).trans ((h_upg us87 rfl).trans (h_upg us83 rfl))).trans (funext (fun j => F0_ 100 j rfl))), (by have z1 := h_upv us91; have z2 : s87 99 18 = s0 99 18 := (h_upd us87 (by omega)).trans (h_upd us83 (by omega)); omega), ((congrArg (s91 99) (show 12 + 2 * σ 99 18 = (12 + (2 * (s0 99 18))) by omega)).trans ((h_upd us91 (by omega)).trans ((h_upd us87 (by omega)).trans ((h_upv us83).trans (by omega))))), ((congrArg (s91 99) (show 12 + 2 * σ 99 18 + 1 = ((12 + (2 * (s0 99 18))) + 1) by omega)).trans ((h_upd us91 (by omega)).trans ((h_upv us87).trans (by omega)))), (fun j x y n1 n2 n3 => (h_upd us91 (by omega)).trans ((h_upd us87 (by omega)).trans ((h_upd us83 (by omega)).trans (ex2 j x y))))⟩, ⟨s94 105, ps94_0, by have q := ps96_0; rw [show s94 99 = s91 99 from (funext (fun j => Gs94 99 j rfl)), show s94 98 1 = s91 98 1 from (Gs94 98 1 rfl)] at q; exact q⟩⟩ (decide_eq_true (by omega)) (by omega)) (by omega) (by omega))
                · refine h_aload_n (pc' := 140) rfl rfl rfl ?_
                  refine h_getI (pc' := 143) (v := s96 98 26) rfl rfl rfl rfl rfl rfl (fun z104 hz104 => ?_)
                  have tz104 := tf_98_26 Is96
                  refine h_goto (pc' := 147) rfl rfl ?_
                  refine h_istore_n (pc' := 148) (M := [(3, .int z104), (4, .int y4), (0, .ref 98), (1, .int x0), (2, .int x1), (5, .int y5), (6, .int y6)]) rfl rfl rfl rfl ?_
                  refine h_aload_n (pc' := 149) rfl rfl rfl ?_
                  refine h_sipush (pc' := 152) (x := (Int32.ofInt 176)) rfl rfl cs_176 ?_
                  refine h_iconst (pc' := 153) (x := (Int32.ofInt 0)) rfl rfl rfl ?_
                  refine h_call (sp := false) (pc' := 156) (M := [(0, .ref 98), (1, .int (Int32.ofInt 176)), (2, .int (Int32.ofInt 0))]) rfl rfl rfl rfl rfl rfl rfl rfl ?_
                  refine n_copies_176_0 _ Is96   (fun s106 Is106 Gs106 ps106_0 => h_Kn ?_)
                  have Fs106 := (Gs106.mono (B := kf_n_matM) rfl).tr Fs96
                  have es106_0 : s106 98 13 = s0 98 13 := (Gs106 98 13 rfl).trans es96_0
                  refine h_iinc (pc' := 159) (M := fun z107 => [(6, .int z107), (3, .int z104), (4, .int y4), (0, .ref 98), (1, .int x0), (2, .int x1), (5, .int y5)]) rfl rfl rfl rfl hy6 ci_1 rfl (by omega) (by omega) (fun _ => rfl) (fun z107 hz107 => ?_)
                  refine h_goto (pc' := 79) rfl rfl ?_
                  exact h_wk [(0, .ref 98), (1, .int x0), (2, .int x1), (3, .int z104), (4, .int y4), (5, .int y5), (6, .int z107)] ⟨rfl, rfl, rfl, rfl, rfl, rfl, rfl, trivial⟩ (ih.2 _ Is106 Fs106 z104 _ hz104 (by omega) y4 _ hy4 (by omega) y5 _ hy5 (by omega) z107 _ hz107 (by omega) (by omega) ⟨(show ∀ j : Int, 0 ≤ j → j < 44 → s106 99 j = σ 99 j from fun j x y => ((congrArg (s106 99) (Int.zero_add j).symm).trans (ps106_0 j x y)).trans (((Gs96 99 (176 + j) rfl).trans ((Gs94 99 (176 + j) rfl).trans ((h_upd us91 (by omega)).trans ((h_upd us87 (by omega)).trans (h_upd us83 (by omega)))))).trans (ex3 j x y))) 18 (by omega) (by omega), ex1.2⟩ (show ∀ j : Int, 0 ≤ j → j < 44 → s106 99 j = σ 99 j from fun j x y => ((congrArg (s106 99) (Int.zero_add j).symm).trans (ps106_0 j x y)).trans (((Gs96 99 (176 + j) rfl).trans ((Gs94 99 (176 + j) rfl).trans ((h_upd us91 (by omega)).trans ((h_upd us87 (by omega)).trans (h_upd us83 (by omega)))))).trans (ex3 j x y))) (fun j x y => ((Gs106.no (q := 99) (l := 176) (u := 219) (j := 176 + j) rfl (by omega) (by omega)).trans ((Gs96 99 (176 + j) rfl).trans ((Gs94 99 (176 + j) rfl).trans ((h_upd us91 (by omega)).trans ((h_upd us87 (by omega)).trans (h_upd us83 (by omega))))))).trans (ex3 j x y)) (g_mi_y ex4 (by omega) (by omega) (v := s96 98 26) ⟨s91, ⟨(((h_upo us91 rfl 1).trans ((h_upo us87 rfl 1).trans (h_upo us83 rfl 1))).trans (F0_ 98 1 rfl)), (((h_upg us91 rfl).trans ((h_upg us87 rfl).trans (h_upg us83 rfl))).trans (funext (fun j => F0_ 100 j rfl))), (by have z1 := h_upv us91; have z2 : s87 99 18 = s0 99 18 := (h_upd us87 (by omega)).trans (h_upd us83 (by omega)); omega), ((congrArg (s91 99) (show 12 + 2 * σ 99 18 = (12 + (2 * (s0 99 18))) by omega)).trans ((h_upd us91 (by omega)).trans ((h_upd us87 (by omega)).trans ((h_upv us83).trans (by omega))))), ((congrArg (s91 99) (show 12 + 2 * σ 99 18 + 1 = ((12 + (2 * (s0 99 18))) + 1) by omega)).trans ((h_upd us91 (by omega)).trans ((h_upv us87).trans (by omega)))), (fun j x y n1 n2 n3 => (h_upd us91 (by omega)).trans ((h_upd us87 (by omega)).trans ((h_upd us83 (by omega)).trans (ex2 j x y))))⟩, ⟨s94 105, ps94_0, by have q := ps96_0; rw [show s94 99 = s91 99 from (funext (fun j => Gs94 99 j rfl)), show s94 98 1 = s91 98 1 from (Gs94 98 1 rfl)] at q; exact q⟩⟩ (decide_eq_true (by omega)) (by omega)) (by omega) (by omega))
              · refine h_bipush (pc' := 118) (x := (Int32.ofInt 10)) rfl rfl cb_10 ?_
                refine h_iload (pc' := 120) rfl rfl rfl ?_
                refine h_imul (pc' := 121) rfl rfl ci_10 hy5 rfl (by omega) (by omega) (fun z108 hz108 => ?_)
                refine h_iload (pc' := 123) rfl rfl rfl ?_
                refine h_iadd (pc' := 124) rfl rfl hz108 hy6 rfl (by omega) (by omega) (fun z109 hz109 => ?_)
                refine h_goto (pc' := 129) rfl rfl ?_
                refine h_istore (pc' := 131) (M := [(4, .int z109), (0, .ref 98), (1, .int x0), (2, .int x1), (3, .int y3), (5, .int y5), (6, .int y6)]) rfl rfl rfl rfl ?_
                refine h_aload_n (pc' := 132) rfl rfl rfl ?_
                refine h_getI (pc' := 135) (v := s96 98 26) rfl rfl rfl rfl rfl rfl (fun z110 hz110 => ?_)
                have tz110 := tf_98_26 Is96
                refine h_iload_n (pc' := 136) rfl rfl rfl ?_
                refine h_cle (tg := 146) (pc' := 139) rfl rfl rfl hz110 hy3 (fun c111 => ?_) (fun c111 => ?_)
                · refine h_iload_n (pc' := 147) rfl rfl rfl ?_
                  refine h_istore_n (pc' := 148) (M := [(3, .int y3), (4, .int z109), (0, .ref 98), (1, .int x0), (2, .int x1), (5, .int y5), (6, .int y6)]) rfl rfl rfl rfl ?_
                  refine h_aload_n (pc' := 149) rfl rfl rfl ?_
                  refine h_sipush (pc' := 152) (x := (Int32.ofInt 176)) rfl rfl cs_176 ?_
                  refine h_iconst (pc' := 153) (x := (Int32.ofInt 0)) rfl rfl rfl ?_
                  refine h_call (sp := false) (pc' := 156) (M := [(0, .ref 98), (1, .int (Int32.ofInt 176)), (2, .int (Int32.ofInt 0))]) rfl rfl rfl rfl rfl rfl rfl rfl ?_
                  refine n_copies_176_0 _ Is96   (fun s113 Is113 Gs113 ps113_0 => h_Kn ?_)
                  have Fs113 := (Gs113.mono (B := kf_n_matM) rfl).tr Fs96
                  have es113_0 : s113 98 13 = s0 98 13 := (Gs113 98 13 rfl).trans es96_0
                  refine h_iinc (pc' := 159) (M := fun z114 => [(6, .int z114), (3, .int y3), (4, .int z109), (0, .ref 98), (1, .int x0), (2, .int x1), (5, .int y5)]) rfl rfl rfl rfl hy6 ci_1 rfl (by omega) (by omega) (fun _ => rfl) (fun z114 hz114 => ?_)
                  refine h_goto (pc' := 79) rfl rfl ?_
                  exact h_wk [(0, .ref 98), (1, .int x0), (2, .int x1), (3, .int y3), (4, .int z109), (5, .int y5), (6, .int z114)] ⟨rfl, rfl, rfl, rfl, rfl, rfl, rfl, trivial⟩ (ih.2 _ Is113 Fs113 y3 _ hy3 (by omega) z109 _ hz109 (by omega) y5 _ hy5 (by omega) z114 _ hz114 (by omega) (by omega) ⟨(show ∀ j : Int, 0 ≤ j → j < 44 → s113 99 j = σ 99 j from fun j x y => ((congrArg (s113 99) (Int.zero_add j).symm).trans (ps113_0 j x y)).trans (((Gs96 99 (176 + j) rfl).trans ((Gs94 99 (176 + j) rfl).trans ((h_upd us91 (by omega)).trans ((h_upd us87 (by omega)).trans (h_upd us83 (by omega)))))).trans (ex3 j x y))) 18 (by omega) (by omega), ex1.2⟩ (show ∀ j : Int, 0 ≤ j → j < 44 → s113 99 j = σ 99 j from fun j x y => ((congrArg (s113 99) (Int.zero_add j).symm).trans (ps113_0 j x y)).trans (((Gs96 99 (176 + j) rfl).trans ((Gs94 99 (176 + j) rfl).trans ((h_upd us91 (by omega)).trans ((h_upd us87 (by omega)).trans (h_upd us83 (by omega)))))).trans (ex3 j x y))) (fun j x y => ((Gs113.no (q := 99) (l := 176) (u := 219) (j := 176 + j) rfl (by omega) (by omega)).trans ((Gs96 99 (176 + j) rfl).trans ((Gs94 99 (176 + j) rfl).trans ((h_upd us91 (by omega)).trans ((h_upd us87 (by omega)).trans (h_upd us83 (by omega))))))).trans (ex3 j x y)) (g_mi_y ex4 (by omega) (by omega) (v := s96 98 26) ⟨s91, ⟨(((h_upo us91 rfl 1).trans ((h_upo us87 rfl 1).trans (h_upo us83 rfl 1))).trans (F0_ 98 1 rfl)), (((h_upg us91 rfl).trans ((h_upg us87 rfl).trans (h_upg us83 rfl))).trans (funext (fun j => F0_ 100 j rfl))), (by have z1 := h_upv us91; have z2 : s87 99 18 = s0 99 18 := (h_upd us87 (by omega)).trans (h_upd us83 (by omega)); omega), ((congrArg (s91 99) (show 12 + 2 * σ 99 18 = (12 + (2 * (s0 99 18))) by omega)).trans ((h_upd us91 (by omega)).trans ((h_upd us87 (by omega)).trans ((h_upv us83).trans (by omega))))), ((congrArg (s91 99) (show 12 + 2 * σ 99 18 + 1 = ((12 + (2 * (s0 99 18))) + 1) by omega)).trans ((h_upd us91 (by omega)).trans ((h_upv us87).trans (by omega)))), (fun j x y n1 n2 n3 => (h_upd us91 (by omega)).trans ((h_upd us87 (by omega)).trans ((h_upd us83 (by omega)).trans (ex2 j x y))))⟩, ⟨s94 105, ps94_0, by have q := ps96_0; rw [show s94 99 = s91 99 from (funext (fun j => Gs94 99 j rfl)), show s94 98 1 = s91 98 1 from (Gs94 98 1 rfl)] at q; exact q⟩⟩ (decide_eq_true (by omega)) (by omega)) (by omega) (by omega))
                · refine h_aload_n (pc' := 140) rfl rfl rfl ?_
                  refine h_getI (pc' := 143) (v := s96 98 26) rfl rfl rfl rfl rfl rfl (fun z115 hz115 => ?_)
                  have tz115 := tf_98_26 Is96
                  refine h_goto (pc' := 147) rfl rfl ?_
                  refine h_istore_n (pc' := 148) (M := [(3, .int z115), (4, .int z109), (0, .ref 98), (1, .int x0), (2, .int x1), (5, .int y5), (6, .int y6)]) rfl rfl rfl rfl ?_
                  refine h_aload_n (pc' := 149) rfl rfl rfl ?_
                  refine h_sipush (pc' := 152) (x := (Int32.ofInt 176)) rfl rfl cs_176 ?_
                  refine h_iconst (pc' := 153) (x := (Int32.ofInt 0)) rfl rfl rfl ?_
                  refine h_call (sp := false) (pc' := 156) (M := [(0, .ref 98), (1, .int (Int32.ofInt 176)), (2, .int (Int32.ofInt 0))]) rfl rfl rfl rfl rfl rfl rfl rfl ?_
                  refine n_copies_176_0 _ Is96   (fun s117 Is117 Gs117 ps117_0 => h_Kn ?_)
                  have Fs117 := (Gs117.mono (B := kf_n_matM) rfl).tr Fs96
                  have es117_0 : s117 98 13 = s0 98 13 := (Gs117 98 13 rfl).trans es96_0
                  refine h_iinc (pc' := 159) (M := fun z118 => [(6, .int z118), (3, .int z115), (4, .int z109), (0, .ref 98), (1, .int x0), (2, .int x1), (5, .int y5)]) rfl rfl rfl rfl hy6 ci_1 rfl (by omega) (by omega) (fun _ => rfl) (fun z118 hz118 => ?_)
                  refine h_goto (pc' := 79) rfl rfl ?_
                  exact h_wk [(0, .ref 98), (1, .int x0), (2, .int x1), (3, .int z115), (4, .int z109), (5, .int y5), (6, .int z118)] ⟨rfl, rfl, rfl, rfl, rfl, rfl, rfl, trivial⟩ (ih.2 _ Is117 Fs117 z115 _ hz115 (by omega) z109 _ hz109 (by omega) y5 _ hy5 (by omega) z118 _ hz118 (by omega) (by omega) ⟨(show ∀ j : Int, 0 ≤ j → j < 44 → s117 99 j = σ 99 j from fun j x y => ((congrArg (s117 99) (Int.zero_add j).symm).trans (ps117_0 j x y)).trans (((Gs96 99 (176 + j) rfl).trans ((Gs94 99 (176 + j) rfl).trans ((h_upd us91 (by omega)).trans ((h_upd us87 (by omega)).trans (h_upd us83 (by omega)))))).trans (ex3 j x y))) 18 (by omega) (by omega), ex1.2⟩ (show ∀ j : Int, 0 ≤ j → j < 44 → s117 99 j = σ 99 j from fun j x y => ((congrArg (s117 99) (Int.zero_add j).symm).trans (ps117_0 j x y)).trans (((Gs96 99 (176 + j) rfl).trans ((Gs94 99 (176 + j) rfl).trans ((h_upd us91 (by omega)).trans ((h_upd us87 (by omega)).trans (h_upd us83 (by omega)))))).trans (ex3 j x y))) (fun j x y => ((Gs117.no (q := 99) (l := 176) (u := 219) (j := 176 + j) rfl (by omega) (by omega)).trans ((Gs96 99 (176 + j) rfl).trans ((Gs94 99 (176 + j) rfl).trans ((h_upd us91 (by omega)).trans ((h_upd us87 (by omega)).trans (h_upd us83 (by omega))))))).trans (ex3 j x y)) (g_mi_y ex4 (by omega) (by omega) (v := s96 98 26) ⟨s91, ⟨(((h_upo us91 rfl 1).trans ((h_upo us87 rfl 1).trans (h_upo us83 rfl 1))).trans (F0_ 98 1 rfl)), (((h_upg us91 rfl).trans ((h_upg us87 rfl).trans (h_upg us83 rfl))).trans (funext (fun j => F0_ 100 j rfl))), (by have z1 := h_upv us91; have z2 : s87 99 18 = s0 99 18 := (h_upd us87 (by omega)).trans (h_upd us83 (by omega)); omega), ((congrArg (s91 99) (show 12 + 2 * σ 99 18 = (12 + (2 * (s0 99 18))) by omega)).trans ((h_upd us91 (by omega)).trans ((h_upd us87 (by omega)).trans ((h_upv us83).trans (by omega))))), ((congrArg (s91 99) (show 12 + 2 * σ 99 18 + 1 = ((12 + (2 * (s0 99 18))) + 1) by omega)).trans ((h_upd us91 (by omega)).trans ((h_upv us87).trans (by omega)))), (fun j x y n1 n2 n3 => (h_upd us91 (by omega)).trans ((h_upd us87 (by omega)).trans ((h_upd us83 (by omega)).trans (ex2 j x y))))⟩, ⟨s94 105, ps94_0, by have q := ps96_0; rw [show s94 99 = s91 99 from (funext (fun j => Gs94 99 j rfl)), show s94 98 1 = s91 98 1 from (Gs94 98 1 rfl)] at q; exact q⟩⟩ (decide_eq_true (by omega)) (by omega)) (by omega) (by omega))
            · refine h_iconst (pc' := 22) (x := (Int32.ofInt (-1))) rfl rfl rfl ?_
              refine h_iret rfl rfl (h_Kv ?_)
              refine h_pop (pc' := 98) rfl rfl rfl ?_
              refine h_aload_n (pc' := 99) rfl rfl rfl ?_
              refine h_iconst (pc' := 100) (x := (Int32.ofInt 0)) rfl rfl rfl ?_
              refine h_call (sp := false) (pc' := 103) (M := [(0, .ref 98), (1, .int (Int32.ofInt 0))]) rfl rfl rfl rfl rfl rfl rfl rfl ?_
              refine n_lays _ I0  (fun s120 Is120 Gs120 ps120_0 => h_Kn ?_)
              have Fs120 := (Gs120.mono (B := kf_n_matM) rfl).tr F0_
              have es120_0 : s120 98 13 = s0 98 13 := (Gs120 98 13 rfl).trans rfl
              refine h_aload_n (pc' := 104) rfl rfl rfl ?_
              refine h_iload_n (pc' := 105) rfl rfl rfl ?_
              refine h_call (sp := false) (pc' := 108) (M := [(0, .ref 98), (1, .int x0)]) rfl rfl rfl rfl rfl rfl rfl rfl ?_
              refine n_lines _ Is120 x0 _ hx0 (by omega) (fun s122 Is122 Gs122 ps122_0 => h_Kn ?_)
              have Fs122 := (Gs122.mono (B := kf_n_matM) rfl).tr Fs120
              have es122_0 : s122 98 13 = s0 98 13 := (Gs122 98 13 rfl).trans es120_0
              refine h_aload_n (pc' := 109) rfl rfl rfl ?_
              refine h_getI (pc' := 112) (v := s122 98 26) rfl rfl rfl rfl rfl rfl (fun z123 hz123 => ?_)
              have tz123 := tf_98_26 Is122
              refine h_iload_n (pc' := 113) rfl rfl rfl ?_
              refine h_cle (tg := 127) (pc' := 116) rfl rfl rfl hz123 hy3 (fun c124 => ?_) (fun c124 => ?_)
              · refine h_iload (pc' := 129) rfl rfl rfl ?_
                refine h_istore (pc' := 131) (M := [(4, .int y4), (0, .ref 98), (1, .int x0), (2, .int x1), (3, .int y3), (5, .int y5), (6, .int y6)]) rfl rfl rfl rfl ?_
                refine h_aload_n (pc' := 132) rfl rfl rfl ?_
                refine h_getI (pc' := 135) (v := s122 98 26) rfl rfl rfl rfl rfl rfl (fun z125 hz125 => ?_)
                have tz125 := tf_98_26 Is122
                refine h_iload_n (pc' := 136) rfl rfl rfl ?_
                refine h_cle (tg := 146) (pc' := 139) rfl rfl rfl hz125 hy3 (fun c126 => ?_) (fun c126 => ?_)
                · refine h_iload_n (pc' := 147) rfl rfl rfl ?_
                  refine h_istore_n (pc' := 148) (M := [(3, .int y3), (4, .int y4), (0, .ref 98), (1, .int x0), (2, .int x1), (5, .int y5), (6, .int y6)]) rfl rfl rfl rfl ?_
                  refine h_aload_n (pc' := 149) rfl rfl rfl ?_
                  refine h_sipush (pc' := 152) (x := (Int32.ofInt 176)) rfl rfl cs_176 ?_
                  refine h_iconst (pc' := 153) (x := (Int32.ofInt 0)) rfl rfl rfl ?_
                  refine h_call (sp := false) (pc' := 156) (M := [(0, .ref 98), (1, .int (Int32.ofInt 176)), (2, .int (Int32.ofInt 0))]) rfl rfl rfl rfl rfl rfl rfl rfl ?_
                  refine n_copies_176_0 _ Is122   (fun s128 Is128 Gs128 ps128_0 => h_Kn ?_)
                  have Fs128 := (Gs128.mono (B := kf_n_matM) rfl).tr Fs122
                  have es128_0 : s128 98 13 = s0 98 13 := (Gs128 98 13 rfl).trans es122_0
                  refine h_iinc (pc' := 159) (M := fun z129 => [(6, .int z129), (3, .int y3), (4, .int y4), (0, .ref 98), (1, .int x0), (2, .int x1), (5, .int y5)]) rfl rfl rfl rfl hy6 ci_1 rfl (by omega) (by omega) (fun _ => rfl) (fun z129 hz129 => ?_)
                  refine h_goto (pc' := 79) rfl rfl ?_
                  exact h_wk [(0, .ref 98), (1, .int x0), (2, .int x1), (3, .int y3), (4, .int y4), (5, .int y5), (6, .int z129)] ⟨rfl, rfl, rfl, rfl, rfl, rfl, rfl, trivial⟩ (ih.2 _ Is128 Fs128 y3 _ hy3 (by omega) y4 _ hy4 (by omega) y5 _ hy5 (by omega) z129 _ hz129 (by omega) (by omega) (by exfalso; omega) (by exfalso; omega) (by exfalso; omega) (by exfalso; omega) (by omega) (by omega))
                · refine h_aload_n (pc' := 140) rfl rfl rfl ?_
                  refine h_getI (pc' := 143) (v := s122 98 26) rfl rfl rfl rfl rfl rfl (fun z130 hz130 => ?_)
                  have tz130 := tf_98_26 Is122
                  refine h_goto (pc' := 147) rfl rfl ?_
                  refine h_istore_n (pc' := 148) (M := [(3, .int z130), (4, .int y4), (0, .ref 98), (1, .int x0), (2, .int x1), (5, .int y5), (6, .int y6)]) rfl rfl rfl rfl ?_
                  refine h_aload_n (pc' := 149) rfl rfl rfl ?_
                  refine h_sipush (pc' := 152) (x := (Int32.ofInt 176)) rfl rfl cs_176 ?_
                  refine h_iconst (pc' := 153) (x := (Int32.ofInt 0)) rfl rfl rfl ?_
                  refine h_call (sp := false) (pc' := 156) (M := [(0, .ref 98), (1, .int (Int32.ofInt 176)), (2, .int (Int32.ofInt 0))]) rfl rfl rfl rfl rfl rfl rfl rfl ?_
                  refine n_copies_176_0 _ Is122   (fun s132 Is132 Gs132 ps132_0 => h_Kn ?_)
                  have Fs132 := (Gs132.mono (B := kf_n_matM) rfl).tr Fs122
                  have es132_0 : s132 98 13 = s0 98 13 := (Gs132 98 13 rfl).trans es122_0
                  refine h_iinc (pc' := 159) (M := fun z133 => [(6, .int z133), (3, .int z130), (4, .int y4), (0, .ref 98), (1, .int x0), (2, .int x1), (5, .int y5)]) rfl rfl rfl rfl hy6 ci_1 rfl (by omega) (by omega) (fun _ => rfl) (fun z133 hz133 => ?_)
                  refine h_goto (pc' := 79) rfl rfl ?_
                  exact h_wk [(0, .ref 98), (1, .int x0), (2, .int x1), (3, .int z130), (4, .int y4), (5, .int y5), (6, .int z133)] ⟨rfl, rfl, rfl, rfl, rfl, rfl, rfl, trivial⟩ (ih.2 _ Is132 Fs132 z130 _ hz130 (by omega) y4 _ hy4 (by omega) y5 _ hy5 (by omega) z133 _ hz133 (by omega) (by omega) (by exfalso; omega) (by exfalso; omega) (by exfalso; omega) (by exfalso; omega) (by omega) (by omega))
              · refine h_bipush (pc' := 118) (x := (Int32.ofInt 10)) rfl rfl cb_10 ?_
                refine h_iload (pc' := 120) rfl rfl rfl ?_
                refine h_imul (pc' := 121) rfl rfl ci_10 hy5 rfl (by omega) (by omega) (fun z134 hz134 => ?_)
                refine h_iload (pc' := 123) rfl rfl rfl ?_
                refine h_iadd (pc' := 124) rfl rfl hz134 hy6 rfl (by omega) (by omega) (fun z135 hz135 => ?_)
                refine h_goto (pc' := 129) rfl rfl ?_
                refine h_istore (pc' := 131) (M := [(4, .int z135), (0, .ref 98), (1, .int x0), (2, .int x1), (3, .int y3), (5, .int y5), (6, .int y6)]) rfl rfl rfl rfl ?_
                refine h_aload_n (pc' := 132) rfl rfl rfl ?_
                refine h_getI (pc' := 135) (v := s122 98 26) rfl rfl rfl rfl rfl rfl (fun z136 hz136 => ?_)
                have tz136 := tf_98_26 Is122
                refine h_iload_n (pc' := 136) rfl rfl rfl ?_
                refine h_cle (tg := 146) (pc' := 139) rfl rfl rfl hz136 hy3 (fun c137 => ?_) (fun c137 => ?_)
                · refine h_iload_n (pc' := 147) rfl rfl rfl ?_
                  refine h_istore_n (pc' := 148) (M := [(3, .int y3), (4, .int z135), (0, .ref 98), (1, .int x0), (2, .int x1), (5, .int y5), (6, .int y6)]) rfl rfl rfl rfl ?_
                  refine h_aload_n (pc' := 149) rfl rfl rfl ?_
                  refine h_sipush (pc' := 152) (x := (Int32.ofInt 176)) rfl rfl cs_176 ?_
                  refine h_iconst (pc' := 153) (x := (Int32.ofInt 0)) rfl rfl rfl ?_
                  refine h_call (sp := false) (pc' := 156) (M := [(0, .ref 98), (1, .int (Int32.ofInt 176)), (2, .int (Int32.ofInt 0))]) rfl rfl rfl rfl rfl rfl rfl rfl ?_
                  refine n_copies_176_0 _ Is122   (fun s139 Is139 Gs139 ps139_0 => h_Kn ?_)
                  have Fs139 := (Gs139.mono (B := kf_n_matM) rfl).tr Fs122
                  have es139_0 : s139 98 13 = s0 98 13 := (Gs139 98 13 rfl).trans es122_0
                  refine h_iinc (pc' := 159) (M := fun z140 => [(6, .int z140), (3, .int y3), (4, .int z135), (0, .ref 98), (1, .int x0), (2, .int x1), (5, .int y5)]) rfl rfl rfl rfl hy6 ci_1 rfl (by omega) (by omega) (fun _ => rfl) (fun z140 hz140 => ?_)
                  refine h_goto (pc' := 79) rfl rfl ?_
                  exact h_wk [(0, .ref 98), (1, .int x0), (2, .int x1), (3, .int y3), (4, .int z135), (5, .int y5), (6, .int z140)] ⟨rfl, rfl, rfl, rfl, rfl, rfl, rfl, trivial⟩ (ih.2 _ Is139 Fs139 y3 _ hy3 (by omega) z135 _ hz135 (by omega) y5 _ hy5 (by omega) z140 _ hz140 (by omega) (by omega) (by exfalso; omega) (by exfalso; omega) (by exfalso; omega) (by exfalso; omega) (by omega) (by omega))
                · refine h_aload_n (pc' := 140) rfl rfl rfl ?_
                  refine h_getI (pc' := 143) (v := s122 98 26) rfl rfl rfl rfl rfl rfl (fun z141 hz141 => ?_)
                  have tz141 := tf_98_26 Is122
                  refine h_goto (pc' := 147) rfl rfl ?_
                  refine h_istore_n (pc' := 148) (M := [(3, .int z141), (4, .int z135), (0, .ref 98), (1, .int x0), (2, .int x1), (5, .int y5), (6, .int y6)]) rfl rfl rfl rfl ?_
                  refine h_aload_n (pc' := 149) rfl rfl rfl ?_
                  refine h_sipush (pc' := 152) (x := (Int32.ofInt 176)) rfl rfl cs_176 ?_
                  refine h_iconst (pc' := 153) (x := (Int32.ofInt 0)) rfl rfl rfl ?_
                  refine h_call (sp := false) (pc' := 156) (M := [(0, .ref 98), (1, .int (Int32.ofInt 176)), (2, .int (Int32.ofInt 0))]) rfl rfl rfl rfl rfl rfl rfl rfl ?_
                  refine n_copies_176_0 _ Is122   (fun s143 Is143 Gs143 ps143_0 => h_Kn ?_)
                  have Fs143 := (Gs143.mono (B := kf_n_matM) rfl).tr Fs122
                  have es143_0 : s143 98 13 = s0 98 13 := (Gs143 98 13 rfl).trans es122_0
                  refine h_iinc (pc' := 159) (M := fun z144 => [(6, .int z144), (3, .int z141), (4, .int z135), (0, .ref 98), (1, .int x0), (2, .int x1), (5, .int y5)]) rfl rfl rfl rfl hy6 ci_1 rfl (by omega) (by omega) (fun _ => rfl) (fun z144 hz144 => ?_)
                  refine h_goto (pc' := 79) rfl rfl ?_
                  exact h_wk [(0, .ref 98), (1, .int x0), (2, .int x1), (3, .int z141), (4, .int z135), (5, .int y5), (6, .int z144)] ⟨rfl, rfl, rfl, rfl, rfl, rfl, rfl, trivial⟩ (ih.2 _ Is143 Fs143 z141 _ hz141 (by omega) z135 _ hz135 (by omega) y5 _ hy5 (by omega) z144 _ hz144 (by omega) (by omega) (by exfalso; omega) (by exfalso; omega) (by exfalso; omega) (by exfalso; omega) (by omega) (by omega))
set_option maxHeartbeats 100000000 in
set_option maxHeartbeats 100000000 in
theorem n_matM {ns : Nat} (σ : h_S) (hI : h_I σ) (x0 : Int32) (a0 : Int) (hx0 : x0.toInt = a0) (x1 : Int32) (a1 : Int) (hx1 : x1.toInt = a1) {Q : Option Value → h_S → Prop} (kk : ∀ (r : Int32) (b : Int) (hb : r.toInt = b) (τ : h_S), h_I τ → h_F (k_in kf_n_matM) τ σ → ((-4) ≤ b ∧ b ≤ 63) → (c_pg true (fun j => σ 99 (0 + j)) (fun j => τ 99 (0 + j))) → ((¬ (0 ≤ a0 ∧ a0 < σ 98 2 ∧ (a1 = 0 ∨ a1 = 1)) ∧ b = -1) ∨ ((0 ≤ a0 ∧ a0 < σ 98 2 ∧ (a1 = 0 ∨ a1 = 1)) ∧ 3 ≤ σ 99 18 ∧ b = -3) ∨ ((0 ≤ a0 ∧ a0 < σ 98 2 ∧ (a1 = 0 ∨ a1 = 1)) ∧ σ 99 18 ≤ 2 ∧ ∃ x y : Int, g_mi (fun j v => ∃ o, g_qc (j / 6) (j % 6) o σ ∧ g_tM a0 o v) (fun v => ∃ o, g_qb o σ ∧ g_tM a0 o v) (σ 98 1) (6 * σ 98 1) x y ∧ b = g_mo a1 x y)) → Q (some (.int r)) τ) : h_T g_P (g_Y ns) 202 0 [(0, .ref 98), (1, .int x0), (2, .int x1)] [] σ Q := by
  have F00 : h_F (k_in kf_n_matM) σ σ := h_F.rf
  have ge0 := tf_98_1 hI
  have ge1 := tf_98_2 hI
  have ge2 := ty_99_3 hI 18 (by omega)
  refine h_aload_n (pc' := 1) rfl rfl rfl ?_
  refine h_iload_n (pc' := 2) rfl rfl rfl ?_
  refine h_call (sp := false) (pc' := 5) (M := [(0, .ref 98), (1, .int x0)]) rfl rfl rfl rfl rfl rfl rfl rfl ?_
  refine h_iload_n (pc' := 1) rfl rfl rfl ?_
  refine h_i2l (pc' := 2) rfl rfl hx0 (fun z1 hz1 => ?_)
  refine h_lconst (pc' := 3) (x := (Int64.ofInt 0)) rfl rfl rfl ?_
  refine h_aload_n (pc' := 4) rfl rfl rfl ?_
  refine h_getI (pc' := 7) (v := σ 98 2) rfl rfl rfl rfl rfl rfl (fun z2 hz2 => ?_)
  have tz2 := tf_98_2 hI
  refine h_iconst (pc' := 8) (x := (Int32.ofInt 1)) rfl rfl rfl ?_
  refine h_isub (pc' := 9) rfl rfl hz2 ci_1 rfl (by omega) (by omega) (fun z3 hz3 => ?_)
  refine h_i2l (pc' := 10) rfl rfl hz3 (fun z4 hz4 => ?_)
  refine h_calls (pc' := 13) (M := [(0, .long z1), (2, .long (Int64.ofInt 0)), (4, .long z4)]) rfl rfl rfl rfl rfl rfl ?_
  refine h_lload_n (pc' := 1) rfl rfl rfl ?_
  refine h_lload_n (pc' := 2) rfl rfl rfl ?_
  refine h_lcmp (pc' := 3) rfl rfl hz1 cl_0 (fun z5 hz5 => ?_)
  refine h_zlt (tg := 17) (pc' := 6) rfl rfl rfl rfl (fun c6 => ?_) (fun c6 => ?_)
  · replace c6 := (h_lcr hz5).1 c6
    clear hz5
    refine h_iconst (pc' := 18) (x := (Int32.ofInt 0)) rfl rfl rfl ?_
    refine h_zret rfl rfl ci_0 (by omega) (h_Kv ?_)
    refine h_zret rfl rfl ci_0 (by omega) (h_Kv ?_)
    refine h_zeq (tg := 18) (pc' := 8) rfl rfl rfl ci_0 (fun c7 => ?_) (fun c7 => absurd c7 (by omega))
    refine h_iconst (pc' := 19) (x := (Int32.ofInt (-1))) rfl rfl rfl ?_
    exact h_iret rfl rfl (kk _ _ ci_m1 _ hI F00 (by omega) c_pg.rf (by first | exact Or.inl ⟨by omega, rfl⟩ | exact Or.inr (Or.inl ⟨by omega, by omega, rfl⟩)))
  · replace c6 := (h_lcr hz5).2.1 c6
    clear hz5
    refine h_lload_n (pc' := 7) rfl rfl rfl ?_
    refine h_lload (pc' := 9) rfl rfl rfl ?_
    refine h_lcmp (pc' := 10) rfl rfl hz1 hz4 (fun z8 hz8 => ?_)
    refine h_zgt (tg := 17) (pc' := 13) rfl rfl rfl rfl (fun c9 => ?_) (fun c9 => ?_)
    · replace c9 := (h_lcr hz8).2.2.2.1 c9
      clear hz8
      refine h_iconst (pc' := 18) (x := (Int32.ofInt 0)) rfl rfl rfl ?_
      refine h_zret rfl rfl ci_0 (by omega) (h_Kv ?_)
      refine h_zret rfl rfl ci_0 (by omega) (h_Kv ?_)
      refine h_zeq (tg := 18) (pc' := 8) rfl rfl rfl ci_0 (fun c10 => ?_) (fun c10 => absurd c10 (by omega))
      refine h_iconst (pc' := 19) (x := (Int32.ofInt (-1))) rfl rfl rfl ?_
      exact h_iret rfl rfl (kk _ _ ci_m1 _ hI F00 (by omega) c_pg.rf (by first | exact Or.inl ⟨by omega, rfl⟩ | exact Or.inr (Or.inl ⟨by omega, by omega, rfl⟩)))
    · replace c9 := (h_lcr hz8).2.2.1 c9
      clear hz8
      refine h_iconst (pc' := 14) (x := (Int32.ofInt 1)) rfl rfl rfl ?_
      refine h_goto (pc' := 18) rfl rfl ?_
      refine h_zret rfl rfl ci_1 (by omega) (h_Kv ?_)
      refine h_zret rfl rfl ci_1 (by omega) (h_Kv ?_)
      refine h_zeq (tg := 18) (pc' := 8) rfl rfl rfl ci_1 (fun c11 => absurd c11 (by omega)) (fun c11 => ?_)
      refine h_iload_n (pc' := 9) rfl rfl rfl ?_
      refine h_i2l (pc' := 10) rfl rfl hx1 (fun z12 hz12 => ?_)
      refine h_lconst (pc' := 11) (x := (Int64.ofInt 0)) rfl rfl rfl ?_
      refine h_lconst (pc' := 12) (x := (Int64.ofInt 1)) rfl rfl rfl ?_
      refine h_calls (pc' := 15) (M := [(0, .long z12), (2, .long (Int64.ofInt 0)), (4, .long (Int64.ofInt 1))]) rfl rfl rfl rfl rfl rfl ?_
      refine h_lload_n (pc' := 1) rfl rfl rfl ?_
      refine h_lload_n (pc' := 2) rfl rfl rfl ?_
      refine h_lcmp (pc' := 3) rfl rfl hz12 cl_0 (fun z13 hz13 => ?_)
      refine h_zlt (tg := 17) (pc' := 6) rfl rfl rfl rfl (fun c14 => ?_) (fun c14 => ?_)
      · replace c14 := (h_lcr hz13).1 c14
        clear hz13
        refine h_iconst (pc' := 18) (x := (Int32.ofInt 0)) rfl rfl rfl ?_
        refine h_zret rfl rfl ci_0 (by omega) (h_Kv ?_)
        refine h_zne (tg := 20) (pc' := 18) rfl rfl rfl ci_0 (fun c15 => absurd c15 (by omega)) (fun c15 => ?_)
        refine h_iconst (pc' := 19) (x := (Int32.ofInt (-1))) rfl rfl rfl ?_
        exact h_iret rfl rfl (kk _ _ ci_m1 _ hI F00 (by omega) c_pg.rf (by first | exact Or.inl ⟨by omega, rfl⟩ | exact Or.inr (Or.inl ⟨by omega, by omega, rfl⟩)))
      · replace c14 := (h_lcr hz13).2.1 c14
        clear hz13
        refine h_lload_n (pc' := 7) rfl rfl rfl ?_
        refine h_lload (pc' := 9) rfl rfl rfl ?_
        refine h_lcmp (pc' := 10) rfl rfl hz12 cl_1 (fun z16 hz16 => ?_)
        refine h_zgt (tg := 17) (pc' := 13) rfl rfl rfl rfl (fun c17 => ?_) (fun c17 => ?_)
        · replace c17 := (h_lcr hz16).2.2.2.1 c17
          clear hz16
          refine h_iconst (pc' := 18) (x := (Int32.ofInt 0)) rfl rfl rfl ?_
          refine h_zret rfl rfl ci_0 (by omega) (h_Kv ?_)
          refine h_zne (tg := 20) (pc' := 18) rfl rfl rfl ci_0 (fun c18 => absurd c18 (by omega)) (fun c18 => ?_)
          refine h_iconst (pc' := 19) (x := (Int32.ofInt (-1))) rfl rfl rfl ?_
          exact h_iret rfl rfl (kk _ _ ci_m1 _ hI F00 (by omega) c_pg.rf (by first | exact Or.inl ⟨by omega, rfl⟩ | exact Or.inr (Or.inl ⟨by omega, by omega, rfl⟩)))
        · replace c17 := (h_lcr hz16).2.2.1 c17
          clear hz16
          refine h_iconst (pc' := 14) (x := (Int32.ofInt 1)) rfl rfl rfl ?_
          refine h_goto (pc' := 18) rfl rfl ?_
          refine h_zret rfl rfl ci_1 (by omega) (h_Kv ?_)
          refine h_zne (tg := 20) (pc' := 18) rfl rfl rfl ci_1 (fun c19 => ?_) (fun c19 => absurd c19 (by omega))
          refine h_aload_n (pc' := 21) rfl rfl rfl ?_
          refine h_getR (pc' := 24) rfl rfl rfl rfl rfl ?_
          refine h_bipush (pc' := 26) (x := (Int32.ofInt 18)) rfl rfl cb_18 ?_
          refine h_iald (pc' := 27) (v := σ 99 18) rfl rfl rfl ci_18 (by omega) (by omega) rfl (fun z20 hz20 => ?_)
          have tz20 := ty_99_3 hI 18 (by omega)
          refine h_iconst (pc' := 28) (x := (Int32.ofInt 3)) rfl rfl rfl ?_
          refine h_cne (tg := 34) (pc' := 31) rfl rfl rfl hz20 ci_3 (fun c21 => ?_) (fun c21 => ?_)
          · refine h_aload_n (pc' := 35) rfl rfl rfl ?_
            refine h_iconst (pc' := 36) (x := (Int32.ofInt 0)) rfl rfl rfl ?_
            refine h_call (sp := false) (pc' := 39) (M := [(0, .ref 98), (1, .int (Int32.ofInt 0))]) rfl rfl rfl rfl rfl rfl rfl rfl ?_
            refine n_lays _ hI  (fun s23 Is23 Gs23 ps23_0 => h_Kn ?_)
            have Fs23 := (Gs23.mono (B := kf_n_matM) rfl).tr F00
            have es23_0 : s23 98 13 = σ 98 13 := (Gs23 98 13 rfl).trans rfl
            refine h_aload_n (pc' := 40) rfl rfl rfl ?_
            refine h_iload_n (pc' := 41) rfl rfl rfl ?_
            refine h_call (sp := false) (pc' := 44) (M := [(0, .ref 98), (1, .int x0)]) rfl rfl rfl rfl rfl rfl rfl rfl ?_
            refine n_lines _ Is23 x0 _ hx0 (by omega) (fun s25 Is25 Gs25 ps25_0 => h_Kn ?_)
            have Fs25 := (Gs25.mono (B := kf_n_matM) rfl).tr Fs23
            have es25_0 : s25 98 13 = σ 98 13 := (Gs25 98 13 rfl).trans es23_0
            refine h_aload_n (pc' := 45) rfl rfl rfl ?_
            refine h_getI (pc' := 48) (v := s25 98 26) rfl rfl rfl rfl rfl rfl (fun z26 hz26 => ?_)
            have tz26 := tf_98_26 Is25
            refine h_istore_n (pc' := 49) (M := [(3, .int z26), (0, .ref 98), (1, .int x0), (2, .int x1)]) rfl rfl rfl rfl ?_
            refine h_bipush (pc' := 51) (x := (Int32.ofInt (-4))) rfl rfl cb_m4 ?_
            refine h_istore (pc' := 53) (M := [(4, .int (Int32.ofInt (-4))), (3, .int z26), (0, .ref 98), (1, .int x0), (2, .int x1)]) rfl rfl rfl rfl ?_
            refine h_aload_n (pc' := 54) rfl rfl rfl ?_
            refine h_iconst (pc' := 55) (x := (Int32.ofInt 0)) rfl rfl rfl ?_
            refine h_sipush (pc' := 58) (x := (Int32.ofInt 176)) rfl rfl cs_176 ?_
            refine h_call (sp := false) (pc' := 61) (M := [(0, .ref 98), (1, .int (Int32.ofInt 0)), (2, .int (Int32.ofInt 176))]) rfl rfl rfl rfl rfl rfl rfl rfl ?_
            refine n_copies_0_176 _ Is25   (fun s28 Is28 Gs28 ps28_0 => h_Kn ?_)
            have Fs28 := (Gs28.mono (B := kf_n_matM) rfl).tr Fs25
            have es28_0 : s28 98 13 = σ 98 13 := (Gs28 98 13 rfl).trans es25_0
            refine h_iconst (pc' := 62) (x := (Int32.ofInt 0)) rfl rfl rfl ?_
            refine h_istore (pc' := 64) (M := [(5, .int (Int32.ofInt 0)), (4, .int (Int32.ofInt (-4))), (3, .int z26), (0, .ref 98), (1, .int x0), (2, .int x1)]) rfl rfl rfl rfl ?_
            exact h_wk [(0, .ref 98), (1, .int x0), (2, .int x1), (3, .int z26), (4, .int (Int32.ofInt (-4))), (5, .int (Int32.ofInt 0))] ⟨rfl, rfl, rfl, rfl, rfl, rfl, trivial⟩ ((n_matM_l ns σ hI x0 a0 hx0 x1 a1 hx1 kk 1000000000000).1 _ Is28 Fs28 z26 _ hz26 (by omega) (Int32.ofInt (-4)) _ ci_m4 (by omega) (Int32.ofInt 0) _ ci_0 (by omega) (by omega) ⟨((Gs28.no (q := 99) (l := 0) (u := 131) (j := 18) rfl (by omega) (by omega)).trans ((Gs25 99 (18) rfl).trans (Gs23 99 (18) rfl))), by omega⟩ (fun j x y => ((Gs28.no (q := 99) (l := 0) (u := 131) (j := j) rfl (by omega) (by omega)).trans ((Gs25 99 (j) rfl).trans (Gs23 99 (j) rfl)))) (fun j x y => (ps28_0 j x y).trans ((congrArg (s25 99) (Int.zero_add j)).trans ((Gs25 99 (j) rfl).trans (Gs23 99 (j) rfl)))) (g_mi_0 ⟨σ, ⟨rfl, rfl, fun _ _ _ => rfl⟩, ⟨s23 105, ps23_0, by have q := ps25_0; rw [show s23 99 = σ 99 from (funext (fun j => Gs23 99 j rfl)), show s23 98 1 = σ 98 1 from (Gs23 98 1 rfl)] at q; exact q⟩⟩ rfl rfl) (by omega) (by omega))
          · refine h_bipush (pc' := 33) (x := (Int32.ofInt (-3))) rfl rfl cb_m3 ?_
            exact h_iret rfl rfl (kk _ _ ci_m3 _ hI F00 (by omega) c_pg.rf (by first | exact Or.inl ⟨by omega, rfl⟩ | exact Or.inr (Or.inl ⟨by omega, by omega, rfl⟩)))
theorem c_R.m0 {s : h_S} {g x y : Int} (h : c_R true s) (hI : h_I s) (ht : g_ti s) (g0 : 0 ≤ g) (g1 : g < s 10 9) (hX : g_nr0 g s x) (hM : ∃ o, g_qb o s ∧ g_tM g o y) : x = y := by
  obtain ⟨D, f, hD, hf, hx⟩ := hX
  obtain ⟨o, ⟨q1, q2, q3⟩, G, hG, hy⟩ := hM
  have sz := h.sz
  have t8 := tf_10_8 hI
  have t9 := tf_10_9 hI
  have t13 := tf_13_2 hI
  have t16 := tf_16_2 hI
  have w19 := ty_19 hI g
  rw [show o 98 1 = s 10 8 by rw [q1, sz.1], show o 99 18 = s 13 2 by rw [q3 18 (by omega) (by omega), sz.2.2.2.1]] at hG
  have gd : g_ph (s 10 8) 256 D G := by
    refine g_deg t8.2 (fun j j0 j1 => ?_) (fun j j0 j1 => ?_) hD hG
    · have y := h.ps (j := j) j0 j1
      have w := ty_11 hI j
      rw [q3 (6 + j) (by omega) (by omega), q3 j j0 (by omega), q2]
      refine ⟨by omega, ?_⟩
      rw [← y.1]
      exact ht _ w.1 w.2
    · rw [q3 (12 + 2 * j) (by omega) (by omega), q3 (12 + 2 * j + 1) (by omega) (by omega)]
      exact h.mr j0 j1
  have lw := (h.lw g0 g1).1
  have rc := h.rc g0 g1
  rw [hx, hy, show o 98 1 = s 10 8 by rw [q1, sz.1]]
  exact g_TT t8.1 t8.2 gd hf (by rw [q3 25 (by omega) (by omega), sz.2.2.2.2]) (fun j a b => by
    have z := h.fe a b
    show s 17 j = o 99 (19 + 2 * j) ∧ s 18 j = o 99 (19 + 2 * j + 1)
    rw [q3 (19 + 2 * j) (by omega) (by omega), q3 (19 + 2 * j + 1) (by omega) (by omega)]
    exact ⟨z.1, z.2.1⟩) (by
    rw [q3 (29 + g) (by omega) (by omega)]
    exact g_orn_of (by omega)) (by omega) (by rw [q3 (26 + g) (by omega) (by omega)]; exact rc) (by omega)
theorem c_R.m1 {s : h_S} {p q g x y : Int} (h : c_R true s) (hI : h_I s) (ht : g_ti s) (g0 : 0 ≤ g) (g1 : g < s 10 9) (p0 : 0 ≤ p) (p1 : p < s 10 8) (r0 : 0 ≤ q) (r1 : q < s 10 8) (m2 : s 13 2 ≤ 2) (hX : g_nX p q g s x) (hM : ∃ o, g_qc p q o s ∧ g_tM g o y) : x = y := by
  obtain ⟨u, D, f, ⟨⟨a1, a2, a3, a4⟩, b1, b2, b3, b4, b5, b6⟩, hD, hf, hx⟩ := hX
  obtain ⟨o, ⟨q1, q2, q3, q4, q5, q6⟩, G, hG, hy⟩ := hM
  have sz := h.sz
  have t8 := tf_10_8 hI
  have t9 := tf_10_9 hI
  have t13 := tf_13_2 hI
  have t16 := tf_16_2 hI
  have w19 := ty_19 hI g
  have n8 : o 98 1 = u 23 8 := by rw [q1, a1, sz.1]
  rw [n8, show o 99 18 = u 26 2 by rw [q3, a3, sz.2.2.2.1]] at hG
  rw [← sz.2.2.2.1] at q4 q5 q6
  have gd : g_ph (u 23 8) 256 D G := by
    refine g_deg (by omega) (fun j j0 j1 => ?_) (fun j j0 j1 => ?_) hD hG
    · have y := h.ps (j := j) j0 (by omega)
      have w := ty_11 hI j
      have e := b1 j j0 (by omega)
      rw [q6 (6 + j) (by omega) (by omega) (by omega) (by omega) (by omega), q6 j j0 (by omega) (by omega) (by omega) (by omega), q2, e.1, e.2]
      refine ⟨by omega, ?_⟩
      rw [← y.1]
      exact ht _ w.1 w.2
    · by_cases z : j = s 13 2
      · rw [z, q4, q5]
        omega
      · have y := h.mr (j := j) j0 (by omega)
        have e := b2 j j0 (by omega) z
        rw [q6 (12 + 2 * j) (by omega) (by omega) (by omega) (by omega) (by omega), q6 (12 + 2 * j + 1) (by omega) (by omega) (by omega) (by omega) (by omega)]
        omega
  have lw := (h.lw g0 g1).1
  have rc := h.rc g0 g1
  have c5 := b5 g g0 (by omega)
  have c6 := b6 g g0 (by omega)
  rw [hx, hy, n8]
  exact g_TT (by omega) (by omega) gd hf (by rw [q6 25 (by omega) (by omega) (by omega) (by omega) (by omega), a4, sz.2.2.2.2]) (fun j a b => by
    have z := h.fe (j := j) a (by omega)
    have e := b4 j a (by omega)
    show u 30 j = o 99 (19 + 2 * j) ∧ u 31 j = o 99 (19 + 2 * j + 1)
    rw [q6 (19 + 2 * j) (by omega) (by omega) (by omega) (by omega) (by omega), q6 (19 + 2 * j + 1) (by omega) (by omega) (by omega) (by omega) (by omega), e.1, e.2]
    exact ⟨z.1, z.2.1⟩) (by
    rw [q6 (29 + g) (by omega) (by omega) (by omega) (by omega) (by omega), c6]
    exact g_orn_of (by omega)) (by omega) (by rw [q6 (26 + g) (by omega) (by omega) (by omega) (by omega) (by omega), c5]; exact rc) (by omega)
theorem c_R.matR {s s' : h_S} {a0 a0' a1 a1' b b' : Int} (h : c_R true s') (hI : h_I s') (ht : g_ti s') (e8 : s 10 8 = s' 10 8) (e9 : s 10 9 = s' 10 9) (e11 : s 11 = s' 11) (e12 : s 12 = s' 12) (e13 : s 13 2 = s' 13 2) (e14 : s 14 = s' 14) (e15 : s 15 = s' 15) (e16 : s 16 2 = s' 16 2) (e17 : s 17 = s' 17) (e18 : s 18 = s' 18) (e19 : s 19 = s' 19) (e20 : s 20 = s' 20) (hX : (¬ (0 ≤ a0 ∧ a0 < s 10 9 ∧ (a1 = 0 ∨ a1 = 1)) ∧ b = -1) ∨ ((0 ≤ a0 ∧ a0 < s 10 9 ∧ (a1 = 0 ∨ a1 = 1)) ∧ 3 ≤ s 13 2 ∧ b = -3) ∨ ((0 ≤ a0 ∧ a0 < s 10 9 ∧ (a1 = 0 ∨ a1 = 1)) ∧ s 13 2 ≤ 2 ∧ ∃ x y : Int, g_mi (fun j v => g_nX (j / 6) (j % 6) a0 s v) (g_nr0 a0 s) (s 10 8) (6 * s 10 8) x y ∧ b = g_mo a1 x y)) (hM : (¬ (0 ≤ a0' ∧ a0' < s' 98 2 ∧ (a1' = 0 ∨ a1' = 1)) ∧ b' = -1) ∨ ((0 ≤ a0' ∧ a0' < s' 98 2 ∧ (a1' = 0 ∨ a1' = 1)) ∧ 3 ≤ s' 99 18 ∧ b' = -3) ∨ ((0 ≤ a0' ∧ a0' < s' 98 2 ∧ (a1' = 0 ∨ a1' = 1)) ∧ s' 99 18 ≤ 2 ∧ ∃ x y : Int, g_mi (fun j v => ∃ o, g_qc (j / 6) (j % 6) o s' ∧ g_tM a0' o v) (fun v => ∃ o, g_qb o s' ∧ g_tM a0' o v) (s' 98 1) (6 * s' 98 1) x y ∧ b' = g_mo a1' x y)) (w0 : a0' = a0) (w1 : a1' = a1) : b = b' := by
  subst w0; subst w1
  have sz := h.sz
  rw [e8, e9, e13] at hX
  rw [← sz.1, ← sz.2.1, ← sz.2.2.2.1] at hM
  rcases hX with q | q | q
  · rcases hM with w | w | w
    · rw [q.2, w.2]
    · exact absurd w.1 q.1
    · exact absurd w.1 q.1
  · rcases hM with w | w | w
    · exact absurd q.1 w.1
    · rw [q.2.2, w.2.2]
    · have x1 := q.2.1
      have x2 := w.2.1
      exfalso
      omega
  · rcases hM with w | w | w
    · exact absurd q.1 w.1
    · have x1 := q.2.1
      have x2 := w.2.1
      exfalso
      omega
    · obtain ⟨rg, m2, x, y, hx, hb⟩ := q
      obtain ⟨-, -, x', y', hx', hb'⟩ := w
      have e := g_mi_e hx hx' (fun i j hi hj => h.m0 hI ht rg.1 rg.2.1 (hi.r e8 e11 e12 e13 e14 e15 e16 e17 e18 e19 e20) hj) (fun j i k j0 j1 hp hi hk => by
        have hp' := of_decide_eq_true hp
        exact h.m1 hI ht rg.1 rg.2.1 (by omega) (by omega) (by omega) (by omega) m2 (g_nX.r hi e8 e9 e11 e12 e13 e14 e15 e16 e17 e18 e19 e20) hk)
      rw [hb, hb', e.1, e.2]
