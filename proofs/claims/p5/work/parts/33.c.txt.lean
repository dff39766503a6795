set_option maxHeartbeats 100000000 in
theorem pp_text {ns : Nat} {σ1 σ2 : h_S} (hI1 : h_I σ1) (hI2 : h_I σ2) (hTL : d_tape σ1 σ2)  (pr0 : σ1 64 4 = σ2 98 16) {Q : d_Q} (kk : ∀ (r1 : Int32) (b1 : Int) (hb1 : r1.toInt = b1) (r2 : Int32) (b2 : Int) (hb2 : r2.toInt = b2) (τ1 τ2 : h_S), h_I τ1 → h_I τ2 → h_F (k_in k_tx) τ1 σ1 → h_F (k_in k_tm) τ2 σ2 → (b1 = b2) → (τ1 63 2 = τ2 98 12) → (τ1 64 4 = τ2 98 16) → (τ1 64 1 = 0) → (τ2 98 11 = 0) → (((1 ≤ τ1 63 2 ∧ τ1 63 2 ≤ 6) ∧ (1 ≤ τ2 98 12 ∧ τ2 98 12 ≤ 6) ∧ (τ1 90 2 = σ1 90 2) ∧ (τ2 98 29 = σ2 98 29) ∧ (τ1 62 0 = σ1 62 0) ∧ (τ1 62 1 = σ1 62 1) ∧ (τ2 110 0 = σ2 110 0) ∧ (τ2 110 1 = σ2 110 1)) ∨ ((τ1 63 2 = 0) ∧ (τ2 98 12 = 0) ∧ (τ1 90 2 = 0) ∧ (τ2 98 29 = 0) ∧ (τ1 62 0 = 0) ∧ (τ1 62 1 = 0) ∧ (τ2 110 0 = 0) ∧ (τ2 110 1 = 0))) → Q (some (.int r1)) τ1 (some (.int r2)) τ2) : d_P g_P (g_Y ns) 84 0 [(0, .ref 9)] σ1 155 0 [(0, .ref 98)] σ2 Q := by
  intro lv2 mem2 hl2 hR2
  have hT := hTL.1
  have hL := hTL.2
  have F1 : h_F (k_in k_tx) σ1 σ1 := h_F.rf
  have F2 : h_F (k_in k_tm) σ2 σ2 := h_F.rf
  have ge0 := tf_64_1 hI1
  refine h_aload_n (pc' := 1) rfl rfl rfl ?_
  refine h_getR (pc' := 4) rfl rfl rfl rfl rfl ?_
  refine d_call (g_inj ns) (pc' := 7) (m := 52) (M := [(0, .ref 63)]) (rest := []) ⟨false, _, _, _, _, _, _, rfl, rfl, rfl, rfl, rfl, rfl, rfl⟩ (fun lv1 hlv1 => ?_)
  refine h_aload_n (pc' := 1) rfl rfl rfl ?_
  refine h_getR (pc' := 4) rfl rfl rfl rfl rfl ?_
  refine h_call (sp := false) (pc' := 7) (M := [(0, .ref 66)]) rfl rfl rfl rfl rfl rfl rfl rfl ?_
  refine h_aload_n (pc' := 1) rfl rfl rfl ?_
  refine h_iconst (pc' := 2) (x := (Int32.ofInt 0)) rfl rfl rfl ?_
  refine h_put (pc' := 5) rfl rfl rfl rfl rfl rfl ci_0 rfl (h_fgt (E := fun s => s 64 2 = σ1 64 2 ∧ s 64 4 = σ1 64 4 ∧ s 64 3 = σ1 64 3 ∧ s 64 5 = σ1 64 5 ∧ s 63 2 = σ1 63 2 ∧ s 63 3 = σ1 63 3 ∧ s 64 1 = σ1 64 1 ∧ s 66 8 = 0 ∧ s 66 9 = σ1 66 9 ∧ s 66 10 = σ1 66 10 ∧ s 69 2 = σ1 69 2 ∧ s 72 2 = σ1 72 2 ∧ s 63 5 = σ1 63 5 ∧ s 63 4 = σ1 63 4 ∧ s 90 2 = σ1 90 2 ∧ s 62 0 = σ1 62 0 ∧ s 62 1 = σ1 62 1 ∧ s = h_up σ1 66 8 0) _ (if_66_8 hI1 (by omega)) (F1.up rfl) ⟨rfl, rfl, rfl, rfl, rfl, rfl, rfl, rfl, rfl, rfl, rfl, rfl, rfl, rfl, rfl, rfl, rfl, rfl⟩ (fun s2 Is2 Fs2 (es2 : s2 64 2 = σ1 64 2 ∧ s2 64 4 = σ1 64 4 ∧ s2 64 3 = σ1 64 3 ∧ s2 64 5 = σ1 64 5 ∧ s2 63 2 = σ1 63 2 ∧ s2 63 3 = σ1 63 3 ∧ s2 64 1 = σ1 64 1 ∧ s2 66 8 = 0 ∧ s2 66 9 = σ1 66 9 ∧ s2 66 10 = σ1 66 10 ∧ s2 69 2 = σ1 69 2 ∧ s2 72 2 = σ1 72 2 ∧ s2 63 5 = σ1 63 5 ∧ s2 63 4 = σ1 63 4 ∧ s2 90 2 = σ1 90 2 ∧ s2 62 0 = σ1 62 0 ∧ s2 62 1 = σ1 62 1 ∧ s2 = h_up σ1 66 8 0) => ?_))
  refine h_aload_n (pc' := 6) rfl rfl rfl ?_
  refine h_getR (pc' := 9) rfl rfl rfl rfl rfl ?_
  refine h_iconst (pc' := 10) (x := (Int32.ofInt 0)) rfl rfl rfl ?_
  refine h_put (pc' := 13) rfl rfl rfl rfl rfl rfl ci_0 rfl (h_fgt (E := fun s => s 64 2 = σ1 64 2 ∧ s 64 4 = σ1 64 4 ∧ s 64 3 = σ1 64 3 ∧ s 64 5 = σ1 64 5 ∧ s 63 2 = σ1 63 2 ∧ s 63 3 = σ1 63 3 ∧ s 64 1 = σ1 64 1 ∧ s 66 8 = 0 ∧ s 66 9 = σ1 66 9 ∧ s 66 10 = σ1 66 10 ∧ s 69 2 = 0 ∧ s 72 2 = σ1 72 2 ∧ s 63 5 = σ1 63 5 ∧ s 63 4 = σ1 63 4 ∧ s 90 2 = σ1 90 2 ∧ s 62 0 = σ1 62 0 ∧ s 62 1 = σ1 62 1 ∧ s = h_up s2 69 2 0) _ (if_69_2 Is2 (by omega)) (Fs2.up rfl) ⟨es2.1, es2.2.1, es2.2.2.1, es2.2.2.2.1, es2.2.2.2.2.1, es2.2.2.2.2.2.1, es2.2.2.2.2.2.2.1, es2.2.2.2.2.2.2.2.1, es2.2.2.2.2.2.2.2.2.1, es2.2.2.2.2.2.2.2.2.2.1, rfl, es2.2.2.2.2.2.2.2.2.2.2.2.1, es2.2.2.2.2.2.2.2.2.2.2.2.2.1, es2.2.2.2.2.2.2.2.2.2.2.2.2.2.1, es2.2.2.2.2.2.2.2.2.2.2.2.2.2.2.1, es2.2.2.2.2.2.2.2.2.2.2.2.2.2.2.2.1, es2.2.2.2.2.2.2.2.2.2.2.2.2.2.2.2.2.1, rfl⟩ (fun s3 Is3 Fs3 (es3 : s3 64 2 = σ1 64 2 ∧ s3 64 4 = σ1 64 4 ∧ s3 64 3 = σ1 64 3 ∧ s3 64 5 = σ1 64 5 ∧ s3 63 2 = σ1 63 2 ∧ s3 63 3 = σ1 63 3 ∧ s3 64 1 = σ1 64 1 ∧ s3 66 8 = 0 ∧ s3 66 9 = σ1 66 9 ∧ s3 66 10 = σ1 66 10 ∧ s3 69 2 = 0 ∧ s3 72 2 = σ1 72 2 ∧ s3 63 5 = σ1 63 5 ∧ s3 63 4 = σ1 63 4 ∧ s3 90 2 = σ1 90 2 ∧ s3 62 0 = σ1 62 0 ∧ s3 62 1 = σ1 62 1 ∧ s3 = h_up s2 69 2 0) => ?_))
  refine h_aload_n (pc' := 14) rfl rfl rfl ?_
  refine h_getR (pc' := 17) rfl rfl rfl rfl rfl ?_
  refine h_iconst (pc' := 18) (x := (Int32.ofInt 0)) rfl rfl rfl ?_
  refine h_put (pc' := 21) rfl rfl rfl rfl rfl rfl ci_0 rfl (h_fgt (E := fun s => s 64 2 = σ1 64 2 ∧ s 64 4 = σ1 64 4 ∧ s 64 3 = σ1 64 3 ∧ s 64 5 = σ1 64 5 ∧ s 63 2 = σ1 63 2 ∧ s 63 3 = σ1 63 3 ∧ s 64 1 = σ1 64 1 ∧ s 66 8 = 0 ∧ s 66 9 = σ1 66 9 ∧ s 66 10 = σ1 66 10 ∧ s 69 2 = 0 ∧ s 72 2 = 0 ∧ s 63 5 = σ1 63 5 ∧ s 63 4 = σ1 63 4 ∧ s 90 2 = σ1 90 2 ∧ s 62 0 = σ1 62 0 ∧ s 62 1 = σ1 62 1 ∧ s = h_up s3 72 2 0) _ (if_72_2 Is3 (by omega)) (Fs3.up rfl) ⟨es3.1, es3.2.1, es3.2.2.1, es3.2.2.2.1, es3.2.2.2.2.1, es3.2.2.2.2.2.1, es3.2.2.2.2.2.2.1, es3.2.2.2.2.2.2.2.1, es3.2.2.2.2.2.2.2.2.1, es3.2.2.2.2.2.2.2.2.2.1, es3.2.2.2.2.2.2.2.2.2.2.1, rfl, es3.2.2.2.2.2.2.2.2.2.2.2.2.1, es3.2.2.2.2.2.2.2.2.2.2.2.2.2.1, es3.2.2.2.2.2.2.2.2.2.2.2.2.2.2.1, es3.2.2.2.2.2.2.2.2.2.2.2.2.2.2.2.1, es3.2.2.2.2.2.2.2.2.2.2.2.2.2.2.2.2.1, rfl⟩ (fun s4 Is4 Fs4 (es4 : s4 64 2 = σ1 64 2 ∧ s4 64 4 = σ1 64 4 ∧ s4 64 3 = σ1 64 3 ∧ s4 64 5 = σ1 64 5 ∧ s4 63 2 = σ1 63 2 ∧ s4 63 3 = σ1 63 3 ∧ s4 64 1 = σ1 64 1 ∧ s4 66 8 = 0 ∧ s4 66 9 = σ1 66 9 ∧ s4 66 10 = σ1 66 10 ∧ s4 69 2 = 0 ∧ s4 72 2 = 0 ∧ s4 63 5 = σ1 63 5 ∧ s4 63 4 = σ1 63 4 ∧ s4 90 2 = σ1 90 2 ∧ s4 62 0 = σ1 62 0 ∧ s4 62 1 = σ1 62 1 ∧ s4 = h_up s3 72 2 0) => ?_))
  refine h_aload_n (pc' := 22) rfl rfl rfl ?_
  refine h_iconst (pc' := 23) (x := (Int32.ofInt 0)) rfl rfl rfl ?_
  refine h_put (pc' := 26) rfl rfl rfl rfl rfl rfl ci_0 rfl (h_fgt (E := fun s => s 64 2 = σ1 64 2 ∧ s 64 4 = σ1 64 4 ∧ s 64 3 = σ1 64 3 ∧ s 64 5 = σ1 64 5 ∧ s 63 2 = σ1 63 2 ∧ s 63 3 = σ1 63 3 ∧ s 64 1 = σ1 64 1 ∧ s 66 8 = 0 ∧ s 66 9 = 0 ∧ s 66 10 = σ1 66 10 ∧ s 69 2 = 0 ∧ s 72 2 = 0 ∧ s 63 5 = σ1 63 5 ∧ s 63 4 = σ1 63 4 ∧ s 90 2 = σ1 90 2 ∧ s 62 0 = σ1 62 0 ∧ s 62 1 = σ1 62 1 ∧ s = h_up s4 66 9 0) _ (if_66_9 Is4 (by omega)) (Fs4.up rfl) ⟨es4.1, es4.2.1, es4.2.2.1, es4.2.2.2.1, es4.2.2.2.2.1, es4.2.2.2.2.2.1, es4.2.2.2.2.2.2.1, es4.2.2.2.2.2.2.2.1, rfl, es4.2.2.2.2.2.2.2.2.2.1, es4.2.2.2.2.2.2.2.2.2.2.1, es4.2.2.2.2.2.2.2.2.2.2.2.1, es4.2.2.2.2.2.2.2.2.2.2.2.2.1, es4.2.2.2.2.2.2.2.2.2.2.2.2.2.1, es4.2.2.2.2.2.2.2.2.2.2.2.2.2.2.1, es4.2.2.2.2.2.2.2.2.2.2.2.2.2.2.2.1, es4.2.2.2.2.2.2.2.2.2.2.2.2.2.2.2.2.1, rfl⟩ (fun s5 Is5 Fs5 (es5 : s5 64 2 = σ1 64 2 ∧ s5 64 4 = σ1 64 4 ∧ s5 64 3 = σ1 64 3 ∧ s5 64 5 = σ1 64 5 ∧ s5 63 2 = σ1 63 2 ∧ s5 63 3 = σ1 63 3 ∧ s5 64 1 = σ1 64 1 ∧ s5 66 8 = 0 ∧ s5 66 9 = 0 ∧ s5 66 10 = σ1 66 10 ∧ s5 69 2 = 0 ∧ s5 72 2 = 0 ∧ s5 63 5 = σ1 63 5 ∧ s5 63 4 = σ1 63 4 ∧ s5 90 2 = σ1 90 2 ∧ s5 62 0 = σ1 62 0 ∧ s5 62 1 = σ1 62 1 ∧ s5 = h_up s4 66 9 0) => ?_))
  refine h_aload_n (pc' := 27) rfl rfl rfl ?_
  refine h_iconst (pc' := 28) (x := (Int32.ofInt 0)) rfl rfl rfl ?_
  refine h_put (pc' := 31) rfl rfl rfl rfl rfl rfl ci_0 rfl (h_fgt (E := fun s => s 64 2 = σ1 64 2 ∧ s 64 4 = σ1 64 4 ∧ s 64 3 = σ1 64 3 ∧ s 64 5 = σ1 64 5 ∧ s 63 2 = σ1 63 2 ∧ s 63 3 = σ1 63 3 ∧ s 64 1 = σ1 64 1 ∧ s 66 8 = 0 ∧ s 66 9 = 0 ∧ s 66 10 = 0 ∧ s 69 2 = 0 ∧ s 72 2 = 0 ∧ s 63 5 = σ1 63 5 ∧ s 63 4 = σ1 63 4 ∧ s 90 2 = σ1 90 2 ∧ s 62 0 = σ1 62 0 ∧ s 62 1 = σ1 62 1 ∧ s = h_up s5 66 10 0) _ (if_66_10 Is5 (by omega)) (Fs5.up rfl) ⟨es5.1, es5.2.1, es5.2.2.1, es5.2.2.2.1, es5.2.2.2.2.1, es5.2.2.2.2.2.1, es5.2.2.2.2.2.2.1, es5.2.2.2.2.2.2.2.1, es5.2.2.2.2.2.2.2.2.1, rfl, es5.2.2.2.2.2.2.2.2.2.2.1, es5.2.2.2.2.2.2.2.2.2.2.2.1, es5.2.2.2.2.2.2.2.2.2.2.2.2.1, es5.2.2.2.2.2.2.2.2.2.2.2.2.2.1, es5.2.2.2.2.2.2.2.2.2.2.2.2.2.2.1, es5.2.2.2.2.2.2.2.2.2.2.2.2.2.2.2.1, es5.2.2.2.2.2.2.2.2.2.2.2.2.2.2.2.2.1, rfl⟩ (fun s6 Is6 Fs6 (es6 : s6 64 2 = σ1 64 2 ∧ s6 64 4 = σ1 64 4 ∧ s6 64 3 = σ1 64 3 ∧ s6 64 5 = σ1 64 5 ∧ s6 63 2 = σ1 63 2 ∧ s6 63 3 = σ1 63 3 ∧ s6 64 1 = σ1 64 1 ∧ s6 66 8 = 0 ∧ s6 66 9 = 0 ∧ s6 66 10 = 0 ∧ s6 69 2 = 0 ∧ s6 72 2 = 0 ∧ s6 63 5 = σ1 63 5 ∧ s6 63 4 = σ1 63 4 ∧ s6 90 2 = σ1 90 2 ∧ s6 62 0 = σ1 62 0 ∧ s6 62 1 = σ1 62 1 ∧ s6 = h_up s5 66 10 0) => ?_))
  refine h_vret rfl rfl (h_Kn ?_)
  refine h_aload_n (pc' := 8) rfl rfl rfl ?_
  refine h_iconst (pc' := 9) (x := (Int32.ofInt 0)) rfl rfl rfl ?_
  refine h_put (pc' := 12) rfl rfl rfl rfl rfl rfl ci_0 rfl (h_fgt (E := fun s => s 64 2 = σ1 64 2 ∧ s 64 4 = σ1 64 4 ∧ s 64 3 = σ1 64 3 ∧ s 64 5 = σ1 64 5 ∧ s 63 2 = 0 ∧ s 63 3 = σ1 63 3 ∧ s 64 1 = σ1 64 1 ∧ s 66 8 = 0 ∧ s 66 9 = 0 ∧ s 66 10 = 0 ∧ s 69 2 = 0 ∧ s 72 2 = 0 ∧ s 63 5 = σ1 63 5 ∧ s 63 4 = σ1 63 4 ∧ s 90 2 = σ1 90 2 ∧ s 62 0 = σ1 62 0 ∧ s 62 1 = σ1 62 1 ∧ s = h_up s6 63 2 0) _ (if_63_2 Is6 (by omega)) (Fs6.up rfl) ⟨es6.1, es6.2.1, es6.2.2.1, es6.2.2.2.1, rfl, es6.2.2.2.2.2.1, es6.2.2.2.2.2.2.1, es6.2.2.2.2.2.2.2.1, es6.2.2.2.2.2.2.2.2.1, es6.2.2.2.2.2.2.2.2.2.1, es6.2.2.2.2.2.2.2.2.2.2.1, es6.2.2.2.2.2.2.2.2.2.2.2.1, es6.2.2.2.2.2.2.2.2.2.2.2.2.1, es6.2.2.2.2.2.2.2.2.2.2.2.2.2.1, es6.2.2.2.2.2.2.2.2.2.2.2.2.2.2.1, es6.2.2.2.2.2.2.2.2.2.2.2.2.2.2.2.1, es6.2.2.2.2.2.2.2.2.2.2.2.2.2.2.2.2.1, rfl⟩ (fun s7 Is7 Fs7 (es7 : s7 64 2 = σ1 64 2 ∧ s7 64 4 = σ1 64 4 ∧ s7 64 3 = σ1 64 3 ∧ s7 64 5 = σ1 64 5 ∧ s7 63 2 = 0 ∧ s7 63 3 = σ1 63 3 ∧ s7 64 1 = σ1 64 1 ∧ s7 66 8 = 0 ∧ s7 66 9 = 0 ∧ s7 66 10 = 0 ∧ s7 69 2 = 0 ∧ s7 72 2 = 0 ∧ s7 63 5 = σ1 63 5 ∧ s7 63 4 = σ1 63 4 ∧ s7 90 2 = σ1 90 2 ∧ s7 62 0 = σ1 62 0 ∧ s7 62 1 = σ1 62 1 ∧ s7 = h_up s6 63 2 0) => ?_))
  refine h_aload_n (pc' := 13) rfl rfl rfl ?_
  refine h_iconst (pc' := 14) (x := (Int32.ofInt 0)) rfl rfl rfl ?_
  refine h_put (pc' := 17) rfl rfl rfl rfl rfl rfl ci_0 rfl (h_fgt (E := fun s => s 64 2 = σ1 64 2 ∧ s 64 4 = σ1 64 4 ∧ s 64 3 = σ1 64 3 ∧ s 64 5 = σ1 64 5 ∧ s 63 2 = 0 ∧ s 63 3 = σ1 63 3 ∧ s 64 1 = σ1 64 1 ∧ s 66 8 = 0 ∧ s 66 9 = 0 ∧ s 66 10 = 0 ∧ s 69 2 = 0 ∧ s 72 2 = 0 ∧ s 63 5 = σ1 63 5 ∧ s 63 4 = 0 ∧ s 90 2 = σ1 90 2 ∧ s 62 0 = σ1 62 0 ∧ s 62 1 = σ1 62 1 ∧ s = h_up s7 63 4 0) _ (if_63_4 Is7 (h_rgv ci_0)) (Fs7.up rfl) ⟨es7.1, es7.2.1, es7.2.2.1, es7.2.2.2.1, es7.2.2.2.2.1, es7.2.2.2.2.2.1, es7.2.2.2.2.2.2.1, es7.2.2.2.2.2.2.2.1, es7.2.2.2.2.2.2.2.2.1, es7.2.2.2.2.2.2.2.2.2.1, es7.2.2.2.2.2.2.2.2.2.2.1, es7.2.2.2.2.2.2.2.2.2.2.2.1, es7.2.2.2.2.2.2.2.2.2.2.2.2.1, rfl, es7.2.2.2.2.2.2.2.2.2.2.2.2.2.2.1, es7.2.2.2.2.2.2.2.2.2.2.2.2.2.2.2.1, es7.2.2.2.2.2.2.2.2.2.2.2.2.2.2.2.2.1, rfl⟩ (fun s8 Is8 Fs8 (es8 : s8 64 2 = σ1 64 2 ∧ s8 64 4 = σ1 64 4 ∧ s8 64 3 = σ1 64 3 ∧ s8 64 5 = σ1 64 5 ∧ s8 63 2 = 0 ∧ s8 63 3 = σ1 63 3 ∧ s8 64 1 = σ1 64 1 ∧ s8 66 8 = 0 ∧ s8 66 9 = 0 ∧ s8 66 10 = 0 ∧ s8 69 2 = 0 ∧ s8 72 2 = 0 ∧ s8 63 5 = σ1 63 5 ∧ s8 63 4 = 0 ∧ s8 90 2 = σ1 90 2 ∧ s8 62 0 = σ1 62 0 ∧ s8 62 1 = σ1 62 1 ∧ s8 = h_up s7 63 4 0) => ?_))
  refine h_aload_n (pc' := 18) rfl rfl rfl ?_
  refine h_iconst (pc' := 19) (x := (Int32.ofInt 0)) rfl rfl rfl ?_
  refine h_put (pc' := 22) rfl rfl rfl rfl rfl rfl ci_0 (h_fb ci_0 (by omega)) (h_fgt (E := fun s => s 64 2 = σ1 64 2 ∧ s 64 4 = σ1 64 4 ∧ s 64 3 = σ1 64 3 ∧ s 64 5 = σ1 64 5 ∧ s 63 2 = 0 ∧ s 63 3 = σ1 63 3 ∧ s 64 1 = σ1 64 1 ∧ s 66 8 = 0 ∧ s 66 9 = 0 ∧ s 66 10 = 0 ∧ s 69 2 = 0 ∧ s 72 2 = 0 ∧ s 63 5 = 0 ∧ s 63 4 = 0 ∧ s 90 2 = σ1 90 2 ∧ s 62 0 = σ1 62 0 ∧ s 62 1 = σ1 62 1 ∧ s = h_up s8 63 5 0) _ (if_63_5 Is8 (by omega)) (Fs8.up rfl) ⟨es8.1, es8.2.1, es8.2.2.1, es8.2.2.2.1, es8.2.2.2.2.1, es8.2.2.2.2.2.1, es8.2.2.2.2.2.2.1, es8.2.2.2.2.2.2.2.1, es8.2.2.2.2.2.2.2.2.1, es8.2.2.2.2.2.2.2.2.2.1, es8.2.2.2.2.2.2.2.2.2.2.1, es8.2.2.2.2.2.2.2.2.2.2.2.1, rfl, es8.2.2.2.2.2.2.2.2.2.2.2.2.2.1, es8.2.2.2.2.2.2.2.2.2.2.2.2.2.2.1, es8.2.2.2.2.2.2.2.2.2.2.2.2.2.2.2.1, es8.2.2.2.2.2.2.2.2.2.2.2.2.2.2.2.2.1, rfl⟩ (fun s9 Is9 Fs9 (es9 : s9 64 2 = σ1 64 2 ∧ s9 64 4 = σ1 64 4 ∧ s9 64 3 = σ1 64 3 ∧ s9 64 5 = σ1 64 5 ∧ s9 63 2 = 0 ∧ s9 63 3 = σ1 63 3 ∧ s9 64 1 = σ1 64 1 ∧ s9 66 8 = 0 ∧ s9 66 9 = 0 ∧ s9 66 10 = 0 ∧ s9 69 2 = 0 ∧ s9 72 2 = 0 ∧ s9 63 5 = 0 ∧ s9 63 4 = 0 ∧ s9 90 2 = σ1 90 2 ∧ s9 62 0 = σ1 62 0 ∧ s9 62 1 = σ1 62 1 ∧ s9 = h_up s8 63 5 0) => ?_))
  refine h_aload_n (pc' := 23) rfl rfl rfl ?_
  refine h_getR (pc' := 26) rfl rfl rfl rfl rfl ?_
  refine h_call (sp := false) (pc' := 29) (M := [(0, .ref 64)]) rfl rfl rfl rfl rfl rfl rfl rfl ?_
  refine h_aload_n (pc' := 1) rfl rfl rfl ?_
  refine h_iconst (pc' := 2) (x := (Int32.ofInt 0)) rfl rfl rfl ?_
  refine h_put (pc' := 5) rfl rfl rfl rfl rfl rfl ci_0 rfl (h_fgt (E := fun s => s 64 2 = 0 ∧ s 64 4 = σ1 64 4 ∧ s 64 3 = σ1 64 3 ∧ s 64 5 = σ1 64 5 ∧ s 63 2 = 0 ∧ s 63 3 = σ1 63 3 ∧ s 64 1 = σ1 64 1 ∧ s 66 8 = 0 ∧ s 66 9 = 0 ∧ s 66 10 = 0 ∧ s 69 2 = 0 ∧ s 72 2 = 0 ∧ s 63 5 = 0 ∧ s 63 4 = 0 ∧ s 90 2 = σ1 90 2 ∧ s 62 0 = σ1 62 0 ∧ s 62 1 = σ1 62 1 ∧ s = h_up s9 64 2 0) _ (if_64_2 Is9 (by omega)) (Fs9.up rfl) ⟨rfl, es9.2.1, es9.2.2.1, es9.2.2.2.1, es9.2.2.2.2.1, es9.2.2.2.2.2.1, es9.2.2.2.2.2.2.1, es9.2.2.2.2.2.2.2.1, es9.2.2.2.2.2.2.2.2.1, es9.2.2.2.2.2.2.2.2.2.1, es9.2.2.2.2.2.2.2.2.2.2.1, es9.2.2.2.2.2.2.2.2.2.2.2.1, es9.2.2.2.2.2.2.2.2.2.2.2.2.1, es9.2.2.2.2.2.2.2.2.2.2.2.2.2.1, es9.2.2.2.2.2.2.2.2.2.2.2.2.2.2.1, es9.2.2.2.2.2.2.2.2.2.2.2.2.2.2.2.1, es9.2.2.2.2.2.2.2.2.2.2.2.2.2.2.2.2.1, rfl⟩ (fun s10 Is10 Fs10 (es10 : s10 64 2 = 0 ∧ s10 64 4 = σ1 64 4 ∧ s10 64 3 = σ1 64 3 ∧ s10 64 5 = σ1 64 5 ∧ s10 63 2 = 0 ∧ s10 63 3 = σ1 63 3 ∧ s10 64 1 = σ1 64 1 ∧ s10 66 8 = 0 ∧ s10 66 9 = 0 ∧ s10 66 10 = 0 ∧ s10 69 2 = 0 ∧ s10 72 2 = 0 ∧ s10 63 5 = 0 ∧ s10 63 4 = 0 ∧ s10 90 2 = σ1 90 2 ∧ s10 62 0 = σ1 62 0 ∧ s10 62 1 = σ1 62 1 ∧ s10 = h_up s9 64 2 0) => ?_))
  refine h_vret rfl rfl (h_Kn ?_)
  refine h_aload_n (pc' := 30) rfl rfl rfl ?_
  refine d_toM (g_inj ns) hl2 hR2 (fun lvw11 memw11 hlw11 hRw11 => ?_)
  show h_T g_P (g_Y ns) 155 0 [(0, .ref 98)] [] σ2 _
  refine h_aload_n (pc' := 1) rfl rfl rfl ?_
  refine h_iconst (pc' := 2) (x := (Int32.ofInt 0)) rfl rfl rfl ?_
  refine h_put (pc' := 5) rfl rfl rfl rfl rfl rfl ci_0 rfl (h_fgt (E := fun s => s 98 15 = σ2 98 15 ∧ s 98 16 = σ2 98 16 ∧ s 98 17 = σ2 98 17 ∧ s 98 18 = σ2 98 18 ∧ s 98 13 = 0 ∧ s 98 14 = σ2 98 14 ∧ s 98 5 = σ2 98 5 ∧ s 98 6 = σ2 98 6 ∧ s 98 7 = σ2 98 7 ∧ s 98 8 = σ2 98 8 ∧ s 98 9 = σ2 98 9 ∧ s 101 18 = σ2 101 18 ∧ s 101 25 = σ2 101 25 ∧ s 101 43 = σ2 101 43 ∧ s 98 11 = σ2 98 11 ∧ s 98 12 = σ2 98 12 ∧ s 98 29 = σ2 98 29 ∧ s 110 0 = σ2 110 0 ∧ s 110 1 = σ2 110 1 ∧ s 98 1 = σ2 98 1 ∧ s 98 2 = σ2 98 2 ∧ s = h_up σ2 98 13 0) _ (if_98_13 hI2 (by omega)) (F2.up rfl) ⟨rfl, rfl, rfl, rfl, rfl, rfl, rfl, rfl, rfl, rfl, rfl, rfl, rfl, rfl, rfl, rfl, rfl, rfl, rfl, rfl, rfl, rfl⟩ (fun s12 Is12 Fs12 (es12 : s12 98 15 = σ2 98 15 ∧ s12 98 16 = σ2 98 16 ∧ s12 98 17 = σ2 98 17 ∧ s12 98 18 = σ2 98 18 ∧ s12 98 13 = 0 ∧ s12 98 14 = σ2 98 14 ∧ s12 98 5 = σ2 98 5 ∧ s12 98 6 = σ2 98 6 ∧ s12 98 7 = σ2 98 7 ∧ s12 98 8 = σ2 98 8 ∧ s12 98 9 = σ2 98 9 ∧ s12 101 18 = σ2 101 18 ∧ s12 101 25 = σ2 101 25 ∧ s12 101 43 = σ2 101 43 ∧ s12 98 11 = σ2 98 11 ∧ s12 98 12 = σ2 98 12 ∧ s12 98 29 = σ2 98 29 ∧ s12 110 0 = σ2 110 0 ∧ s12 110 1 = σ2 110 1 ∧ s12 98 1 = σ2 98 1 ∧ s12 98 2 = σ2 98 2 ∧ s12 = h_up σ2 98 13 0) => ?_))
  refine h_aload_n (pc' := 6) rfl rfl rfl ?_
  refine h_iconst (pc' := 7) (x := (Int32.ofInt 0)) rfl rfl rfl ?_
  refine h_put (pc' := 10) rfl rfl rfl rfl rfl rfl ci_0 rfl (h_fgt (E := fun s => s 98 15 = 0 ∧ s 98 16 = σ2 98 16 ∧ s 98 17 = σ2 98 17 ∧ s 98 18 = σ2 98 18 ∧ s 98 13 = 0 ∧ s 98 14 = σ2 98 14 ∧ s 98 5 = σ2 98 5 ∧ s 98 6 = σ2 98 6 ∧ s 98 7 = σ2 98 7 ∧ s 98 8 = σ2 98 8 ∧ s 98 9 = σ2 98 9 ∧ s 101 18 = σ2 101 18 ∧ s 101 25 = σ2 101 25 ∧ s 101 43 = σ2 101 43 ∧ s 98 11 = σ2 98 11 ∧ s 98 12 = σ2 98 12 ∧ s 98 29 = σ2 98 29 ∧ s 110 0 = σ2 110 0 ∧ s 110 1 = σ2 110 1 ∧ s 98 1 = σ2 98 1 ∧ s 98 2 = σ2 98 2 ∧ s = h_up s12 98 15 0) _ (if_98_15 Is12 (by omega)) (Fs12.up rfl) ⟨rfl, es12.2.1, es12.2.2.1, es12.2.2.2.1, es12.2.2.2.2.1, es12.2.2.2.2.2.1, es12.2.2.2.2.2.2.1, es12.2.2.2.2.2.2.2.1, es12.2.2.2.2.2.2.2.2.1, es12.2.2.2.2.2.2.2.2.2.1, es12.2.2.2.2.2.2.2.2.2.2.1, es12.2.2.2.2.2.2.2.2.2.2.2.1, es12.2.2.2.2.2.2.2.2.2.2.2.2.1, es12.2.2.2.2.2.2.2.2.2.2.2.2.2.1, es12.2.2.2.2.2.2.2.2.2.2.2.2.2.2.1, es12.2.2.2.2.2.2.2.2.2.2.2.2.2.2.2.1, es12.2.2.2.2.2.2.2.2.2.2.2.2.2.2.2.2.1, es12.2.2.2.2.2.2.2.2.2.2.2.2.2.2.2.2.2.1, es12.2.2.2.2.2.2.2.2.2.2.2.2.2.2.2.2.2.2.1, es12.2.2.2.2.2.2.2.2.2.2.2.2.2.2.2.2.2.2.2.1, es12.2.2.2.2.2.2.2.2.2.2.2.2.2.2.2.2.2.2.2.2.1, rfl⟩ (fun s13 Is13 Fs13 (es13 : s13 98 15 = 0 ∧ s13 98 16 = σ2 98 16 ∧ s13 98 17 = σ2 98 17 ∧ s13 98 18 = σ2 98 18 ∧ s13 98 13 = 0 ∧ s13 98 14 = σ2 98 14 ∧ s13 98 5 = σ2 98 5 ∧ s13 98 6 = σ2 98 6 ∧ s13 98 7 = σ2 98 7 ∧ s13 98 8 = σ2 98 8 ∧ s13 98 9 = σ2 98 9 ∧ s13 101 18 = σ2 101 18 ∧ s13 101 25 = σ2 101 25 ∧ s13 101 43 = σ2 101 43 ∧ s13 98 11 = σ2 98 11 ∧ s13 98 12 = σ2 98 12 ∧ s13 98 29 = σ2 98 29 ∧ s13 110 0 = σ2 110 0 ∧ s13 110 1 = σ2 110 1 ∧ s13 98 1 = σ2 98 1 ∧ s13 98 2 = σ2 98 2 ∧ s13 = h_up s12 98 15 0) => ?_))
  refine h_aload_n (pc' := 11) rfl rfl rfl ?_
  refine h_iconst (pc' := 12) (x := (Int32.ofInt 0)) rfl rfl rfl ?_
  refine h_put (pc' := 15) rfl rfl rfl rfl rfl rfl ci_0 rfl (h_fgt (E := fun s => s 98 15 = 0 ∧ s 98 16 = σ2 98 16 ∧ s 98 17 = σ2 98 17 ∧ s 98 18 = σ2 98 18 ∧ s 98 13 = 0 ∧ s 98 14 = σ2 98 14 ∧ s 98 5 = 0 ∧ s 98 6 = σ2 98 6 ∧ s 98 7 = σ2 98 7 ∧ s 98 8 = σ2 98 8 ∧ s 98 9 = σ2 98 9 ∧ s 101 18 = σ2 101 18 ∧ s 101 25 = σ2 101 25 ∧ s 101 43 = σ2 101 43 ∧ s 98 11 = σ2 98 11 ∧ s 98 12 = σ2 98 12 ∧ s 98 29 = σ2 98 29 ∧ s 110 0 = σ2 110 0 ∧ s 110 1 = σ2 110 1 ∧ s 98 1 = σ2 98 1 ∧ s 98 2 = σ2 98 2 ∧ s = h_up s13 98 5 0) _ (if_98_5 Is13 (by omega)) (Fs13.up rfl) ⟨es13.1, es13.2.1, es13.2.2.1, es13.2.2.2.1, es13.2.2.2.2.1, es13.2.2.2.2.2.1, rfl, es13.2.2.2.2.2.2.2.1, es13.2.2.2.2.2.2.2.2.1, es13.2.2.2.2.2.2.2.2.2.1, es13.2.2.2.2.2.2.2.2.2.2.1, es13.2.2.2.2.2.2.2.2.2.2.2.1, es13.2.2.2.2.2.2.2.2.2.2.2.2.1, es13.2.2.2.2.2.2.2.2.2.2.2.2.2.1, es13.2.2.2.2.2.2.2.2.2.2.2.2.2.2.1, es13.2.2.2.2.2.2.2.2.2.2.2.2.2.2.2.1, es13.2.2.2.2.2.2.2.2.2.2.2.2.2.2.2.2.1, es13.2.2.2.2.2.2.2.2.2.2.2.2.2.2.2.2.2.1, es13.2.2.2.2.2.2.2.2.2.2.2.2.2.2.2.2.2.2.1, es13.2.2.2.2.2.2.2.2.2.2.2.2.2.2.2.2.2.2.2.1, es13.2.2.2.2.2.2.2.2.2.2.2.2.2.2.2.2.2.2.2.2.1, rfl⟩ (fun s14 Is14 Fs14 (es14 : s14 98 15 = 0 ∧ s14 98 16 = σ2 98 16 ∧ s14 98 17 = σ2 98 17 ∧ s14 98 18 = σ2 98 18 ∧ s14 98 13 = 0 ∧ s14 98 14 = σ2 98 14 ∧ s14 98 5 = 0 ∧ s14 98 6 = σ2 98 6 ∧ s14 98 7 = σ2 98 7 ∧ s14 98 8 = σ2 98 8 ∧ s14 98 9 = σ2 98 9 ∧ s14 101 18 = σ2 101 18 ∧ s14 101 25 = σ2 101 25 ∧ s14 101 43 = σ2 101 43 ∧ s14 98 11 = σ2 98 11 ∧ s14 98 12 = σ2 98 12 ∧ s14 98 29 = σ2 98 29 ∧ s14 110 0 = σ2 110 0 ∧ s14 110 1 = σ2 110 1 ∧ s14 98 1 = σ2 98 1 ∧ s14 98 2 = σ2 98 2 ∧ s14 = h_up s13 98 5 0) => ?_))
  refine h_aload_n (pc' := 16) rfl rfl rfl ?_
  refine h_iconst (pc' := 17) (x := (Int32.ofInt 0)) rfl rfl rfl ?_
  refine h_put (pc' := 20) rfl rfl rfl rfl rfl rfl ci_0 rfl (h_fgt (E := fun s => s 98 15 = 0 ∧ s 98 16 = σ2 98 16 ∧ s 98 17 = σ2 98 17 ∧ s 98 18 = σ2 98 18 ∧ s 98 13 = 0 ∧ s 98 14 = σ2 98 14 ∧ s 98 5 = 0 ∧ s 98 6 = 0 ∧ s 98 7 = σ2 98 7 ∧ s 98 8 = σ2 98 8 ∧ s 98 9 = σ2 98 9 ∧ s 101 18 = σ2 101 18 ∧ s 101 25 = σ2 101 25 ∧ s 101 43 = σ2 101 43 ∧ s 98 11 = σ2 98 11 ∧ s 98 12 = σ2 98 12 ∧ s 98 29 = σ2 98 29 ∧ s 110 0 = σ2 110 0 ∧ s 110 1 = σ2 110 1 ∧ s 98 1 = σ2 98 1 ∧ s 98 2 = σ2 98 2 ∧ s = h_up s14 98 6 0) _ (if_98_6 Is14 (by omega)) (Fs14.up rfl) ⟨es14.1, es14.2.1, es14.2.2.1, es14.2.2.2.1, es14.2.2.2.2.1, es14.2.2.2.2.2.1, es14.2.2.2.2.2.2.1, rfl, es14.2.2.2.2.2.2.2.2.1, es14.2.2.2.2.2.2.2.2.2.1, es14.2.2.2.2.2.2.2.2.2.2.1, es14.2.2.2.2.2.2.2.2.2.2.2.1, es14.2.2.2.2.2.2.2.2.2.2.2.2.1, es14.2.2.2.2.2.2.2.2.2.2.2.2.2.1, es14.2.2.2.2.2.2.2.2.2.2.2.2.2.2.1, es14.2.2.2.2.2.2.2.2.2.2.2.2.2.2.2.1, es14.2.2.2.2.2.2.2.2.2.2.2.2.2.2.2.2.1, es14.2.2.2.2.2.2.2.2.2.2.2.2.2.2.2.2.2.1, es14.2.2.2.2.2.2.2.2.2.2.2.2.2.2.2.2.2.2.1, es14.2.2.2.2.2.2.2.2.2.2.2.2.2.2.2.2.2.2.2.1, es14.2.2.2.2.2.2.2.2.2.2.2.2.2.2.2.2.2.2.2.2.1, rfl⟩ (fun s15 Is15 Fs15 (es15 : s15 98 15 = 0 ∧ s15 98 16 = σ2 98 16 ∧ s15 98 17 = σ2 98 17 ∧ s15 98 18 = σ2 98 18 ∧ s15 98 13 = 0 ∧ s15 98 14 = σ2 98 14 ∧ s15 98 5 = 0 ∧ s15 98 6 = 0 ∧ s15 98 7 = σ2 98 7 ∧ s15 98 8 = σ2 98 8 ∧ s15 98 9 = σ2 98 9 ∧ s15 101 18 = σ2 101 18 ∧ s15 101 25 = σ2 101 25 ∧ s15 101 43 = σ2 101 43 ∧ s15 98 11 = σ2 98 11 ∧ s15 98 12 = σ2 98 12 ∧ s15 98 29 = σ2 98 29 ∧ s15 110 0 = σ2 110 0 ∧ s15 110 1 = σ2 110 1 ∧ s15 98 1 = σ2 98 1 ∧ s15 98 2 = σ2 98 2 ∧ s15 = h_up s14 98 6 0) => ?_))
  refine h_aload_n (pc' := 21) rfl rfl rfl ?_
  refine h_iconst (pc' := 22) (x := (Int32.ofInt 0)) rfl rfl rfl ?_
  refine h_put (pc' := 25) rfl rfl rfl rfl rfl rfl ci_0 (h_fb ci_0 (by omega)) (h_fgt (E := fun s => s 98 15 = 0 ∧ s 98 16 = σ2 98 16 ∧ s 98 17 = σ2 98 17 ∧ s 98 18 = σ2 98 18 ∧ s 98 13 = 0 ∧ s 98 14 = σ2 98 14 ∧ s 98 5 = 0 ∧ s 98 6 = 0 ∧ s 98 7 = 0 ∧ s 98 8 = σ2 98 8 ∧ s 98 9 = σ2 98 9 ∧ s 101 18 = σ2 101 18 ∧ s 101 25 = σ2 101 25 ∧ s 101 43 = σ2 101 43 ∧ s 98 11 = σ2 98 11 ∧ s 98 12 = σ2 98 12 ∧ s 98 29 = σ2 98 29 ∧ s 110 0 = σ2 110 0 ∧ s 110 1 = σ2 110 1 ∧ s 98 1 = σ2 98 1 ∧ s 98 2 = σ2 98 2 ∧ s = h_up s15 98 7 0) _ (if_98_7 Is15 (by omega)) (Fs15.up rfl) ⟨es15.1, es15.2.1, es15.2.2.1, es15.2.2.2.1, es15.2.2.2.2.1, es15.2.2.2.2.2.1, es15.2.2.2.2.2.2.1, es15.2.2.2.2.2.2.2.1, rfl, es15.2.2.2.2.2.2.2.2.2.1, es15.2.2.2.2.2.2.2.2.2.2.1, es15.2.2.2.2.2.2.2.2.2.2.2.1, es15.2.2.2.2.2.2.2.2.2.2.2.2.1, es15.2.2.2.2.2.2.2.2.2.2.2.2.2.1, es15.2.2.2.2.2.2.2.2.2.2.2.2.2.2.1, es15.2.2.2.2.2.2.2.2.2.2.2.2.2.2.2.1, es15.2.2.2.2.2.2.2.2.2.2.2.2.2.2.2.2.1, es15.2.2.2.2.2.2.2.2.2.2.2.2.2.2.2.2.2.1, es15.2.2.2.2.2.2.2.2.2.2.2.2.2.2.2.2.2.2.1, es15.2.2.2.2.2.2.2.2.2.2.2.2.2.2.2.2.2.2.2.1, es15.2.2.2.2.2.2.2.2.2.2.2.2.2.2.2.2.2.2.2.2.1, rfl⟩ (fun s16 Is16 Fs16 (es16 : s16 98 15 = 0 ∧ s16 98 16 = σ2 98 16 ∧ s16 98 17 = σ2 98 17 ∧ s16 98 18 = σ2 98 18 ∧ s16 98 13 = 0 ∧ s16 98 14 = σ2 98 14 ∧ s16 98 5 = 0 ∧ s16 98 6 = 0 ∧ s16 98 7 = 0 ∧ s16 98 8 = σ2 98 8 ∧ s16 98 9 = σ2 98 9 ∧ s16 101 18 = σ2 101 18 ∧ s16 101 25 = σ2 101 25 ∧ s16 101 43 = σ2 101 43 ∧ s16 98 11 = σ2 98 11 ∧ s16 98 12 = σ2 98 12 ∧ s16 98 29 = σ2 98 29 ∧ s16 110 0 = σ2 110 0 ∧ s16 110 1 = σ2 110 1 ∧ s16 98 1 = σ2 98 1 ∧ s16 98 2 = σ2 98 2 ∧ s16 = h_up s15 98 7 0) => ?_))
  refine h_aload_n (pc' := 26) rfl rfl rfl ?_
  refine h_iconst (pc' := 27) (x := (Int32.ofInt (-1))) rfl rfl rfl ?_
  refine h_put (pc' := 30) rfl rfl rfl rfl rfl rfl ci_m1 rfl (h_fgt (E := fun s => s 98 15 = 0 ∧ s 98 16 = σ2 98 16 ∧ s 98 17 = σ2 98 17 ∧ s 98 18 = σ2 98 18 ∧ s 98 13 = 0 ∧ s 98 14 = σ2 98 14 ∧ s 98 5 = 0 ∧ s 98 6 = 0 ∧ s 98 7 = 0 ∧ s 98 8 = (-1) ∧ s 98 9 = σ2 98 9 ∧ s 101 18 = σ2 101 18 ∧ s 101 25 = σ2 101 25 ∧ s 101 43 = σ2 101 43 ∧ s 98 11 = σ2 98 11 ∧ s 98 12 = σ2 98 12 ∧ s 98 29 = σ2 98 29 ∧ s 110 0 = σ2 110 0 ∧ s 110 1 = σ2 110 1 ∧ s 98 1 = σ2 98 1 ∧ s 98 2 = σ2 98 2 ∧ s = h_up s16 98 8 (-1)) _ (if_98_8 Is16 (by omega)) (Fs16.up rfl) ⟨es16.1, es16.2.1, es16.2.2.1, es16.2.2.2.1, es16.2.2.2.2.1, es16.2.2.2.2.2.1, es16.2.2.2.2.2.2.1, es16.2.2.2.2.2.2.2.1, es16.2.2.2.2.2.2.2.2.1, rfl, es16.2.2.2.2.2.2.2.2.2.2.1, es16.2.2.2.2.2.2.2.2.2.2.2.1, es16.2.2.2.2.2.2.2.2.2.2.2.2.1, es16.2.2.2.2.2.2.2.2.2.2.2.2.2.1, es16.2.2.2.2.2.2.2.2.2.2.2.2.2.2.1, es16.2.2.2.2.2.2.2.2.2.2.2.2.2.2.2.1, es16.2.2.2.2.2.2.2.2.2.2.2.2.2.2.2.2.1, es16.2.2.2.2.2.2.2.2.2.2.2.2.2.2.2.2.2.1, es16.2.2.2.2.2.2.2.2.2.2.2.2.2.2.2.2.2.2.1, es16.2.2.2.2.2.2.2.2.2.2.2.2.2.2.2.2.2.2.2.1, es16.2.2.2.2.2.2.2.2.2.2.2.2.2.2.2.2.2.2.2.2.1, rfl⟩ (fun s17 Is17 Fs17 (es17 : s17 98 15 = 0 ∧ s17 98 16 = σ2 98 16 ∧ s17 98 17 = σ2 98 17 ∧ s17 98 18 = σ2 98 18 ∧ s17 98 13 = 0 ∧ s17 98 14 = σ2 98 14 ∧ s17 98 5 = 0 ∧ s17 98 6 = 0 ∧ s17 98 7 = 0 ∧ s17 98 8 = (-1) ∧ s17 98 9 = σ2 98 9 ∧ s17 101 18 = σ2 101 18 ∧ s17 101 25 = σ2 101 25 ∧ s17 101 43 = σ2 101 43 ∧ s17 98 11 = σ2 98 11 ∧ s17 98 12 = σ2 98 12 ∧ s17 98 29 = σ2 98 29 ∧ s17 110 0 = σ2 110 0 ∧ s17 110 1 = σ2 110 1 ∧ s17 98 1 = σ2 98 1 ∧ s17 98 2 = σ2 98 2 ∧ s17 = h_up s16 98 8 (-1)) => ?_))
  refine h_aload_n (pc' := 31) rfl rfl rfl ?_
  refine h_iconst (pc' := 32) (x := (Int32.ofInt (-1))) rfl rfl rfl ?_
  refine h_put (pc' := 35) rfl rfl rfl rfl rfl rfl ci_m1 rfl (h_fgt (E := fun s => s 98 15 = 0 ∧ s 98 16 = σ2 98 16 ∧ s 98 17 = σ2 98 17 ∧ s 98 18 = σ2 98 18 ∧ s 98 13 = 0 ∧ s 98 14 = σ2 98 14 ∧ s 98 5 = 0 ∧ s 98 6 = 0 ∧ s 98 7 = 0 ∧ s 98 8 = (-1) ∧ s 98 9 = (-1) ∧ s 101 18 = σ2 101 18 ∧ s 101 25 = σ2 101 25 ∧ s 101 43 = σ2 101 43 ∧ s 98 11 = σ2 98 11 ∧ s 98 12 = σ2 98 12 ∧ s 98 29 = σ2 98 29 ∧ s 110 0 = σ2 110 0 ∧ s 110 1 = σ2 110 1 ∧ s 98 1 = σ2 98 1 ∧ s 98 2 = σ2 98 2 ∧ s = h_up s17 98 9 (-1)) _ (if_98_9 Is17 (by omega)) (Fs17.up rfl) ⟨es17.1, es17.2.1, es17.2.2.1, es17.2.2.2.1, es17.2.2.2.2.1, es17.2.2.2.2.2.1, es17.2.2.2.2.2.2.1, es17.2.2.2.2.2.2.2.1, es17.2.2.2.2.2.2.2.2.1, es17.2.2.2.2.2.2.2.2.2.1, rfl, es17.2.2.2.2.2.2.2.2.2.2.2.1, es17.2.2.2.2.2.2.2.2.2.2.2.2.1, es17.2.2.2.2.2.2.2.2.2.2.2.2.2.1, es17.2.2.2.2.2.2.2.2.2.2.2.2.2.2.1, es17.2.2.2.2.2.2.2.2.2.2.2.2.2.2.2.1, es17.2.2.2.2.2.2.2.2.2.2.2.2.2.2.2.2.1, es17.2.2.2.2.2.2.2.2.2.2.2.2.2.2.2.2.2.1, es17.2.2.2.2.2.2.2.2.2.2.2.2.2.2.2.2.2.2.1, es17.2.2.2.2.2.2.2.2.2.2.2.2.2.2.2.2.2.2.2.1, es17.2.2.2.2.2.2.2.2.2.2.2.2.2.2.2.2.2.2.2.2.1, rfl⟩ (fun s18 Is18 Fs18 (es18 : s18 98 15 = 0 ∧ s18 98 16 = σ2 98 16 ∧ s18 98 17 = σ2 98 17 ∧ s18 98 18 = σ2 98 18 ∧ s18 98 13 = 0 ∧ s18 98 14 = σ2 98 14 ∧ s18 98 5 = 0 ∧ s18 98 6 = 0 ∧ s18 98 7 = 0 ∧ s18 98 8 = (-1) ∧ s18 98 9 = (-1) ∧ s18 101 18 = σ2 101 18 ∧ s18 101 25 = σ2 101 25 ∧ s18 101 43 = σ2 101 43 ∧ s18 98 11 = σ2 98 11 ∧ s18 98 12 = σ2 98 12 ∧ s18 98 29 = σ2 98 29 ∧ s18 110 0 = σ2 110 0 ∧ s18 110 1 = σ2 110 1 ∧ s18 98 1 = σ2 98 1 ∧ s18 98 2 = σ2 98 2 ∧ s18 = h_up s17 98 9 (-1)) => ?_))
  refine h_iconst (pc' := 36) (x := (Int32.ofInt 0)) rfl rfl rfl ?_
  refine h_istore_n (pc' := 37) (M := [(1, .int (Int32.ofInt 0)), (0, .ref 98)]) rfl rfl rfl rfl ?_
  refine h_iconst (pc' := 38) (x := (Int32.ofInt 0)) rfl rfl rfl ?_
  refine h_istore_n (pc' := 39) (M := [(2, .int (Int32.ofInt 0)), (1, .int (Int32.ofInt 0)), (0, .ref 98)]) rfl rfl rfl rfl ?_
  refine h_wk [(2, .int (Int32.ofInt 0)), (0, .ref 98), (1, .int (Int32.ofInt 0))] ⟨rfl, rfl, rfl, trivial⟩ (lm_z _ Is18 (Int32.ofInt 0) (fun s19 Is19 Gs19 zs19 => ?_))
  have Fs19 := (Gs19.mono (B := k_tm) rfl).tr Fs18
  have es19_0 : s19 98 15 = 0 := (Gs19 98 15 rfl).trans es18.1
  have es19_1 : s19 98 16 = σ2 98 16 := (Gs19 98 16 rfl).trans es18.2.1
  have es19_2 : s19 98 17 = σ2 98 17 := (Gs19 98 17 rfl).trans es18.2.2.1
  have es19_3 : s19 98 18 = σ2 98 18 := (Gs19 98 18 rfl).trans es18.2.2.2.1
  have es19_4 : s19 98 13 = 0 := (Gs19 98 13 rfl).trans es18.2.2.2.2.1
  have es19_5 : s19 98 14 = σ2 98 14 := (Gs19 98 14 rfl).trans es18.2.2.2.2.2.1
  have es19_6 : s19 98 5 = 0 := (Gs19 98 5 rfl).trans es18.2.2.2.2.2.2.1
  have es19_7 : s19 98 6 = 0 := (Gs19 98 6 rfl).trans es18.2.2.2.2.2.2.2.1
  have es19_8 : s19 98 7 = 0 := (Gs19 98 7 rfl).trans es18.2.2.2.2.2.2.2.2.1
  have es19_9 : s19 98 8 = (-1) := (Gs19 98 8 rfl).trans es18.2.2.2.2.2.2.2.2.2.1
  have es19_10 : s19 98 9 = (-1) := (Gs19 98 9 rfl).trans es18.2.2.2.2.2.2.2.2.2.2.1
  have es19_14 : s19 98 11 = σ2 98 11 := (Gs19 98 11 rfl).trans es18.2.2.2.2.2.2.2.2.2.2.2.2.2.2.1
  have es19_15 : s19 98 12 = σ2 98 12 := (Gs19 98 12 rfl).trans es18.2.2.2.2.2.2.2.2.2.2.2.2.2.2.2.1
  have es19_16 : s19 98 29 = σ2 98 29 := (Gs19 98 29 rfl).trans es18.2.2.2.2.2.2.2.2.2.2.2.2.2.2.2.2.1
  have es19_17 : s19 110 0 = σ2 110 0 := (Gs19 110 0 rfl).trans es18.2.2.2.2.2.2.2.2.2.2.2.2.2.2.2.2.2.1
  have es19_18 : s19 110 1 = σ2 110 1 := (Gs19 110 1 rfl).trans es18.2.2.2.2.2.2.2.2.2.2.2.2.2.2.2.2.2.2.1
  have es19_19 : s19 98 1 = σ2 98 1 := (Gs19 98 1 rfl).trans es18.2.2.2.2.2.2.2.2.2.2.2.2.2.2.2.2.2.2.2.1
  have es19_20 : s19 98 2 = σ2 98 2 := (Gs19 98 2 rfl).trans es18.2.2.2.2.2.2.2.2.2.2.2.2.2.2.2.2.2.2.2.2.1
  refine h_aload_n (pc' := 59) rfl rfl rfl ?_
  refine d_pcall (g_inj ns) (m1 := 54) (pc1' := 33) (M1 := [(0, .ref 63)]) (rest1 := []) (m2 := 148) (pc2' := 62) (M2 := [(0, .ref 98)]) (rest2 := []) ⟨false, _, _, _, _, _, _, rfl, rfl, rfl, rfl, rfl, rfl, rfl⟩ ⟨false, _, _, _, _, _, _, rfl, rfl, rfl, rfl, rfl, rfl, rfl⟩ hRw11 ?_
  refine pp_step Is10 Is19 (hTL.fr2 (by omega) (fun i => Fs10 65 i rfl) (fun i => Fs19 102 i rfl) (by omega)) (by omega) (by omega) (by omega) (by omega) (Or.inr ⟨by omega, by omega⟩) (fun sq20 tq20 Isq20 Itq20 Gsq20 Gtq20 yq20_0 yq20_1 yq20_2 yq20_3 yq20_4 pcq20 memq20 hRq20 => ?_)
  have Fsq20 := (Gsq20.mono (B := k_tx) rfl).tr Fs10
  have Ftq20 := (Gtq20.mono (B := k_tm) rfl).tr Fs19
  have esq20_6 : sq20 64 1 = σ1 64 1 := (Gsq20 64 1 rfl).trans es10.2.2.2.2.2.2.1
  have esq20_7 : sq20 66 8 = 0 := (Gsq20 66 8 rfl).trans es10.2.2.2.2.2.2.2.1
  have esq20_8 : sq20 66 9 = 0 := (Gsq20 66 9 rfl).trans es10.2.2.2.2.2.2.2.2.1
  have esq20_9 : sq20 66 10 = 0 := (Gsq20 66 10 rfl).trans es10.2.2.2.2.2.2.2.2.2.1
  have esq20_10 : sq20 69 2 = 0 := (Gsq20 69 2 rfl).trans es10.2.2.2.2.2.2.2.2.2.2.1
  have esq20_11 : sq20 72 2 = 0 := (Gsq20 72 2 rfl).trans es10.2.2.2.2.2.2.2.2.2.2.2.1
  have esq20_12 : sq20 63 5 = 0 := (Gsq20 63 5 rfl).trans es10.2.2.2.2.2.2.2.2.2.2.2.2.1
  have esq20_13 : sq20 63 4 = 0 := (Gsq20 63 4 rfl).trans es10.2.2.2.2.2.2.2.2.2.2.2.2.2.1
  have esq20_14 : sq20 90 2 = σ1 90 2 := (Gsq20 90 2 rfl).trans es10.2.2.2.2.2.2.2.2.2.2.2.2.2.2.1
  have esq20_15 : sq20 62 0 = σ1 62 0 := (Gsq20 62 0 rfl).trans es10.2.2.2.2.2.2.2.2.2.2.2.2.2.2.2.1
  have esq20_16 : sq20 62 1 = σ1 62 1 := (Gsq20 62 1 rfl).trans es10.2.2.2.2.2.2.2.2.2.2.2.2.2.2.2.2.1
  have etq20_6 : tq20 98 5 = 0 := (Gtq20 98 5 rfl).trans es19_6
  have etq20_7 : tq20 98 6 = 0 := (Gtq20 98 6 rfl).trans es19_7
  have etq20_8 : tq20 98 7 = 0 := (Gtq20 98 7 rfl).trans es19_8
  have etq20_9 : tq20 98 8 = (-1) := (Gtq20 98 8 rfl).trans es19_9
  have etq20_10 : tq20 98 9 = (-1) := (Gtq20 98 9 rfl).trans es19_10
  have etq20_11 : tq20 101 18 = s19 101 18 := (Gtq20 101 18 rfl).trans rfl
  have etq20_12 : tq20 101 25 = s19 101 25 := (Gtq20 101 25 rfl).trans rfl
  have etq20_13 : tq20 101 43 = s19 101 43 := (Gtq20 101 43 rfl).trans rfl
  have etq20_14 : tq20 98 11 = σ2 98 11 := (Gtq20 98 11 rfl).trans es19_14
  have etq20_15 : tq20 98 12 = σ2 98 12 := (Gtq20 98 12 rfl).trans es19_15
  have etq20_16 : tq20 98 29 = σ2 98 29 := (Gtq20 98 29 rfl).trans es19_16
  have etq20_17 : tq20 110 0 = σ2 110 0 := (Gtq20 110 0 rfl).trans es19_17
  have etq20_18 : tq20 110 1 = σ2 110 1 := (Gtq20 110 1 rfl).trans es19_18
  have etq20_19 : tq20 98 1 = σ2 98 1 := (Gtq20 98 1 rfl).trans es19_19
  have etq20_20 : tq20 98 2 = σ2 98 2 := (Gtq20 98 2 rfl).trans es19_20
  show h_T g_P (g_Y ns) 155 62 [(0, .ref 98), (1, .int (Int32.ofInt 0))] [] tq20 _
  refine d_toL (g_inj ns) hlw11 hRq20 (fun lvw21 memw21 hlw21 hRw21 => ?_)
  show h_T g_P (g_Y ns) 52 33 [(0, .ref 63)] [] sq20 _
  refine h_iconst (pc' := 34) (x := (Int32.ofInt 0)) rfl rfl rfl ?_
  refine h_istore_n (pc' := 35) (M := [(1, .int (Int32.ofInt 0)), (0, .ref 63)]) rfl rfl rfl rfl ?_
  refine h_wk [(0, .ref 63), (1, .int (Int32.ofInt 0))] ⟨rfl, rfl, trivial⟩ (lp_tx Isq20 Itq20 (hTL.fr2 (by omega) (fun i => Fsq20 65 i rfl) (fun i => Ftq20 102 i rfl) (by omega)) (fun sq22 tq22 Isq22 Itq22 Gsq22 Gtq22  vmq22_1 amq22_1 hmq22_1 yq22_0 yq22_1 yq22_2 yq22_3 yq22_4 yq22_5 yq22_6 pcq22 lvq22 memq22 hlq22 hRq22 => ?_) 100000 _ _ Isq20 Itq20 h_F.rf h_F.rf (Int32.ofInt 0) _ ci_0 (Int32.ofInt 0) _ ci_0 (by omega) (by omega) (by omega) (by omega) (by omega) (by omega) (by omega) (fun _ => d_init (by omega) (by omega) (by omega) (by omega) (by omega) (by omega) (by omega) (by omega) (by omega) (by omega) (by omega) (fun j a b => (Gtq20 101 j rfl).trans (zs19 j a b))) (pcq20.elim (fun pcq20 => (Or.inl ⟨by omega, by omega, by omega, by omega⟩)) (fun pcq20 => (pcq20.elim (fun pcq20 => (Or.inr (Or.inl ⟨by omega, by omega, by omega, by omega, by omega⟩))) (fun pcq20 => (pcq20.elim (fun pcq20 => (Or.inr (Or.inr (Or.inl ⟨by omega, by omega, by omega, by omega, by omega, by omega⟩)))) (fun pcq20 => (pcq20.elim (fun pcq20 => (Or.inr (Or.inr (Or.inr (Or.inl ⟨by omega, by omega, by omega, by omega, by omega, by omega, by omega, by omega, by omega⟩))))) (fun pcq20 => (Or.inr (Or.inr (Or.inr (Or.inr ⟨by omega, by omega, by omega, by omega, by omega, by omega⟩)))))))))))) (by omega) _ _ (h_al_ok ⟨rfl, rfl, trivial⟩ hlw21) hRw21)
  · have Fsq22 := (Gsq22.mono (B := k_tx) rfl).tr Fsq20
    have Ftq22 := (Gtq22.mono (B := k_tm) rfl).tr Ftq20
    have Isq22 := Isq22
    have Itq22 := Itq22
    have Gsq22 := Gsq22
    have Gtq22 := Gtq22
    have esq22_6 : sq22 64 1 = σ1 64 1 := (Gsq22 64 1 rfl).trans esq20_6
    have esq22_14 : sq22 90 2 = σ1 90 2 := (Gsq22 90 2 rfl).trans esq20_14
    have esq22_15 : sq22 62 0 = σ1 62 0 := (Gsq22 62 0 rfl).trans esq20_15
    have esq22_16 : sq22 62 1 = σ1 62 1 := (Gsq22 62 1 rfl).trans esq20_16
    have etq22_14 : tq22 98 11 = σ2 98 11 := (Gtq22 98 11 rfl).trans etq20_14
    have etq22_15 : tq22 98 12 = σ2 98 12 := (Gtq22 98 12 rfl).trans etq20_15
    have etq22_16 : tq22 98 29 = σ2 98 29 := (Gtq22 98 29 rfl).trans etq20_16
    have etq22_17 : tq22 110 0 = σ2 110 0 := (Gtq22 110 0 rfl).trans etq20_17
    have etq22_18 : tq22 110 1 = σ2 110 1 := (Gtq22 110 1 rfl).trans etq20_18
    have etq22_19 : tq22 98 1 = σ2 98 1 := (Gtq22 98 1 rfl).trans etq20_19
    have etq22_20 : tq22 98 2 = σ2 98 2 := (Gtq22 98 2 rfl).trans etq20_20
    show h_T g_P (g_Y ns) 52 83 [(0, .ref 63)] [] sq22 _
    refine d_toM (g_inj ns) hlq22 hRq22 (fun lvw23 memw23 hlw23 hRw23 => ?_)
    show h_T g_P (g_Y ns) 155 86 [(0, .ref 98), (1, .int vmq22_1)] [] tq22 _
    refine d_toL (g_inj ns) hlw23 hRw23 (fun lvw24 memw24 hlw24 hRw24 => ?_)
    show h_T g_P (g_Y ns) 52 83 [(0, .ref 63)] [] sq22 _
    refine h_wk [(0, .ref 63)] ⟨rfl, trivial⟩ (ls_fin Isq22 Itq22 (hTL.fr2 (by omega) (fun i => Fsq22 65 i rfl) (fun i => Ftq22 102 i rfl) (by omega))  vmq22_1 _ hmq22_1 (by omega) (by omega) (by omega) (by omega) (yq22_6) (pcq22.elim (fun pcq22 => (Or.inl ⟨by omega, by omega, by omega, by omega⟩)) (fun pcq22 => (Or.inr ⟨by omega, by omega, by omega, by omega, by omega⟩))) (fun sq25 tq25 Isq25 Itq25 Gsq25 Gtq25   yq25_0 yq25_1 yq25_2 yq25_3 yq25_4 yq25_5 pcq25 lvq25 memq25 hlq25 hRq25 => ?_) _ _ (h_al_ok ⟨rfl, rfl, trivial⟩ hlw24) hRw24)
    · have Fsq25 := (Gsq25.mono (B := k_tx) rfl).tr Fsq22
      have Ftq25 := (Gtq25.mono (B := k_tm) rfl).tr Ftq22
      have Isq25 := Isq25
      have Itq25 := Itq25
      have Gsq25 := Gsq25
      have Gtq25 := Gtq25
      have esq25_6 : sq25 64 1 = σ1 64 1 := (Gsq25 64 1 rfl).trans esq22_6
      have esq25_13 : sq25 63 4 = sq22 63 4 := (Gsq25 63 4 rfl).trans rfl
      have esq25_14 : sq25 90 2 = σ1 90 2 := (Gsq25 90 2 rfl).trans esq22_14
      have esq25_15 : sq25 62 0 = σ1 62 0 := (Gsq25 62 0 rfl).trans esq22_15
      have esq25_16 : sq25 62 1 = σ1 62 1 := (Gsq25 62 1 rfl).trans esq22_16
      have etq25_14 : tq25 98 11 = σ2 98 11 := (Gtq25 98 11 rfl).trans etq22_14
      have etq25_15 : tq25 98 12 = σ2 98 12 := (Gtq25 98 12 rfl).trans etq22_15
      have etq25_16 : tq25 98 29 = σ2 98 29 := (Gtq25 98 29 rfl).trans etq22_16
      have etq25_17 : tq25 110 0 = σ2 110 0 := (Gtq25 110 0 rfl).trans etq22_17
      have etq25_18 : tq25 110 1 = σ2 110 1 := (Gtq25 110 1 rfl).trans etq22_18
      have etq25_19 : tq25 98 1 = σ2 98 1 := (Gtq25 98 1 rfl).trans etq22_19
      have etq25_20 : tq25 98 2 = σ2 98 2 := (Gtq25 98 2 rfl).trans etq22_20
      rcases pcq25 with pcq25 | pcq25
      · show h_T g_P (g_Y ns) 52 113 [(0, .ref 63)] [] sq25 _
        refine h_vret rfl rfl (d_retn hlv1 ?_)
        refine h_aload_n (pc' := 8) rfl rfl rfl ?_
        refine h_getR (pc' := 11) rfl rfl rfl rfl rfl ?_
        refine h_getR (pc' := 14) rfl rfl rfl rfl rfl ?_
        refine h_iconst (pc' := 15) (x := (Int32.ofInt 0)) rfl rfl rfl ?_
        refine h_put (pc' := 18) rfl rfl rfl rfl rfl rfl ci_0 rfl (h_fgt (E := fun s => s 64 2 = sq25 64 2 ∧ s 64 4 = sq25 64 4 ∧ s 64 3 = sq25 64 3 ∧ s 64 5 = sq25 64 5 ∧ s 63 2 = sq25 63 2 ∧ s 63 3 = sq25 63 3 ∧ s 64 1 = 0 ∧ s 66 8 = sq25 66 8 ∧ s 66 9 = sq25 66 9 ∧ s 66 10 = sq25 66 10 ∧ s 69 2 = sq25 69 2 ∧ s 72 2 = sq25 72 2 ∧ s 63 5 = sq25 63 5 ∧ s 63 4 = sq22 63 4 ∧ s 90 2 = σ1 90 2 ∧ s 62 0 = σ1 62 0 ∧ s 62 1 = σ1 62 1 ∧ s = h_up sq25 64 1 0) _ (if_64_1 Isq25 (by omega)) (Fsq25.up rfl) ⟨rfl, rfl, rfl, rfl, rfl, rfl, rfl, rfl, rfl, rfl, rfl, rfl, rfl, esq25_13, esq25_14, esq25_15, esq25_16, rfl⟩ (fun s26 Is26 Fs26 (es26 : s26 64 2 = sq25 64 2 ∧ s26 64 4 = sq25 64 4 ∧ s26 64 3 = sq25 64 3 ∧ s26 64 5 = sq25 64 5 ∧ s26 63 2 = sq25 63 2 ∧ s26 63 3 = sq25 63 3 ∧ s26 64 1 = 0 ∧ s26 66 8 = sq25 66 8 ∧ s26 66 9 = sq25 66 9 ∧ s26 66 10 = sq25 66 10 ∧ s26 69 2 = sq25 69 2 ∧ s26 72 2 = sq25 72 2 ∧ s26 63 5 = sq25 63 5 ∧ s26 63 4 = sq22 63 4 ∧ s26 90 2 = σ1 90 2 ∧ s26 62 0 = σ1 62 0 ∧ s26 62 1 = σ1 62 1 ∧ s26 = h_up sq25 64 1 0) => ?_))
        refine h_aload_n (pc' := 19) rfl rfl rfl ?_
        refine h_getR (pc' := 22) rfl rfl rfl rfl rfl ?_
        refine h_getI (pc' := 25) (v := sq25 63 2) rfl rfl rfl rfl rfl es26.2.2.2.2.1 (fun z27 hz27 => ?_)
        have tz27 := tf_63_2 Isq25
        refine h_zeq (tg := 39) (pc' := 28) rfl rfl rfl hz27 (fun c28 => absurd c28 (by omega)) (fun c28 => ?_)
        clear hz27
        refine h_bipush (pc' := 30) (x := (Int32.ofInt (-10))) rfl rfl cb_m10 ?_
        refine h_aload_n (pc' := 31) rfl rfl rfl ?_
        refine h_getR (pc' := 34) rfl rfl rfl rfl rfl ?_
        refine h_getI (pc' := 37) (v := sq25 63 3) rfl rfl rfl rfl rfl es26.2.2.2.2.2.1 (fun z29 hz29 => ?_)
        have tz29 := tf_63_3 Isq25
        refine h_isubA (pc' := 38) rfl rfl (fun z30 hz30 => ?_)
        clear hz29
        refine d_toM (g_inj ns) hlq25 hRq25 (fun lvw31 memw31 hlw31 hRw31 => ?_)
        show h_T g_P (g_Y ns) 155 121 [(0, .ref 98), (1, .int vmq22_1)] [] tq25 _
        refine h_aload_n (pc' := 122) rfl rfl rfl ?_
        refine h_iconst (pc' := 123) (x := (Int32.ofInt 0)) rfl rfl rfl ?_
        refine h_put (pc' := 126) rfl rfl rfl rfl rfl rfl ci_0 rfl (h_fgt (E := fun s => s 98 15 = tq25 98 15 ∧ s 98 16 = tq25 98 16 ∧ s 98 17 = tq25 98 17 ∧ s 98 18 = tq25 98 18 ∧ s 98 13 = tq25 98 13 ∧ s 98 14 = tq25 98 14 ∧ s 98 5 = tq25 98 5 ∧ s 98 6 = tq25 98 6 ∧ s 98 7 = tq25 98 7 ∧ s 98 8 = tq25 98 8 ∧ s 98 9 = tq25 98 9 ∧ s 101 18 = tq25 101 18 ∧ s 101 25 = tq25 101 25 ∧ s 101 43 = tq25 101 43 ∧ s 98 11 = 0 ∧ s 98 12 = σ2 98 12 ∧ s 98 29 = σ2 98 29 ∧ s 110 0 = σ2 110 0 ∧ s 110 1 = σ2 110 1 ∧ s 98 1 = σ2 98 1 ∧ s 98 2 = σ2 98 2 ∧ s = h_up tq25 98 11 0) _ (if_98_11 Itq25 (by omega)) (Ftq25.up rfl) ⟨rfl, rfl, rfl, rfl, rfl, rfl, rfl, rfl, rfl, rfl, rfl, rfl, rfl, rfl, rfl, etq25_15, etq25_16, etq25_17, etq25_18, etq25_19, etq25_20, rfl⟩ (fun s32 Is32 Fs32 (es32 : s32 98 15 = tq25 98 15 ∧ s32 98 16 = tq25 98 16 ∧ s32 98 17 = tq25 98 17 ∧ s32 98 18 = tq25 98 18 ∧ s32 98 13 = tq25 98 13 ∧ s32 98 14 = tq25 98 14 ∧ s32 98 5 = tq25 98 5 ∧ s32 98 6 = tq25 98 6 ∧ s32 98 7 = tq25 98 7 ∧ s32 98 8 = tq25 98 8 ∧ s32 98 9 = tq25 98 9 ∧ s32 101 18 = tq25 101 18 ∧ s32 101 25 = tq25 101 25 ∧ s32 101 43 = tq25 101 43 ∧ s32 98 11 = 0 ∧ s32 98 12 = σ2 98 12 ∧ s32 98 29 = σ2 98 29 ∧ s32 110 0 = σ2 110 0 ∧ s32 110 1 = σ2 110 1 ∧ s32 98 1 = σ2 98 1 ∧ s32 98 2 = σ2 98 2 ∧ s32 = h_up tq25 98 11 0) => ?_))
        refine h_aload_n (pc' := 127) rfl rfl rfl ?_
        refine h_aload_n (pc' := 128) rfl rfl rfl ?_
        refine h_getI (pc' := 131) (v := tq25 98 13) rfl rfl rfl rfl rfl es32.2.2.2.2.1 (fun z33 hz33 => ?_)
        have tz33 := tf_98_13 Itq25
        refine h_put (pc' := 134) rfl rfl rfl rfl rfl rfl hz33 rfl (h_fgt (E := fun s => s 98 15 = tq25 98 15 ∧ s 98 16 = tq25 98 16 ∧ s 98 17 = tq25 98 17 ∧ s 98 18 = tq25 98 18 ∧ s 98 13 = tq25 98 13 ∧ s 98 14 = tq25 98 14 ∧ s 98 5 = tq25 98 5 ∧ s 98 6 = tq25 98 6 ∧ s 98 7 = tq25 98 7 ∧ s 98 8 = tq25 98 8 ∧ s 98 9 = tq25 98 9 ∧ s 101 18 = tq25 101 18 ∧ s 101 25 = tq25 101 25 ∧ s 101 43 = tq25 101 43 ∧ s 98 11 = 0 ∧ s 98 12 = (tq25 98 13) ∧ s 98 29 = σ2 98 29 ∧ s 110 0 = σ2 110 0 ∧ s 110 1 = σ2 110 1 ∧ s 98 1 = σ2 98 1 ∧ s 98 2 = σ2 98 2 ∧ s = h_up s32 98 12 (tq25 98 13)) _ (if_98_12 Is32 (h_rgv hz33)) (Fs32.up rfl) ⟨es32.1, es32.2.1, es32.2.2.1, es32.2.2.2.1, es32.2.2.2.2.1, es32.2.2.2.2.2.1, es32.2.2.2.2.2.2.1, es32.2.2.2.2.2.2.2.1, es32.2.2.2.2.2.2.2.2.1, es32.2.2.2.2.2.2.2.2.2.1, es32.2.2.2.2.2.2.2.2.2.2.1, es32.2.2.2.2.2.2.2.2.2.2.2.1, es32.2.2.2.2.2.2.2.2.2.2.2.2.1, es32.2.2.2.2.2.2.2.2.2.2.2.2.2.1, es32.2.2.2.2.2.2.2.2.2.2.2.2.2.2.1, rfl, es32.2.2.2.2.2.2.2.2.2.2.2.2.2.2.2.2.1, es32.2.2.2.2.2.2.2.2.2.2.2.2.2.2.2.2.2.1, es32.2.2.2.2.2.2.2.2.2.2.2.2.2.2.2.2.2.2.1, es32.2.2.2.2.2.2.2.2.2.2.2.2.2.2.2.2.2.2.2.1, es32.2.2.2.2.2.2.2.2.2.2.2.2.2.2.2.2.2.2.2.2.1, rfl⟩ (fun s34 Is34 Fs34 (es34 : s34 98 15 = tq25 98 15 ∧ s34 98 16 = tq25 98 16 ∧ s34 98 17 = tq25 98 17 ∧ s34 98 18 = tq25 98 18 ∧ s34 98 13 = tq25 98 13 ∧ s34 98 14 = tq25 98 14 ∧ s34 98 5 = tq25 98 5 ∧ s34 98 6 = tq25 98 6 ∧ s34 98 7 = tq25 98 7 ∧ s34 98 8 = tq25 98 8 ∧ s34 98 9 = tq25 98 9 ∧ s34 101 18 = tq25 101 18 ∧ s34 101 25 = tq25 101 25 ∧ s34 101 43 = tq25 101 43 ∧ s34 98 11 = 0 ∧ s34 98 12 = (tq25 98 13) ∧ s34 98 29 = σ2 98 29 ∧ s34 110 0 = σ2 110 0 ∧ s34 110 1 = σ2 110 1 ∧ s34 98 1 = σ2 98 1 ∧ s34 98 2 = σ2 98 2 ∧ s34 = h_up s32 98 12 (tq25 98 13)) => ?_))
        refine h_aload_n (pc' := 135) rfl rfl rfl ?_
        refine h_getI (pc' := 138) (v := tq25 98 13) rfl rfl rfl rfl rfl es34.2.2.2.2.1 (fun z35 hz35 => ?_)
        refine h_zle (tg := 149) (pc' := 141) rfl rfl rfl hz35 (fun c36 => absurd c36 (by omega)) (fun c36 => ?_)
        clear hz35
        refine h_bipush (pc' := 143) (x := (Int32.ofInt (-10))) rfl rfl cb_m10 ?_
        refine h_aload_n (pc' := 144) rfl rfl rfl ?_
        refine h_getI (pc' := 147) (v := tq25 98 14) rfl rfl rfl rfl rfl es34.2.2.2.2.2.1 (fun z37 hz37 => ?_)
        have tz37 := tf_98_14 Itq25
        refine h_isubA (pc' := 148) rfl rfl (fun z38 hz38 => ?_)
        clear hz37
        refine h_iret rfl rfl (d_endM hlw31 hRw31 ?_)
        show h_T g_P (g_Y ns) 84 38 [(0, .ref 9)] [.int z30] s26 _
        exact h_iret rfl rfl (d_cs.nil (kk _ _ rfl _ _ rfl _ _ Is26 Is34 Fs26 Fs34 (by rw [hz30, hz38, h_ieq.mpr (show z29.toInt = z37.toInt by have ga := hz29; have gb := hz37; omega)]) (by omega) (by omega) (by omega) (by omega) (Or.inl ⟨by omega, by omega, by omega, by omega, by omega, by omega, by omega, by omega⟩)))
      · show h_T g_P (g_Y ns) 52 113 [(0, .ref 63)] [] sq25 _
        refine h_vret rfl rfl (d_retn hlv1 ?_)
        refine h_aload_n (pc' := 8) rfl rfl rfl ?_
        refine h_getR (pc' := 11) rfl rfl rfl rfl rfl ?_
        refine h_getR (pc' := 14) rfl rfl rfl rfl rfl ?_
        refine h_iconst (pc' := 15) (x := (Int32.ofInt 0)) rfl rfl rfl ?_
        refine h_put (pc' := 18) rfl rfl rfl rfl rfl rfl ci_0 rfl (h_fgt (E := fun s => s 64 2 = sq25 64 2 ∧ s 64 4 = sq25 64 4 ∧ s 64 3 = sq25 64 3 ∧ s 64 5 = sq25 64 5 ∧ s 63 2 = sq25 63 2 ∧ s 63 3 = sq25 63 3 ∧ s 64 1 = 0 ∧ s 66 8 = sq25 66 8 ∧ s 66 9 = sq25 66 9 ∧ s 66 10 = sq25 66 10 ∧ s 69 2 = sq25 69 2 ∧ s 72 2 = sq25 72 2 ∧ s 63 5 = sq25 63 5 ∧ s 63 4 = sq22 63 4 ∧ s 90 2 = σ1 90 2 ∧ s 62 0 = σ1 62 0 ∧ s 62 1 = σ1 62 1 ∧ s = h_up sq25 64 1 0) _ (if_64_1 Isq25 (by omega)) (Fsq25.up rfl) ⟨rfl, rfl, rfl, rfl, rfl, rfl, rfl, rfl, rfl, rfl, rfl, rfl, rfl, esq25_13, esq25_14, esq25_15, esq25_16, rfl⟩ (fun s39 Is39 Fs39 (es39 : s39 64 2 = sq25 64 2 ∧ s39 64 4 = sq25 64 4 ∧ s39 64 3 = sq25 64 3 ∧ s39 64 5 = sq25 64 5 ∧ s39 63 2 = sq25 63 2 ∧ s39 63 3 = sq25 63 3 ∧ s39 64 1 = 0 ∧ s39 66 8 = sq25 66 8 ∧ s39 66 9 = sq25 66 9 ∧ s39 66 10 = sq25 66 10 ∧ s39 69 2 = sq25 69 2 ∧ s39 72 2 = sq25 72 2 ∧ s39 63 5 = sq25 63 5 ∧ s39 63 4 = sq22 63 4 ∧ s39 90 2 = σ1 90 2 ∧ s39 62 0 = σ1 62 0 ∧ s39 62 1 = σ1 62 1 ∧ s39 = h_up sq25 64 1 0) => ?_))
        refine h_aload_n (pc' := 19) rfl rfl rfl ?_
        refine h_getR (pc' := 22) rfl rfl rfl rfl rfl ?_
        refine h_getI (pc' := 25) (v := sq25 63 2) rfl rfl rfl rfl rfl es39.2.2.2.2.1 (fun z40 hz40 => ?_)
        have tz40 := tf_63_2 Isq25
        refine h_zeq (tg := 39) (pc' := 28) rfl rfl rfl hz40 (fun c41 => ?_) (fun c41 => absurd c41 (by omega))
        clear hz40
        refine h_aload_n (pc' := 40) rfl rfl rfl ?_
        refine h_getR (pc' := 43) rfl rfl rfl rfl rfl ?_
        refine h_aload_n (pc' := 44) rfl rfl rfl ?_
        refine h_getR (pc' := 47) rfl rfl rfl rfl rfl ?_
        refine h_getR (pc' := 50) rfl rfl rfl rfl rfl ?_
        refine h_call (sp := false) (pc' := 53) (M := [(0, .ref 10), (1, .ref 66)]) rfl rfl rfl rfl rfl rfl rfl rfl ?_
        refine w_3_10_66 _ Is39  (fun s43 Is43 Gs43 => h_Kn ?_)
        have Fs43 := (Gs43.mono (B := k_tx) rfl).tr Fs39
        have es43_0 : s43 64 2 = sq25 64 2 := (Gs43 64 2 rfl).trans es39.1
        have es43_1 : s43 64 4 = sq25 64 4 := (Gs43 64 4 rfl).trans es39.2.1
        have es43_2 : s43 64 3 = sq25 64 3 := (Gs43 64 3 rfl).trans es39.2.2.1
        have es43_3 : s43 64 5 = sq25 64 5 := (Gs43 64 5 rfl).trans es39.2.2.2.1
        have es43_4 : s43 63 2 = sq25 63 2 := (Gs43 63 2 rfl).trans es39.2.2.2.2.1
        have es43_5 : s43 63 3 = sq25 63 3 := (Gs43 63 3 rfl).trans es39.2.2.2.2.2.1
        have es43_6 : s43 64 1 = 0 := (Gs43 64 1 rfl).trans es39.2.2.2.2.2.2.1
        have es43_7 : s43 66 8 = sq25 66 8 := (Gs43 66 8 rfl).trans es39.2.2.2.2.2.2.2.1
        have es43_8 : s43 66 9 = sq25 66 9 := (Gs43 66 9 rfl).trans es39.2.2.2.2.2.2.2.2.1
        have es43_9 : s43 66 10 = sq25 66 10 := (Gs43 66 10 rfl).trans es39.2.2.2.2.2.2.2.2.2.1
        have es43_10 : s43 69 2 = sq25 69 2 := (Gs43 69 2 rfl).trans es39.2.2.2.2.2.2.2.2.2.2.1
        have es43_11 : s43 72 2 = sq25 72 2 := (Gs43 72 2 rfl).trans es39.2.2.2.2.2.2.2.2.2.2.2.1
        have es43_12 : s43 63 5 = sq25 63 5 := (Gs43 63 5 rfl).trans es39.2.2.2.2.2.2.2.2.2.2.2.2.1
        have es43_13 : s43 63 4 = sq22 63 4 := (Gs43 63 4 rfl).trans es39.2.2.2.2.2.2.2.2.2.2.2.2.2.1
        have es43_14 : s43 90 2 = σ1 90 2 := (Gs43 90 2 rfl).trans es39.2.2.2.2.2.2.2.2.2.2.2.2.2.2.1
        have es43_15 : s43 62 0 = σ1 62 0 := (Gs43 62 0 rfl).trans es39.2.2.2.2.2.2.2.2.2.2.2.2.2.2.2.1
        have es43_16 : s43 62 1 = σ1 62 1 := (Gs43 62 1 rfl).trans es39.2.2.2.2.2.2.2.2.2.2.2.2.2.2.2.2.1
        refine h_aload_n (pc' := 54) rfl rfl rfl ?_
        refine h_getR (pc' := 57) rfl rfl rfl rfl rfl ?_
        refine h_iconst (pc' := 58) (x := (Int32.ofInt 0)) rfl rfl rfl ?_
        refine h_put (pc' := 61) rfl rfl rfl rfl rfl rfl ci_0 rfl (h_fgt (E := fun s => s 64 2 = sq25 64 2 ∧ s 64 4 = sq25 64 4 ∧ s 64 3 = sq25 64 3 ∧ s 64 5 = sq25 64 5 ∧ s 63 2 = sq25 63 2 ∧ s 63 3 = sq25 63 3 ∧ s 64 1 = 0 ∧ s 66 8 = sq25 66 8 ∧ s 66 9 = sq25 66 9 ∧ s 66 10 = sq25 66 10 ∧ s 69 2 = sq25 69 2 ∧ s 72 2 = sq25 72 2 ∧ s 63 5 = sq25 63 5 ∧ s 63 4 = sq22 63 4 ∧ s 90 2 = 0 ∧ s 62 0 = σ1 62 0 ∧ s 62 1 = σ1 62 1 ∧ s = h_up s43 90 2 0) _ (if_90_2 Is43 (by omega)) (Fs43.up rfl) ⟨es43_0, es43_1, es43_2, es43_3, es43_4, es43_5, es43_6, es43_7, es43_8, es43_9, es43_10, es43_11, es43_12, es43_13, rfl, es43_15, es43_16, rfl⟩ (fun s44 Is44 Fs44 (es44 : s44 64 2 = sq25 64 2 ∧ s44 64 4 = sq25 64 4 ∧ s44 64 3 = sq25 64 3 ∧ s44 64 5 = sq25 64 5 ∧ s44 63 2 = sq25 63 2 ∧ s44 63 3 = sq25 63 3 ∧ s44 64 1 = 0 ∧ s44 66 8 = sq25 66 8 ∧ s44 66 9 = sq25 66 9 ∧ s44 66 10 = sq25 66 10 ∧ s44 69 2 = sq25 69 2 ∧ s44 72 2 = sq25 72 2 ∧ s44 63 5 = sq25 63 5 ∧ s44 63 4 = sq22 63 4 ∧ s44 90 2 = 0 ∧ s44 62 0 = σ1 62 0 ∧ s44 62 1 = σ1 62 1 ∧ s44 = h_up s43 90 2 0) => ?_))
        refine h_aload_n (pc' := 62) rfl rfl rfl ?_
        refine h_getR (pc' := 65) rfl rfl rfl rfl rfl ?_
        refine h_iconst (pc' := 66) (x := (Int32.ofInt 0)) rfl rfl rfl ?_
        refine h_iconst (pc' := 67) (x := (Int32.ofInt 0)) rfl rfl rfl ?_
        refine h_bast (pc' := 68) rfl rfl rfl rfl ci_0 (by omega) (by omega) ci_0 (by omega) (h_fgt (E := fun s => s 64 2 = sq25 64 2 ∧ s 64 4 = sq25 64 4 ∧ s 64 3 = sq25 64 3 ∧ s 64 5 = sq25 64 5 ∧ s 63 2 = sq25 63 2 ∧ s 63 3 = sq25 63 3 ∧ s 64 1 = 0 ∧ s 66 8 = sq25 66 8 ∧ s 66 9 = sq25 66 9 ∧ s 66 10 = sq25 66 10 ∧ s 69 2 = sq25 69 2 ∧ s 72 2 = sq25 72 2 ∧ s 63 5 = sq25 63 5 ∧ s 63 4 = sq22 63 4 ∧ s 90 2 = 0 ∧ s 62 0 = 0 ∧ s 62 1 = σ1 62 1 ∧ s = h_up s44 62 0 0) _ (in_62 Is44 (by omega)) (Fs44.up rfl) ⟨es44.1, es44.2.1, es44.2.2.1, es44.2.2.2.1, es44.2.2.2.2.1, es44.2.2.2.2.2.1, es44.2.2.2.2.2.2.1, es44.2.2.2.2.2.2.2.1, es44.2.2.2.2.2.2.2.2.1, es44.2.2.2.2.2.2.2.2.2.1, es44.2.2.2.2.2.2.2.2.2.2.1, es44.2.2.2.2.2.2.2.2.2.2.2.1, es44.2.2.2.2.2.2.2.2.2.2.2.2.1, es44.2.2.2.2.2.2.2.2.2.2.2.2.2.1, es44.2.2.2.2.2.2.2.2.2.2.2.2.2.2.1, rfl, es44.2.2.2.2.2.2.2.2.2.2.2.2.2.2.2.2.1, rfl⟩ (fun s45 Is45 Fs45 (es45 : s45 64 2 = sq25 64 2 ∧ s45 64 4 = sq25 64 4 ∧ s45 64 3 = sq25 64 3 ∧ s45 64 5 = sq25 64 5 ∧ s45 63 2 = sq25 63 2 ∧ s45 63 3 = sq25 63 3 ∧ s45 64 1 = 0 ∧ s45 66 8 = sq25 66 8 ∧ s45 66 9 = sq25 66 9 ∧ s45 66 10 = sq25 66 10 ∧ s45 69 2 = sq25 69 2 ∧ s45 72 2 = sq25 72 2 ∧ s45 63 5 = sq25 63 5 ∧ s45 63 4 = sq22 63 4 ∧ s45 90 2 = 0 ∧ s45 62 0 = 0 ∧ s45 62 1 = σ1 62 1 ∧ s45 = h_up s44 62 0 0) => ?_))
        refine h_aload_n (pc' := 69) rfl rfl rfl ?_
        refine h_getR (pc' := 72) rfl rfl rfl rfl rfl ?_
        refine h_iconst (pc' := 73) (x := (Int32.ofInt 1)) rfl rfl rfl ?_
        refine h_iconst (pc' := 74) (x := (Int32.ofInt 0)) rfl rfl rfl ?_
        refine h_bast (pc' := 75) rfl rfl rfl rfl ci_1 (by omega) (by omega) ci_0 (by omega) (h_fgt (E := fun s => s 64 2 = sq25 64 2 ∧ s 64 4 = sq25 64 4 ∧ s 64 3 = sq25 64 3 ∧ s 64 5 = sq25 64 5 ∧ s 63 2 = sq25 63 2 ∧ s 63 3 = sq25 63 3 ∧ s 64 1 = 0 ∧ s 66 8 = sq25 66 8 ∧ s 66 9 = sq25 66 9 ∧ s 66 10 = sq25 66 10 ∧ s 69 2 = sq25 69 2 ∧ s 72 2 = sq25 72 2 ∧ s 63 5 = sq25 63 5 ∧ s 63 4 = sq22 63 4 ∧ s 90 2 = 0 ∧ s 62 0 = 0 ∧ s 62 1 = 0 ∧ s = h_up s45 62 1 0) _ (in_62 Is45 (by omega)) (Fs45.up rfl) ⟨es45.1, es45.2.1, es45.2.2.1, es45.2.2.2.1, es45.2.2.2.2.1, es45.2.2.2.2.2.1, es45.2.2.2.2.2.2.1, es45.2.2.2.2.2.2.2.1, es45.2.2.2.2.2.2.2.2.1, es45.2.2.2.2.2.2.2.2.2.1, es45.2.2.2.2.2.2.2.2.2.2.1, es45.2.2.2.2.2.2.2.2.2.2.2.1, es45.2.2.2.2.2.2.2.2.2.2.2.2.1, es45.2.2.2.2.2.2.2.2.2.2.2.2.2.1, es45.2.2.2.2.2.2.2.2.2.2.2.2.2.2.1, es45.2.2.2.2.2.2.2.2.2.2.2.2.2.2.2.1, rfl, rfl⟩ (fun s46 Is46 Fs46 (es46 : s46 64 2 = sq25 64 2 ∧ s46 64 4 = sq25 64 4 ∧ s46 64 3 = sq25 64 3 ∧ s46 64 5 = sq25 64 5 ∧ s46 63 2 = sq25 63 2 ∧ s46 63 3 = sq25 63 3 ∧ s46 64 1 = 0 ∧ s46 66 8 = sq25 66 8 ∧ s46 66 9 = sq25 66 9 ∧ s46 66 10 = sq25 66 10 ∧ s46 69 2 = sq25 69 2 ∧ s46 72 2 = sq25 72 2 ∧ s46 63 5 = sq25 63 5 ∧ s46 63 4 = sq22 63 4 ∧ s46 90 2 = 0 ∧ s46 62 0 = 0 ∧ s46 62 1 = 0 ∧ s46 = h_up s45 62 1 0) => ?_))
        refine h_aload_n (pc' := 76) rfl rfl rfl ?_
        refine h_getR (pc' := 79) rfl rfl rfl rfl rfl ?_
        refine h_getI (pc' := 82) (v := sq22 63 4) rfl rfl rfl rfl rfl es46.2.2.2.2.2.2.2.2.2.2.2.2.2.1 (fun z47 hz47 => ?_)
        have tz47 := tf_63_4 Isq22
        refine d_toM (g_inj ns) hlq25 hRq25 (fun lvw48 memw48 hlw48 hRw48 => ?_)
        show h_T g_P (g_Y ns) 155 121 [(0, .ref 98), (1, .int vmq22_1)] [] tq25 _
        refine h_aload_n (pc' := 122) rfl rfl rfl ?_
        refine h_iconst (pc' := 123) (x := (Int32.ofInt 0)) rfl rfl rfl ?_
        refine h_put (pc' := 126) rfl rfl rfl rfl rfl rfl ci_0 rfl (h_fgt (E := fun s => s 98 15 = tq25 98 15 ∧ s 98 16 = tq25 98 16 ∧ s 98 17 = tq25 98 17 ∧ s 98 18 = tq25 98 18 ∧ s 98 13 = tq25 98 13 ∧ s 98 14 = tq25 98 14 ∧ s 98 5 = tq25 98 5 ∧ s 98 6 = tq25 98 6 ∧ s 98 7 = tq25 98 7 ∧ s 98 8 = tq25 98 8 ∧ s 98 9 = tq25 98 9 ∧ s 101 18 = tq25 101 18 ∧ s 101 25 = tq25 101 25 ∧ s 101 43 = tq25 101 43 ∧ s 98 11 = 0 ∧ s 98 12 = σ2 98 12 ∧ s 98 29 = σ2 98 29 ∧ s 110 0 = σ2 110 0 ∧ s 110 1 = σ2 110 1 ∧ s 98 1 = σ2 98 1 ∧ s 98 2 = σ2 98 2 ∧ s = h_up tq25 98 11 0) _ (if_98_11 Itq25 (by omega)) (Ftq25.up rfl) ⟨rfl, rfl, rfl, rfl, rfl, rfl, rfl, rfl, rfl, rfl, rfl, rfl, rfl, rfl, rfl, etq25_15, etq25_16, etq25_17, etq25_18, etq25_19, etq25_20, rfl⟩ (fun s49 Is49 Fs49 (es49 : s49 98 15 = tq25 98 15 ∧ s49 98 16 = tq25 98 16 ∧ s49 98 17 = tq25 98 17 ∧ s49 98 18 = tq25 98 18 ∧ s49 98 13 = tq25 98 13 ∧ s49 98 14 = tq25 98 14 ∧ s49 98 5 = tq25 98 5 ∧ s49 98 6 = tq25 98 6 ∧ s49 98 7 = tq25 98 7 ∧ s49 98 8 = tq25 98 8 ∧ s49 98 9 = tq25 98 9 ∧ s49 101 18 = tq25 101 18 ∧ s49 101 25 = tq25 101 25 ∧ s49 101 43 = tq25 101 43 ∧ s49 98 11 = 0 ∧ s49 98 12 = σ2 98 12 ∧ s49 98 29 = σ2 98 29 ∧ s49 110 0 = σ2 110 0 ∧ s49 110 1 = σ2 110 1 ∧ s49 98 1 = σ2 98 1 ∧ s49 98 2 = σ2 98 2 ∧ s49 = h_up tq25 98 11 0) => ?_))
        refine h_aload_n (pc' := 127) rfl rfl rfl ?_
        refine h_aload_n (pc' := 128) rfl rfl rfl ?_
        refine h_getI (pc' := 131) (v := tq25 98 13) rfl rfl rfl rfl rfl es49.2.2.2.2.1 (fun z50 hz50 => ?_)
        have tz50 := tf_98_13 Itq25
        refine h_put (pc' := 134) rfl rfl rfl rfl rfl rfl hz50 rfl (h_fgt (E := fun s => s 98 15 = tq25 98 15 ∧ s 98 16 = tq25 98 16 ∧ s 98 17 = tq25 98 17 ∧ s 98 18 = tq25 98 18 ∧ s 98 13 = tq25 98 13 ∧ s 98 14 = tq25 98 14 ∧ s 98 5 = tq25 98 5 ∧ s 98 6 = tq25 98 6 ∧ s 98 7 = tq25 98 7 ∧ s 98 8 = tq25 98 8 ∧ s 98 9 = tq25 98 9 ∧ s 101 18 = tq25 101 18 ∧ s 101 25 = tq25 101 25 ∧ s 101 43 = tq25 101 43 ∧ s 98 11 = 0 ∧ s 98 12 = (tq25 98 13) ∧ s 98 29 = σ2 98 29 ∧ s 110 0 = σ2 110 0 ∧ s 110 1 = σ2 110 1 ∧ s 98 1 = σ2 98 1 ∧ s 98 2 = σ2 98 2 ∧ s = h_up s49 98 12 (tq25 98 13)) _ (if_98_12 Is49 (h_rgv hz50)) (Fs49.up rfl) ⟨es49.1, es49.2.1, es49.2.2.1, es49.2.2.2.1, es49.2.2.2.2.1, es49.2.2.2.2.2.1, es49.2.2.2.2.2.2.1, es49.2.2.2.2.2.2.2.1, es49.2.2.2.2.2.2.2.2.1, es49.2.2.2.2.2.2.2.2.2.1, es49.2.2.2.2.2.2.2.2.2.2.1, es49.2.2.2.2.2.2.2.2.2.2.2.1, es49.2.2.2.2.2.2.2.2.2.2.2.2.1, es49.2.2.2.2.2.2.2.2.2.2.2.2.2.1, es49.2.2.2.2.2.2.2.2.2.2.2.2.2.2.1, rfl, es49.2.2.2.2.2.2.2.2.2.2.2.2.2.2.2.2.1, es49.2.2.2.2.2.2.2.2.2.2.2.2.2.2.2.2.2.1, es49.2.2.2.2.2.2.2.2.2.2.2.2.2.2.2.2.2.2.1, es49.2.2.2.2.2.2.2.2.2.2.2.2.2.2.2.2.2.2.2.1, es49.2.2.2.2.2.2.2.2.2.2.2.2.2.2.2.2.2.2.2.2.1, rfl⟩ (fun s51 Is51 Fs51 (es51 : s51 98 15 = tq25 98 15 ∧ s51 98 16 = tq25 98 16 ∧ s51 98 17 = tq25 98 17 ∧ s51 98 18 = tq25 98 18 ∧ s51 98 13 = tq25 98 13 ∧ s51 98 14 = tq25 98 14 ∧ s51 98 5 = tq25 98 5 ∧ s51 98 6 = tq25 98 6 ∧ s51 98 7 = tq25 98 7 ∧ s51 98 8 = tq25 98 8 ∧ s51 98 9 = tq25 98 9 ∧ s51 101 18 = tq25 101 18 ∧ s51 101 25 = tq25 101 25 ∧ s51 101 43 = tq25 101 43 ∧ s51 98 11 = 0 ∧ s51 98 12 = (tq25 98 13) ∧ s51 98 29 = σ2 98 29 ∧ s51 110 0 = σ2 110 0 ∧ s51 110 1 = σ2 110 1 ∧ s51 98 1 = σ2 98 1 ∧ s51 98 2 = σ2 98 2 ∧ s51 = h_up s49 98 12 (tq25 98 13)) => ?_))
        refine h_aload_n (pc' := 135) rfl rfl rfl ?_
        refine h_getI (pc' := 138) (v := tq25 98 13) rfl rfl rfl rfl rfl es51.2.2.2.2.1 (fun z52 hz52 => ?_)
        refine h_zle (tg := 149) (pc' := 141) rfl rfl rfl hz52 (fun c53 => ?_) (fun c53 => absurd c53 (by omega))
        clear hz52
        refine h_iconst (pc' := 150) (x := (Int32.ofInt 0)) rfl rfl rfl ?_
        refine h_istore_n (pc' := 151) (M := [(2, .int (Int32.ofInt 0)), (0, .ref 98), (1, .int vmq22_1)]) rfl rfl rfl rfl ?_
        refine h_wk [(2, .int (Int32.ofInt 0)), (0, .ref 98), (1, .int vmq22_1)] ⟨rfl, rfl, rfl, trivial⟩ (lm_cp _ Is51 vmq22_1 (fun s54 Is54 Gs54 zs54 => ?_))
        have Fs54 := (Gs54.mono (B := k_tm) rfl).tr Fs51
        have es54_0 : s54 98 15 = tq25 98 15 := (Gs54 98 15 rfl).trans es51.1
        have es54_1 : s54 98 16 = tq25 98 16 := (Gs54 98 16 rfl).trans es51.2.1
        have es54_2 : s54 98 17 = tq25 98 17 := (Gs54 98 17 rfl).trans es51.2.2.1
        have es54_3 : s54 98 18 = tq25 98 18 := (Gs54 98 18 rfl).trans es51.2.2.2.1
        have es54_4 : s54 98 13 = tq25 98 13 := (Gs54 98 13 rfl).trans es51.2.2.2.2.1
        have es54_5 : s54 98 14 = tq25 98 14 := (Gs54 98 14 rfl).trans es51.2.2.2.2.2.1
        have es54_6 : s54 98 5 = tq25 98 5 := (Gs54 98 5 rfl).trans es51.2.2.2.2.2.2.1
        have es54_7 : s54 98 6 = tq25 98 6 := (Gs54 98 6 rfl).trans es51.2.2.2.2.2.2.2.1
        have es54_8 : s54 98 7 = tq25 98 7 := (Gs54 98 7 rfl).trans es51.2.2.2.2.2.2.2.2.1
        have es54_9 : s54 98 8 = tq25 98 8 := (Gs54 98 8 rfl).trans es51.2.2.2.2.2.2.2.2.2.1
        have es54_10 : s54 98 9 = tq25 98 9 := (Gs54 98 9 rfl).trans es51.2.2.2.2.2.2.2.2.2.2.1
        have es54_11 : s54 101 18 = tq25 101 18 := (Gs54 101 18 rfl).trans es51.2.2.2.2.2.2.2.2.2.2.2.1
        have es54_12 : s54 101 25 = tq25 101 25 := (Gs54 101 25 rfl).trans es51.2.2.2.2.2.2.2.2.2.2.2.2.1
        have es54_13 : s54 101 43 = tq25 101 43 := (Gs54 101 43 rfl).trans es51.2.2.2.2.2.2.2.2.2.2.2.2.2.1
        have es54_14 : s54 98 11 = 0 := (Gs54 98 11 rfl).trans es51.2.2.2.2.2.2.2.2.2.2.2.2.2.2.1
        have es54_15 : s54 98 12 = (tq25 98 13) := (Gs54 98 12 rfl).trans es51.2.2.2.2.2.2.2.2.2.2.2.2.2.2.2.1
        have es54_16 : s54 98 29 = σ2 98 29 := (Gs54 98 29 rfl).trans es51.2.2.2.2.2.2.2.2.2.2.2.2.2.2.2.2.1
        have es54_17 : s54 110 0 = σ2 110 0 := (Gs54 110 0 rfl).trans es51.2.2.2.2.2.2.2.2.2.2.2.2.2.2.2.2.2.1
        have es54_18 : s54 110 1 = σ2 110 1 := (Gs54 110 1 rfl).trans es51.2.2.2.2.2.2.2.2.2.2.2.2.2.2.2.2.2.2.1
        have es54_19 : s54 98 1 = σ2 98 1 := (Gs54 98 1 rfl).trans es51.2.2.2.2.2.2.2.2.2.2.2.2.2.2.2.2.2.2.2.1
        have es54_20 : s54 98 2 = σ2 98 2 := (Gs54 98 2 rfl).trans es51.2.2.2.2.2.2.2.2.2.2.2.2.2.2.2.2.2.2.2.2.1
        refine h_aload_n (pc' := 176) rfl rfl rfl ?_
        refine h_aload_n (pc' := 177) rfl rfl rfl ?_
        refine h_getI (pc' := 180) (v := tq25 98 5) rfl rfl rfl rfl rfl es54_6 (fun z55 hz55 => ?_)
        have tz55 := tf_98_5 Itq25
        refine h_put (pc' := 183) rfl rfl rfl rfl rfl rfl hz55 rfl (h_fgt (E := fun s => s 98 15 = tq25 98 15 ∧ s 98 16 = tq25 98 16 ∧ s 98 17 = tq25 98 17 ∧ s 98 18 = tq25 98 18 ∧ s 98 13 = tq25 98 13 ∧ s 98 14 = tq25 98 14 ∧ s 98 5 = tq25 98 5 ∧ s 98 6 = tq25 98 6 ∧ s 98 7 = tq25 98 7 ∧ s 98 8 = tq25 98 8 ∧ s 98 9 = tq25 98 9 ∧ s 101 18 = tq25 101 18 ∧ s 101 25 = tq25 101 25 ∧ s 101 43 = tq25 101 43 ∧ s 98 11 = 0 ∧ s 98 12 = (tq25 98 13) ∧ s 98 29 = σ2 98 29 ∧ s 110 0 = σ2 110 0 ∧ s 110 1 = σ2 110 1 ∧ s 98 1 = (tq25 98 5) ∧ s 98 2 = σ2 98 2 ∧ s = h_up s54 98 1 (tq25 98 5)) _ (if_98_1 Is54 (by omega)) (Fs54.up rfl) ⟨es54_0, es54_1, es54_2, es54_3, es54_4, es54_5, es54_6, es54_7, es54_8, es54_9, es54_10, es54_11, es54_12, es54_13, es54_14, es54_15, es54_16, es54_17, es54_18, rfl, es54_20, rfl⟩ (fun s56 Is56 Fs56 (es56 : s56 98 15 = tq25 98 15 ∧ s56 98 16 = tq25 98 16 ∧ s56 98 17 = tq25 98 17 ∧ s56 98 18 = tq25 98 18 ∧ s56 98 13 = tq25 98 13 ∧ s56 98 14 = tq25 98 14 ∧ s56 98 5 = tq25 98 5 ∧ s56 98 6 = tq25 98 6 ∧ s56 98 7 = tq25 98 7 ∧ s56 98 8 = tq25 98 8 ∧ s56 98 9 = tq25 98 9 ∧ s56 101 18 = tq25 101 18 ∧ s56 101 25 = tq25 101 25 ∧ s56 101 43 = tq25 101 43 ∧ s56 98 11 = 0 ∧ s56 98 12 = (tq25 98 13) ∧ s56 98 29 = σ2 98 29 ∧ s56 110 0 = σ2 110 0 ∧ s56 110 1 = σ2 110 1 ∧ s56 98 1 = (tq25 98 5) ∧ s56 98 2 = σ2 98 2 ∧ s56 = h_up s54 98 1 (tq25 98 5)) => ?_))
        refine h_aload_n (pc' := 184) rfl rfl rfl ?_
        refine h_aload_n (pc' := 185) rfl rfl rfl ?_
        refine h_getI (pc' := 188) (v := tq25 98 6) rfl rfl rfl rfl rfl es56.2.2.2.2.2.2.2.1 (fun z57 hz57 => ?_)
        have tz57 := tf_98_6 Itq25
        refine h_put (pc' := 191) rfl rfl rfl rfl rfl rfl hz57 rfl (h_fgt (E := fun s => s 98 15 = tq25 98 15 ∧ s 98 16 = tq25 98 16 ∧ s 98 17 = tq25 98 17 ∧ s 98 18 = tq25 98 18 ∧ s 98 13 = tq25 98 13 ∧ s 98 14 = tq25 98 14 ∧ s 98 5 = tq25 98 5 ∧ s 98 6 = tq25 98 6 ∧ s 98 7 = tq25 98 7 ∧ s 98 8 = tq25 98 8 ∧ s 98 9 = tq25 98 9 ∧ s 101 18 = tq25 101 18 ∧ s 101 25 = tq25 101 25 ∧ s 101 43 = tq25 101 43 ∧ s 98 11 = 0 ∧ s 98 12 = (tq25 98 13) ∧ s 98 29 = σ2 98 29 ∧ s 110 0 = σ2 110 0 ∧ s 110 1 = σ2 110 1 ∧ s 98 1 = (tq25 98 5) ∧ s 98 2 = (tq25 98 6) ∧ s = h_up s56 98 2 (tq25 98 6)) _ (if_98_2 Is56 (by omega)) (Fs56.up rfl) ⟨es56.1, es56.2.1, es56.2.2.1, es56.2.2.2.1, es56.2.2.2.2.1, es56.2.2.2.2.2.1, es56.2.2.2.2.2.2.1, es56.2.2.2.2.2.2.2.1, es56.2.2.2.2.2.2.2.2.1, es56.2.2.2.2.2.2.2.2.2.1, es56.2.2.2.2.2.2.2.2.2.2.1, es56.2.2.2.2.2.2.2.2.2.2.2.1, es56.2.2.2.2.2.2.2.2.2.2.2.2.1, es56.2.2.2.2.2.2.2.2.2.2.2.2.2.1, es56.2.2.2.2.2.2.2.2.2.2.2.2.2.2.1, es56.2.2.2.2.2.2.2.2.2.2.2.2.2.2.2.1, es56.2.2.2.2.2.2.2.2.2.2.2.2.2.2.2.2.1, es56.2.2.2.2.2.2.2.2.2.2.2.2.2.2.2.2.2.1, es56.2.2.2.2.2.2.2.2.2.2.2.2.2.2.2.2.2.2.1, es56.2.2.2.2.2.2.2.2.2.2.2.2.2.2.2.2.2.2.2.1, rfl, rfl⟩ (fun s58 Is58 Fs58 (es58 : s58 98 15 = tq25 98 15 ∧ s58 98 16 = tq25 98 16 ∧ s58 98 17 = tq25 98 17 ∧ s58 98 18 = tq25 98 18 ∧ s58 98 13 = tq25 98 13 ∧ s58 98 14 = tq25 98 14 ∧ s58 98 5 = tq25 98 5 ∧ s58 98 6 = tq25 98 6 ∧ s58 98 7 = tq25 98 7 ∧ s58 98 8 = tq25 98 8 ∧ s58 98 9 = tq25 98 9 ∧ s58 101 18 = tq25 101 18 ∧ s58 101 25 = tq25 101 25 ∧ s58 101 43 = tq25 101 43 ∧ s58 98 11 = 0 ∧ s58 98 12 = (tq25 98 13) ∧ s58 98 29 = σ2 98 29 ∧ s58 110 0 = σ2 110 0 ∧ s58 110 1 = σ2 110 1 ∧ s58 98 1 = (tq25 98 5) ∧ s58 98 2 = (tq25 98 6) ∧ s58 = h_up s56 98 2 (tq25 98 6)) => ?_))
        refine h_aload_n (pc' := 192) rfl rfl rfl ?_
        refine h_iconst (pc' := 193) (x := (Int32.ofInt 0)) rfl rfl rfl ?_
        refine h_put (pc' := 196) rfl rfl rfl rfl rfl rfl ci_0 rfl (h_fgt (E := fun s => s 98 15 = tq25 98 15 ∧ s 98 16 = tq25 98 16 ∧ s 98 17 = tq25 98 17 ∧ s 98 18 = tq25 98 18 ∧ s 98 13 = tq25 98 13 ∧ s 98 14 = tq25 98 14 ∧ s 98 5 = tq25 98 5 ∧ s 98 6 = tq25 98 6 ∧ s 98 7 = tq25 98 7 ∧ s 98 8 = tq25 98 8 ∧ s 98 9 = tq25 98 9 ∧ s 101 18 = tq25 101 18 ∧ s 101 25 = tq25 101 25 ∧ s 101 43 = tq25 101 43 ∧ s 98 11 = 0 ∧ s 98 12 = (tq25 98 13) ∧ s 98 29 = 0 ∧ s 110 0 = σ2 110 0 ∧ s 110 1 = σ2 110 1 ∧ s 98 1 = (tq25 98 5) ∧ s 98 2 = (tq25 98 6) ∧ s = h_up s58 98 29 0) _ (if_98_29 Is58 (by omega)) (Fs58.up rfl) ⟨es58.1, es58.2.1, es58.2.2.1, es58.2.2.2.1, es58.2.2.2.2.1, es58.2.2.2.2.2.1, es58.2.2.2.2.2.2.1, es58.2.2.2.2.2.2.2.1, es58.2.2.2.2.2.2.2.2.1, es58.2.2.2.2.2.2.2.2.2.1, es58.2.2.2.2.2.2.2.2.2.2.1, es58.2.2.2.2.2.2.2.2.2.2.2.1, es58.2.2.2.2.2.2.2.2.2.2.2.2.1, es58.2.2.2.2.2.2.2.2.2.2.2.2.2.1, es58.2.2.2.2.2.2.2.2.2.2.2.2.2.2.1, es58.2.2.2.2.2.2.2.2.2.2.2.2.2.2.2.1, rfl, es58.2.2.2.2.2.2.2.2.2.2.2.2.2.2.2.2.2.1, es58.2.2.2.2.2.2.2.2.2.2.2.2.2.2.2.2.2.2.1, es58.2.2.2.2.2.2.2.2.2.2.2.2.2.2.2.2.2.2.2.1, es58.2.2.2.2.2.2.2.2.2.2.2.2.2.2.2.2.2.2.2.2.1, rfl⟩ (fun s59 Is59 Fs59 (es59 : s59 98 15 = tq25 98 15 ∧ s59 98 16 = tq25 98 16 ∧ s59 98 17 = tq25 98 17 ∧ s59 98 18 = tq25 98 18 ∧ s59 98 13 = tq25 98 13 ∧ s59 98 14 = tq25 98 14 ∧ s59 98 5 = tq25 98 5 ∧ s59 98 6 = tq25 98 6 ∧ s59 98 7 = tq25 98 7 ∧ s59 98 8 = tq25 98 8 ∧ s59 98 9 = tq25 98 9 ∧ s59 101 18 = tq25 101 18 ∧ s59 101 25 = tq25 101 25 ∧ s59 101 43 = tq25 101 43 ∧ s59 98 11 = 0 ∧ s59 98 12 = (tq25 98 13) ∧ s59 98 29 = 0 ∧ s59 110 0 = σ2 110 0 ∧ s59 110 1 = σ2 110 1 ∧ s59 98 1 = (tq25 98 5) ∧ s59 98 2 = (tq25 98 6) ∧ s59 = h_up s58 98 29 0) => ?_))
        refine h_aload_n (pc' := 197) rfl rfl rfl ?_
        refine h_getR (pc' := 200) rfl rfl rfl rfl rfl ?_
        refine h_iconst (pc' := 201) (x := (Int32.ofInt 0)) rfl rfl rfl ?_
        refine h_iconst (pc' := 202) (x := (Int32.ofInt 0)) rfl rfl rfl ?_
        refine h_bast (pc' := 203) rfl rfl rfl rfl ci_0 (by omega) (by omega) ci_0 (by omega) (h_fgt (E := fun s => s 98 15 = tq25 98 15 ∧ s 98 16 = tq25 98 16 ∧ s 98 17 = tq25 98 17 ∧ s 98 18 = tq25 98 18 ∧ s 98 13 = tq25 98 13 ∧ s 98 14 = tq25 98 14 ∧ s 98 5 = tq25 98 5 ∧ s 98 6 = tq25 98 6 ∧ s 98 7 = tq25 98 7 ∧ s 98 8 = tq25 98 8 ∧ s 98 9 = tq25 98 9 ∧ s 101 18 = tq25 101 18 ∧ s 101 25 = tq25 101 25 ∧ s 101 43 = tq25 101 43 ∧ s 98 11 = 0 ∧ s 98 12 = (tq25 98 13) ∧ s 98 29 = 0 ∧ s 110 0 = 0 ∧ s 110 1 = σ2 110 1 ∧ s 98 1 = (tq25 98 5) ∧ s 98 2 = (tq25 98 6) ∧ s = h_up s59 110 0 0) _ (in_110 Is59 (by omega)) (Fs59.up rfl) ⟨es59.1, es59.2.1, es59.2.2.1, es59.2.2.2.1, es59.2.2.2.2.1, es59.2.2.2.2.2.1, es59.2.2.2.2.2.2.1, es59.2.2.2.2.2.2.2.1, es59.2.2.2.2.2.2.2.2.1, es59.2.2.2.2.2.2.2.2.2.1, es59.2.2.2.2.2.2.2.2.2.2.1, es59.2.2.2.2.2.2.2.2.2.2.2.1, es59.2.2.2.2.2.2.2.2.2.2.2.2.1, es59.2.2.2.2.2.2.2.2.2.2.2.2.2.1, es59.2.2.2.2.2.2.2.2.2.2.2.2.2.2.1, es59.2.2.2.2.2.2.2.2.2.2.2.2.2.2.2.1, es59.2.2.2.2.2.2.2.2.2.2.2.2.2.2.2.2.1, rfl, es59.2.2.2.2.2.2.2.2.2.2.2.2.2.2.2.2.2.2.1, es59.2.2.2.2.2.2.2.2.2.2.2.2.2.2.2.2.2.2.2.1, es59.2.2.2.2.2.2.2.2.2.2.2.2.2.2.2.2.2.2.2.2.1, rfl⟩ (fun s60 Is60 Fs60 (es60 : s60 98 15 = tq25 98 15 ∧ s60 98 16 = tq25 98 16 ∧ s60 98 17 = tq25 98 17 ∧ s60 98 18 = tq25 98 18 ∧ s60 98 13 = tq25 98 13 ∧ s60 98 14 = tq25 98 14 ∧ s60 98 5 = tq25 98 5 ∧ s60 98 6 = tq25 98 6 ∧ s60 98 7 = tq25 98 7 ∧ s60 98 8 = tq25 98 8 ∧ s60 98 9 = tq25 98 9 ∧ s60 101 18 = tq25 101 18 ∧ s60 101 25 = tq25 101 25 ∧ s60 101 43 = tq25 101 43 ∧ s60 98 11 = 0 ∧ s60 98 12 = (tq25 98 13) ∧ s60 98 29 = 0 ∧ s60 110 0 = 0 ∧ s60 110 1 = σ2 110 1 ∧ s60 98 1 = (tq25 98 5) ∧ s60 98 2 = (tq25 98 6) ∧ s60 = h_up s59 110 0 0) => ?_))
        refine h_aload_n (pc' := 204) rfl rfl rfl ?_
        refine h_getR (pc' := 207) rfl rfl rfl rfl rfl ?_
        refine h_iconst (pc' := 208) (x := (Int32.ofInt 1)) rfl rfl rfl ?_
        refine h_iconst (pc' := 209) (x := (Int32.ofInt 0)) rfl rfl rfl ?_
        refine h_bast (pc' := 210) rfl rfl rfl rfl ci_1 (by omega) (by omega) ci_0 (by omega) (h_fgt (E := fun s => s 98 15 = tq25 98 15 ∧ s 98 16 = tq25 98 16 ∧ s 98 17 = tq25 98 17 ∧ s 98 18 = tq25 98 18 ∧ s 98 13 = tq25 98 13 ∧ s 98 14 = tq25 98 14 ∧ s 98 5 = tq25 98 5 ∧ s 98 6 = tq25 98 6 ∧ s 98 7 = tq25 98 7 ∧ s 98 8 = tq25 98 8 ∧ s 98 9 = tq25 98 9 ∧ s 101 18 = tq25 101 18 ∧ s 101 25 = tq25 101 25 ∧ s 101 43 = tq25 101 43 ∧ s 98 11 = 0 ∧ s 98 12 = (tq25 98 13) ∧ s 98 29 = 0 ∧ s 110 0 = 0 ∧ s 110 1 = 0 ∧ s 98 1 = (tq25 98 5) ∧ s 98 2 = (tq25 98 6) ∧ s = h_up s60 110 1 0) _ (in_110 Is60 (by omega)) (Fs60.up rfl) ⟨es60.1, es60.2.1, es60.2.2.1, es60.2.2.2.1, es60.2.2.2.2.1, es60.2.2.2.2.2.1, es60.2.2.2.2.2.2.1, es60.2.2.2.2.2.2.2.1, es60.2.2.2.2.2.2.2.2.1, es60.2.2.2.2.2.2.2.2.2.1, es60.2.2.2.2.2.2.2.2.2.2.1, es60.2.2.2.2.2.2.2.2.2.2.2.1, es60.2.2.2.2.2.2.2.2.2.2.2.2.1, es60.2.2.2.2.2.2.2.2.2.2.2.2.2.1, es60.2.2.2.2.2.2.2.2.2.2.2.2.2.2.1, es60.2.2.2.2.2.2.2.2.2.2.2.2.2.2.2.1, es60.2.2.2.2.2.2.2.2.2.2.2.2.2.2.2.2.1, es60.2.2.2.2.2.2.2.2.2.2.2.2.2.2.2.2.2.1, rfl, es60.2.2.2.2.2.2.2.2.2.2.2.2.2.2.2.2.2.2.2.1, es60.2.2.2.2.2.2.2.2.2.2.2.2.2.2.2.2.2.2.2.2.1, rfl⟩ (fun s61 Is61 Fs61 (es61 : s61 98 15 = tq25 98 15 ∧ s61 98 16 = tq25 98 16 ∧ s61 98 17 = tq25 98 17 ∧ s61 98 18 = tq25 98 18 ∧ s61 98 13 = tq25 98 13 ∧ s61 98 14 = tq25 98 14 ∧ s61 98 5 = tq25 98 5 ∧ s61 98 6 = tq25 98 6 ∧ s61 98 7 = tq25 98 7 ∧ s61 98 8 = tq25 98 8 ∧ s61 98 9 = tq25 98 9 ∧ s61 101 18 = tq25 101 18 ∧ s61 101 25 = tq25 101 25 ∧ s61 101 43 = tq25 101 43 ∧ s61 98 11 = 0 ∧ s61 98 12 = (tq25 98 13) ∧ s61 98 29 = 0 ∧ s61 110 0 = 0 ∧ s61 110 1 = 0 ∧ s61 98 1 = (tq25 98 5) ∧ s61 98 2 = (tq25 98 6) ∧ s61 = h_up s60 110 1 0) => ?_))
        refine h_iload_n (pc' := 211) rfl rfl rfl ?_
        refine h_iret rfl rfl (d_endM hlw48 hRw48 ?_)
        show h_T g_P (g_Y ns) 84 82 [(0, .ref 9)] [.int z47] s46 _
        exact h_iret rfl rfl (d_cs.nil (kk _ _ hz47 _ _ hmq22_1 _ _ Is46 Is61 Fs46 Fs61 (by omega) (by omega) (by omega) (by omega) (by omega) (Or.inr ⟨by omega, by omega, by omega, by omega, by omega, by omega, by omega, by omega⟩)))
