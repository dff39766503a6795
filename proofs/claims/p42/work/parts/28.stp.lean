set_option maxHeartbeats 100000000 in
theorem ls_te {ns : Nat} {σ1 σ2 : h_S} (hI1 : h_I σ1) (hI2 : h_I σ2) (hTL : d_tape σ1 σ2)  (pr0 : σ1 64 2 = σ2 98 15) (pr1 : σ2 98 13 = 0) (pr2 : σ1 64 2 ≤ σ1 64 1) (pr3 : σ1 64 2 = σ1 64 1) {cs1 cs2 : List d_Fr} {Q : d_Q} (kx0 : ∀ (s t : h_S), h_I s → h_I t → h_F (k_in k_lx) s σ1 → h_F (k_in k_lm) t σ2 → (s 64 2 = t 98 15) → (s 64 4 = t 98 16) → (s 63 2 = σ1 63 2) → (s 64 2 ≤ σ1 64 1) → (σ1 64 2 ≤ s 64 2) → (((s 64 3 = 0) ∧ (t 98 13 = 0) ∧ (t 98 17 = 0) ∧ (s 64 4 = σ1 64 1))) → ∀ lv2 mem2, h_loc [(0, .ref 98)] lv2 → h_R (g_Y ns) t mem2 → h_T g_P (g_Y ns) 75 298 [(0, .ref 64)] [] s (d_cs g_P (g_Y ns) cs1 (d_L g_P (g_Y ns) (148, 269, lv2, []) cs2 mem2 Q))) : ∀ lv2 mem2, h_loc [(0, .ref 98)] lv2 → h_R (g_Y ns) σ2 mem2 → h_T g_P (g_Y ns) 75 38 [(0, .ref 64)] [] σ1 (d_cs g_P (g_Y ns) cs1 (d_L g_P (g_Y ns) (148, 34, lv2, []) cs2 mem2 Q)) := by
  intro lv2 mem2 hl2 hR2
  have hT := hTL.1
  have hL := hTL.2
  have F1 : h_F (k_in k_lx) σ1 σ1 := h_F.rf
  have F2 : h_F (k_in k_lm) σ2 σ2 := h_F.rf
  have ge0 := tf_64_2 hI1
  have ge1 := tf_64_1 hI1
  refine h_aload_n (pc' := 39) rfl rfl rfl ?_
  refine h_aload_n (pc' := 40) rfl rfl rfl ?_
  refine h_getI (pc' := 43) (v := σ1 64 2) rfl rfl rfl rfl rfl rfl (fun z1 hz1 => ?_)
  have tz1 := tf_64_2 hI1
  refine h_put (pc' := 46) rfl rfl rfl rfl rfl rfl hz1 rfl (h_fgt (E := fun s => s 64 2 = σ1 64 2 ∧ s 64 4 = (σ1 64 2) ∧ s 64 3 = σ1 64 3 ∧ s 64 5 = σ1 64 5 ∧ s 63 2 = σ1 63 2 ∧ s 63 3 = σ1 63 3 ∧ s 64 1 = σ1 64 1) _ (if_64_4 hI1 (by omega)) (F1.up rfl) ⟨rfl, rfl, rfl, rfl, rfl, rfl, rfl⟩ (fun s2 Is2 Fs2 (es2 : s2 64 2 = σ1 64 2 ∧ s2 64 4 = (σ1 64 2) ∧ s2 64 3 = σ1 64 3 ∧ s2 64 5 = σ1 64 5 ∧ s2 63 2 = σ1 63 2 ∧ s2 63 3 = σ1 63 3 ∧ s2 64 1 = σ1 64 1) => ?_))
  refine h_aload_n (pc' := 47) rfl rfl rfl ?_
  refine h_iconst (pc' := 48) (x := (Int32.ofInt 0)) rfl rfl rfl ?_
  refine h_put (pc' := 51) rfl rfl rfl rfl rfl rfl ci_0 rfl (h_fgt (E := fun s => s 64 2 = σ1 64 2 ∧ s 64 4 = (σ1 64 2) ∧ s 64 3 = σ1 64 3 ∧ s 64 5 = 0 ∧ s 63 2 = σ1 63 2 ∧ s 63 3 = σ1 63 3 ∧ s 64 1 = σ1 64 1) _ (if_64_5 Is2 (h_rgv ci_0)) (Fs2.up rfl) ⟨es2.1, es2.2.1, es2.2.2.1, rfl, es2.2.2.2.2.1, es2.2.2.2.2.2.1, es2.2.2.2.2.2.2⟩ (fun s3 Is3 Fs3 (es3 : s3 64 2 = σ1 64 2 ∧ s3 64 4 = (σ1 64 2) ∧ s3 64 3 = σ1 64 3 ∧ s3 64 5 = 0 ∧ s3 63 2 = σ1 63 2 ∧ s3 63 3 = σ1 63 3 ∧ s3 64 1 = σ1 64 1) => ?_))
  clear es2
  refine h_aload_n (pc' := 52) rfl rfl rfl ?_
  refine h_getI (pc' := 55) (v := σ1 64 2) rfl rfl rfl rfl rfl es3.1 (fun z4 hz4 => ?_)
  refine h_aload_n (pc' := 56) rfl rfl rfl ?_
  refine h_getI (pc' := 59) (v := σ1 64 1) rfl rfl rfl rfl rfl es3.2.2.2.2.2.2 (fun z5 hz5 => ?_)
  have tz5 := tf_64_1 hI1
  refine h_cge (tg := 74) (pc' := 62) rfl rfl rfl hz4 hz5 (fun c6 => ?_) (fun c6 => absurd c6 (by omega))
  clear hz4 hz5
  refine h_iconst (pc' := 75) (x := (Int32.ofInt (-1))) rfl rfl rfl ?_
  refine h_istore_n (pc' := 76) (M := [(1, .int (Int32.ofInt (-1))), (0, .ref 64)]) rfl rfl rfl rfl ?_
  refine h_iload_n (pc' := 77) rfl rfl rfl ?_
  refine h_zge (tg := 88) (pc' := 80) rfl rfl rfl ci_m1 (fun c7 => absurd c7 (by omega)) (fun c7 => ?_)
  refine h_aload_n (pc' := 81) rfl rfl rfl ?_
  refine h_iconst (pc' := 82) (x := (Int32.ofInt 0)) rfl rfl rfl ?_
  refine h_put (pc' := 85) rfl rfl rfl rfl rfl rfl ci_0 rfl (h_fgt (E := fun s => s 64 2 = σ1 64 2 ∧ s 64 4 = (σ1 64 2) ∧ s 64 3 = 0 ∧ s 64 5 = 0 ∧ s 63 2 = σ1 63 2 ∧ s 63 3 = σ1 63 3 ∧ s 64 1 = σ1 64 1) _ (if_64_3 Is3 (by omega)) (Fs3.up rfl) ⟨es3.1, es3.2.1, rfl, es3.2.2.2.1, es3.2.2.2.2.1, es3.2.2.2.2.2.1, es3.2.2.2.2.2.2⟩ (fun s8 Is8 Fs8 (es8 : s8 64 2 = σ1 64 2 ∧ s8 64 4 = (σ1 64 2) ∧ s8 64 3 = 0 ∧ s8 64 5 = 0 ∧ s8 63 2 = σ1 63 2 ∧ s8 63 3 = σ1 63 3 ∧ s8 64 1 = σ1 64 1) => ?_))
  clear es3
  refine h_goto (pc' := 298) rfl rfl ?_
  refine d_toM (g_inj ns) hl2 hR2 (fun lvw9 memw9 hlw9 hRw9 => ?_)
  show h_T g_P (g_Y ns) 148 34 [(0, .ref 98)] [] σ2 _
  refine h_aload_n (pc' := 35) rfl rfl rfl ?_
  refine h_aload_n (pc' := 36) rfl rfl rfl ?_
  refine h_getI (pc' := 39) (v := σ2 98 15) rfl rfl rfl rfl rfl rfl (fun z10 hz10 => ?_)
  have tz10 := tf_98_15 hI2
  refine h_put (pc' := 42) rfl rfl rfl rfl rfl rfl hz10 rfl (h_fgt (E := fun s => s 98 15 = σ2 98 15 ∧ s 98 16 = (σ2 98 15) ∧ s 98 17 = σ2 98 17 ∧ s 98 18 = σ2 98 18 ∧ s 98 13 = σ2 98 13 ∧ s 98 14 = σ2 98 14) _ (if_98_16 hI2 (by omega)) (F2.up rfl) ⟨rfl, rfl, rfl, rfl, rfl, rfl⟩ (fun s11 Is11 Fs11 (es11 : s11 98 15 = σ2 98 15 ∧ s11 98 16 = (σ2 98 15) ∧ s11 98 17 = σ2 98 17 ∧ s11 98 18 = σ2 98 18 ∧ s11 98 13 = σ2 98 13 ∧ s11 98 14 = σ2 98 14) => ?_))
  refine h_aload_n (pc' := 43) rfl rfl rfl ?_
  refine h_aload_n (pc' := 44) rfl rfl rfl ?_
  refine h_getI (pc' := 47) (v := σ2 98 15) rfl rfl rfl rfl rfl es11.1 (fun z12 hz12 => ?_)
  refine h_call (sp := false) (pc' := 50) (M := [(0, .ref 98), (1, .int z12)]) rfl rfl rfl rfl rfl rfl rfl rfl ?_
  refine h_iload_n (pc' := 1) rfl rfl rfl ?_
  refine h_aload_n (pc' := 2) rfl rfl rfl ?_
  refine h_getI (pc' := 5) (v := σ2 98 11) rfl rfl rfl rfl rfl (Fs11 98 11 rfl) (fun z13 hz13 => ?_)
  have tz13 := tf_98_11 hI2
  refine h_cge (tg := 17) (pc' := 8) rfl rfl rfl hz12 hz13 (fun c14 => ?_) (fun c14 => absurd c14 (by omega))
  clear hz13
  refine h_bipush (pc' := 19) (x := (Int32.ofInt (-4))) rfl rfl cb_m4 ?_
  refine h_iret rfl rfl (h_Kv ?_)
  clear hz12
  refine h_istore_n (pc' := 51) (M := [(1, .int (Int32.ofInt (-4))), (0, .ref 98)]) rfl rfl rfl rfl ?_
  refine h_aload_n (pc' := 52) rfl rfl rfl ?_
  refine h_iconst (pc' := 53) (x := (Int32.ofInt 0)) rfl rfl rfl ?_
  refine h_put (pc' := 56) rfl rfl rfl rfl rfl rfl ci_0 rfl (h_fgt (E := fun s => s 98 15 = σ2 98 15 ∧ s 98 16 = (σ2 98 15) ∧ s 98 17 = σ2 98 17 ∧ s 98 18 = 0 ∧ s 98 13 = σ2 98 13 ∧ s 98 14 = σ2 98 14) _ (if_98_18 Is11 (by omega)) (Fs11.up rfl) ⟨es11.1, es11.2.1, es11.2.2.1, rfl, es11.2.2.2.2.1, es11.2.2.2.2.2⟩ (fun s15 Is15 Fs15 (es15 : s15 98 15 = σ2 98 15 ∧ s15 98 16 = (σ2 98 15) ∧ s15 98 17 = σ2 98 17 ∧ s15 98 18 = 0 ∧ s15 98 13 = σ2 98 13 ∧ s15 98 14 = σ2 98 14) => ?_))
  clear es11
  refine h_iload_n (pc' := 57) rfl rfl rfl ?_
  refine h_bipush (pc' := 59) (x := (Int32.ofInt (-4))) rfl rfl cb_m4 ?_
  refine h_cne (tg := 70) (pc' := 62) rfl rfl rfl ci_m4 ci_m4 (fun c16 => absurd c16 (by omega)) (fun c16 => ?_)
  refine h_aload_n (pc' := 63) rfl rfl rfl ?_
  refine h_iconst (pc' := 64) (x := (Int32.ofInt 0)) rfl rfl rfl ?_
  refine h_put (pc' := 67) rfl rfl rfl rfl rfl rfl ci_0 rfl (h_fgt (E := fun s => s 98 15 = σ2 98 15 ∧ s 98 16 = (σ2 98 15) ∧ s 98 17 = 0 ∧ s 98 18 = 0 ∧ s 98 13 = σ2 98 13 ∧ s 98 14 = σ2 98 14) _ (if_98_17 Is15 (by omega)) (Fs15.up rfl) ⟨es15.1, es15.2.1, rfl, es15.2.2.2.1, es15.2.2.2.2.1, es15.2.2.2.2.2⟩ (fun s17 Is17 Fs17 (es17 : s17 98 15 = σ2 98 15 ∧ s17 98 16 = (σ2 98 15) ∧ s17 98 17 = 0 ∧ s17 98 18 = 0 ∧ s17 98 13 = σ2 98 13 ∧ s17 98 14 = σ2 98 14) => ?_))
  clear es15
  refine h_goto (pc' := 269) rfl rfl ?_
  refine d_toL (g_inj ns) hlw9 hRw9 (fun lvw18 memw18 hlw18 hRw18 => ?_)
  show h_T g_P (g_Y ns) 75 298 [(1, .int (Int32.ofInt (-1))), (0, .ref 64)] [] s8 _
  exact h_wk [(0, .ref 64)] ⟨rfl, trivial⟩ (kx0 _ _ Is8 Is17 Fs8 Fs17 (by omega) (by omega) (by omega) (by omega) (by omega) ⟨by omega, by omega, by omega, by omega⟩ _ _ (h_al_ok ⟨rfl, trivial⟩ hlw18) hRw18)
set_option maxHeartbeats 100000000 in
theorem ls_t0 {ns : Nat} {σ1 σ2 : h_S} (hI1 : h_I σ1) (hI2 : h_I σ2) (hTL : d_tape σ1 σ2)  (pr0 : σ1 64 2 = σ2 98 15) (pr1 : σ2 98 13 = 0) (pr2 : σ1 64 2 ≤ σ1 64 1) (pr3 : σ1 64 2 < σ1 64 1 ∧ 0 ≤ σ1 65 (σ1 64 2) ∧ σ1 65 (σ1 64 2) ≤ 47) {cs1 cs2 : List d_Fr} {Q : d_Q} (kx0 : ∀ (s t : h_S), h_I s → h_I t → h_F (k_in k_lx) s σ1 → h_F (k_in k_lm) t σ2 → (s 64 2 = t 98 15) → (s 64 4 = t 98 16) → (s 63 2 = σ1 63 2) → (s 64 2 ≤ σ1 64 1) → (σ1 64 2 ≤ s 64 2) → (((s 64 3 = 4) ∧ (t 98 13 = 1) ∧ (s 64 4 < s 64 2) ∧ (σ1 64 2 < s 64 2) ∧ (s 64 4 = t 98 14))) → ∀ lv2 mem2, h_loc [(0, .ref 98)] lv2 → h_R (g_Y ns) t mem2 → h_T g_P (g_Y ns) 75 298 [(0, .ref 64)] [] s (d_cs g_P (g_Y ns) cs1 (d_L g_P (g_Y ns) (148, 269, lv2, []) cs2 mem2 Q))) : ∀ lv2 mem2, h_loc [(0, .ref 98)] lv2 → h_R (g_Y ns) σ2 mem2 → h_T g_P (g_Y ns) 75 38 [(0, .ref 64)] [] σ1 (d_cs g_P (g_Y ns) cs1 (d_L g_P (g_Y ns) (148, 34, lv2, []) cs2 mem2 Q)) := by
  intro lv2 mem2 hl2 hR2
  have hT := hTL.1
  have hL := hTL.2
  have F1 : h_F (k_in k_lx) σ1 σ1 := h_F.rf
  have F2 : h_F (k_in k_lm) σ2 σ2 := h_F.rf
  have ge0 := tf_64_2 hI1
  have ge1 := tf_64_1 hI1
  refine h_aload_n (pc' := 39) rfl rfl rfl ?_
  refine h_aload_n (pc' := 40) rfl rfl rfl ?_
  refine h_getI (pc' := 43) (v := σ1 64 2) rfl rfl rfl rfl rfl rfl (fun z1 hz1 => ?_)
  have tz1 := tf_64_2 hI1
  refine h_put (pc' := 46) rfl rfl rfl rfl rfl rfl hz1 rfl (h_fgt (E := fun s => s 64 2 = σ1 64 2 ∧ s 64 4 = (σ1 64 2) ∧ s 64 3 = σ1 64 3 ∧ s 64 5 = σ1 64 5 ∧ s 63 2 = σ1 63 2 ∧ s 63 3 = σ1 63 3 ∧ s 64 1 = σ1 64 1) _ (if_64_4 hI1 (by omega)) (F1.up rfl) ⟨rfl, rfl, rfl, rfl, rfl, rfl, rfl⟩ (fun s2 Is2 Fs2 (es2 : s2 64 2 = σ1 64 2 ∧ s2 64 4 = (σ1 64 2) ∧ s2 64 3 = σ1 64 3 ∧ s2 64 5 = σ1 64 5 ∧ s2 63 2 = σ1 63 2 ∧ s2 63 3 = σ1 63 3 ∧ s2 64 1 = σ1 64 1) => ?_))
  refine h_aload_n (pc' := 47) rfl rfl rfl ?_
  refine h_iconst (pc' := 48) (x := (Int32.ofInt 0)) rfl rfl rfl ?_
  refine h_put (pc' := 51) rfl rfl rfl rfl rfl rfl ci_0 rfl (h_fgt (E := fun s => s 64 2 = σ1 64 2 ∧ s 64 4 = (σ1 64 2) ∧ s 64 3 = σ1 64 3 ∧ s 64 5 = 0 ∧ s 63 2 = σ1 63 2 ∧ s 63 3 = σ1 63 3 ∧ s 64 1 = σ1 64 1) _ (if_64_5 Is2 (h_rgv ci_0)) (Fs2.up rfl) ⟨es2.1, es2.2.1, es2.2.2.1, rfl, es2.2.2.2.2.1, es2.2.2.2.2.2.1, es2.2.2.2.2.2.2⟩ (fun s3 Is3 Fs3 (es3 : s3 64 2 = σ1 64 2 ∧ s3 64 4 = (σ1 64 2) ∧ s3 64 3 = σ1 64 3 ∧ s3 64 5 = 0 ∧ s3 63 2 = σ1 63 2 ∧ s3 63 3 = σ1 63 3 ∧ s3 64 1 = σ1 64 1) => ?_))
  clear es2
  refine h_aload_n (pc' := 52) rfl rfl rfl ?_
  refine h_getI (pc' := 55) (v := σ1 64 2) rfl rfl rfl rfl rfl es3.1 (fun z4 hz4 => ?_)
  refine h_aload_n (pc' := 56) rfl rfl rfl ?_
  refine h_getI (pc' := 59) (v := σ1 64 1) rfl rfl rfl rfl rfl es3.2.2.2.2.2.2 (fun z5 hz5 => ?_)
  have tz5 := tf_64_1 hI1
  refine h_cge (tg := 74) (pc' := 62) rfl rfl rfl hz4 hz5 (fun c6 => absurd c6 (by omega)) (fun c6 => ?_)
  clear hz4 hz5
  refine h_aload_n (pc' := 63) rfl rfl rfl ?_
  refine h_getR (pc' := 66) rfl rfl rfl rfl rfl ?_
  refine h_aload_n (pc' := 67) rfl rfl rfl ?_
  refine h_getI (pc' := 70) (v := σ1 64 2) rfl rfl rfl rfl rfl es3.1 (fun z7 hz7 => ?_)
  refine h_iald (pc' := 71) (v := σ1 65 (σ1 64 2)) rfl rfl rfl hz7 (by omega) (by omega) (Fs3 65 _ rfl) (fun z8 hz8 => ?_)
  have tz8 := ty_65 hI1 (σ1 64 2)
  have lz8 := hT (σ1 64 2) (by omega) (by omega)
  clear hz7
  refine h_goto (pc' := 75) rfl rfl ?_
  refine h_istore_n (pc' := 76) (M := [(1, .int z8), (0, .ref 64)]) rfl rfl rfl rfl ?_
  refine h_iload_n (pc' := 77) rfl rfl rfl ?_
  refine h_zge (tg := 88) (pc' := 80) rfl rfl rfl hz8 (fun c9 => ?_) (fun c9 => absurd c9 (by omega))
  refine h_iload_n (pc' := 89) rfl rfl rfl ?_
  refine h_bipush (pc' := 91) (x := (Int32.ofInt 97)) rfl rfl cb_97 ?_
  refine h_clt (tg := 160) (pc' := 94) rfl rfl rfl hz8 ci_97 (fun c10 => ?_) (fun c10 => absurd c10 (by omega))
  refine h_iload_n (pc' := 161) rfl rfl rfl ?_
  refine h_bipush (pc' := 163) (x := (Int32.ofInt 48)) rfl rfl cb_48 ?_
  refine h_clt (tg := 273) (pc' := 166) rfl rfl rfl hz8 ci_48 (fun c11 => ?_) (fun c11 => absurd c11 (by omega))
  refine h_aload_n (pc' := 274) rfl rfl rfl ?_
  refine h_dup (pc' := 275) rfl rfl rfl ?_
  refine h_getI (pc' := 278) (v := σ1 64 2) rfl rfl rfl rfl rfl es3.1 (fun z12 hz12 => ?_)
  refine h_iconst (pc' := 279) (x := (Int32.ofInt 1)) rfl rfl rfl ?_
  refine h_iadd (pc' := 280) rfl rfl hz12 ci_1 rfl (by omega) (by omega) (fun z13 hz13 => ?_)
  clear hz12
  refine h_put (pc' := 283) rfl rfl rfl rfl rfl rfl hz13 rfl (h_fgt (E := fun s => s 64 2 = ((σ1 64 2) + 1) ∧ s 64 4 = (σ1 64 2) ∧ s 64 3 = σ1 64 3 ∧ s 64 5 = 0 ∧ s 63 2 = σ1 63 2 ∧ s 63 3 = σ1 63 3 ∧ s 64 1 = σ1 64 1) _ (if_64_2 Is3 (by omega)) (Fs3.up rfl) ⟨rfl, es3.2.1, es3.2.2.1, es3.2.2.2.1, es3.2.2.2.2.1, es3.2.2.2.2.2.1, es3.2.2.2.2.2.2⟩ (fun s14 Is14 Fs14 (es14 : s14 64 2 = ((σ1 64 2) + 1) ∧ s14 64 4 = (σ1 64 2) ∧ s14 64 3 = σ1 64 3 ∧ s14 64 5 = 0 ∧ s14 63 2 = σ1 63 2 ∧ s14 63 3 = σ1 63 3 ∧ s14 64 1 = σ1 64 1) => ?_))
  clear es3
  refine h_aload_n (pc' := 284) rfl rfl rfl ?_
  refine h_iload_n (pc' := 285) rfl rfl rfl ?_
  refine h_bipush (pc' := 287) (x := (Int32.ofInt 59)) rfl rfl cb_59 ?_
  refine h_cne (tg := 294) (pc' := 290) rfl rfl rfl hz8 ci_59 (fun c15 => ?_) (fun c15 => absurd c15 (by omega))
  refine h_iconst (pc' := 295) (x := (Int32.ofInt 4)) rfl rfl rfl ?_
  refine h_put (pc' := 298) rfl rfl rfl rfl rfl rfl ci_4 rfl (h_fgt (E := fun s => s 64 2 = ((σ1 64 2) + 1) ∧ s 64 4 = (σ1 64 2) ∧ s 64 3 = 4 ∧ s 64 5 = 0 ∧ s 63 2 = σ1 63 2 ∧ s 63 3 = σ1 63 3 ∧ s 64 1 = σ1 64 1) _ (if_64_3 Is14 (by omega)) (Fs14.up rfl) ⟨es14.1, es14.2.1, rfl, es14.2.2.2.1, es14.2.2.2.2.1, es14.2.2.2.2.2.1, es14.2.2.2.2.2.2⟩ (fun s16 Is16 Fs16 (es16 : s16 64 2 = ((σ1 64 2) + 1) ∧ s16 64 4 = (σ1 64 2) ∧ s16 64 3 = 4 ∧ s16 64 5 = 0 ∧ s16 63 2 = σ1 63 2 ∧ s16 63 3 = σ1 63 3 ∧ s16 64 1 = σ1 64 1) => ?_))
  clear es14
  refine d_toM (g_inj ns) hl2 hR2 (fun lvw17 memw17 hlw17 hRw17 => ?_)
  show h_T g_P (g_Y ns) 148 34 [(0, .ref 98)] [] σ2 _
  refine h_aload_n (pc' := 35) rfl rfl rfl ?_
  refine h_aload_n (pc' := 36) rfl rfl rfl ?_
  refine h_getI (pc' := 39) (v := σ2 98 15) rfl rfl rfl rfl rfl rfl (fun z18 hz18 => ?_)
  have tz18 := tf_98_15 hI2
  refine h_put (pc' := 42) rfl rfl rfl rfl rfl rfl hz18 rfl (h_fgt (E := fun s => s 98 15 = σ2 98 15 ∧ s 98 16 = (σ2 98 15) ∧ s 98 17 = σ2 98 17 ∧ s 98 18 = σ2 98 18 ∧ s 98 13 = σ2 98 13 ∧ s 98 14 = σ2 98 14) _ (if_98_16 hI2 (by omega)) (F2.up rfl) ⟨rfl, rfl, rfl, rfl, rfl, rfl⟩ (fun s19 Is19 Fs19 (es19 : s19 98 15 = σ2 98 15 ∧ s19 98 16 = (σ2 98 15) ∧ s19 98 17 = σ2 98 17 ∧ s19 98 18 = σ2 98 18 ∧ s19 98 13 = σ2 98 13 ∧ s19 98 14 = σ2 98 14) => ?_))
  refine h_aload_n (pc' := 43) rfl rfl rfl ?_
  refine h_aload_n (pc' := 44) rfl rfl rfl ?_
  refine h_getI (pc' := 47) (v := σ2 98 15) rfl rfl rfl rfl rfl es19.1 (fun z20 hz20 => ?_)
  refine h_call (sp := false) (pc' := 50) (M := [(0, .ref 98), (1, .int z20)]) rfl rfl rfl rfl rfl rfl rfl rfl ?_
  refine h_iload_n (pc' := 1) rfl rfl rfl ?_
  refine h_aload_n (pc' := 2) rfl rfl rfl ?_
  refine h_getI (pc' := 5) (v := σ2 98 11) rfl rfl rfl rfl rfl (Fs19 98 11 rfl) (fun z21 hz21 => ?_)
  have tz21 := tf_98_11 hI2
  refine h_cge (tg := 17) (pc' := 8) rfl rfl rfl hz20 hz21 (fun c22 => absurd c22 (by omega)) (fun c22 => ?_)
  clear hz21
  refine h_aload_n (pc' := 9) rfl rfl rfl ?_
  refine h_getR (pc' := 12) rfl rfl rfl rfl rfl ?_
  refine h_iload_n (pc' := 13) rfl rfl rfl ?_
  refine h_iald (pc' := 14) (v := σ2 102 (σ2 98 15)) rfl rfl rfl hz20 (by omega) (by omega) (Fs19 102 _ rfl) (fun z23 hz23 => ?_)
  have tz23 := ty_102 hI2 (σ2 98 15)
  have lz23 : σ2 102 (σ2 98 15) = σ1 65 (σ1 64 2) := (congrArg (σ2 102) (show (σ2 98 15) = (σ1 64 2) by omega)).trans lz8.symm
  refine h_goto (pc' := 19) rfl rfl ?_
  refine h_iret rfl rfl (h_Kv ?_)
  clear hz20
  refine h_istore_n (pc' := 51) (M := [(1, .int z23), (0, .ref 98)]) rfl rfl rfl rfl ?_
  refine h_aload_n (pc' := 52) rfl rfl rfl ?_
  refine h_iconst (pc' := 53) (x := (Int32.ofInt 0)) rfl rfl rfl ?_
  refine h_put (pc' := 56) rfl rfl rfl rfl rfl rfl ci_0 rfl (h_fgt (E := fun s => s 98 15 = σ2 98 15 ∧ s 98 16 = (σ2 98 15) ∧ s 98 17 = σ2 98 17 ∧ s 98 18 = 0 ∧ s 98 13 = σ2 98 13 ∧ s 98 14 = σ2 98 14) _ (if_98_18 Is19 (by omega)) (Fs19.up rfl) ⟨es19.1, es19.2.1, es19.2.2.1, rfl, es19.2.2.2.2.1, es19.2.2.2.2.2⟩ (fun s24 Is24 Fs24 (es24 : s24 98 15 = σ2 98 15 ∧ s24 98 16 = (σ2 98 15) ∧ s24 98 17 = σ2 98 17 ∧ s24 98 18 = 0 ∧ s24 98 13 = σ2 98 13 ∧ s24 98 14 = σ2 98 14) => ?_))
  clear es19
  refine h_iload_n (pc' := 57) rfl rfl rfl ?_
  refine h_bipush (pc' := 59) (x := (Int32.ofInt (-4))) rfl rfl cb_m4 ?_
  refine h_cne (tg := 70) (pc' := 62) rfl rfl rfl hz23 ci_m4 (fun c25 => ?_) (fun c25 => absurd c25 (by omega))
  refine h_iload_n (pc' := 71) rfl rfl rfl ?_
  refine h_i2l (pc' := 72) rfl rfl hz23 (fun z26 hz26 => ?_)
  refine h_ldc2 (pc' := 75) (x := (Int64.ofInt 97)) rfl rfl rfl ?_
  refine h_ldc2 (pc' := 78) (x := (Int64.ofInt 122)) rfl rfl rfl ?_
  refine h_calls (pc' := 81) (M := [(0, .long z26), (2, .long (Int64.ofInt 97)), (4, .long (Int64.ofInt 122))]) rfl rfl rfl rfl rfl rfl ?_
  refine h_lload_n (pc' := 1) rfl rfl rfl ?_
  refine h_lload_n (pc' := 2) rfl rfl rfl ?_
  refine h_lcmp (pc' := 3) rfl rfl hz26 cl_97 (fun z27 hz27 => ?_)
  refine h_zlt (tg := 17) (pc' := 6) rfl rfl rfl rfl (fun c28 => ?_) (fun c28 => absurd c28 (by omega))
  replace c28 := (h_lcr hz27).1 c28
  clear hz27
  refine h_iconst (pc' := 18) (x := (Int32.ofInt 0)) rfl rfl rfl ?_
  refine h_zret rfl rfl ci_0 (by omega) (h_Kv ?_)
  clear hz26
  refine h_zeq (tg := 126) (pc' := 84) rfl rfl rfl ci_0 (fun c29 => ?_) (fun c29 => absurd c29 (by omega))
  refine h_iload_n (pc' := 127) rfl rfl rfl ?_
  refine h_i2l (pc' := 128) rfl rfl hz23 (fun z30 hz30 => ?_)
  refine h_ldc2 (pc' := 131) (x := (Int64.ofInt 48)) rfl rfl rfl ?_
  refine h_ldc2 (pc' := 134) (x := (Int64.ofInt 57)) rfl rfl rfl ?_
  refine h_calls (pc' := 137) (M := [(0, .long z30), (2, .long (Int64.ofInt 48)), (4, .long (Int64.ofInt 57))]) rfl rfl rfl rfl rfl rfl ?_
  refine h_lload_n (pc' := 1) rfl rfl rfl ?_
  refine h_lload_n (pc' := 2) rfl rfl rfl ?_
  refine h_lcmp (pc' := 3) rfl rfl hz30 cl_48 (fun z31 hz31 => ?_)
  refine h_zlt (tg := 17) (pc' := 6) rfl rfl rfl rfl (fun c32 => ?_) (fun c32 => absurd c32 (by omega))
  replace c32 := (h_lcr hz31).1 c32
  clear hz31
  refine h_iconst (pc' := 18) (x := (Int32.ofInt 0)) rfl rfl rfl ?_
  refine h_zret rfl rfl ci_0 (by omega) (h_Kv ?_)
  clear hz30
  refine h_zeq (tg := 243) (pc' := 140) rfl rfl rfl ci_0 (fun c33 => ?_) (fun c33 => absurd c33 (by omega))
  refine h_aload_n (pc' := 244) rfl rfl rfl ?_
  refine h_iconst (pc' := 245) (x := (Int32.ofInt 3)) rfl rfl rfl ?_
  refine h_put (pc' := 248) rfl rfl rfl rfl rfl rfl ci_3 rfl (h_fgt (E := fun s => s 98 15 = σ2 98 15 ∧ s 98 16 = (σ2 98 15) ∧ s 98 17 = 3 ∧ s 98 18 = 0 ∧ s 98 13 = σ2 98 13 ∧ s 98 14 = σ2 98 14) _ (if_98_17 Is24 (by omega)) (Fs24.up rfl) ⟨es24.1, es24.2.1, rfl, es24.2.2.2.1, es24.2.2.2.2.1, es24.2.2.2.2.2⟩ (fun s34 Is34 Fs34 (es34 : s34 98 15 = σ2 98 15 ∧ s34 98 16 = (σ2 98 15) ∧ s34 98 17 = 3 ∧ s34 98 18 = 0 ∧ s34 98 13 = σ2 98 13 ∧ s34 98 14 = σ2 98 14) => ?_))
  clear es24
  refine h_aload_n (pc' := 249) rfl rfl rfl ?_
  refine h_dup (pc' := 250) rfl rfl rfl ?_
  refine h_getI (pc' := 253) (v := σ2 98 15) rfl rfl rfl rfl rfl es34.1 (fun z35 hz35 => ?_)
  refine h_iconst (pc' := 254) (x := (Int32.ofInt 1)) rfl rfl rfl ?_
  refine h_iadd (pc' := 255) rfl rfl hz35 ci_1 rfl (by omega) (by omega) (fun z36 hz36 => ?_)
  clear hz35
  refine h_put (pc' := 258) rfl rfl rfl rfl rfl rfl hz36 rfl (h_fgt (E := fun s => s 98 15 = ((σ2 98 15) + 1) ∧ s 98 16 = (σ2 98 15) ∧ s 98 17 = 3 ∧ s 98 18 = 0 ∧ s 98 13 = σ2 98 13 ∧ s 98 14 = σ2 98 14) _ (if_98_15 Is34 (by omega)) (Fs34.up rfl) ⟨rfl, es34.2.1, es34.2.2.1, es34.2.2.2.1, es34.2.2.2.2.1, es34.2.2.2.2.2⟩ (fun s37 Is37 Fs37 (es37 : s37 98 15 = ((σ2 98 15) + 1) ∧ s37 98 16 = (σ2 98 15) ∧ s37 98 17 = 3 ∧ s37 98 18 = 0 ∧ s37 98 13 = σ2 98 13 ∧ s37 98 14 = σ2 98 14) => ?_))
  clear es34
  refine h_iload_n (pc' := 259) rfl rfl rfl ?_
  refine h_bipush (pc' := 261) (x := (Int32.ofInt 59)) rfl rfl cb_59 ?_
  refine h_ceq (tg := 269) (pc' := 264) rfl rfl rfl hz23 ci_59 (fun c38 => absurd c38 (by omega)) (fun c38 => ?_)
  refine h_aload_n (pc' := 265) rfl rfl rfl ?_
  refine h_iconst (pc' := 266) (x := (Int32.ofInt 1)) rfl rfl rfl ?_
  refine h_call (sp := false) (pc' := 269) (M := [(0, .ref 98), (1, .int (Int32.ofInt 1))]) rfl rfl rfl rfl rfl rfl rfl rfl ?_
  refine h_aload_n (pc' := 1) rfl rfl rfl ?_
  refine h_getI (pc' := 4) (v := σ2 98 13) rfl rfl rfl rfl rfl es37.2.2.2.2.1 (fun z39 hz39 => ?_)
  have tz39 := tf_98_13 hI2
  refine h_zne (tg := 20) (pc' := 7) rfl rfl rfl hz39 (fun c40 => absurd c40 (by omega)) (fun c40 => ?_)
  clear hz39
  refine h_aload_n (pc' := 8) rfl rfl rfl ?_
  refine h_iload_n (pc' := 9) rfl rfl rfl ?_
  refine h_put (pc' := 12) rfl rfl rfl rfl rfl rfl ci_1 rfl (h_fgt (E := fun s => s 98 15 = ((σ2 98 15) + 1) ∧ s 98 16 = (σ2 98 15) ∧ s 98 17 = 3 ∧ s 98 18 = 0 ∧ s 98 13 = 1 ∧ s 98 14 = σ2 98 14) _ (if_98_13 Is37 (by omega)) (Fs37.up rfl) ⟨es37.1, es37.2.1, es37.2.2.1, es37.2.2.2.1, rfl, es37.2.2.2.2.2⟩ (fun s41 Is41 Fs41 (es41 : s41 98 15 = ((σ2 98 15) + 1) ∧ s41 98 16 = (σ2 98 15) ∧ s41 98 17 = 3 ∧ s41 98 18 = 0 ∧ s41 98 13 = 1 ∧ s41 98 14 = σ2 98 14) => ?_))
  clear es37
  refine h_aload_n (pc' := 13) rfl rfl rfl ?_
  refine h_aload_n (pc' := 14) rfl rfl rfl ?_
  refine h_getI (pc' := 17) (v := (σ2 98 15)) rfl rfl rfl rfl rfl es41.2.1 (fun z42 hz42 => ?_)
  refine h_put (pc' := 20) rfl rfl rfl rfl rfl rfl hz42 rfl (h_fgt (E := fun s => s 98 15 = ((σ2 98 15) + 1) ∧ s 98 16 = (σ2 98 15) ∧ s 98 17 = 3 ∧ s 98 18 = 0 ∧ s 98 13 = 1 ∧ s 98 14 = (σ2 98 15)) _ (if_98_14 Is41 (h_rgv hz42)) (Fs41.up rfl) ⟨es41.1, es41.2.1, es41.2.2.1, es41.2.2.2.1, es41.2.2.2.2.1, rfl⟩ (fun s43 Is43 Fs43 (es43 : s43 98 15 = ((σ2 98 15) + 1) ∧ s43 98 16 = (σ2 98 15) ∧ s43 98 17 = 3 ∧ s43 98 18 = 0 ∧ s43 98 13 = 1 ∧ s43 98 14 = (σ2 98 15)) => ?_))
  clear es41
  refine h_vret rfl rfl (h_Kn ?_)
  refine d_toL (g_inj ns) hlw17 hRw17 (fun lvw44 memw44 hlw44 hRw44 => ?_)
  show h_T g_P (g_Y ns) 75 298 [(1, .int z8), (0, .ref 64)] [] s16 _
  exact h_wk [(0, .ref 64)] ⟨rfl, trivial⟩ (kx0 _ _ Is16 Is43 Fs16 Fs43 (by omega) (by omega) (by omega) (by omega) (by omega) ⟨by omega, by omega, by omega, by omega, by omega⟩ _ _ (h_al_ok ⟨rfl, trivial⟩ hlw44) hRw44)
set_option maxHeartbeats 100000000 in
theorem ls_t1 {ns : Nat} {σ1 σ2 : h_S} (hI1 : h_I σ1) (hI2 : h_I σ2) (hTL : d_tape σ1 σ2)  (pr0 : σ1 64 2 = σ2 98 15) (pr1 : σ2 98 13 = 0) (pr2 : σ1 64 2 ≤ σ1 64 1) (pr3 : σ1 64 2 < σ1 64 1 ∧ 48 ≤ σ1 65 (σ1 64 2) ∧ σ1 65 (σ1 64 2) ≤ 57) {cs1 cs2 : List d_Fr} {Q : d_Q} (kx0 : ∀ (s t : h_S), h_I s → h_I t → h_F (k_in k_lx) s σ1 → h_F (k_in k_lm) t σ2 → (s 64 2 = t 98 15) → (s 64 4 = t 98 16) → (s 63 2 = σ1 63 2) → (s 64 2 ≤ σ1 64 1) → (σ1 64 2 ≤ s 64 2) → (((s 64 3 = 2) ∧ (t 98 13 = 0) ∧ (t 98 17 = 2) ∧ (0 ≤ s 64 5 ∧ s 64 5 ≤ 99) ∧ (0 ≤ t 98 18 ∧ t 98 18 ≤ 99) ∧ (s 64 5 = t 98 18) ∧ (s 64 4 < s 64 2) ∧ (σ1 64 2 < s 64 2)) ∨ ((s 64 3 = 4) ∧ (t 98 13 = 1) ∧ (s 64 4 < s 64 2) ∧ (σ1 64 2 < s 64 2) ∧ (s 64 4 = t 98 14))) → ∀ lv2 mem2, h_loc [(0, .ref 98)] lv2 → h_R (g_Y ns) t mem2 → h_T g_P (g_Y ns) 75 298 [(0, .ref 64)] [] s (d_cs g_P (g_Y ns) cs1 (d_L g_P (g_Y ns) (148, 269, lv2, []) cs2 mem2 Q))) : ∀ lv2 mem2, h_loc [(0, .ref 98)] lv2 → h_R (g_Y ns) σ2 mem2 → h_T g_P (g_Y ns) 75 38 [(0, .ref 64)] [] σ1 (d_cs g_P (g_Y ns) cs1 (d_L g_P (g_Y ns) (148, 34, lv2, []) cs2 mem2 Q)) := by
  intro lv2 mem2 hl2 hR2
  have hT := hTL.1
  have hL := hTL.2
  have F1 : h_F (k_in k_lx) σ1 σ1 := h_F.rf
  have F2 : h_F (k_in k_lm) σ2 σ2 := h_F.rf
  have ge0 := tf_64_2 hI1
  have ge1 := tf_64_1 hI1
  refine h_aload_n (pc' := 39) rfl rfl rfl ?_
  refine h_aload_n (pc' := 40) rfl rfl rfl ?_
  refine h_getI (pc' := 43) (v := σ1 64 2) rfl rfl rfl rfl rfl rfl (fun z1 hz1 => ?_)
  have tz1 := tf_64_2 hI1
  refine h_put (pc' := 46) rfl rfl rfl rfl rfl rfl hz1 rfl (h_fgt (E := fun s => s 64 2 = σ1 64 2 ∧ s 64 4 = (σ1 64 2) ∧ s 64 3 = σ1 64 3 ∧ s 64 5 = σ1 64 5 ∧ s 63 2 = σ1 63 2 ∧ s 63 3 = σ1 63 3 ∧ s 64 1 = σ1 64 1) _ (if_64_4 hI1 (by omega)) (F1.up rfl) ⟨rfl, rfl, rfl, rfl, rfl, rfl, rfl⟩ (fun s2 Is2 Fs2 (es2 : s2 64 2 = σ1 64 2 ∧ s2 64 4 = (σ1 64 2) ∧ s2 64 3 = σ1 64 3 ∧ s2 64 5 = σ1 64 5 ∧ s2 63 2 = σ1 63 2 ∧ s2 63 3 = σ1 63 3 ∧ s2 64 1 = σ1 64 1) => ?_))
  refine h_aload_n (pc' := 47) rfl rfl rfl ?_
  refine h_iconst (pc' := 48) (x := (Int32.ofInt 0)) rfl rfl rfl ?_
  refine h_put (pc' := 51) rfl rfl rfl rfl rfl rfl ci_0 rfl (h_fgt (E := fun s => s 64 2 = σ1 64 2 ∧ s 64 4 = (σ1 64 2) ∧ s 64 3 = σ1 64 3 ∧ s 64 5 = 0 ∧ s 63 2 = σ1 63 2 ∧ s 63 3 = σ1 63 3 ∧ s 64 1 = σ1 64 1) _ (if_64_5 Is2 (h_rgv ci_0)) (Fs2.up rfl) ⟨es2.1, es2.2.1, es2.2.2.1, rfl, es2.2.2.2.2.1, es2.2.2.2.2.2.1, es2.2.2.2.2.2.2⟩ (fun s3 Is3 Fs3 (es3 : s3 64 2 = σ1 64 2 ∧ s3 64 4 = (σ1 64 2) ∧ s3 64 3 = σ1 64 3 ∧ s3 64 5 = 0 ∧ s3 63 2 = σ1 63 2 ∧ s3 63 3 = σ1 63 3 ∧ s3 64 1 = σ1 64 1) => ?_))
  clear es2
  refine h_aload_n (pc' := 52) rfl rfl rfl ?_
  refine h_getI (pc' := 55) (v := σ1 64 2) rfl rfl rfl rfl rfl es3.1 (fun z4 hz4 => ?_)
  refine h_aload_n (pc' := 56) rfl rfl rfl ?_
  refine h_getI (pc' := 59) (v := σ1 64 1) rfl rfl rfl rfl rfl es3.2.2.2.2.2.2 (fun z5 hz5 => ?_)
  have tz5 := tf_64_1 hI1
  refine h_cge (tg := 74) (pc' := 62) rfl rfl rfl hz4 hz5 (fun c6 => absurd c6 (by omega)) (fun c6 => ?_)
  clear hz4 hz5
  refine h_aload_n (pc' := 63) rfl rfl rfl ?_
  refine h_getR (pc' := 66) rfl rfl rfl rfl rfl ?_
  refine h_aload_n (pc' := 67) rfl rfl rfl ?_
  refine h_getI (pc' := 70) (v := σ1 64 2) rfl rfl rfl rfl rfl es3.1 (fun z7 hz7 => ?_)
  refine h_iald (pc' := 71) (v := σ1 65 (σ1 64 2)) rfl rfl rfl hz7 (by omega) (by omega) (Fs3 65 _ rfl) (fun z8 hz8 => ?_)
  have tz8 := ty_65 hI1 (σ1 64 2)
  have lz8 := hT (σ1 64 2) (by omega) (by omega)
  clear hz7
  refine h_goto (pc' := 75) rfl rfl ?_
  refine h_istore_n (pc' := 76) (M := [(1, .int z8), (0, .ref 64)]) rfl rfl rfl rfl ?_
  refine h_iload_n (pc' := 77) rfl rfl rfl ?_
  refine h_zge (tg := 88) (pc' := 80) rfl rfl rfl hz8 (fun c9 => ?_) (fun c9 => absurd c9 (by omega))
  refine h_iload_n (pc' := 89) rfl rfl rfl ?_
  refine h_bipush (pc' := 91) (x := (Int32.ofInt 97)) rfl rfl cb_97 ?_
  refine h_clt (tg := 160) (pc' := 94) rfl rfl rfl hz8 ci_97 (fun c10 => ?_) (fun c10 => absurd c10 (by omega))
  refine h_iload_n (pc' := 161) rfl rfl rfl ?_
  refine h_bipush (pc' := 163) (x := (Int32.ofInt 48)) rfl rfl cb_48 ?_
  refine h_clt (tg := 273) (pc' := 166) rfl rfl rfl hz8 ci_48 (fun c11 => absurd c11 (by omega)) (fun c11 => ?_)
  refine h_iload_n (pc' := 167) rfl rfl rfl ?_
  refine h_bipush (pc' := 169) (x := (Int32.ofInt 57)) rfl rfl cb_57 ?_
  refine h_cgt (tg := 273) (pc' := 172) rfl rfl rfl hz8 ci_57 (fun c12 => absurd c12 (by omega)) (fun c12 => ?_)
  refine h_aload_n (pc' := 173) rfl rfl rfl ?_
  refine h_getI (pc' := 176) (v := σ1 64 2) rfl rfl rfl rfl rfl es3.1 (fun z13 hz13 => ?_)
  refine h_aload_n (pc' := 177) rfl rfl rfl ?_
  refine h_getI (pc' := 180) (v := σ1 64 1) rfl rfl rfl rfl rfl es3.2.2.2.2.2.2 (fun z14 hz14 => ?_)
  refine h_cge (tg := 248) (pc' := 183) rfl rfl rfl hz13 hz14 (fun c15 => absurd c15 (by omega)) (fun c15 => ?_)
  clear hz13 hz14
  refine h_aload_n (pc' := 184) rfl rfl rfl ?_
  refine h_getR (pc' := 187) rfl rfl rfl rfl rfl ?_
  refine h_aload_n (pc' := 188) rfl rfl rfl ?_
  refine h_getI (pc' := 191) (v := σ1 64 2) rfl rfl rfl rfl rfl es3.1 (fun z16 hz16 => ?_)
  refine h_iald (pc' := 192) (v := σ1 65 (σ1 64 2)) rfl rfl rfl hz16 (by omega) (by omega) (Fs3 65 _ rfl) (fun z17 hz17 => ?_)
  clear hz16
  refine h_bipush (pc' := 194) (x := (Int32.ofInt 48)) rfl rfl cb_48 ?_
  refine h_clt (tg := 248) (pc' := 197) rfl rfl rfl hz17 ci_48 (fun c18 => absurd c18 (by omega)) (fun c18 => ?_)
  clear hz17
  refine h_aload_n (pc' := 198) rfl rfl rfl ?_
  refine h_getR (pc' := 201) rfl rfl rfl rfl rfl ?_
  refine h_aload_n (pc' := 202) rfl rfl rfl ?_
  refine h_getI (pc' := 205) (v := σ1 64 2) rfl rfl rfl rfl rfl es3.1 (fun z19 hz19 => ?_)
  refine h_iald (pc' := 206) (v := σ1 65 (σ1 64 2)) rfl rfl rfl hz19 (by omega) (by omega) (Fs3 65 _ rfl) (fun z20 hz20 => ?_)
  clear hz19
  refine h_bipush (pc' := 208) (x := (Int32.ofInt 57)) rfl rfl cb_57 ?_
  refine h_cgt (tg := 248) (pc' := 211) rfl rfl rfl hz20 ci_57 (fun c21 => absurd c21 (by omega)) (fun c21 => ?_)
  clear hz20
  refine h_aload_n (pc' := 212) rfl rfl rfl ?_
  refine h_aload_n (pc' := 213) rfl rfl rfl ?_
  refine h_getI (pc' := 216) (v := 0) rfl rfl rfl rfl rfl es3.2.2.2.1 (fun z22 hz22 => ?_)
  refine h_bipush (pc' := 218) (x := (Int32.ofInt 10)) rfl rfl cb_10 ?_
  refine h_imul (pc' := 219) rfl rfl hz22 ci_10 rfl (by omega) (by omega) (fun z23 hz23 => ?_)
  clear hz22
  refine h_aload_n (pc' := 220) rfl rfl rfl ?_
  refine h_getR (pc' := 223) rfl rfl rfl rfl rfl ?_
  refine h_aload_n (pc' := 224) rfl rfl rfl ?_
  refine h_getI (pc' := 227) (v := σ1 64 2) rfl rfl rfl rfl rfl es3.1 (fun z24 hz24 => ?_)
  refine h_iald (pc' := 228) (v := σ1 65 (σ1 64 2)) rfl rfl rfl hz24 (by omega) (by omega) (Fs3 65 _ rfl) (fun z25 hz25 => ?_)
  clear hz24
  refine h_iadd (pc' := 229) rfl rfl hz23 hz25 rfl (by omega) (by omega) (fun z26 hz26 => ?_)
  clear hz23 hz25
  refine h_bipush (pc' := 231) (x := (Int32.ofInt 48)) rfl rfl cb_48 ?_
  refine h_isub (pc' := 232) rfl rfl hz26 ci_48 rfl (by omega) (by omega) (fun z27 hz27 => ?_)
  clear hz26
  refine h_put (pc' := 235) rfl rfl rfl rfl rfl rfl hz27 rfl (h_fgt (E := fun s => s 64 2 = σ1 64 2 ∧ s 64 4 = (σ1 64 2) ∧ s 64 3 = σ1 64 3 ∧ s 64 5 = (((0 * 10) + (σ1 65 (σ1 64 2))) - 48) ∧ s 63 2 = σ1 63 2 ∧ s 63 3 = σ1 63 3 ∧ s 64 1 = σ1 64 1) _ (if_64_5 Is3 (h_rgv hz27)) (Fs3.up rfl) ⟨es3.1, es3.2.1, es3.2.2.1, rfl, es3.2.2.2.2.1, es3.2.2.2.2.2.1, es3.2.2.2.2.2.2⟩ (fun s28 Is28 Fs28 (es28 : s28 64 2 = σ1 64 2 ∧ s28 64 4 = (σ1 64 2) ∧ s28 64 3 = σ1 64 3 ∧ s28 64 5 = (((0 * 10) + (σ1 65 (σ1 64 2))) - 48) ∧ s28 63 2 = σ1 63 2 ∧ s28 63 3 = σ1 63 3 ∧ s28 64 1 = σ1 64 1) => ?_))
  clear es3
  refine h_aload_n (pc' := 236) rfl rfl rfl ?_
  refine h_dup (pc' := 237) rfl rfl rfl ?_
  refine h_getI (pc' := 240) (v := σ1 64 2) rfl rfl rfl rfl rfl es28.1 (fun z29 hz29 => ?_)
  refine h_iconst (pc' := 241) (x := (Int32.ofInt 1)) rfl rfl rfl ?_
  refine h_iadd (pc' := 242) rfl rfl hz29 ci_1 rfl (by omega) (by omega) (fun z30 hz30 => ?_)
  clear hz29
  refine h_put (pc' := 245) rfl rfl rfl rfl rfl rfl hz30 rfl (h_fgt (E := fun s => s 64 2 = ((σ1 64 2) + 1) ∧ s 64 4 = (σ1 64 2) ∧ s 64 3 = σ1 64 3 ∧ s 64 5 = (((0 * 10) + (σ1 65 (σ1 64 2))) - 48) ∧ s 63 2 = σ1 63 2 ∧ s 63 3 = σ1 63 3 ∧ s 64 1 = σ1 64 1) _ (if_64_2 Is28 (by omega)) (Fs28.up rfl) ⟨rfl, es28.2.1, es28.2.2.1, es28.2.2.2.1, es28.2.2.2.2.1, es28.2.2.2.2.2.1, es28.2.2.2.2.2.2⟩ (fun s31 Is31 Fs31 (es31 : s31 64 2 = ((σ1 64 2) + 1) ∧ s31 64 4 = (σ1 64 2) ∧ s31 64 3 = σ1 64 3 ∧ s31 64 5 = (((0 * 10) + (σ1 65 (σ1 64 2))) - 48) ∧ s31 63 2 = σ1 63 2 ∧ s31 63 3 = σ1 63 3 ∧ s31 64 1 = σ1 64 1) => ?_))
  clear es28
  refine h_goto (pc' := 172) rfl rfl ?_
  refine d_toM (g_inj ns) hl2 hR2 (fun lvw32 memw32 hlw32 hRw32 => ?_)
  show h_T g_P (g_Y ns) 148 34 [(0, .ref 98)] [] σ2 _
  refine h_aload_n (pc' := 35) rfl rfl rfl ?_
  refine h_aload_n (pc' := 36) rfl rfl rfl ?_
  refine h_getI (pc' := 39) (v := σ2 98 15) rfl rfl rfl rfl rfl rfl (fun z33 hz33 => ?_)
  have tz33 := tf_98_15 hI2
  refine h_put (pc' := 42) rfl rfl rfl rfl rfl rfl hz33 rfl (h_fgt (E := fun s => s 98 15 = σ2 98 15 ∧ s 98 16 = (σ2 98 15) ∧ s 98 17 = σ2 98 17 ∧ s 98 18 = σ2 98 18 ∧ s 98 13 = σ2 98 13 ∧ s 98 14 = σ2 98 14) _ (if_98_16 hI2 (by omega)) (F2.up rfl) ⟨rfl, rfl, rfl, rfl, rfl, rfl⟩ (fun s34 Is34 Fs34 (es34 : s34 98 15 = σ2 98 15 ∧ s34 98 16 = (σ2 98 15) ∧ s34 98 17 = σ2 98 17 ∧ s34 98 18 = σ2 98 18 ∧ s34 98 13 = σ2 98 13 ∧ s34 98 14 = σ2 98 14) => ?_))
  refine h_aload_n (pc' := 43) rfl rfl rfl ?_
  refine h_aload_n (pc' := 44) rfl rfl rfl ?_
  refine h_getI (pc' := 47) (v := σ2 98 15) rfl rfl rfl rfl rfl es34.1 (fun z35 hz35 => ?_)
  refine h_call (sp := false) (pc' := 50) (M := [(0, .ref 98), (1, .int z35)]) rfl rfl rfl rfl rfl rfl rfl rfl ?_
  refine h_iload_n (pc' := 1) rfl rfl rfl ?_
  refine h_aload_n (pc' := 2) rfl rfl rfl ?_
  refine h_getI (pc' := 5) (v := σ2 98 11) rfl rfl rfl rfl rfl (Fs34 98 11 rfl) (fun z36 hz36 => ?_)
  have tz36 := tf_98_11 hI2
  refine h_cge (tg := 17) (pc' := 8) rfl rfl rfl hz35 hz36 (fun c37 => absurd c37 (by omega)) (fun c37 => ?_)
  clear hz36
  refine h_aload_n (pc' := 9) rfl rfl rfl ?_
  refine h_getR (pc' := 12) rfl rfl rfl rfl rfl ?_
  refine h_iload_n (pc' := 13) rfl rfl rfl ?_
  refine h_iald (pc' := 14) (v := σ2 102 (σ2 98 15)) rfl rfl rfl hz35 (by omega) (by omega) (Fs34 102 _ rfl) (fun z38 hz38 => ?_)
  have tz38 := ty_102 hI2 (σ2 98 15)
  have lz38 : σ2 102 (σ2 98 15) = σ1 65 (σ1 64 2) := (congrArg (σ2 102) (show (σ2 98 15) = (σ1 64 2) by omega)).trans lz8.symm
  refine h_goto (pc' := 19) rfl rfl ?_
  refine h_iret rfl rfl (h_Kv ?_)
  clear hz35
  refine h_istore_n (pc' := 51) (M := [(1, .int z38), (0, .ref 98)]) rfl rfl rfl rfl ?_
  refine h_aload_n (pc' := 52) rfl rfl rfl ?_
  refine h_iconst (pc' := 53) (x := (Int32.ofInt 0)) rfl rfl rfl ?_
  refine h_put (pc' := 56) rfl rfl rfl rfl rfl rfl ci_0 rfl (h_fgt (E := fun s => s 98 15 = σ2 98 15 ∧ s 98 16 = (σ2 98 15) ∧ s 98 17 = σ2 98 17 ∧ s 98 18 = 0 ∧ s 98 13 = σ2 98 13 ∧ s 98 14 = σ2 98 14) _ (if_98_18 Is34 (by omega)) (Fs34.up rfl) ⟨es34.1, es34.2.1, es34.2.2.1, rfl, es34.2.2.2.2.1, es34.2.2.2.2.2⟩ (fun s39 Is39 Fs39 (es39 : s39 98 15 = σ2 98 15 ∧ s39 98 16 = (σ2 98 15) ∧ s39 98 17 = σ2 98 17 ∧ s39 98 18 = 0 ∧ s39 98 13 = σ2 98 13 ∧ s39 98 14 = σ2 98 14) => ?_))
  clear es34
  refine h_iload_n (pc' := 57) rfl rfl rfl ?_
  refine h_bipush (pc' := 59) (x := (Int32.ofInt (-4))) rfl rfl cb_m4 ?_
  refine h_cne (tg := 70) (pc' := 62) rfl rfl rfl hz38 ci_m4 (fun c40 => ?_) (fun c40 => absurd c40 (by omega))
  refine h_iload_n (pc' := 71) rfl rfl rfl ?_
  refine h_i2l (pc' := 72) rfl rfl hz38 (fun z41 hz41 => ?_)
  refine h_ldc2 (pc' := 75) (x := (Int64.ofInt 97)) rfl rfl rfl ?_
  refine h_ldc2 (pc' := 78) (x := (Int64.ofInt 122)) rfl rfl rfl ?_
  refine h_calls (pc' := 81) (M := [(0, .long z41), (2, .long (Int64.ofInt 97)), (4, .long (Int64.ofInt 122))]) rfl rfl rfl rfl rfl rfl ?_
  refine h_lload_n (pc' := 1) rfl rfl rfl ?_
  refine h_lload_n (pc' := 2) rfl rfl rfl ?_
  refine h_lcmp (pc' := 3) rfl rfl hz41 cl_97 (fun z42 hz42 => ?_)
  refine h_zlt (tg := 17) (pc' := 6) rfl rfl rfl rfl (fun c43 => ?_) (fun c43 => absurd c43 (by omega))
  replace c43 := (h_lcr hz42).1 c43
  clear hz42
  refine h_iconst (pc' := 18) (x := (Int32.ofInt 0)) rfl rfl rfl ?_
  refine h_zret rfl rfl ci_0 (by omega) (h_Kv ?_)
  clear hz41
  refine h_zeq (tg := 126) (pc' := 84) rfl rfl rfl ci_0 (fun c44 => ?_) (fun c44 => absurd c44 (by omega))
  refine h_iload_n (pc' := 127) rfl rfl rfl ?_
  refine h_i2l (pc' := 128) rfl rfl hz38 (fun z45 hz45 => ?_)
  refine h_ldc2 (pc' := 131) (x := (Int64.ofInt 48)) rfl rfl rfl ?_
  refine h_ldc2 (pc' := 134) (x := (Int64.ofInt 57)) rfl rfl rfl ?_
  refine h_calls (pc' := 137) (M := [(0, .long z45), (2, .long (Int64.ofInt 48)), (4, .long (Int64.ofInt 57))]) rfl rfl rfl rfl rfl rfl ?_
  refine h_lload_n (pc' := 1) rfl rfl rfl ?_
  refine h_lload_n (pc' := 2) rfl rfl rfl ?_
  refine h_lcmp (pc' := 3) rfl rfl hz45 cl_48 (fun z46 hz46 => ?_)
  refine h_zlt (tg := 17) (pc' := 6) rfl rfl rfl rfl (fun c47 => absurd c47 (by omega)) (fun c47 => ?_)
  replace c47 := (h_lcr hz46).2.1 c47
  clear hz46
  refine h_lload_n (pc' := 7) rfl rfl rfl ?_
  refine h_lload (pc' := 9) rfl rfl rfl ?_
  refine h_lcmp (pc' := 10) rfl rfl hz45 cl_57 (fun z48 hz48 => ?_)
  refine h_zgt (tg := 17) (pc' := 13) rfl rfl rfl rfl (fun c49 => absurd c49 (by omega)) (fun c49 => ?_)
  replace c49 := (h_lcr hz48).2.2.1 c49
  clear hz48
  refine h_iconst (pc' := 14) (x := (Int32.ofInt 1)) rfl rfl rfl ?_
  refine h_goto (pc' := 18) rfl rfl ?_
  refine h_zret rfl rfl ci_1 (by omega) (h_Kv ?_)
  clear hz45
  refine h_zeq (tg := 243) (pc' := 140) rfl rfl rfl ci_1 (fun c50 => absurd c50 (by omega)) (fun c50 => ?_)
  refine h_aload_n (pc' := 141) rfl rfl rfl ?_
  refine h_aload_n (pc' := 142) rfl rfl rfl ?_
  refine h_getI (pc' := 145) (v := σ2 98 15) rfl rfl rfl rfl rfl es39.1 (fun z51 hz51 => ?_)
  refine h_call (sp := false) (pc' := 148) (M := [(0, .ref 98), (1, .int z51)]) rfl rfl rfl rfl rfl rfl rfl rfl ?_
  refine h_iload_n (pc' := 1) rfl rfl rfl ?_
  refine h_aload_n (pc' := 2) rfl rfl rfl ?_
  refine h_getI (pc' := 5) (v := σ2 98 11) rfl rfl rfl rfl rfl (Fs39 98 11 rfl) (fun z52 hz52 => ?_)
  refine h_cge (tg := 17) (pc' := 8) rfl rfl rfl hz51 hz52 (fun c53 => absurd c53 (by omega)) (fun c53 => ?_)
  clear hz52
  refine h_aload_n (pc' := 9) rfl rfl rfl ?_
  refine h_getR (pc' := 12) rfl rfl rfl rfl rfl ?_
  refine h_iload_n (pc' := 13) rfl rfl rfl ?_
  refine h_iald (pc' := 14) (v := σ2 102 (σ2 98 15)) rfl rfl rfl hz51 (by omega) (by omega) (Fs39 102 _ rfl) (fun z54 hz54 => ?_)
  refine h_goto (pc' := 19) rfl rfl ?_
  refine h_iret rfl rfl (h_Kv ?_)
  clear hz51
  refine h_i2l (pc' := 149) rfl rfl hz54 (fun z55 hz55 => ?_)
  clear hz54
  refine h_ldc2 (pc' := 152) (x := (Int64.ofInt 48)) rfl rfl rfl ?_
  refine h_ldc2 (pc' := 155) (x := (Int64.ofInt 57)) rfl rfl rfl ?_
  refine h_calls (pc' := 158) (M := [(0, .long z55), (2, .long (Int64.ofInt 48)), (4, .long (Int64.ofInt 57))]) rfl rfl rfl rfl rfl rfl ?_
  refine h_lload_n (pc' := 1) rfl rfl rfl ?_
  refine h_lload_n (pc' := 2) rfl rfl rfl ?_
  refine h_lcmp (pc' := 3) rfl rfl hz55 cl_48 (fun z56 hz56 => ?_)
  refine h_zlt (tg := 17) (pc' := 6) rfl rfl rfl rfl (fun c57 => absurd c57 (by omega)) (fun c57 => ?_)
  replace c57 := (h_lcr hz56).2.1 c57
  clear hz56
  refine h_lload_n (pc' := 7) rfl rfl rfl ?_
  refine h_lload (pc' := 9) rfl rfl rfl ?_
  refine h_lcmp (pc' := 10) rfl rfl hz55 cl_57 (fun z58 hz58 => ?_)
  refine h_zgt (tg := 17) (pc' := 13) rfl rfl rfl rfl (fun c59 => absurd c59 (by omega)) (fun c59 => ?_)
  replace c59 := (h_lcr hz58).2.2.1 c59
  clear hz58
  refine h_iconst (pc' := 14) (x := (Int32.ofInt 1)) rfl rfl rfl ?_
  refine h_goto (pc' := 18) rfl rfl ?_
  refine h_zret rfl rfl ci_1 (by omega) (h_Kv ?_)
  clear hz55
  refine h_zeq (tg := 217) (pc' := 161) rfl rfl rfl ci_1 (fun c60 => absurd c60 (by omega)) (fun c60 => ?_)
  refine h_aload_n (pc' := 162) rfl rfl rfl ?_
  refine h_aload_n (pc' := 163) rfl rfl rfl ?_
  refine h_getI (pc' := 166) (v := σ2 98 15) rfl rfl rfl rfl rfl es39.1 (fun z61 hz61 => ?_)
  refine h_aload_n (pc' := 167) rfl rfl rfl ?_
  refine h_getI (pc' := 170) (v := (σ2 98 15)) rfl rfl rfl rfl rfl es39.2.1 (fun z62 hz62 => ?_)
  refine h_isub (pc' := 171) rfl rfl hz61 hz62 rfl (by omega) (by omega) (fun z63 hz63 => ?_)
  clear hz61 hz62
  refine h_iconst (pc' := 172) (x := (Int32.ofInt 2)) rfl rfl rfl ?_
  refine h_cge (tg := 197) (pc' := 175) rfl rfl rfl hz63 ci_2 (fun c64 => ?_) (fun c64 => ?_)
  · clear hz63
    refine h_aload_n (pc' := 198) rfl rfl rfl ?_
    refine h_getI (pc' := 201) (v := 0) rfl rfl rfl rfl rfl es39.2.2.2.1 (fun z65 hz65 => ?_)
    refine h_put (pc' := 204) rfl rfl rfl rfl rfl rfl hz65 rfl (h_fgt (E := fun s => s 98 15 = σ2 98 15 ∧ s 98 16 = (σ2 98 15) ∧ s 98 17 = σ2 98 17 ∧ s 98 18 = 0 ∧ s 98 13 = σ2 98 13 ∧ s 98 14 = σ2 98 14) _ (if_98_18 Is39 (by omega)) (Fs39.up rfl) ⟨es39.1, es39.2.1, es39.2.2.1, rfl, es39.2.2.2.2.1, es39.2.2.2.2.2⟩ (fun s66 Is66 Fs66 (es66 : s66 98 15 = σ2 98 15 ∧ s66 98 16 = (σ2 98 15) ∧ s66 98 17 = σ2 98 17 ∧ s66 98 18 = 0 ∧ s66 98 13 = σ2 98 13 ∧ s66 98 14 = σ2 98 14) => ?_))
    clear es39
    refine h_aload_n (pc' := 205) rfl rfl rfl ?_
    refine h_dup (pc' := 206) rfl rfl rfl ?_
    refine h_getI (pc' := 209) (v := σ2 98 15) rfl rfl rfl rfl rfl es66.1 (fun z67 hz67 => ?_)
    refine h_iconst (pc' := 210) (x := (Int32.ofInt 1)) rfl rfl rfl ?_
    refine h_iadd (pc' := 211) rfl rfl hz67 ci_1 rfl (by omega) (by omega) (fun z68 hz68 => ?_)
    clear hz67
    refine h_put (pc' := 214) rfl rfl rfl rfl rfl rfl hz68 rfl (h_fgt (E := fun s => s 98 15 = ((σ2 98 15) + 1) ∧ s 98 16 = (σ2 98 15) ∧ s 98 17 = σ2 98 17 ∧ s 98 18 = 0 ∧ s 98 13 = σ2 98 13 ∧ s 98 14 = σ2 98 14) _ (if_98_15 Is66 (by omega)) (Fs66.up rfl) ⟨rfl, es66.2.1, es66.2.2.1, es66.2.2.2.1, es66.2.2.2.2.1, es66.2.2.2.2.2⟩ (fun s69 Is69 Fs69 (es69 : s69 98 15 = ((σ2 98 15) + 1) ∧ s69 98 16 = (σ2 98 15) ∧ s69 98 17 = σ2 98 17 ∧ s69 98 18 = 0 ∧ s69 98 13 = σ2 98 13 ∧ s69 98 14 = σ2 98 14) => ?_))
    clear es66
    refine h_goto (pc' := 140) rfl rfl ?_
    refine d_toL (g_inj ns) hlw32 hRw32 (fun lvw70 memw70 hlw70 hRw70 => ?_)
    show h_T g_P (g_Y ns) 75 172 [(1, .int z8), (0, .ref 64)] [] s31 _
    have ga71 := tf_64_2 Is31
    refine h_wk [(0, .ref 64)] ⟨rfl, trivial⟩ (lp_di Is31 Is69 (hTL.fr (Fs31.mono rfl) (Fs69.mono rfl)) (fun sq72 tq72 Isq72 Itq72 Gsq72 Gtq72   yq72_0 yq72_1 yq72_2 yq72_3 yq72_4 yq72_5 pcq72 lvq72 memq72 hlq72 hRq72 => ?_) 100000 _ _ Is31 Is69 h_F.rf h_F.rf   (by omega) (by omega) (by omega) (by omega) (by omega) (by omega) (Or.inl ⟨by omega, by omega, by omega, by omega⟩) (by omega) _ _ (h_al_ok ⟨rfl, trivial⟩ hlw70) hRw70)
    · have Fsq72 := (Gsq72.mono (B := k_lx) rfl).tr Fs31
      have Ftq72 := (Gtq72.mono (B := k_lm) rfl).tr Fs69
      have Isq72 := Isq72
      have Itq72 := Itq72
      have Gsq72 := Gsq72
      have Gtq72 := Gtq72
      have esq72_6 : sq72 64 1 = σ1 64 1 := (Gsq72 64 1 rfl).trans es31.2.2.2.2.2.2
      have esq72_4 : sq72 63 2 = σ1 63 2 := yq72_3.trans es31.2.2.2.2.1
      rcases pcq72 with pcq72 | pcq72 | pcq72
      · show h_T g_P (g_Y ns) 75 248 [(0, .ref 64)] [] sq72 _
        clear hz1 hz27 hz30 hz33 hz38 hz65 hz68 hz8
        refine h_aload_n (pc' := 249) rfl rfl rfl ?_
        refine h_aload_n (pc' := 250) rfl rfl rfl ?_
        refine h_getI (pc' := 253) (v := sq72 64 2) rfl rfl rfl rfl rfl rfl (fun z73 hz73 => ?_)
        have tz73 := tf_64_2 Isq72
        refine h_aload_n (pc' := 254) rfl rfl rfl ?_
        refine h_getI (pc' := 257) (v := sq72 64 4) rfl rfl rfl rfl rfl rfl (fun z74 hz74 => ?_)
        have tz74 := tf_64_4 Isq72
        refine h_isub (pc' := 258) rfl rfl hz73 hz74 rfl (by omega) (by omega) (fun z75 hz75 => ?_)
        clear hz73 hz74
        refine h_iconst (pc' := 259) (x := (Int32.ofInt 2)) rfl rfl rfl ?_
        refine h_cgt (tg := 266) (pc' := 262) rfl rfl rfl hz75 ci_2 (fun c76 => ?_) (fun c76 => ?_)
        · clear hz75
          refine h_iconst (pc' := 267) (x := (Int32.ofInt 4)) rfl rfl rfl ?_
          refine h_put (pc' := 270) rfl rfl rfl rfl rfl rfl ci_4 rfl (h_fgt (E := fun s => s 64 2 = sq72 64 2 ∧ s 64 4 = sq72 64 4 ∧ s 64 3 = 4 ∧ s 64 5 = sq72 64 5 ∧ s 63 2 = σ1 63 2 ∧ s 63 3 = sq72 63 3 ∧ s 64 1 = σ1 64 1) _ (if_64_3 Isq72 (by omega)) (Fsq72.up rfl) ⟨rfl, rfl, rfl, rfl, esq72_4, rfl, esq72_6⟩ (fun s77 Is77 Fs77 (es77 : s77 64 2 = sq72 64 2 ∧ s77 64 4 = sq72 64 4 ∧ s77 64 3 = 4 ∧ s77 64 5 = sq72 64 5 ∧ s77 63 2 = σ1 63 2 ∧ s77 63 3 = sq72 63 3 ∧ s77 64 1 = σ1 64 1) => ?_))
          clear esq72_4 esq72_6
          refine h_goto (pc' := 298) rfl rfl ?_
          refine d_toM (g_inj ns) hlq72 hRq72 (fun lvw78 memw78 hlw78 hRw78 => ?_)
          show h_T g_P (g_Y ns) 148 217 [(0, .ref 98)] [] tq72 _
          refine h_aload_n (pc' := 218) rfl rfl rfl ?_
          refine h_iconst (pc' := 219) (x := (Int32.ofInt 2)) rfl rfl rfl ?_
          refine h_put (pc' := 222) rfl rfl rfl rfl rfl rfl ci_2 rfl (h_fgt (E := fun s => s 98 15 = tq72 98 15 ∧ s 98 16 = tq72 98 16 ∧ s 98 17 = 2 ∧ s 98 18 = tq72 98 18 ∧ s 98 13 = tq72 98 13 ∧ s 98 14 = tq72 98 14) _ (if_98_17 Itq72 (by omega)) (Ftq72.up rfl) ⟨rfl, rfl, rfl, rfl, rfl, rfl⟩ (fun s79 Is79 Fs79 (es79 : s79 98 15 = tq72 98 15 ∧ s79 98 16 = tq72 98 16 ∧ s79 98 17 = 2 ∧ s79 98 18 = tq72 98 18 ∧ s79 98 13 = tq72 98 13 ∧ s79 98 14 = tq72 98 14) => ?_))
          refine h_aload_n (pc' := 223) rfl rfl rfl ?_
          refine h_getI (pc' := 226) (v := tq72 98 15) rfl rfl rfl rfl rfl es79.1 (fun z80 hz80 => ?_)
          have tz80 := tf_98_15 Itq72
          refine h_aload_n (pc' := 227) rfl rfl rfl ?_
          refine h_getI (pc' := 230) (v := tq72 98 16) rfl rfl rfl rfl rfl es79.2.1 (fun z81 hz81 => ?_)
          have tz81 := tf_98_16 Itq72
          refine h_isub (pc' := 231) rfl rfl hz80 hz81 rfl (by omega) (by omega) (fun z82 hz82 => ?_)
          clear hz80 hz81
          refine h_iconst (pc' := 232) (x := (Int32.ofInt 2)) rfl rfl rfl ?_
          refine h_cle (tg := 269) (pc' := 235) rfl rfl rfl hz82 ci_2 (fun c83 => ?_) (fun c83 => ?_)
          · clear hz82
            exfalso
            omega
          · clear hz82
            refine h_aload_n (pc' := 236) rfl rfl rfl ?_
            refine h_iconst (pc' := 237) (x := (Int32.ofInt 1)) rfl rfl rfl ?_
            refine h_call (sp := false) (pc' := 240) (M := [(0, .ref 98), (1, .int (Int32.ofInt 1))]) rfl rfl rfl rfl rfl rfl rfl rfl ?_
            refine h_aload_n (pc' := 1) rfl rfl rfl ?_
            refine h_getI (pc' := 4) (v := tq72 98 13) rfl rfl rfl rfl rfl es79.2.2.2.2.1 (fun z85 hz85 => ?_)
            have tz85 := tf_98_13 Itq72
            refine h_zne (tg := 20) (pc' := 7) rfl rfl rfl hz85 (fun c86 => absurd c86 (by omega)) (fun c86 => ?_)
            clear hz85
            refine h_aload_n (pc' := 8) rfl rfl rfl ?_
            refine h_iload_n (pc' := 9) rfl rfl rfl ?_
            refine h_put (pc' := 12) rfl rfl rfl rfl rfl rfl ci_1 rfl (h_fgt (E := fun s => s 98 15 = tq72 98 15 ∧ s 98 16 = tq72 98 16 ∧ s 98 17 = 2 ∧ s 98 18 = tq72 98 18 ∧ s 98 13 = 1 ∧ s 98 14 = tq72 98 14) _ (if_98_13 Is79 (by omega)) (Fs79.up rfl) ⟨es79.1, es79.2.1, es79.2.2.1, es79.2.2.2.1, rfl, es79.2.2.2.2.2⟩ (fun s87 Is87 Fs87 (es87 : s87 98 15 = tq72 98 15 ∧ s87 98 16 = tq72 98 16 ∧ s87 98 17 = 2 ∧ s87 98 18 = tq72 98 18 ∧ s87 98 13 = 1 ∧ s87 98 14 = tq72 98 14) => ?_))
            clear es79
            refine h_aload_n (pc' := 13) rfl rfl rfl ?_
            refine h_aload_n (pc' := 14) rfl rfl rfl ?_
            refine h_getI (pc' := 17) (v := tq72 98 16) rfl rfl rfl rfl rfl es87.2.1 (fun z88 hz88 => ?_)
            refine h_put (pc' := 20) rfl rfl rfl rfl rfl rfl hz88 rfl (h_fgt (E := fun s => s 98 15 = tq72 98 15 ∧ s 98 16 = tq72 98 16 ∧ s 98 17 = 2 ∧ s 98 18 = tq72 98 18 ∧ s 98 13 = 1 ∧ s 98 14 = (tq72 98 16)) _ (if_98_14 Is87 (h_rgv hz88)) (Fs87.up rfl) ⟨es87.1, es87.2.1, es87.2.2.1, es87.2.2.2.1, es87.2.2.2.2.1, rfl⟩ (fun s89 Is89 Fs89 (es89 : s89 98 15 = tq72 98 15 ∧ s89 98 16 = tq72 98 16 ∧ s89 98 17 = 2 ∧ s89 98 18 = tq72 98 18 ∧ s89 98 13 = 1 ∧ s89 98 14 = (tq72 98 16)) => ?_))
            clear es87
            refine h_vret rfl rfl (h_Kn ?_)
            refine h_goto (pc' := 269) rfl rfl ?_
            refine d_toL (g_inj ns) hlw78 hRw78 (fun lvw90 memw90 hlw90 hRw90 => ?_)
            show h_T g_P (g_Y ns) 75 298 [(0, .ref 64)] [] s77 _
            exact h_wk [(0, .ref 64)] ⟨rfl, trivial⟩ (kx0 _ _ Is77 Is89 Fs77 Fs89 (by omega) (by omega) (by omega) (by omega) (by omega) (Or.inr ⟨by omega, by omega, by omega, by omega, by omega⟩) _ _ (h_al_ok ⟨rfl, trivial⟩ hlw90) hRw90)
        · clear hz75
          refine h_iconst (pc' := 263) (x := (Int32.ofInt 2)) rfl rfl rfl ?_
          refine h_goto (pc' := 267) rfl rfl ?_
          refine h_put (pc' := 270) rfl rfl rfl rfl rfl rfl ci_2 rfl (h_fgt (E := fun s => s 64 2 = sq72 64 2 ∧ s 64 4 = sq72 64 4 ∧ s 64 3 = 2 ∧ s 64 5 = sq72 64 5 ∧ s 63 2 = σ1 63 2 ∧ s 63 3 = sq72 63 3 ∧ s 64 1 = σ1 64 1) _ (if_64_3 Isq72 (by omega)) (Fsq72.up rfl) ⟨rfl, rfl, rfl, rfl, esq72_4, rfl, esq72_6⟩ (fun s91 Is91 Fs91 (es91 : s91 64 2 = sq72 64 2 ∧ s91 64 4 = sq72 64 4 ∧ s91 64 3 = 2 ∧ s91 64 5 = sq72 64 5 ∧ s91 63 2 = σ1 63 2 ∧ s91 63 3 = sq72 63 3 ∧ s91 64 1 = σ1 64 1) => ?_))
          clear esq72_4 esq72_6
          refine h_goto (pc' := 298) rfl rfl ?_
          refine d_toM (g_inj ns) hlq72 hRq72 (fun lvw92 memw92 hlw92 hRw92 => ?_)
          show h_T g_P (g_Y ns) 148 217 [(0, .ref 98)] [] tq72 _
          refine h_aload_n (pc' := 218) rfl rfl rfl ?_
          refine h_iconst (pc' := 219) (x := (Int32.ofInt 2)) rfl rfl rfl ?_
          refine h_put (pc' := 222) rfl rfl rfl rfl rfl rfl ci_2 rfl (h_fgt (E := fun s => s 98 15 = tq72 98 15 ∧ s 98 16 = tq72 98 16 ∧ s 98 17 = 2 ∧ s 98 18 = tq72 98 18 ∧ s 98 13 = tq72 98 13 ∧ s 98 14 = tq72 98 14) _ (if_98_17 Itq72 (by omega)) (Ftq72.up rfl) ⟨rfl, rfl, rfl, rfl, rfl, rfl⟩ (fun s93 Is93 Fs93 (es93 : s93 98 15 = tq72 98 15 ∧ s93 98 16 = tq72 98 16 ∧ s93 98 17 = 2 ∧ s93 98 18 = tq72 98 18 ∧ s93 98 13 = tq72 98 13 ∧ s93 98 14 = tq72 98 14) => ?_))
          refine h_aload_n (pc' := 223) rfl rfl rfl ?_
          refine h_getI (pc' := 226) (v := tq72 98 15) rfl rfl rfl rfl rfl es93.1 (fun z94 hz94 => ?_)
          have tz94 := tf_98_15 Itq72
          refine h_aload_n (pc' := 227) rfl rfl rfl ?_
          refine h_getI (pc' := 230) (v := tq72 98 16) rfl rfl rfl rfl rfl es93.2.1 (fun z95 hz95 => ?_)
          have tz95 := tf_98_16 Itq72
          refine h_isub (pc' := 231) rfl rfl hz94 hz95 rfl (by omega) (by omega) (fun z96 hz96 => ?_)
          clear hz94 hz95
          refine h_iconst (pc' := 232) (x := (Int32.ofInt 2)) rfl rfl rfl ?_
          refine h_cle (tg := 269) (pc' := 235) rfl rfl rfl hz96 ci_2 (fun c97 => ?_) (fun c97 => ?_)
          · clear hz96
            refine d_toL (g_inj ns) hlw92 hRw92 (fun lvw98 memw98 hlw98 hRw98 => ?_)
            show h_T g_P (g_Y ns) 75 298 [(0, .ref 64)] [] s91 _
            exact h_wk [(0, .ref 64)] ⟨rfl, trivial⟩ (kx0 _ _ Is91 Is93 Fs91 Fs93 (by omega) (by omega) (by omega) (by omega) (by omega) (Or.inl ⟨by omega, by omega, by omega, by omega, by omega, by omega, by omega, by omega⟩) _ _ (h_al_ok ⟨rfl, trivial⟩ hlw98) hRw98)
          · clear hz96
            refine h_aload_n (pc' := 236) rfl rfl rfl ?_
            refine h_iconst (pc' := 237) (x := (Int32.ofInt 1)) rfl rfl rfl ?_
            refine h_call (sp := false) (pc' := 240) (M := [(0, .ref 98), (1, .int (Int32.ofInt 1))]) rfl rfl rfl rfl rfl rfl rfl rfl ?_
            refine h_aload_n (pc' := 1) rfl rfl rfl ?_
            refine h_getI (pc' := 4) (v := tq72 98 13) rfl rfl rfl rfl rfl es93.2.2.2.2.1 (fun z99 hz99 => ?_)
            have tz99 := tf_98_13 Itq72
            refine h_zne (tg := 20) (pc' := 7) rfl rfl rfl hz99 (fun c100 => absurd c100 (by omega)) (fun c100 => ?_)
            clear hz99
            refine h_aload_n (pc' := 8) rfl rfl rfl ?_
            refine h_iload_n (pc' := 9) rfl rfl rfl ?_
            refine h_put (pc' := 12) rfl rfl rfl rfl rfl rfl ci_1 rfl (h_fgt (E := fun s => s 98 15 = tq72 98 15 ∧ s 98 16 = tq72 98 16 ∧ s 98 17 = 2 ∧ s 98 18 = tq72 98 18 ∧ s 98 13 = 1 ∧ s 98 14 = tq72 98 14) _ (if_98_13 Is93 (by omega)) (Fs93.up rfl) ⟨es93.1, es93.2.1, es93.2.2.1, es93.2.2.2.1, rfl, es93.2.2.2.2.2⟩ (fun s101 Is101 Fs101 (es101 : s101 98 15 = tq72 98 15 ∧ s101 98 16 = tq72 98 16 ∧ s101 98 17 = 2 ∧ s101 98 18 = tq72 98 18 ∧ s101 98 13 = 1 ∧ s101 98 14 = tq72 98 14) => ?_))
            clear es93
            refine h_aload_n (pc' := 13) rfl rfl rfl ?_
            refine h_aload_n (pc' := 14) rfl rfl rfl ?_
            refine h_getI (pc' := 17) (v := tq72 98 16) rfl rfl rfl rfl rfl es101.2.1 (fun z102 hz102 => ?_)
            refine h_put (pc' := 20) rfl rfl rfl rfl rfl rfl hz102 rfl (h_fgt (E := fun s => s 98 15 = tq72 98 15 ∧ s 98 16 = tq72 98 16 ∧ s 98 17 = 2 ∧ s 98 18 = tq72 98 18 ∧ s 98 13 = 1 ∧ s 98 14 = (tq72 98 16)) _ (if_98_14 Is101 (h_rgv hz102)) (Fs101.up rfl) ⟨es101.1, es101.2.1, es101.2.2.1, es101.2.2.2.1, es101.2.2.2.2.1, rfl⟩ (fun s103 Is103 Fs103 (es103 : s103 98 15 = tq72 98 15 ∧ s103 98 16 = tq72 98 16 ∧ s103 98 17 = 2 ∧ s103 98 18 = tq72 98 18 ∧ s103 98 13 = 1 ∧ s103 98 14 = (tq72 98 16)) => ?_))
            clear es101
            refine h_vret rfl rfl (h_Kn ?_)
            refine h_goto (pc' := 269) rfl rfl ?_
            exfalso
            omega
      · show h_T g_P (g_Y ns) 75 248 [(0, .ref 64)] [] sq72 _
        clear hz1 hz27 hz30 hz33 hz38 hz65 hz68 hz8
        refine h_aload_n (pc' := 249) rfl rfl rfl ?_
        refine h_aload_n (pc' := 250) rfl rfl rfl ?_
        refine h_getI (pc' := 253) (v := sq72 64 2) rfl rfl rfl rfl rfl rfl (fun z105 hz105 => ?_)
        have tz105 := tf_64_2 Isq72
        refine h_aload_n (pc' := 254) rfl rfl rfl ?_
        refine h_getI (pc' := 257) (v := sq72 64 4) rfl rfl rfl rfl rfl rfl (fun z106 hz106 => ?_)
        have tz106 := tf_64_4 Isq72
        refine h_isub (pc' := 258) rfl rfl hz105 hz106 rfl (by omega) (by omega) (fun z107 hz107 => ?_)
        clear hz105 hz106
        refine h_iconst (pc' := 259) (x := (Int32.ofInt 2)) rfl rfl rfl ?_
        refine h_cgt (tg := 266) (pc' := 262) rfl rfl rfl hz107 ci_2 (fun c108 => ?_) (fun c108 => ?_)
        · clear hz107
          refine h_iconst (pc' := 267) (x := (Int32.ofInt 4)) rfl rfl rfl ?_
          refine h_put (pc' := 270) rfl rfl rfl rfl rfl rfl ci_4 rfl (h_fgt (E := fun s => s 64 2 = sq72 64 2 ∧ s 64 4 = sq72 64 4 ∧ s 64 3 = 4 ∧ s 64 5 = sq72 64 5 ∧ s 63 2 = σ1 63 2 ∧ s 63 3 = sq72 63 3 ∧ s 64 1 = σ1 64 1) _ (if_64_3 Isq72 (by omega)) (Fsq72.up rfl) ⟨rfl, rfl, rfl, rfl, esq72_4, rfl, esq72_6⟩ (fun s109 Is109 Fs109 (es109 : s109 64 2 = sq72 64 2 ∧ s109 64 4 = sq72 64 4 ∧ s109 64 3 = 4 ∧ s109 64 5 = sq72 64 5 ∧ s109 63 2 = σ1 63 2 ∧ s109 63 3 = sq72 63 3 ∧ s109 64 1 = σ1 64 1) => ?_))
          clear esq72_4 esq72_6
          refine h_goto (pc' := 298) rfl rfl ?_
          refine d_toM (g_inj ns) hlq72 hRq72 (fun lvw110 memw110 hlw110 hRw110 => ?_)
          show h_T g_P (g_Y ns) 148 217 [(0, .ref 98)] [] tq72 _
          refine h_aload_n (pc' := 218) rfl rfl rfl ?_
          refine h_iconst (pc' := 219) (x := (Int32.ofInt 2)) rfl rfl rfl ?_
          refine h_put (pc' := 222) rfl rfl rfl rfl rfl rfl ci_2 rfl (h_fgt (E := fun s => s 98 15 = tq72 98 15 ∧ s 98 16 = tq72 98 16 ∧ s 98 17 = 2 ∧ s 98 18 = tq72 98 18 ∧ s 98 13 = tq72 98 13 ∧ s 98 14 = tq72 98 14) _ (if_98_17 Itq72 (by omega)) (Ftq72.up rfl) ⟨rfl, rfl, rfl, rfl, rfl, rfl⟩ (fun s111 Is111 Fs111 (es111 : s111 98 15 = tq72 98 15 ∧ s111 98 16 = tq72 98 16 ∧ s111 98 17 = 2 ∧ s111 98 18 = tq72 98 18 ∧ s111 98 13 = tq72 98 13 ∧ s111 98 14 = tq72 98 14) => ?_))
          refine h_aload_n (pc' := 223) rfl rfl rfl ?_
          refine h_getI (pc' := 226) (v := tq72 98 15) rfl rfl rfl rfl rfl es111.1 (fun z112 hz112 => ?_)
          have tz112 := tf_98_15 Itq72
          refine h_aload_n (pc' := 227) rfl rfl rfl ?_
          refine h_getI (pc' := 230) (v := tq72 98 16) rfl rfl rfl rfl rfl es111.2.1 (fun z113 hz113 => ?_)
          have tz113 := tf_98_16 Itq72
          refine h_isub (pc' := 231) rfl rfl hz112 hz113 rfl (by omega) (by omega) (fun z114 hz114 => ?_)
          clear hz112 hz113
          refine h_iconst (pc' := 232) (x := (Int32.ofInt 2)) rfl rfl rfl ?_
          refine h_cle (tg := 269) (pc' := 235) rfl rfl rfl hz114 ci_2 (fun c115 => ?_) (fun c115 => ?_)
          · clear hz114
            exfalso
            omega
          · clear hz114
            refine h_aload_n (pc' := 236) rfl rfl rfl ?_
            refine h_iconst (pc' := 237) (x := (Int32.ofInt 1)) rfl rfl rfl ?_
            refine h_call (sp := false) (pc' := 240) (M := [(0, .ref 98), (1, .int (Int32.ofInt 1))]) rfl rfl rfl rfl rfl rfl rfl rfl ?_
            refine h_aload_n (pc' := 1) rfl rfl rfl ?_
            refine h_getI (pc' := 4) (v := tq72 98 13) rfl rfl rfl rfl rfl es111.2.2.2.2.1 (fun z117 hz117 => ?_)
            have tz117 := tf_98_13 Itq72
            refine h_zne (tg := 20) (pc' := 7) rfl rfl rfl hz117 (fun c118 => absurd c118 (by omega)) (fun c118 => ?_)
            clear hz117
            refine h_aload_n (pc' := 8) rfl rfl rfl ?_
            refine h_iload_n (pc' := 9) rfl rfl rfl ?_
            refine h_put (pc' := 12) rfl rfl rfl rfl rfl rfl ci_1 rfl (h_fgt (E := fun s => s 98 15 = tq72 98 15 ∧ s 98 16 = tq72 98 16 ∧ s 98 17 = 2 ∧ s 98 18 = tq72 98 18 ∧ s 98 13 = 1 ∧ s 98 14 = tq72 98 14) _ (if_98_13 Is111 (by omega)) (Fs111.up rfl) ⟨es111.1, es111.2.1, es111.2.2.1, es111.2.2.2.1, rfl, es111.2.2.2.2.2⟩ (fun s119 Is119 Fs119 (es119 : s119 98 15 = tq72 98 15 ∧ s119 98 16 = tq72 98 16 ∧ s119 98 17 = 2 ∧ s119 98 18 = tq72 98 18 ∧ s119 98 13 = 1 ∧ s119 98 14 = tq72 98 14) => ?_))
            clear es111
            refine h_aload_n (pc' := 13) rfl rfl rfl ?_
            refine h_aload_n (pc' := 14) rfl rfl rfl ?_
            refine h_getI (pc' := 17) (v := tq72 98 16) rfl rfl rfl rfl rfl es119.2.1 (fun z120 hz120 => ?_)
            refine h_put (pc' := 20) rfl rfl rfl rfl rfl rfl hz120 rfl (h_fgt (E := fun s => s 98 15 = tq72 98 15 ∧ s 98 16 = tq72 98 16 ∧ s 98 17 = 2 ∧ s 98 18 = tq72 98 18 ∧ s 98 13 = 1 ∧ s 98 14 = (tq72 98 16)) _ (if_98_14 Is119 (h_rgv hz120)) (Fs119.up rfl) ⟨es119.1, es119.2.1, es119.2.2.1, es119.2.2.2.1, es119.2.2.2.2.1, rfl⟩ (fun s121 Is121 Fs121 (es121 : s121 98 15 = tq72 98 15 ∧ s121 98 16 = tq72 98 16 ∧ s121 98 17 = 2 ∧ s121 98 18 = tq72 98 18 ∧ s121 98 13 = 1 ∧ s121 98 14 = (tq72 98 16)) => ?_))
            clear es119
            refine h_vret rfl rfl (h_Kn ?_)
            refine h_goto (pc' := 269) rfl rfl ?_
            refine d_toL (g_inj ns) hlw110 hRw110 (fun lvw122 memw122 hlw122 hRw122 => ?_)
            show h_T g_P (g_Y ns) 75 298 [(0, .ref 64)] [] s109 _
            exact h_wk [(0, .ref 64)] ⟨rfl, trivial⟩ (kx0 _ _ Is109 Is121 Fs109 Fs121 (by omega) (by omega) (by omega) (by omega) (by omega) (Or.inr ⟨by omega, by omega, by omega, by omega, by omega⟩) _ _ (h_al_ok ⟨rfl, trivial⟩ hlw122) hRw122)
        · clear hz107
          refine h_iconst (pc' := 263) (x := (Int32.ofInt 2)) rfl rfl rfl ?_
          refine h_goto (pc' := 267) rfl rfl ?_
          refine h_put (pc' := 270) rfl rfl rfl rfl rfl rfl ci_2 rfl (h_fgt (E := fun s => s 64 2 = sq72 64 2 ∧ s 64 4 = sq72 64 4 ∧ s 64 3 = 2 ∧ s 64 5 = sq72 64 5 ∧ s 63 2 = σ1 63 2 ∧ s 63 3 = sq72 63 3 ∧ s 64 1 = σ1 64 1) _ (if_64_3 Isq72 (by omega)) (Fsq72.up rfl) ⟨rfl, rfl, rfl, rfl, esq72_4, rfl, esq72_6⟩ (fun s123 Is123 Fs123 (es123 : s123 64 2 = sq72 64 2 ∧ s123 64 4 = sq72 64 4 ∧ s123 64 3 = 2 ∧ s123 64 5 = sq72 64 5 ∧ s123 63 2 = σ1 63 2 ∧ s123 63 3 = sq72 63 3 ∧ s123 64 1 = σ1 64 1) => ?_))
          clear esq72_4 esq72_6
          refine h_goto (pc' := 298) rfl rfl ?_
          refine d_toM (g_inj ns) hlq72 hRq72 (fun lvw124 memw124 hlw124 hRw124 => ?_)
          show h_T g_P (g_Y ns) 148 217 [(0, .ref 98)] [] tq72 _
          refine h_aload_n (pc' := 218) rfl rfl rfl ?_
          refine h_iconst (pc' := 219) (x := (Int32.ofInt 2)) rfl rfl rfl ?_
          refine h_put (pc' := 222) rfl rfl rfl rfl rfl rfl ci_2 rfl (h_fgt (E := fun s => s 98 15 = tq72 98 15 ∧ s 98 16 = tq72 98 16 ∧ s 98 17 = 2 ∧ s 98 18 = tq72 98 18 ∧ s 98 13 = tq72 98 13 ∧ s 98 14 = tq72 98 14) _ (if_98_17 Itq72 (by omega)) (Ftq72.up rfl) ⟨rfl, rfl, rfl, rfl, rfl, rfl⟩ (fun s125 Is125 Fs125 (es125 : s125 98 15 = tq72 98 15 ∧ s125 98 16 = tq72 98 16 ∧ s125 98 17 = 2 ∧ s125 98 18 = tq72 98 18 ∧ s125 98 13 = tq72 98 13 ∧ s125 98 14 = tq72 98 14) => ?_))
          refine h_aload_n (pc' := 223) rfl rfl rfl ?_
          refine h_getI (pc' := 226) (v := tq72 98 15) rfl rfl rfl rfl rfl es125.1 (fun z126 hz126 => ?_)
          have tz126 := tf_98_15 Itq72
          refine h_aload_n (pc' := 227) rfl rfl rfl ?_
          refine h_getI (pc' := 230) (v := tq72 98 16) rfl rfl rfl rfl rfl es125.2.1 (fun z127 hz127 => ?_)
          have tz127 := tf_98_16 Itq72
          refine h_isub (pc' := 231) rfl rfl hz126 hz127 rfl (by omega) (by omega) (fun z128 hz128 => ?_)
          clear hz126 hz127
          refine h_iconst (pc' := 232) (x := (Int32.ofInt 2)) rfl rfl rfl ?_
          refine h_cle (tg := 269) (pc' := 235) rfl rfl rfl hz128 ci_2 (fun c129 => ?_) (fun c129 => ?_)
          · clear hz128
            refine d_toL (g_inj ns) hlw124 hRw124 (fun lvw130 memw130 hlw130 hRw130 => ?_)
            show h_T g_P (g_Y ns) 75 298 [(0, .ref 64)] [] s123 _
            exact h_wk [(0, .ref 64)] ⟨rfl, trivial⟩ (kx0 _ _ Is123 Is125 Fs123 Fs125 (by omega) (by omega) (by omega) (by omega) (by omega) (Or.inl ⟨by omega, by omega, by omega, by omega, by omega, by omega, by omega, by omega⟩) _ _ (h_al_ok ⟨rfl, trivial⟩ hlw130) hRw130)
          · clear hz128
            refine h_aload_n (pc' := 236) rfl rfl rfl ?_
            refine h_iconst (pc' := 237) (x := (Int32.ofInt 1)) rfl rfl rfl ?_
            refine h_call (sp := false) (pc' := 240) (M := [(0, .ref 98), (1, .int (Int32.ofInt 1))]) rfl rfl rfl rfl rfl rfl rfl rfl ?_
            refine h_aload_n (pc' := 1) rfl rfl rfl ?_
            refine h_getI (pc' := 4) (v := tq72 98 13) rfl rfl rfl rfl rfl es125.2.2.2.2.1 (fun z131 hz131 => ?_)
            have tz131 := tf_98_13 Itq72
            refine h_zne (tg := 20) (pc' := 7) rfl rfl rfl hz131 (fun c132 => absurd c132 (by omega)) (fun c132 => ?_)
            clear hz131
            refine h_aload_n (pc' := 8) rfl rfl rfl ?_
            refine h_iload_n (pc' := 9) rfl rfl rfl ?_
            refine h_put (pc' := 12) rfl rfl rfl rfl rfl rfl ci_1 rfl (h_fgt (E := fun s => s 98 15 = tq72 98 15 ∧ s 98 16 = tq72 98 16 ∧ s 98 17 = 2 ∧ s 98 18 = tq72 98 18 ∧ s 98 13 = 1 ∧ s 98 14 = tq72 98 14) _ (if_98_13 Is125 (by omega)) (Fs125.up rfl) ⟨es125.1, es125.2.1, es125.2.2.1, es125.2.2.2.1, rfl, es125.2.2.2.2.2⟩ (fun s133 Is133 Fs133 (es133 : s133 98 15 = tq72 98 15 ∧ s133 98 16 = tq72 98 16 ∧ s133 98 17 = 2 ∧ s133 98 18 = tq72 98 18 ∧ s133 98 13 = 1 ∧ s133 98 14 = tq72 98 14) => ?_))
            clear es125
            refine h_aload_n (pc' := 13) rfl rfl rfl ?_
            refine h_aload_n (pc' := 14) rfl rfl rfl ?_
            refine h_getI (pc' := 17) (v := tq72 98 16) rfl rfl rfl rfl rfl es133.2.1 (fun z134 hz134 => ?_)
            refine h_put (pc' := 20) rfl rfl rfl rfl rfl rfl hz134 rfl (h_fgt (E := fun s => s 98 15 = tq72 98 15 ∧ s 98 16 = tq72 98 16 ∧ s 98 17 = 2 ∧ s 98 18 = tq72 98 18 ∧ s 98 13 = 1 ∧ s 98 14 = (tq72 98 16)) _ (if_98_14 Is133 (h_rgv hz134)) (Fs133.up rfl) ⟨es133.1, es133.2.1, es133.2.2.1, es133.2.2.2.1, es133.2.2.2.2.1, rfl⟩ (fun s135 Is135 Fs135 (es135 : s135 98 15 = tq72 98 15 ∧ s135 98 16 = tq72 98 16 ∧ s135 98 17 = 2 ∧ s135 98 18 = tq72 98 18 ∧ s135 98 13 = 1 ∧ s135 98 14 = (tq72 98 16)) => ?_))
            clear es133
            refine h_vret rfl rfl (h_Kn ?_)
            refine h_goto (pc' := 269) rfl rfl ?_
            exfalso
            omega
      · show h_T g_P (g_Y ns) 75 248 [(0, .ref 64)] [] sq72 _
        clear hz1 hz27 hz30 hz33 hz38 hz65 hz68 hz8
        refine h_aload_n (pc' := 249) rfl rfl rfl ?_
        refine h_aload_n (pc' := 250) rfl rfl rfl ?_
        refine h_getI (pc' := 253) (v := sq72 64 2) rfl rfl rfl rfl rfl rfl (fun z137 hz137 => ?_)
        have tz137 := tf_64_2 Isq72
        refine h_aload_n (pc' := 254) rfl rfl rfl ?_
        refine h_getI (pc' := 257) (v := sq72 64 4) rfl rfl rfl rfl rfl rfl (fun z138 hz138 => ?_)
        have tz138 := tf_64_4 Isq72
        refine h_isub (pc' := 258) rfl rfl hz137 hz138 rfl (by omega) (by omega) (fun z139 hz139 => ?_)
        clear hz137 hz138
        refine h_iconst (pc' := 259) (x := (Int32.ofInt 2)) rfl rfl rfl ?_
        refine h_cgt (tg := 266) (pc' := 262) rfl rfl rfl hz139 ci_2 (fun c140 => ?_) (fun c140 => ?_)
        · clear hz139
          refine h_iconst (pc' := 267) (x := (Int32.ofInt 4)) rfl rfl rfl ?_
          refine h_put (pc' := 270) rfl rfl rfl rfl rfl rfl ci_4 rfl (h_fgt (E := fun s => s 64 2 = sq72 64 2 ∧ s 64 4 = sq72 64 4 ∧ s 64 3 = 4 ∧ s 64 5 = sq72 64 5 ∧ s 63 2 = σ1 63 2 ∧ s 63 3 = sq72 63 3 ∧ s 64 1 = σ1 64 1) _ (if_64_3 Isq72 (by omega)) (Fsq72.up rfl) ⟨rfl, rfl, rfl, rfl, esq72_4, rfl, esq72_6⟩ (fun s141 Is141 Fs141 (es141 : s141 64 2 = sq72 64 2 ∧ s141 64 4 = sq72 64 4 ∧ s141 64 3 = 4 ∧ s141 64 5 = sq72 64 5 ∧ s141 63 2 = σ1 63 2 ∧ s141 63 3 = sq72 63 3 ∧ s141 64 1 = σ1 64 1) => ?_))
          clear esq72_4 esq72_6
          refine h_goto (pc' := 298) rfl rfl ?_
          refine d_toM (g_inj ns) hlq72 hRq72 (fun lvw142 memw142 hlw142 hRw142 => ?_)
          show h_T g_P (g_Y ns) 148 217 [(0, .ref 98)] [] tq72 _
          refine h_aload_n (pc' := 218) rfl rfl rfl ?_
          refine h_iconst (pc' := 219) (x := (Int32.ofInt 2)) rfl rfl rfl ?_
          refine h_put (pc' := 222) rfl rfl rfl rfl rfl rfl ci_2 rfl (h_fgt (E := fun s => s 98 15 = tq72 98 15 ∧ s 98 16 = tq72 98 16 ∧ s 98 17 = 2 ∧ s 98 18 = tq72 98 18 ∧ s 98 13 = tq72 98 13 ∧ s 98 14 = tq72 98 14) _ (if_98_17 Itq72 (by omega)) (Ftq72.up rfl) ⟨rfl, rfl, rfl, rfl, rfl, rfl⟩ (fun s143 Is143 Fs143 (es143 : s143 98 15 = tq72 98 15 ∧ s143 98 16 = tq72 98 16 ∧ s143 98 17 = 2 ∧ s143 98 18 = tq72 98 18 ∧ s143 98 13 = tq72 98 13 ∧ s143 98 14 = tq72 98 14) => ?_))
          refine h_aload_n (pc' := 223) rfl rfl rfl ?_
          refine h_getI (pc' := 226) (v := tq72 98 15) rfl rfl rfl rfl rfl es143.1 (fun z144 hz144 => ?_)
          have tz144 := tf_98_15 Itq72
          refine h_aload_n (pc' := 227) rfl rfl rfl ?_
          refine h_getI (pc' := 230) (v := tq72 98 16) rfl rfl rfl rfl rfl es143.2.1 (fun z145 hz145 => ?_)
          have tz145 := tf_98_16 Itq72
          refine h_isub (pc' := 231) rfl rfl hz144 hz145 rfl (by omega) (by omega) (fun z146 hz146 => ?_)
          clear hz144 hz145
          refine h_iconst (pc' := 232) (x := (Int32.ofInt 2)) rfl rfl rfl ?_
          refine h_cle (tg := 269) (pc' := 235) rfl rfl rfl hz146 ci_2 (fun c147 => ?_) (fun c147 => ?_)
          · clear hz146
            exfalso
            omega
          · clear hz146
            refine h_aload_n (pc' := 236) rfl rfl rfl ?_
            refine h_iconst (pc' := 237) (x := (Int32.ofInt 1)) rfl rfl rfl ?_
            refine h_call (sp := false) (pc' := 240) (M := [(0, .ref 98), (1, .int (Int32.ofInt 1))]) rfl rfl rfl rfl rfl rfl rfl rfl ?_
            refine h_aload_n (pc' := 1) rfl rfl rfl ?_
            refine h_getI (pc' := 4) (v := tq72 98 13) rfl rfl rfl rfl rfl es143.2.2.2.2.1 (fun z149 hz149 => ?_)
            have tz149 := tf_98_13 Itq72
            refine h_zne (tg := 20) (pc' := 7) rfl rfl rfl hz149 (fun c150 => absurd c150 (by omega)) (fun c150 => ?_)
            clear hz149
            refine h_aload_n (pc' := 8) rfl rfl rfl ?_
            refine h_iload_n (pc' := 9) rfl rfl rfl ?_
            refine h_put (pc' := 12) rfl rfl rfl rfl rfl rfl ci_1 rfl (h_fgt (E := fun s => s 98 15 = tq72 98 15 ∧ s 98 16 = tq72 98 16 ∧ s 98 17 = 2 ∧ s 98 18 = tq72 98 18 ∧ s 98 13 = 1 ∧ s 98 14 = tq72 98 14) _ (if_98_13 Is143 (by omega)) (Fs143.up rfl) ⟨es143.1, es143.2.1, es143.2.2.1, es143.2.2.2.1, rfl, es143.2.2.2.2.2⟩ (fun s151 Is151 Fs151 (es151 : s151 98 15 = tq72 98 15 ∧ s151 98 16 = tq72 98 16 ∧ s151 98 17 = 2 ∧ s151 98 18 = tq72 98 18 ∧ s151 98 13 = 1 ∧ s151 98 14 = tq72 98 14) => ?_))
            clear es143
            refine h_aload_n (pc' := 13) rfl rfl rfl ?_
            refine h_aload_n (pc' := 14) rfl rfl rfl ?_
            refine h_getI (pc' := 17) (v := tq72 98 16) rfl rfl rfl rfl rfl es151.2.1 (fun z152 hz152 => ?_)
            refine h_put (pc' := 20) rfl rfl rfl rfl rfl rfl hz152 rfl (h_fgt (E := fun s => s 98 15 = tq72 98 15 ∧ s 98 16 = tq72 98 16 ∧ s 98 17 = 2 ∧ s 98 18 = tq72 98 18 ∧ s 98 13 = 1 ∧ s 98 14 = (tq72 98 16)) _ (if_98_14 Is151 (h_rgv hz152)) (Fs151.up rfl) ⟨es151.1, es151.2.1, es151.2.2.1, es151.2.2.2.1, es151.2.2.2.2.1, rfl⟩ (fun s153 Is153 Fs153 (es153 : s153 98 15 = tq72 98 15 ∧ s153 98 16 = tq72 98 16 ∧ s153 98 17 = 2 ∧ s153 98 18 = tq72 98 18 ∧ s153 98 13 = 1 ∧ s153 98 14 = (tq72 98 16)) => ?_))
            clear es151
            refine h_vret rfl rfl (h_Kn ?_)
            refine h_goto (pc' := 269) rfl rfl ?_
            refine d_toL (g_inj ns) hlw142 hRw142 (fun lvw154 memw154 hlw154 hRw154 => ?_)
            show h_T g_P (g_Y ns) 75 298 [(0, .ref 64)] [] s141 _
            exact h_wk [(0, .ref 64)] ⟨rfl, trivial⟩ (kx0 _ _ Is141 Is153 Fs141 Fs153 (by omega) (by omega) (by omega) (by omega) (by omega) (Or.inr ⟨by omega, by omega, by omega, by omega, by omega⟩) _ _ (h_al_ok ⟨rfl, trivial⟩ hlw154) hRw154)
        · clear hz139
          refine h_iconst (pc' := 263) (x := (Int32.ofInt 2)) rfl rfl rfl ?_
          refine h_goto (pc' := 267) rfl rfl ?_
          refine h_put (pc' := 270) rfl rfl rfl rfl rfl rfl ci_2 rfl (h_fgt (E := fun s => s 64 2 = sq72 64 2 ∧ s 64 4 = sq72 64 4 ∧ s 64 3 = 2 ∧ s 64 5 = sq72 64 5 ∧ s 63 2 = σ1 63 2 ∧ s 63 3 = sq72 63 3 ∧ s 64 1 = σ1 64 1) _ (if_64_3 Isq72 (by omega)) (Fsq72.up rfl) ⟨rfl, rfl, rfl, rfl, esq72_4, rfl, esq72_6⟩ (fun s155 Is155 Fs155 (es155 : s155 64 2 = sq72 64 2 ∧ s155 64 4 = sq72 64 4 ∧ s155 64 3 = 2 ∧ s155 64 5 = sq72 64 5 ∧ s155 63 2 = σ1 63 2 ∧ s155 63 3 = sq72 63 3 ∧ s155 64 1 = σ1 64 1) => ?_))
          clear esq72_4 esq72_6
          refine h_goto (pc' := 298) rfl rfl ?_
          refine d_toM (g_inj ns) hlq72 hRq72 (fun lvw156 memw156 hlw156 hRw156 => ?_)
          show h_T g_P (g_Y ns) 148 217 [(0, .ref 98)] [] tq72 _
          refine h_aload_n (pc' := 218) rfl rfl rfl ?_
          refine h_iconst (pc' := 219) (x := (Int32.ofInt 2)) rfl rfl rfl ?_
          refine h_put (pc' := 222) rfl rfl rfl rfl rfl rfl ci_2 rfl (h_fgt (E := fun s => s 98 15 = tq72 98 15 ∧ s 98 16 = tq72 98 16 ∧ s 98 17 = 2 ∧ s 98 18 = tq72 98 18 ∧ s 98 13 = tq72 98 13 ∧ s 98 14 = tq72 98 14) _ (if_98_17 Itq72 (by omega)) (Ftq72.up rfl) ⟨rfl, rfl, rfl, rfl, rfl, rfl⟩ (fun s157 Is157 Fs157 (es157 : s157 98 15 = tq72 98 15 ∧ s157 98 16 = tq72 98 16 ∧ s157 98 17 = 2 ∧ s157 98 18 = tq72 98 18 ∧ s157 98 13 = tq72 98 13 ∧ s157 98 14 = tq72 98 14) => ?_))
          refine h_aload_n (pc' := 223) rfl rfl rfl ?_
          refine h_getI (pc' := 226) (v := tq72 98 15) rfl rfl rfl rfl rfl es157.1 (fun z158 hz158 => ?_)
          have tz158 := tf_98_15 Itq72
          refine h_aload_n (pc' := 227) rfl rfl rfl ?_
          refine h_getI (pc' := 230) (v := tq72 98 16) rfl rfl rfl rfl rfl es157.2.1 (fun z159 hz159 => ?_)
          have tz159 := tf_98_16 Itq72
          refine h_isub (pc' := 231) rfl rfl hz158 hz159 rfl (by omega) (by omega) (fun z160 hz160 => ?_)
          clear hz158 hz159
          refine h_iconst (pc' := 232) (x := (Int32.ofInt 2)) rfl rfl rfl ?_
          refine h_cle (tg := 269) (pc' := 235) rfl rfl rfl hz160 ci_2 (fun c161 => ?_) (fun c161 => ?_)
          · clear hz160
            refine d_toL (g_inj ns) hlw156 hRw156 (fun lvw162 memw162 hlw162 hRw162 => ?_)
            show h_T g_P (g_Y ns) 75 298 [(0, .ref 64)] [] s155 _
            exact h_wk [(0, .ref 64)] ⟨rfl, trivial⟩ (kx0 _ _ Is155 Is157 Fs155 Fs157 (by omega) (by omega) (by omega) (by omega) (by omega) (Or.inl ⟨by omega, by omega, by omega, by omega, by omega, by omega, by omega, by omega⟩) _ _ (h_al_ok ⟨rfl, trivial⟩ hlw162) hRw162)
          · clear hz160
            refine h_aload_n (pc' := 236) rfl rfl rfl ?_
            refine h_iconst (pc' := 237) (x := (Int32.ofInt 1)) rfl rfl rfl ?_
            refine h_call (sp := false) (pc' := 240) (M := [(0, .ref 98), (1, .int (Int32.ofInt 1))]) rfl rfl rfl rfl rfl rfl rfl rfl ?_
            refine h_aload_n (pc' := 1) rfl rfl rfl ?_
            refine h_getI (pc' := 4) (v := tq72 98 13) rfl rfl rfl rfl rfl es157.2.2.2.2.1 (fun z163 hz163 => ?_)
            have tz163 := tf_98_13 Itq72
            refine h_zne (tg := 20) (pc' := 7) rfl rfl rfl hz163 (fun c164 => absurd c164 (by omega)) (fun c164 => ?_)
            clear hz163
            refine h_aload_n (pc' := 8) rfl rfl rfl ?_
            refine h_iload_n (pc' := 9) rfl rfl rfl ?_
            refine h_put (pc' := 12) rfl rfl rfl rfl rfl rfl ci_1 rfl (h_fgt (E := fun s => s 98 15 = tq72 98 15 ∧ s 98 16 = tq72 98 16 ∧ s 98 17 = 2 ∧ s 98 18 = tq72 98 18 ∧ s 98 13 = 1 ∧ s 98 14 = tq72 98 14) _ (if_98_13 Is157 (by omega)) (Fs157.up rfl) ⟨es157.1, es157.2.1, es157.2.2.1, es157.2.2.2.1, rfl, es157.2.2.2.2.2⟩ (fun s165 Is165 Fs165 (es165 : s165 98 15 = tq72 98 15 ∧ s165 98 16 = tq72 98 16 ∧ s165 98 17 = 2 ∧ s165 98 18 = tq72 98 18 ∧ s165 98 13 = 1 ∧ s165 98 14 = tq72 98 14) => ?_))
            clear es157
            refine h_aload_n (pc' := 13) rfl rfl rfl ?_
            refine h_aload_n (pc' := 14) rfl rfl rfl ?_
            refine h_getI (pc' := 17) (v := tq72 98 16) rfl rfl rfl rfl rfl es165.2.1 (fun z166 hz166 => ?_)
            refine h_put (pc' := 20) rfl rfl rfl rfl rfl rfl hz166 rfl (h_fgt (E := fun s => s 98 15 = tq72 98 15 ∧ s 98 16 = tq72 98 16 ∧ s 98 17 = 2 ∧ s 98 18 = tq72 98 18 ∧ s 98 13 = 1 ∧ s 98 14 = (tq72 98 16)) _ (if_98_14 Is165 (h_rgv hz166)) (Fs165.up rfl) ⟨es165.1, es165.2.1, es165.2.2.1, es165.2.2.2.1, es165.2.2.2.2.1, rfl⟩ (fun s167 Is167 Fs167 (es167 : s167 98 15 = tq72 98 15 ∧ s167 98 16 = tq72 98 16 ∧ s167 98 17 = 2 ∧ s167 98 18 = tq72 98 18 ∧ s167 98 13 = 1 ∧ s167 98 14 = (tq72 98 16)) => ?_))
            clear es165
            refine h_vret rfl rfl (h_Kn ?_)
            refine h_goto (pc' := 269) rfl rfl ?_
            exfalso
            omega
  · clear hz63
    refine h_bipush (pc' := 177) (x := (Int32.ofInt 10)) rfl rfl cb_10 ?_
    refine h_aload_n (pc' := 178) rfl rfl rfl ?_
    refine h_getI (pc' := 181) (v := 0) rfl rfl rfl rfl rfl es39.2.2.2.1 (fun z169 hz169 => ?_)
    refine h_imul (pc' := 182) rfl rfl ci_10 hz169 rfl (by omega) (by omega) (fun z170 hz170 => ?_)
    clear hz169
    refine h_aload_n (pc' := 183) rfl rfl rfl ?_
    refine h_aload_n (pc' := 184) rfl rfl rfl ?_
    refine h_getI (pc' := 187) (v := σ2 98 15) rfl rfl rfl rfl rfl es39.1 (fun z171 hz171 => ?_)
    refine h_call (sp := false) (pc' := 190) (M := [(0, .ref 98), (1, .int z171)]) rfl rfl rfl rfl rfl rfl rfl rfl ?_
    refine h_iload_n (pc' := 1) rfl rfl rfl ?_
    refine h_aload_n (pc' := 2) rfl rfl rfl ?_
    refine h_getI (pc' := 5) (v := σ2 98 11) rfl rfl rfl rfl rfl (Fs39 98 11 rfl) (fun z172 hz172 => ?_)
    refine h_cge (tg := 17) (pc' := 8) rfl rfl rfl hz171 hz172 (fun c173 => absurd c173 (by omega)) (fun c173 => ?_)
    clear hz172
    refine h_aload_n (pc' := 9) rfl rfl rfl ?_
    refine h_getR (pc' := 12) rfl rfl rfl rfl rfl ?_
    refine h_iload_n (pc' := 13) rfl rfl rfl ?_
    refine h_iald (pc' := 14) (v := σ2 102 (σ2 98 15)) rfl rfl rfl hz171 (by omega) (by omega) (Fs39 102 _ rfl) (fun z174 hz174 => ?_)
    refine h_goto (pc' := 19) rfl rfl ?_
    refine h_iret rfl rfl (h_Kv ?_)
    clear hz171
    refine h_iadd (pc' := 191) rfl rfl hz170 hz174 rfl (by omega) (by omega) (fun z175 hz175 => ?_)
    clear hz170 hz174
    refine h_bipush (pc' := 193) (x := (Int32.ofInt 48)) rfl rfl cb_48 ?_
    refine h_isub (pc' := 194) rfl rfl hz175 ci_48 rfl (by omega) (by omega) (fun z176 hz176 => ?_)
    clear hz175
    refine h_goto (pc' := 201) rfl rfl ?_
    refine h_put (pc' := 204) rfl rfl rfl rfl rfl rfl hz176 rfl (h_fgt (E := fun s => s 98 15 = σ2 98 15 ∧ s 98 16 = (σ2 98 15) ∧ s 98 17 = σ2 98 17 ∧ s 98 18 = (((10 * 0) + (σ2 102 (σ2 98 15))) - 48) ∧ s 98 13 = σ2 98 13 ∧ s 98 14 = σ2 98 14) _ (if_98_18 Is39 (by omega)) (Fs39.up rfl) ⟨es39.1, es39.2.1, es39.2.2.1, rfl, es39.2.2.2.2.1, es39.2.2.2.2.2⟩ (fun s177 Is177 Fs177 (es177 : s177 98 15 = σ2 98 15 ∧ s177 98 16 = (σ2 98 15) ∧ s177 98 17 = σ2 98 17 ∧ s177 98 18 = (((10 * 0) + (σ2 102 (σ2 98 15))) - 48) ∧ s177 98 13 = σ2 98 13 ∧ s177 98 14 = σ2 98 14) => ?_))
    clear es39
    refine h_aload_n (pc' := 205) rfl rfl rfl ?_
    refine h_dup (pc' := 206) rfl rfl rfl ?_
    refine h_getI (pc' := 209) (v := σ2 98 15) rfl rfl rfl rfl rfl es177.1 (fun z178 hz178 => ?_)
    refine h_iconst (pc' := 210) (x := (Int32.ofInt 1)) rfl rfl rfl ?_
    refine h_iadd (pc' := 211) rfl rfl hz178 ci_1 rfl (by omega) (by omega) (fun z179 hz179 => ?_)
    clear hz178
    refine h_put (pc' := 214) rfl rfl rfl rfl rfl rfl hz179 rfl (h_fgt (E := fun s => s 98 15 = ((σ2 98 15) + 1) ∧ s 98 16 = (σ2 98 15) ∧ s 98 17 = σ2 98 17 ∧ s 98 18 = (((10 * 0) + (σ2 102 (σ2 98 15))) - 48) ∧ s 98 13 = σ2 98 13 ∧ s 98 14 = σ2 98 14) _ (if_98_15 Is177 (by omega)) (Fs177.up rfl) ⟨rfl, es177.2.1, es177.2.2.1, es177.2.2.2.1, es177.2.2.2.2.1, es177.2.2.2.2.2⟩ (fun s180 Is180 Fs180 (es180 : s180 98 15 = ((σ2 98 15) + 1) ∧ s180 98 16 = (σ2 98 15) ∧ s180 98 17 = σ2 98 17 ∧ s180 98 18 = (((10 * 0) + (σ2 102 (σ2 98 15))) - 48) ∧ s180 98 13 = σ2 98 13 ∧ s180 98 14 = σ2 98 14) => ?_))
    clear es177
    refine h_goto (pc' := 140) rfl rfl ?_
    refine d_toL (g_inj ns) hlw32 hRw32 (fun lvw181 memw181 hlw181 hRw181 => ?_)
    show h_T g_P (g_Y ns) 75 172 [(1, .int z8), (0, .ref 64)] [] s31 _
    have ga182 := tf_64_2 Is31
    refine h_wk [(0, .ref 64)] ⟨rfl, trivial⟩ (lp_di Is31 Is180 (hTL.fr (Fs31.mono rfl) (Fs180.mono rfl)) (fun sq183 tq183 Isq183 Itq183 Gsq183 Gtq183   yq183_0 yq183_1 yq183_2 yq183_3 yq183_4 yq183_5 pcq183 lvq183 memq183 hlq183 hRq183 => ?_) 100000 _ _ Is31 Is180 h_F.rf h_F.rf   (by omega) (by omega) (by omega) (by omega) (by omega) (by omega) (Or.inl ⟨by omega, by omega, by omega, by omega⟩) (by omega) _ _ (h_al_ok ⟨rfl, trivial⟩ hlw181) hRw181)
    · have Fsq183 := (Gsq183.mono (B := k_lx) rfl).tr Fs31
      have Ftq183 := (Gtq183.mono (B := k_lm) rfl).tr Fs180
      have Isq183 := Isq183
      have Itq183 := Itq183
      have Gsq183 := Gsq183
      have Gtq183 := Gtq183
      have esq183_6 : sq183 64 1 = σ1 64 1 := (Gsq183 64 1 rfl).trans es31.2.2.2.2.2.2
      have esq183_4 : sq183 63 2 = σ1 63 2 := yq183_3.trans es31.2.2.2.2.1
      rcases pcq183 with pcq183 | pcq183 | pcq183
      · show h_T g_P (g_Y ns) 75 248 [(0, .ref 64)] [] sq183 _
        clear hz1 hz176 hz179 hz27 hz30 hz33 hz38 hz8
        refine h_aload_n (pc' := 249) rfl rfl rfl ?_
        refine h_aload_n (pc' := 250) rfl rfl rfl ?_
        refine h_getI (pc' := 253) (v := sq183 64 2) rfl rfl rfl rfl rfl rfl (fun z184 hz184 => ?_)
        have tz184 := tf_64_2 Isq183
        refine h_aload_n (pc' := 254) rfl rfl rfl ?_
        refine h_getI (pc' := 257) (v := sq183 64 4) rfl rfl rfl rfl rfl rfl (fun z185 hz185 => ?_)
        have tz185 := tf_64_4 Isq183
        refine h_isub (pc' := 258) rfl rfl hz184 hz185 rfl (by omega) (by omega) (fun z186 hz186 => ?_)
        clear hz184 hz185
        refine h_iconst (pc' := 259) (x := (Int32.ofInt 2)) rfl rfl rfl ?_
        refine h_cgt (tg := 266) (pc' := 262) rfl rfl rfl hz186 ci_2 (fun c187 => ?_) (fun c187 => ?_)
        · clear hz186
          refine h_iconst (pc' := 267) (x := (Int32.ofInt 4)) rfl rfl rfl ?_
          refine h_put (pc' := 270) rfl rfl rfl rfl rfl rfl ci_4 rfl (h_fgt (E := fun s => s 64 2 = sq183 64 2 ∧ s 64 4 = sq183 64 4 ∧ s 64 3 = 4 ∧ s 64 5 = sq183 64 5 ∧ s 63 2 = σ1 63 2 ∧ s 63 3 = sq183 63 3 ∧ s 64 1 = σ1 64 1) _ (if_64_3 Isq183 (by omega)) (Fsq183.up rfl) ⟨rfl, rfl, rfl, rfl, esq183_4, rfl, esq183_6⟩ (fun s188 Is188 Fs188 (es188 : s188 64 2 = sq183 64 2 ∧ s188 64 4 = sq183 64 4 ∧ s188 64 3 = 4 ∧ s188 64 5 = sq183 64 5 ∧ s188 63 2 = σ1 63 2 ∧ s188 63 3 = sq183 63 3 ∧ s188 64 1 = σ1 64 1) => ?_))
          clear esq183_4 esq183_6
          refine h_goto (pc' := 298) rfl rfl ?_
          refine d_toM (g_inj ns) hlq183 hRq183 (fun lvw189 memw189 hlw189 hRw189 => ?_)
          show h_T g_P (g_Y ns) 148 217 [(0, .ref 98)] [] tq183 _
          refine h_aload_n (pc' := 218) rfl rfl rfl ?_
          refine h_iconst (pc' := 219) (x := (Int32.ofInt 2)) rfl rfl rfl ?_
          refine h_put (pc' := 222) rfl rfl rfl rfl rfl rfl ci_2 rfl (h_fgt (E := fun s => s 98 15 = tq183 98 15 ∧ s 98 16 = tq183 98 16 ∧ s 98 17 = 2 ∧ s 98 18 = tq183 98 18 ∧ s 98 13 = tq183 98 13 ∧ s 98 14 = tq183 98 14) _ (if_98_17 Itq183 (by omega)) (Ftq183.up rfl) ⟨rfl, rfl, rfl, rfl, rfl, rfl⟩ (fun s190 Is190 Fs190 (es190 : s190 98 15 = tq183 98 15 ∧ s190 98 16 = tq183 98 16 ∧ s190 98 17 = 2 ∧ s190 98 18 = tq183 98 18 ∧ s190 98 13 = tq183 98 13 ∧ s190 98 14 = tq183 98 14) => ?_))
          refine h_aload_n (pc' := 223) rfl rfl rfl ?_
          refine h_getI (pc' := 226) (v := tq183 98 15) rfl rfl rfl rfl rfl es190.1 (fun z191 hz191 => ?_)
          have tz191 := tf_98_15 Itq183
          refine h_aload_n (pc' := 227) rfl rfl rfl ?_
          refine h_getI (pc' := 230) (v := tq183 98 16) rfl rfl rfl rfl rfl es190.2.1 (fun z192 hz192 => ?_)
          have tz192 := tf_98_16 Itq183
          refine h_isub (pc' := 231) rfl rfl hz191 hz192 rfl (by omega) (by omega) (fun z193 hz193 => ?_)
          clear hz191 hz192
          refine h_iconst (pc' := 232) (x := (Int32.ofInt 2)) rfl rfl rfl ?_
          refine h_cle (tg := 269) (pc' := 235) rfl rfl rfl hz193 ci_2 (fun c194 => ?_) (fun c194 => ?_)
          · clear hz193
            exfalso
            omega
          · clear hz193
            refine h_aload_n (pc' := 236) rfl rfl rfl ?_
            refine h_iconst (pc' := 237) (x := (Int32.ofInt 1)) rfl rfl rfl ?_
            refine h_call (sp := false) (pc' := 240) (M := [(0, .ref 98), (1, .int (Int32.ofInt 1))]) rfl rfl rfl rfl rfl rfl rfl rfl ?_
            refine h_aload_n (pc' := 1) rfl rfl rfl ?_
            refine h_getI (pc' := 4) (v := tq183 98 13) rfl rfl rfl rfl rfl es190.2.2.2.2.1 (fun z196 hz196 => ?_)
            have tz196 := tf_98_13 Itq183
            refine h_zne (tg := 20) (pc' := 7) rfl rfl rfl hz196 (fun c197 => absurd c197 (by omega)) (fun c197 => ?_)
            clear hz196
            refine h_aload_n (pc' := 8) rfl rfl rfl ?_
            refine h_iload_n (pc' := 9) rfl rfl rfl ?_
            refine h_put (pc' := 12) rfl rfl rfl rfl rfl rfl ci_1 rfl (h_fgt (E := fun s => s 98 15 = tq183 98 15 ∧ s 98 16 = tq183 98 16 ∧ s 98 17 = 2 ∧ s 98 18 = tq183 98 18 ∧ s 98 13 = 1 ∧ s 98 14 = tq183 98 14) _ (if_98_13 Is190 (by omega)) (Fs190.up rfl) ⟨es190.1, es190.2.1, es190.2.2.1, es190.2.2.2.1, rfl, es190.2.2.2.2.2⟩ (fun s198 Is198 Fs198 (es198 : s198 98 15 = tq183 98 15 ∧ s198 98 16 = tq183 98 16 ∧ s198 98 17 = 2 ∧ s198 98 18 = tq183 98 18 ∧ s198 98 13 = 1 ∧ s198 98 14 = tq183 98 14) => ?_))
            clear es190
            refine h_aload_n (pc' := 13) rfl rfl rfl ?_
            refine h_aload_n (pc' := 14) rfl rfl rfl ?_
            refine h_getI (pc' := 17) (v := tq183 98 16) rfl rfl rfl rfl rfl es198.2.1 (fun z199 hz199 => ?_)
            refine h_put (pc' := 20) rfl rfl rfl rfl rfl rfl hz199 rfl (h_fgt (E := fun s => s 98 15 = tq183 98 15 ∧ s 98 16 = tq183 98 16 ∧ s 98 17 = 2 ∧ s 98 18 = tq183 98 18 ∧ s 98 13 = 1 ∧ s 98 14 = (tq183 98 16)) _ (if_98_14 Is198 (h_rgv hz199)) (Fs198.up rfl) ⟨es198.1, es198.2.1, es198.2.2.1, es198.2.2.2.1, es198.2.2.2.2.1, rfl⟩ (fun s200 Is200 Fs200 (es200 : s200 98 15 = tq183 98 15 ∧ s200 98 16 = tq183 98 16 ∧ s200 98 17 = 2 ∧ s200 98 18 = tq183 98 18 ∧ s200 98 13 = 1 ∧ s200 98 14 = (tq183 98 16)) => ?_))
            clear es198
            refine h_vret rfl rfl (h_Kn ?_)
            refine h_goto (pc' := 269) rfl rfl ?_
            refine d_toL (g_inj ns) hlw189 hRw189 (fun lvw201 memw201 hlw201 hRw201 => ?_)
            show h_T g_P (g_Y ns) 75 298 [(0, .ref 64)] [] s188 _
            exact h_wk [(0, .ref 64)] ⟨rfl, trivial⟩ (kx0 _ _ Is188 Is200 Fs188 Fs200 (by omega) (by omega) (by omega) (by omega) (by omega) (Or.inr ⟨by omega, by omega, by omega, by omega, by omega⟩) _ _ (h_al_ok ⟨rfl, trivial⟩ hlw201) hRw201)
        · clear hz186
          refine h_iconst (pc' := 263) (x := (Int32.ofInt 2)) rfl rfl rfl ?_
          refine h_goto (pc' := 267) rfl rfl ?_
          refine h_put (pc' := 270) rfl rfl rfl rfl rfl rfl ci_2 rfl (h_fgt (E := fun s => s 64 2 = sq183 64 2 ∧ s 64 4 = sq183 64 4 ∧ s 64 3 = 2 ∧ s 64 5 = sq183 64 5 ∧ s 63 2 = σ1 63 2 ∧ s 63 3 = sq183 63 3 ∧ s 64 1 = σ1 64 1) _ (if_64_3 Isq183 (by omega)) (Fsq183.up rfl) ⟨rfl, rfl, rfl, rfl, esq183_4, rfl, esq183_6⟩ (fun s202 Is202 Fs202 (es202 : s202 64 2 = sq183 64 2 ∧ s202 64 4 = sq183 64 4 ∧ s202 64 3 = 2 ∧ s202 64 5 = sq183 64 5 ∧ s202 63 2 = σ1 63 2 ∧ s202 63 3 = sq183 63 3 ∧ s202 64 1 = σ1 64 1) => ?_))
          clear esq183_4 esq183_6
          refine h_goto (pc' := 298) rfl rfl ?_
          refine d_toM (g_inj ns) hlq183 hRq183 (fun lvw203 memw203 hlw203 hRw203 => ?_)
          show h_T g_P (g_Y ns) 148 217 [(0, .ref 98)] [] tq183 _
          refine h_aload_n (pc' := 218) rfl rfl rfl ?_
          refine h_iconst (pc' := 219) (x := (Int32.ofInt 2)) rfl rfl rfl ?_
          refine h_put (pc' := 222) rfl rfl rfl rfl rfl rfl ci_2 rfl (h_fgt (E := fun s => s 98 15 = tq183 98 15 ∧ s 98 16 = tq183 98 16 ∧ s 98 17 = 2 ∧ s 98 18 = tq183 98 18 ∧ s 98 13 = tq183 98 13 ∧ s 98 14 = tq183 98 14) _ (if_98_17 Itq183 (by omega)) (Ftq183.up rfl) ⟨rfl, rfl, rfl, rfl, rfl, rfl⟩ (fun s204 Is204 Fs204 (es204 : s204 98 15 = tq183 98 15 ∧ s204 98 16 = tq183 98 16 ∧ s204 98 17 = 2 ∧ s204 98 18 = tq183 98 18 ∧ s204 98 13 = tq183 98 13 ∧ s204 98 14 = tq183 98 14) => ?_))
          refine h_aload_n (pc' := 223) rfl rfl rfl ?_
          refine h_getI (pc' := 226) (v := tq183 98 15) rfl rfl rfl rfl rfl es204.1 (fun z205 hz205 => ?_)
          have tz205 := tf_98_15 Itq183
          refine h_aload_n (pc' := 227) rfl rfl rfl ?_
          refine h_getI (pc' := 230) (v := tq183 98 16) rfl rfl rfl rfl rfl es204.2.1 (fun z206 hz206 => ?_)
          have tz206 := tf_98_16 Itq183
          refine h_isub (pc' := 231) rfl rfl hz205 hz206 rfl (by omega) (by omega) (fun z207 hz207 => ?_)
          clear hz205 hz206
          refine h_iconst (pc' := 232) (x := (Int32.ofInt 2)) rfl rfl rfl ?_
          refine h_cle (tg := 269) (pc' := 235) rfl rfl rfl hz207 ci_2 (fun c208 => ?_) (fun c208 => ?_)
          · clear hz207
            refine d_toL (g_inj ns) hlw203 hRw203 (fun lvw209 memw209 hlw209 hRw209 => ?_)
            show h_T g_P (g_Y ns) 75 298 [(0, .ref 64)] [] s202 _
            exact h_wk [(0, .ref 64)] ⟨rfl, trivial⟩ (kx0 _ _ Is202 Is204 Fs202 Fs204 (by omega) (by omega) (by omega) (by omega) (by omega) (Or.inl ⟨by omega, by omega, by omega, by omega, by omega, by omega, by omega, by omega⟩) _ _ (h_al_ok ⟨rfl, trivial⟩ hlw209) hRw209)
          · clear hz207
            refine h_aload_n (pc' := 236) rfl rfl rfl ?_
            refine h_iconst (pc' := 237) (x := (Int32.ofInt 1)) rfl rfl rfl ?_
            refine h_call (sp := false) (pc' := 240) (M := [(0, .ref 98), (1, .int (Int32.ofInt 1))]) rfl rfl rfl rfl rfl rfl rfl rfl ?_
            refine h_aload_n (pc' := 1) rfl rfl rfl ?_
            refine h_getI (pc' := 4) (v := tq183 98 13) rfl rfl rfl rfl rfl es204.2.2.2.2.1 (fun z210 hz210 => ?_)
            have tz210 := tf_98_13 Itq183
            refine h_zne (tg := 20) (pc' := 7) rfl rfl rfl hz210 (fun c211 => absurd c211 (by omega)) (fun c211 => ?_)
            clear hz210
            refine h_aload_n (pc' := 8) rfl rfl rfl ?_
            refine h_iload_n (pc' := 9) rfl rfl rfl ?_
            refine h_put (pc' := 12) rfl rfl rfl rfl rfl rfl ci_1 rfl (h_fgt (E := fun s => s 98 15 = tq183 98 15 ∧ s 98 16 = tq183 98 16 ∧ s 98 17 = 2 ∧ s 98 18 = tq183 98 18 ∧ s 98 13 = 1 ∧ s 98 14 = tq183 98 14) _ (if_98_13 Is204 (by omega)) (Fs204.up rfl) ⟨es204.1, es204.2.1, es204.2.2.1, es204.2.2.2.1, rfl, es204.2.2.2.2.2⟩ (fun s212 Is212 Fs212 (es212 : s212 98 15 = tq183 98 15 ∧ s212 98 16 = tq183 98 16 ∧ s212 98 17 = 2 ∧ s212 98 18 = tq183 98 18 ∧ s212 98 13 = 1 ∧ s212 98 14 = tq183 98 14) => ?_))
            clear es204
            refine h_aload_n (pc' := 13) rfl rfl rfl ?_
            refine h_aload_n (pc' := 14) rfl rfl rfl ?_
            refine h_getI (pc' := 17) (v := tq183 98 16) rfl rfl rfl rfl rfl es212.2.1 (fun z213 hz213 => ?_)
            refine h_put (pc' := 20) rfl rfl rfl rfl rfl rfl hz213 rfl (h_fgt (E := fun s => s 98 15 = tq183 98 15 ∧ s 98 16 = tq183 98 16 ∧ s 98 17 = 2 ∧ s 98 18 = tq183 98 18 ∧ s 98 13 = 1 ∧ s 98 14 = (tq183 98 16)) _ (if_98_14 Is212 (h_rgv hz213)) (Fs212.up rfl) ⟨es212.1, es212.2.1, es212.2.2.1, es212.2.2.2.1, es212.2.2.2.2.1, rfl⟩ (fun s214 Is214 Fs214 (es214 : s214 98 15 = tq183 98 15 ∧ s214 98 16 = tq183 98 16 ∧ s214 98 17 = 2 ∧ s214 98 18 = tq183 98 18 ∧ s214 98 13 = 1 ∧ s214 98 14 = (tq183 98 16)) => ?_))
            clear es212
            refine h_vret rfl rfl (h_Kn ?_)
            refine h_goto (pc' := 269) rfl rfl ?_
            exfalso
            omega
      · show h_T g_P (g_Y ns) 75 248 [(0, .ref 64)] [] sq183 _
        clear hz1 hz176 hz179 hz27 hz30 hz33 hz38 hz8
        refine h_aload_n (pc' := 249) rfl rfl rfl ?_
        refine h_aload_n (pc' := 250) rfl rfl rfl ?_
        refine h_getI (pc' := 253) (v := sq183 64 2) rfl rfl rfl rfl rfl rfl (fun z216 hz216 => ?_)
        have tz216 := tf_64_2 Isq183
        refine h_aload_n (pc' := 254) rfl rfl rfl ?_
        refine h_getI (pc' := 257) (v := sq183 64 4) rfl rfl rfl rfl rfl rfl (fun z217 hz217 => ?_)
        have tz217 := tf_64_4 Isq183
        refine h_isub (pc' := 258) rfl rfl hz216 hz217 rfl (by omega) (by omega) (fun z218 hz218 => ?_)
        clear hz216 hz217
        refine h_iconst (pc' := 259) (x := (Int32.ofInt 2)) rfl rfl rfl ?_
        refine h_cgt (tg := 266) (pc' := 262) rfl rfl rfl hz218 ci_2 (fun c219 => ?_) (fun c219 => ?_)
        · clear hz218
          refine h_iconst (pc' := 267) (x := (Int32.ofInt 4)) rfl rfl rfl ?_
          refine h_put (pc' := 270) rfl rfl rfl rfl rfl rfl ci_4 rfl (h_fgt (E := fun s => s 64 2 = sq183 64 2 ∧ s 64 4 = sq183 64 4 ∧ s 64 3 = 4 ∧ s 64 5 = sq183 64 5 ∧ s 63 2 = σ1 63 2 ∧ s 63 3 = sq183 63 3 ∧ s 64 1 = σ1 64 1) _ (if_64_3 Isq183 (by omega)) (Fsq183.up rfl) ⟨rfl, rfl, rfl, rfl, esq183_4, rfl, esq183_6⟩ (fun s220 Is220 Fs220 (es220 : s220 64 2 = sq183 64 2 ∧ s220 64 4 = sq183 64 4 ∧ s220 64 3 = 4 ∧ s220 64 5 = sq183 64 5 ∧ s220 63 2 = σ1 63 2 ∧ s220 63 3 = sq183 63 3 ∧ s220 64 1 = σ1 64 1) => ?_))
          clear esq183_4 esq183_6
          refine h_goto (pc' := 298) rfl rfl ?_
          refine d_toM (g_inj ns) hlq183 hRq183 (fun lvw221 memw221 hlw221 hRw221 => ?_)
          show h_T g_P (g_Y ns) 148 217 [(0, .ref 98)] [] tq183 _
          refine h_aload_n (pc' := 218) rfl rfl rfl ?_
          refine h_iconst (pc' := 219) (x := (Int32.ofInt 2)) rfl rfl rfl ?_
          refine h_put (pc' := 222) rfl rfl rfl rfl rfl rfl ci_2 rfl (h_fgt (E := fun s => s 98 15 = tq183 98 15 ∧ s 98 16 = tq183 98 16 ∧ s 98 17 = 2 ∧ s 98 18 = tq183 98 18 ∧ s 98 13 = tq183 98 13 ∧ s 98 14 = tq183 98 14) _ (if_98_17 Itq183 (by omega)) (Ftq183.up rfl) ⟨rfl, rfl, rfl, rfl, rfl, rfl⟩ (fun s222 Is222 Fs222 (es222 : s222 98 15 = tq183 98 15 ∧ s222 98 16 = tq183 98 16 ∧ s222 98 17 = 2 ∧ s222 98 18 = tq183 98 18 ∧ s222 98 13 = tq183 98 13 ∧ s222 98 14 = tq183 98 14) => ?_))
          refine h_aload_n (pc' := 223) rfl rfl rfl ?_
          refine h_getI (pc' := 226) (v := tq183 98 15) rfl rfl rfl rfl rfl es222.1 (fun z223 hz223 => ?_)
          have tz223 := tf_98_15 Itq183
          refine h_aload_n (pc' := 227) rfl rfl rfl ?_
          refine h_getI (pc' := 230) (v := tq183 98 16) rfl rfl rfl rfl rfl es222.2.1 (fun z224 hz224 => ?_)
          have tz224 := tf_98_16 Itq183
          refine h_isub (pc' := 231) rfl rfl hz223 hz224 rfl (by omega) (by omega) (fun z225 hz225 => ?_)
          clear hz223 hz224
          refine h_iconst (pc' := 232) (x := (Int32.ofInt 2)) rfl rfl rfl ?_
          refine h_cle (tg := 269) (pc' := 235) rfl rfl rfl hz225 ci_2 (fun c226 => ?_) (fun c226 => ?_)
          · clear hz225
            exfalso
            omega
          · clear hz225
            refine h_aload_n (pc' := 236) rfl rfl rfl ?_
            refine h_iconst (pc' := 237) (x := (Int32.ofInt 1)) rfl rfl rfl ?_
            refine h_call (sp := false) (pc' := 240) (M := [(0, .ref 98), (1, .int (Int32.ofInt 1))]) rfl rfl rfl rfl rfl rfl rfl rfl ?_
            refine h_aload_n (pc' := 1) rfl rfl rfl ?_
            refine h_getI (pc' := 4) (v := tq183 98 13) rfl rfl rfl rfl rfl es222.2.2.2.2.1 (fun z228 hz228 => ?_)
            have tz228 := tf_98_13 Itq183
            refine h_zne (tg := 20) (pc' := 7) rfl rfl rfl hz228 (fun c229 => absurd c229 (by omega)) (fun c229 => ?_)
            clear hz228
            refine h_aload_n (pc' := 8) rfl rfl rfl ?_
            refine h_iload_n (pc' := 9) rfl rfl rfl ?_
            refine h_put (pc' := 12) rfl rfl rfl rfl rfl rfl ci_1 rfl (h_fgt (E := fun s => s 98 15 = tq183 98 15 ∧ s 98 16 = tq183 98 16 ∧ s 98 17 = 2 ∧ s 98 18 = tq183 98 18 ∧ s 98 13 = 1 ∧ s 98 14 = tq183 98 14) _ (if_98_13 Is222 (by omega)) (Fs222.up rfl) ⟨es222.1, es222.2.1, es222.2.2.1, es222.2.2.2.1, rfl, es222.2.2.2.2.2⟩ (fun s230 Is230 Fs230 (es230 : s230 98 15 = tq183 98 15 ∧ s230 98 16 = tq183 98 16 ∧ s230 98 17 = 2 ∧ s230 98 18 = tq183 98 18 ∧ s230 98 13 = 1 ∧ s230 98 14 = tq183 98 14) => ?_))
            clear es222
            refine h_aload_n (pc' := 13) rfl rfl rfl ?_
            refine h_aload_n (pc' := 14) rfl rfl rfl ?_
            refine h_getI (pc' := 17) (v := tq183 98 16) rfl rfl rfl rfl rfl es230.2.1 (fun z231 hz231 => ?_)
            refine h_put (pc' := 20) rfl rfl rfl rfl rfl rfl hz231 rfl (h_fgt (E := fun s => s 98 15 = tq183 98 15 ∧ s 98 16 = tq183 98 16 ∧ s 98 17 = 2 ∧ s 98 18 = tq183 98 18 ∧ s 98 13 = 1 ∧ s 98 14 = (tq183 98 16)) _ (if_98_14 Is230 (h_rgv hz231)) (Fs230.up rfl) ⟨es230.1, es230.2.1, es230.2.2.1, es230.2.2.2.1, es230.2.2.2.2.1, rfl⟩ (fun s232 Is232 Fs232 (es232 : s232 98 15 = tq183 98 15 ∧ s232 98 16 = tq183 98 16 ∧ s232 98 17 = 2 ∧ s232 98 18 = tq183 98 18 ∧ s232 98 13 = 1 ∧ s232 98 14 = (tq183 98 16)) => ?_))
            clear es230
            refine h_vret rfl rfl (h_Kn ?_)
            refine h_goto (pc' := 269) rfl rfl ?_
            refine d_toL (g_inj ns) hlw221 hRw221 (fun lvw233 memw233 hlw233 hRw233 => ?_)
            show h_T g_P (g_Y ns) 75 298 [(0, .ref 64)] [] s220 _
            exact h_wk [(0, .ref 64)] ⟨rfl, trivial⟩ (kx0 _ _ Is220 Is232 Fs220 Fs232 (by omega) (by omega) (by omega) (by omega) (by omega) (Or.inr ⟨by omega, by omega, by omega, by omega, by omega⟩) _ _ (h_al_ok ⟨rfl, trivial⟩ hlw233) hRw233)
        · clear hz218
          refine h_iconst (pc' := 263) (x := (Int32.ofInt 2)) rfl rfl rfl ?_
          refine h_goto (pc' := 267) rfl rfl ?_
          refine h_put (pc' := 270) rfl rfl rfl rfl rfl rfl ci_2 rfl (h_fgt (E := fun s => s 64 2 = sq183 64 2 ∧ s 64 4 = sq183 64 4 ∧ s 64 3 = 2 ∧ s 64 5 = sq183 64 5 ∧ s 63 2 = σ1 63 2 ∧ s 63 3 = sq183 63 3 ∧ s 64 1 = σ1 64 1) _ (if_64_3 Isq183 (by omega)) (Fsq183.up rfl) ⟨rfl, rfl, rfl, rfl, esq183_4, rfl, esq183_6⟩ (fun s234 Is234 Fs234 (es234 : s234 64 2 = sq183 64 2 ∧ s234 64 4 = sq183 64 4 ∧ s234 64 3 = 2 ∧ s234 64 5 = sq183 64 5 ∧ s234 63 2 = σ1 63 2 ∧ s234 63 3 = sq183 63 3 ∧ s234 64 1 = σ1 64 1) => ?_))
          clear esq183_4 esq183_6
          refine h_goto (pc' := 298) rfl rfl ?_
          refine d_toM (g_inj ns) hlq183 hRq183 (fun lvw235 memw235 hlw235 hRw235 => ?_)
          show h_T g_P (g_Y ns) 148 217 [(0, .ref 98)] [] tq183 _
          refine h_aload_n (pc' := 218) rfl rfl rfl ?_
          refine h_iconst (pc' := 219) (x := (Int32.ofInt 2)) rfl rfl rfl ?_
          refine h_put (pc' := 222) rfl rfl rfl rfl rfl rfl ci_2 rfl (h_fgt (E := fun s => s 98 15 = tq183 98 15 ∧ s 98 16 = tq183 98 16 ∧ s 98 17 = 2 ∧ s 98 18 = tq183 98 18 ∧ s 98 13 = tq183 98 13 ∧ s 98 14 = tq183 98 14) _ (if_98_17 Itq183 (by omega)) (Ftq183.up rfl) ⟨rfl, rfl, rfl, rfl, rfl, rfl⟩ (fun s236 Is236 Fs236 (es236 : s236 98 15 = tq183 98 15 ∧ s236 98 16 = tq183 98 16 ∧ s236 98 17 = 2 ∧ s236 98 18 = tq183 98 18 ∧ s236 98 13 = tq183 98 13 ∧ s236 98 14 = tq183 98 14) => ?_))
          refine h_aload_n (pc' := 223) rfl rfl rfl ?_
          refine h_getI (pc' := 226) (v := tq183 98 15) rfl rfl rfl rfl rfl es236.1 (fun z237 hz237 => ?_)
          have tz237 := tf_98_15 Itq183
          refine h_aload_n (pc' := 227) rfl rfl rfl ?_
          refine h_getI (pc' := 230) (v := tq183 98 16) rfl rfl rfl rfl rfl es236.2.1 (fun z238 hz238 => ?_)
          have tz238 := tf_98_16 Itq183
          refine h_isub (pc' := 231) rfl rfl hz237 hz238 rfl (by omega) (by omega) (fun z239 hz239 => ?_)
          clear hz237 hz238
          refine h_iconst (pc' := 232) (x := (Int32.ofInt 2)) rfl rfl rfl ?_
          refine h_cle (tg := 269) (pc' := 235) rfl rfl rfl hz239 ci_2 (fun c240 => ?_) (fun c240 => ?_)
          · clear hz239
            refine d_toL (g_inj ns) hlw235 hRw235 (fun lvw241 memw241 hlw241 hRw241 => ?_)
            show h_T g_P (g_Y ns) 75 298 [(0, .ref 64)] [] s234 _
            exact h_wk [(0, .ref 64)] ⟨rfl, trivial⟩ (kx0 _ _ Is234 Is236 Fs234 Fs236 (by omega) (by omega) (by omega) (by omega) (by omega) (Or.inl ⟨by omega, by omega, by omega, by omega, by omega, by omega, by omega, by omega⟩) _ _ (h_al_ok ⟨rfl, trivial⟩ hlw241) hRw241)
          · clear hz239
            refine h_aload_n (pc' := 236) rfl rfl rfl ?_
            refine h_iconst (pc' := 237) (x := (Int32.ofInt 1)) rfl rfl rfl ?_
            refine h_call (sp := false) (pc' := 240) (M := [(0, .ref 98), (1, .int (Int32.ofInt 1))]) rfl rfl rfl rfl rfl rfl rfl rfl ?_
            refine h_aload_n (pc' := 1) rfl rfl rfl ?_
            refine h_getI (pc' := 4) (v := tq183 98 13) rfl rfl rfl rfl rfl es236.2.2.2.2.1 (fun z242 hz242 => ?_)
            have tz242 := tf_98_13 Itq183
            refine h_zne (tg := 20) (pc' := 7) rfl rfl rfl hz242 (fun c243 => absurd c243 (by omega)) (fun c243 => ?_)
            clear hz242
            refine h_aload_n (pc' := 8) rfl rfl rfl ?_
            refine h_iload_n (pc' := 9) rfl rfl rfl ?_
            refine h_put (pc' := 12) rfl rfl rfl rfl rfl rfl ci_1 rfl (h_fgt (E := fun s => s 98 15 = tq183 98 15 ∧ s 98 16 = tq183 98 16 ∧ s 98 17 = 2 ∧ s 98 18 = tq183 98 18 ∧ s 98 13 = 1 ∧ s 98 14 = tq183 98 14) _ (if_98_13 Is236 (by omega)) (Fs236.up rfl) ⟨es236.1, es236.2.1, es236.2.2.1, es236.2.2.2.1, rfl, es236.2.2.2.2.2⟩ (fun s244 Is244 Fs244 (es244 : s244 98 15 = tq183 98 15 ∧ s244 98 16 = tq183 98 16 ∧ s244 98 17 = 2 ∧ s244 98 18 = tq183 98 18 ∧ s244 98 13 = 1 ∧ s244 98 14 = tq183 98 14) => ?_))
            clear es236
            refine h_aload_n (pc' := 13) rfl rfl rfl ?_
            refine h_aload_n (pc' := 14) rfl rfl rfl ?_
            refine h_getI (pc' := 17) (v := tq183 98 16) rfl rfl rfl rfl rfl es244.2.1 (fun z245 hz245 => ?_)
            refine h_put (pc' := 20) rfl rfl rfl rfl rfl rfl hz245 rfl (h_fgt (E := fun s => s 98 15 = tq183 98 15 ∧ s 98 16 = tq183 98 16 ∧ s 98 17 = 2 ∧ s 98 18 = tq183 98 18 ∧ s 98 13 = 1 ∧ s 98 14 = (tq183 98 16)) _ (if_98_14 Is244 (h_rgv hz245)) (Fs244.up rfl) ⟨es244.1, es244.2.1, es244.2.2.1, es244.2.2.2.1, es244.2.2.2.2.1, rfl⟩ (fun s246 Is246 Fs246 (es246 : s246 98 15 = tq183 98 15 ∧ s246 98 16 = tq183 98 16 ∧ s246 98 17 = 2 ∧ s246 98 18 = tq183 98 18 ∧ s246 98 13 = 1 ∧ s246 98 14 = (tq183 98 16)) => ?_))
            clear es244
            refine h_vret rfl rfl (h_Kn ?_)
            refine h_goto (pc' := 269) rfl rfl ?_
            exfalso
            omega
      · show h_T g_P (g_Y ns) 75 248 [(0, .ref 64)] [] sq183 _
        clear hz1 hz176 hz179 hz27 hz30 hz33 hz38 hz8
        refine h_aload_n (pc' := 249) rfl rfl rfl ?_
        refine h_aload_n (pc' := 250) rfl rfl rfl ?_
        refine h_getI (pc' := 253) (v := sq183 64 2) rfl rfl rfl rfl rfl rfl (fun z248 hz248 => ?_)
        have tz248 := tf_64_2 Isq183
        refine h_aload_n (pc' := 254) rfl rfl rfl ?_
        refine h_getI (pc' := 257) (v := sq183 64 4) rfl rfl rfl rfl rfl rfl (fun z249 hz249 => ?_)
        have tz249 := tf_64_4 Isq183
        refine h_isub (pc' := 258) rfl rfl hz248 hz249 rfl (by omega) (by omega) (fun z250 hz250 => ?_)
        clear hz248 hz249
        refine h_iconst (pc' := 259) (x := (Int32.ofInt 2)) rfl rfl rfl ?_
        refine h_cgt (tg := 266) (pc' := 262) rfl rfl rfl hz250 ci_2 (fun c251 => ?_) (fun c251 => ?_)
        · clear hz250
          refine h_iconst (pc' := 267) (x := (Int32.ofInt 4)) rfl rfl rfl ?_
          refine h_put (pc' := 270) rfl rfl rfl rfl rfl rfl ci_4 rfl (h_fgt (E := fun s => s 64 2 = sq183 64 2 ∧ s 64 4 = sq183 64 4 ∧ s 64 3 = 4 ∧ s 64 5 = sq183 64 5 ∧ s 63 2 = σ1 63 2 ∧ s 63 3 = sq183 63 3 ∧ s 64 1 = σ1 64 1) _ (if_64_3 Isq183 (by omega)) (Fsq183.up rfl) ⟨rfl, rfl, rfl, rfl, esq183_4, rfl, esq183_6⟩ (fun s252 Is252 Fs252 (es252 : s252 64 2 = sq183 64 2 ∧ s252 64 4 = sq183 64 4 ∧ s252 64 3 = 4 ∧ s252 64 5 = sq183 64 5 ∧ s252 63 2 = σ1 63 2 ∧ s252 63 3 = sq183 63 3 ∧ s252 64 1 = σ1 64 1) => ?_))
          clear esq183_4 esq183_6
          refine h_goto (pc' := 298) rfl rfl ?_
          refine d_toM (g_inj ns) hlq183 hRq183 (fun lvw253 memw253 hlw253 hRw253 => ?_)
          show h_T g_P (g_Y ns) 148 217 [(0, .ref 98)] [] tq183 _
          refine h_aload_n (pc' := 218) rfl rfl rfl ?_
          refine h_iconst (pc' := 219) (x := (Int32.ofInt 2)) rfl rfl rfl ?_
          refine h_put (pc' := 222) rfl rfl rfl rfl rfl rfl ci_2 rfl (h_fgt (E := fun s => s 98 15 = tq183 98 15 ∧ s 98 16 = tq183 98 16 ∧ s 98 17 = 2 ∧ s 98 18 = tq183 98 18 ∧ s 98 13 = tq183 98 13 ∧ s 98 14 = tq183 98 14) _ (if_98_17 Itq183 (by omega)) (Ftq183.up rfl) ⟨rfl, rfl, rfl, rfl, rfl, rfl⟩ (fun s254 Is254 Fs254 (es254 : s254 98 15 = tq183 98 15 ∧ s254 98 16 = tq183 98 16 ∧ s254 98 17 = 2 ∧ s254 98 18 = tq183 98 18 ∧ s254 98 13 = tq183 98 13 ∧ s254 98 14 = tq183 98 14) => ?_))
          refine h_aload_n (pc' := 223) rfl rfl rfl ?_
          refine h_getI (pc' := 226) (v := tq183 98 15) rfl rfl rfl rfl rfl es254.1 (fun z255 hz255 => ?_)
          have tz255 := tf_98_15 Itq183
          refine h_aload_n (pc' := 227) rfl rfl rfl ?_
          refine h_getI (pc' := 230) (v := tq183 98 16) rfl rfl rfl rfl rfl es254.2.1 (fun z256 hz256 => ?_)
          have tz256 := tf_98_16 Itq183
          refine h_isub (pc' := 231) rfl rfl hz255 hz256 rfl (by omega) (by omega) (fun z257 hz257 => ?_)
          clear hz255 hz256
          refine h_iconst (pc' := 232) (x := (Int32.ofInt 2)) rfl rfl rfl ?_
          refine h_cle (tg := 269) (pc' := 235) rfl rfl rfl hz257 ci_2 (fun c258 => ?_) (fun c258 => ?_)
          · clear hz257
            exfalso
            omega
          · clear hz257
            refine h_aload_n (pc' := 236) rfl rfl rfl ?_
            refine h_iconst (pc' := 237) (x := (Int32.ofInt 1)) rfl rfl rfl ?_
            refine h_call (sp := false) (pc' := 240) (M := [(0, .ref 98), (1, .int (Int32.ofInt 1))]) rfl rfl rfl rfl rfl rfl rfl rfl ?_
            refine h_aload_n (pc' := 1) rfl rfl rfl ?_
            refine h_getI (pc' := 4) (v := tq183 98 13) rfl rfl rfl rfl rfl es254.2.2.2.2.1 (fun z260 hz260 => ?_)
            have tz260 := tf_98_13 Itq183
            refine h_zne (tg := 20) (pc' := 7) rfl rfl rfl hz260 (fun c261 => absurd c261 (by omega)) (fun c261 => ?_)
            clear hz260
            refine h_aload_n (pc' := 8) rfl rfl rfl ?_
            refine h_iload_n (pc' := 9) rfl rfl rfl ?_
            refine h_put (pc' := 12) rfl rfl rfl rfl rfl rfl ci_1 rfl (h_fgt (E := fun s => s 98 15 = tq183 98 15 ∧ s 98 16 = tq183 98 16 ∧ s 98 17 = 2 ∧ s 98 18 = tq183 98 18 ∧ s 98 13 = 1 ∧ s 98 14 = tq183 98 14) _ (if_98_13 Is254 (by omega)) (Fs254.up rfl) ⟨es254.1, es254.2.1, es254.2.2.1, es254.2.2.2.1, rfl, es254.2.2.2.2.2⟩ (fun s262 Is262 Fs262 (es262 : s262 98 15 = tq183 98 15 ∧ s262 98 16 = tq183 98 16 ∧ s262 98 17 = 2 ∧ s262 98 18 = tq183 98 18 ∧ s262 98 13 = 1 ∧ s262 98 14 = tq183 98 14) => ?_))
            clear es254
            refine h_aload_n (pc' := 13) rfl rfl rfl ?_
            refine h_aload_n (pc' := 14) rfl rfl rfl ?_
            refine h_getI (pc' := 17) (v := tq183 98 16) rfl rfl rfl rfl rfl es262.2.1 (fun z263 hz263 => ?_)
            refine h_put (pc' := 20) rfl rfl rfl rfl rfl rfl hz263 rfl (h_fgt (E := fun s => s 98 15 = tq183 98 15 ∧ s 98 16 = tq183 98 16 ∧ s 98 17 = 2 ∧ s 98 18 = tq183 98 18 ∧ s 98 13 = 1 ∧ s 98 14 = (tq183 98 16)) _ (if_98_14 Is262 (h_rgv hz263)) (Fs262.up rfl) ⟨es262.1, es262.2.1, es262.2.2.1, es262.2.2.2.1, es262.2.2.2.2.1, rfl⟩ (fun s264 Is264 Fs264 (es264 : s264 98 15 = tq183 98 15 ∧ s264 98 16 = tq183 98 16 ∧ s264 98 17 = 2 ∧ s264 98 18 = tq183 98 18 ∧ s264 98 13 = 1 ∧ s264 98 14 = (tq183 98 16)) => ?_))
            clear es262
            refine h_vret rfl rfl (h_Kn ?_)
            refine h_goto (pc' := 269) rfl rfl ?_
            refine d_toL (g_inj ns) hlw253 hRw253 (fun lvw265 memw265 hlw265 hRw265 => ?_)
            show h_T g_P (g_Y ns) 75 298 [(0, .ref 64)] [] s252 _
            exact h_wk [(0, .ref 64)] ⟨rfl, trivial⟩ (kx0 _ _ Is252 Is264 Fs252 Fs264 (by omega) (by omega) (by omega) (by omega) (by omega) (Or.inr ⟨by omega, by omega, by omega, by omega, by omega⟩) _ _ (h_al_ok ⟨rfl, trivial⟩ hlw265) hRw265)
        · clear hz250
          refine h_iconst (pc' := 263) (x := (Int32.ofInt 2)) rfl rfl rfl ?_
          refine h_goto (pc' := 267) rfl rfl ?_
          refine h_put (pc' := 270) rfl rfl rfl rfl rfl rfl ci_2 rfl (h_fgt (E := fun s => s 64 2 = sq183 64 2 ∧ s 64 4 = sq183 64 4 ∧ s 64 3 = 2 ∧ s 64 5 = sq183 64 5 ∧ s 63 2 = σ1 63 2 ∧ s 63 3 = sq183 63 3 ∧ s 64 1 = σ1 64 1) _ (if_64_3 Isq183 (by omega)) (Fsq183.up rfl) ⟨rfl, rfl, rfl, rfl, esq183_4, rfl, esq183_6⟩ (fun s266 Is266 Fs266 (es266 : s266 64 2 = sq183 64 2 ∧ s266 64 4 = sq183 64 4 ∧ s266 64 3 = 2 ∧ s266 64 5 = sq183 64 5 ∧ s266 63 2 = σ1 63 2 ∧ s266 63 3 = sq183 63 3 ∧ s266 64 1 = σ1 64 1) => ?_))
          clear esq183_4 esq183_6
          refine h_goto (pc' := 298) rfl rfl ?_
          refine d_toM (g_inj ns) hlq183 hRq183 (fun lvw267 memw267 hlw267 hRw267 => ?_)
          show h_T g_P (g_Y ns) 148 217 [(0, .ref 98)] [] tq183 _
          refine h_aload_n (pc' := 218) rfl rfl rfl ?_
          refine h_iconst (pc' := 219) (x := (Int32.ofInt 2)) rfl rfl rfl ?_
          refine h_put (pc' := 222) rfl rfl rfl rfl rfl rfl ci_2 rfl (h_fgt (E := fun s => s 98 15 = tq183 98 15 ∧ s 98 16 = tq183 98 16 ∧ s 98 17 = 2 ∧ s 98 18 = tq183 98 18 ∧ s 98 13 = tq183 98 13 ∧ s 98 14 = tq183 98 14) _ (if_98_17 Itq183 (by omega)) (Ftq183.up rfl) ⟨rfl, rfl, rfl, rfl, rfl, rfl⟩ (fun s268 Is268 Fs268 (es268 : s268 98 15 = tq183 98 15 ∧ s268 98 16 = tq183 98 16 ∧ s268 98 17 = 2 ∧ s268 98 18 = tq183 98 18 ∧ s268 98 13 = tq183 98 13 ∧ s268 98 14 = tq183 98 14) => ?_))
          refine h_aload_n (pc' := 223) rfl rfl rfl ?_
          refine h_getI (pc' := 226) (v := tq183 98 15) rfl rfl rfl rfl rfl es268.1 (fun z269 hz269 => ?_)
          have tz269 := tf_98_15 Itq183
          refine h_aload_n (pc' := 227) rfl rfl rfl ?_
          refine h_getI (pc' := 230) (v := tq183 98 16) rfl rfl rfl rfl rfl es268.2.1 (fun z270 hz270 => ?_)
          have tz270 := tf_98_16 Itq183
          refine h_isub (pc' := 231) rfl rfl hz269 hz270 rfl (by omega) (by omega) (fun z271 hz271 => ?_)
          clear hz269 hz270
          refine h_iconst (pc' := 232) (x := (Int32.ofInt 2)) rfl rfl rfl ?_
          refine h_cle (tg := 269) (pc' := 235) rfl rfl rfl hz271 ci_2 (fun c272 => ?_) (fun c272 => ?_)
          · clear hz271
            refine d_toL (g_inj ns) hlw267 hRw267 (fun lvw273 memw273 hlw273 hRw273 => ?_)
            show h_T g_P (g_Y ns) 75 298 [(0, .ref 64)] [] s266 _
            exact h_wk [(0, .ref 64)] ⟨rfl, trivial⟩ (kx0 _ _ Is266 Is268 Fs266 Fs268 (by omega) (by omega) (by omega) (by omega) (by omega) (Or.inl ⟨by omega, by omega, by omega, by omega, by omega, by omega, by omega, by omega⟩) _ _ (h_al_ok ⟨rfl, trivial⟩ hlw273) hRw273)
          · clear hz271
            refine h_aload_n (pc' := 236) rfl rfl rfl ?_
            refine h_iconst (pc' := 237) (x := (Int32.ofInt 1)) rfl rfl rfl ?_
            refine h_call (sp := false) (pc' := 240) (M := [(0, .ref 98), (1, .int (Int32.ofInt 1))]) rfl rfl rfl rfl rfl rfl rfl rfl ?_
            refine h_aload_n (pc' := 1) rfl rfl rfl ?_
            refine h_getI (pc' := 4) (v := tq183 98 13) rfl rfl rfl rfl rfl es268.2.2.2.2.1 (fun z274 hz274 => ?_)
            have tz274 := tf_98_13 Itq183
            refine h_zne (tg := 20) (pc' := 7) rfl rfl rfl hz274 (fun c275 => absurd c275 (by omega)) (fun c275 => ?_)
            clear hz274
            refine h_aload_n (pc' := 8) rfl rfl rfl ?_
            refine h_iload_n (pc' := 9) rfl rfl rfl ?_
            refine h_put (pc' := 12) rfl rfl rfl rfl rfl rfl ci_1 rfl (h_fgt (E := fun s => s 98 15 = tq183 98 15 ∧ s 98 16 = tq183 98 16 ∧ s 98 17 = 2 ∧ s 98 18 = tq183 98 18 ∧ s 98 13 = 1 ∧ s 98 14 = tq183 98 14) _ (if_98_13 Is268 (by omega)) (Fs268.up rfl) ⟨es268.1, es268.2.1, es268.2.2.1, es268.2.2.2.1, rfl, es268.2.2.2.2.2⟩ (fun s276 Is276 Fs276 (es276 : s276 98 15 = tq183 98 15 ∧ s276 98 16 = tq183 98 16 ∧ s276 98 17 = 2 ∧ s276 98 18 = tq183 98 18 ∧ s276 98 13 = 1 ∧ s276 98 14 = tq183 98 14) => ?_))
            clear es268
            refine h_aload_n (pc' := 13) rfl rfl rfl ?_
            refine h_aload_n (pc' := 14) rfl rfl rfl ?_
            refine h_getI (pc' := 17) (v := tq183 98 16) rfl rfl rfl rfl rfl es276.2.1 (fun z277 hz277 => ?_)
            refine h_put (pc' := 20) rfl rfl rfl rfl rfl rfl hz277 rfl (h_fgt (E := fun s => s 98 15 = tq183 98 15 ∧ s 98 16 = tq183 98 16 ∧ s 98 17 = 2 ∧ s 98 18 = tq183 98 18 ∧ s 98 13 = 1 ∧ s 98 14 = (tq183 98 16)) _ (if_98_14 Is276 (h_rgv hz277)) (Fs276.up rfl) ⟨es276.1, es276.2.1, es276.2.2.1, es276.2.2.2.1, es276.2.2.2.2.1, rfl⟩ (fun s278 Is278 Fs278 (es278 : s278 98 15 = tq183 98 15 ∧ s278 98 16 = tq183 98 16 ∧ s278 98 17 = 2 ∧ s278 98 18 = tq183 98 18 ∧ s278 98 13 = 1 ∧ s278 98 14 = (tq183 98 16)) => ?_))
            clear es276
            refine h_vret rfl rfl (h_Kn ?_)
            refine h_goto (pc' := 269) rfl rfl ?_
            exfalso
            omega
set_option maxHeartbeats 100000000 in
theorem ls_t2 {ns : Nat} {σ1 σ2 : h_S} (hI1 : h_I σ1) (hI2 : h_I σ2) (hTL : d_tape σ1 σ2)  (pr0 : σ1 64 2 = σ2 98 15) (pr1 : σ2 98 13 = 0) (pr2 : σ1 64 2 ≤ σ1 64 1) (pr3 : σ1 64 2 < σ1 64 1 ∧ 58 ≤ σ1 65 (σ1 64 2) ∧ σ1 65 (σ1 64 2) ≤ 96) {cs1 cs2 : List d_Fr} {Q : d_Q} (kx0 : ∀ (s t : h_S), h_I s → h_I t → h_F (k_in k_lx) s σ1 → h_F (k_in k_lm) t σ2 → (s 64 2 = t 98 15) → (s 64 4 = t 98 16) → (s 63 2 = σ1 63 2) → (s 64 2 ≤ σ1 64 1) → (σ1 64 2 ≤ s 64 2) → (((s 64 3 = 3) ∧ (t 98 13 = 0) ∧ (t 98 17 = 3) ∧ (s 64 4 < s 64 2) ∧ (σ1 64 2 < s 64 2)) ∨ ((s 64 3 = 4) ∧ (t 98 13 = 1) ∧ (s 64 4 < s 64 2) ∧ (σ1 64 2 < s 64 2) ∧ (s 64 4 = t 98 14))) → ∀ lv2 mem2, h_loc [(0, .ref 98)] lv2 → h_R (g_Y ns) t mem2 → h_T g_P (g_Y ns) 75 298 [(0, .ref 64)] [] s (d_cs g_P (g_Y ns) cs1 (d_L g_P (g_Y ns) (148, 269, lv2, []) cs2 mem2 Q))) : ∀ lv2 mem2, h_loc [(0, .ref 98)] lv2 → h_R (g_Y ns) σ2 mem2 → h_T g_P (g_Y ns) 75 38 [(0, .ref 64)] [] σ1 (d_cs g_P (g_Y ns) cs1 (d_L g_P (g_Y ns) (148, 34, lv2, []) cs2 mem2 Q)) := by
  intro lv2 mem2 hl2 hR2
  have hT := hTL.1
  have hL := hTL.2
  have F1 : h_F (k_in k_lx) σ1 σ1 := h_F.rf
  have F2 : h_F (k_in k_lm) σ2 σ2 := h_F.rf
  have ge0 := tf_64_2 hI1
  have ge1 := tf_64_1 hI1
  refine h_aload_n (pc' := 39) rfl rfl rfl ?_
  refine h_aload_n (pc' := 40) rfl rfl rfl ?_
  refine h_getI (pc' := 43) (v := σ1 64 2) rfl rfl rfl rfl rfl rfl (fun z1 hz1 => ?_)
  have tz1 := tf_64_2 hI1
  refine h_put (pc' := 46) rfl rfl rfl rfl rfl rfl hz1 rfl (h_fgt (E := fun s => s 64 2 = σ1 64 2 ∧ s 64 4 = (σ1 64 2) ∧ s 64 3 = σ1 64 3 ∧ s 64 5 = σ1 64 5 ∧ s 63 2 = σ1 63 2 ∧ s 63 3 = σ1 63 3 ∧ s 64 1 = σ1 64 1) _ (if_64_4 hI1 (by omega)) (F1.up rfl) ⟨rfl, rfl, rfl, rfl, rfl, rfl, rfl⟩ (fun s2 Is2 Fs2 (es2 : s2 64 2 = σ1 64 2 ∧ s2 64 4 = (σ1 64 2) ∧ s2 64 3 = σ1 64 3 ∧ s2 64 5 = σ1 64 5 ∧ s2 63 2 = σ1 63 2 ∧ s2 63 3 = σ1 63 3 ∧ s2 64 1 = σ1 64 1) => ?_))
  refine h_aload_n (pc' := 47) rfl rfl rfl ?_
  refine h_iconst (pc' := 48) (x := (Int32.ofInt 0)) rfl rfl rfl ?_
  refine h_put (pc' := 51) rfl rfl rfl rfl rfl rfl ci_0 rfl (h_fgt (E := fun s => s 64 2 = σ1 64 2 ∧ s 64 4 = (σ1 64 2) ∧ s 64 3 = σ1 64 3 ∧ s 64 5 = 0 ∧ s 63 2 = σ1 63 2 ∧ s 63 3 = σ1 63 3 ∧ s 64 1 = σ1 64 1) _ (if_64_5 Is2 (h_rgv ci_0)) (Fs2.up rfl) ⟨es2.1, es2.2.1, es2.2.2.1, rfl, es2.2.2.2.2.1, es2.2.2.2.2.2.1, es2.2.2.2.2.2.2⟩ (fun s3 Is3 Fs3 (es3 : s3 64 2 = σ1 64 2 ∧ s3 64 4 = (σ1 64 2) ∧ s3 64 3 = σ1 64 3 ∧ s3 64 5 = 0 ∧ s3 63 2 = σ1 63 2 ∧ s3 63 3 = σ1 63 3 ∧ s3 64 1 = σ1 64 1) => ?_))
  clear es2
  refine h_aload_n (pc' := 52) rfl rfl rfl ?_
  refine h_getI (pc' := 55) (v := σ1 64 2) rfl rfl rfl rfl rfl es3.1 (fun z4 hz4 => ?_)
  refine h_aload_n (pc' := 56) rfl rfl rfl ?_
  refine h_getI (pc' := 59) (v := σ1 64 1) rfl rfl rfl rfl rfl es3.2.2.2.2.2.2 (fun z5 hz5 => ?_)
  have tz5 := tf_64_1 hI1
  refine h_cge (tg := 74) (pc' := 62) rfl rfl rfl hz4 hz5 (fun c6 => absurd c6 (by omega)) (fun c6 => ?_)
  clear hz4 hz5
  refine h_aload_n (pc' := 63) rfl rfl rfl ?_
  refine h_getR (pc' := 66) rfl rfl rfl rfl rfl ?_
  refine h_aload_n (pc' := 67) rfl rfl rfl ?_
  refine h_getI (pc' := 70) (v := σ1 64 2) rfl rfl rfl rfl rfl es3.1 (fun z7 hz7 => ?_)
  refine h_iald (pc' := 71) (v := σ1 65 (σ1 64 2)) rfl rfl rfl hz7 (by omega) (by omega) (Fs3 65 _ rfl) (fun z8 hz8 => ?_)
  have tz8 := ty_65 hI1 (σ1 64 2)
  have lz8 := hT (σ1 64 2) (by omega) (by omega)
  clear hz7
  refine h_goto (pc' := 75) rfl rfl ?_
  refine h_istore_n (pc' := 76) (M := [(1, .int z8), (0, .ref 64)]) rfl rfl rfl rfl ?_
  refine h_iload_n (pc' := 77) rfl rfl rfl ?_
  refine h_zge (tg := 88) (pc' := 80) rfl rfl rfl hz8 (fun c9 => ?_) (fun c9 => absurd c9 (by omega))
  refine h_iload_n (pc' := 89) rfl rfl rfl ?_
  refine h_bipush (pc' := 91) (x := (Int32.ofInt 97)) rfl rfl cb_97 ?_
  refine h_clt (tg := 160) (pc' := 94) rfl rfl rfl hz8 ci_97 (fun c10 => ?_) (fun c10 => absurd c10 (by omega))
  refine h_iload_n (pc' := 161) rfl rfl rfl ?_
  refine h_bipush (pc' := 163) (x := (Int32.ofInt 48)) rfl rfl cb_48 ?_
  refine h_clt (tg := 273) (pc' := 166) rfl rfl rfl hz8 ci_48 (fun c11 => absurd c11 (by omega)) (fun c11 => ?_)
  refine h_iload_n (pc' := 167) rfl rfl rfl ?_
  refine h_bipush (pc' := 169) (x := (Int32.ofInt 57)) rfl rfl cb_57 ?_
  refine h_cgt (tg := 273) (pc' := 172) rfl rfl rfl hz8 ci_57 (fun c12 => ?_) (fun c12 => absurd c12 (by omega))
  refine h_aload_n (pc' := 274) rfl rfl rfl ?_
  refine h_dup (pc' := 275) rfl rfl rfl ?_
  refine h_getI (pc' := 278) (v := σ1 64 2) rfl rfl rfl rfl rfl es3.1 (fun z13 hz13 => ?_)
  refine h_iconst (pc' := 279) (x := (Int32.ofInt 1)) rfl rfl rfl ?_
  refine h_iadd (pc' := 280) rfl rfl hz13 ci_1 rfl (by omega) (by omega) (fun z14 hz14 => ?_)
  clear hz13
  refine h_put (pc' := 283) rfl rfl rfl rfl rfl rfl hz14 rfl (h_fgt (E := fun s => s 64 2 = ((σ1 64 2) + 1) ∧ s 64 4 = (σ1 64 2) ∧ s 64 3 = σ1 64 3 ∧ s 64 5 = 0 ∧ s 63 2 = σ1 63 2 ∧ s 63 3 = σ1 63 3 ∧ s 64 1 = σ1 64 1) _ (if_64_2 Is3 (by omega)) (Fs3.up rfl) ⟨rfl, es3.2.1, es3.2.2.1, es3.2.2.2.1, es3.2.2.2.2.1, es3.2.2.2.2.2.1, es3.2.2.2.2.2.2⟩ (fun s15 Is15 Fs15 (es15 : s15 64 2 = ((σ1 64 2) + 1) ∧ s15 64 4 = (σ1 64 2) ∧ s15 64 3 = σ1 64 3 ∧ s15 64 5 = 0 ∧ s15 63 2 = σ1 63 2 ∧ s15 63 3 = σ1 63 3 ∧ s15 64 1 = σ1 64 1) => ?_))
  clear es3
  refine h_aload_n (pc' := 284) rfl rfl rfl ?_
  refine h_iload_n (pc' := 285) rfl rfl rfl ?_
  refine h_bipush (pc' := 287) (x := (Int32.ofInt 59)) rfl rfl cb_59 ?_
  refine h_cne (tg := 294) (pc' := 290) rfl rfl rfl hz8 ci_59 (fun c16 => ?_) (fun c16 => ?_)
  · refine h_iconst (pc' := 295) (x := (Int32.ofInt 4)) rfl rfl rfl ?_
    refine h_put (pc' := 298) rfl rfl rfl rfl rfl rfl ci_4 rfl (h_fgt (E := fun s => s 64 2 = ((σ1 64 2) + 1) ∧ s 64 4 = (σ1 64 2) ∧ s 64 3 = 4 ∧ s 64 5 = 0 ∧ s 63 2 = σ1 63 2 ∧ s 63 3 = σ1 63 3 ∧ s 64 1 = σ1 64 1) _ (if_64_3 Is15 (by omega)) (Fs15.up rfl) ⟨es15.1, es15.2.1, rfl, es15.2.2.2.1, es15.2.2.2.2.1, es15.2.2.2.2.2.1, es15.2.2.2.2.2.2⟩ (fun s17 Is17 Fs17 (es17 : s17 64 2 = ((σ1 64 2) + 1) ∧ s17 64 4 = (σ1 64 2) ∧ s17 64 3 = 4 ∧ s17 64 5 = 0 ∧ s17 63 2 = σ1 63 2 ∧ s17 63 3 = σ1 63 3 ∧ s17 64 1 = σ1 64 1) => ?_))
    clear es15
    refine d_toM (g_inj ns) hl2 hR2 (fun lvw18 memw18 hlw18 hRw18 => ?_)
    show h_T g_P (g_Y ns) 148 34 [(0, .ref 98)] [] σ2 _
    refine h_aload_n (pc' := 35) rfl rfl rfl ?_
    refine h_aload_n (pc' := 36) rfl rfl rfl ?_
    refine h_getI (pc' := 39) (v := σ2 98 15) rfl rfl rfl rfl rfl rfl (fun z19 hz19 => ?_)
    have tz19 := tf_98_15 hI2
    refine h_put (pc' := 42) rfl rfl rfl rfl rfl rfl hz19 rfl (h_fgt (E := fun s => s 98 15 = σ2 98 15 ∧ s 98 16 = (σ2 98 15) ∧ s 98 17 = σ2 98 17 ∧ s 98 18 = σ2 98 18 ∧ s 98 13 = σ2 98 13 ∧ s 98 14 = σ2 98 14) _ (if_98_16 hI2 (by omega)) (F2.up rfl) ⟨rfl, rfl, rfl, rfl, rfl, rfl⟩ (fun s20 Is20 Fs20 (es20 : s20 98 15 = σ2 98 15 ∧ s20 98 16 = (σ2 98 15) ∧ s20 98 17 = σ2 98 17 ∧ s20 98 18 = σ2 98 18 ∧ s20 98 13 = σ2 98 13 ∧ s20 98 14 = σ2 98 14) => ?_))
    refine h_aload_n (pc' := 43) rfl rfl rfl ?_
    refine h_aload_n (pc' := 44) rfl rfl rfl ?_
    refine h_getI (pc' := 47) (v := σ2 98 15) rfl rfl rfl rfl rfl es20.1 (fun z21 hz21 => ?_)
    refine h_call (sp := false) (pc' := 50) (M := [(0, .ref 98), (1, .int z21)]) rfl rfl rfl rfl rfl rfl rfl rfl ?_
    refine h_iload_n (pc' := 1) rfl rfl rfl ?_
    refine h_aload_n (pc' := 2) rfl rfl rfl ?_
    refine h_getI (pc' := 5) (v := σ2 98 11) rfl rfl rfl rfl rfl (Fs20 98 11 rfl) (fun z22 hz22 => ?_)
    have tz22 := tf_98_11 hI2
    refine h_cge (tg := 17) (pc' := 8) rfl rfl rfl hz21 hz22 (fun c23 => absurd c23 (by omega)) (fun c23 => ?_)
    clear hz22
    refine h_aload_n (pc' := 9) rfl rfl rfl ?_
    refine h_getR (pc' := 12) rfl rfl rfl rfl rfl ?_
    refine h_iload_n (pc' := 13) rfl rfl rfl ?_
    refine h_iald (pc' := 14) (v := σ2 102 (σ2 98 15)) rfl rfl rfl hz21 (by omega) (by omega) (Fs20 102 _ rfl) (fun z24 hz24 => ?_)
    have tz24 := ty_102 hI2 (σ2 98 15)
    have lz24 : σ2 102 (σ2 98 15) = σ1 65 (σ1 64 2) := (congrArg (σ2 102) (show (σ2 98 15) = (σ1 64 2) by omega)).trans lz8.symm
    refine h_goto (pc' := 19) rfl rfl ?_
    refine h_iret rfl rfl (h_Kv ?_)
    clear hz21
    refine h_istore_n (pc' := 51) (M := [(1, .int z24), (0, .ref 98)]) rfl rfl rfl rfl ?_
    refine h_aload_n (pc' := 52) rfl rfl rfl ?_
    refine h_iconst (pc' := 53) (x := (Int32.ofInt 0)) rfl rfl rfl ?_
    refine h_put (pc' := 56) rfl rfl rfl rfl rfl rfl ci_0 rfl (h_fgt (E := fun s => s 98 15 = σ2 98 15 ∧ s 98 16 = (σ2 98 15) ∧ s 98 17 = σ2 98 17 ∧ s 98 18 = 0 ∧ s 98 13 = σ2 98 13 ∧ s 98 14 = σ2 98 14) _ (if_98_18 Is20 (by omega)) (Fs20.up rfl) ⟨es20.1, es20.2.1, es20.2.2.1, rfl, es20.2.2.2.2.1, es20.2.2.2.2.2⟩ (fun s25 Is25 Fs25 (es25 : s25 98 15 = σ2 98 15 ∧ s25 98 16 = (σ2 98 15) ∧ s25 98 17 = σ2 98 17 ∧ s25 98 18 = 0 ∧ s25 98 13 = σ2 98 13 ∧ s25 98 14 = σ2 98 14) => ?_))
    clear es20
    refine h_iload_n (pc' := 57) rfl rfl rfl ?_
    refine h_bipush (pc' := 59) (x := (Int32.ofInt (-4))) rfl rfl cb_m4 ?_
    refine h_cne (tg := 70) (pc' := 62) rfl rfl rfl hz24 ci_m4 (fun c26 => ?_) (fun c26 => absurd c26 (by omega))
    refine h_iload_n (pc' := 71) rfl rfl rfl ?_
    refine h_i2l (pc' := 72) rfl rfl hz24 (fun z27 hz27 => ?_)
    refine h_ldc2 (pc' := 75) (x := (Int64.ofInt 97)) rfl rfl rfl ?_
    refine h_ldc2 (pc' := 78) (x := (Int64.ofInt 122)) rfl rfl rfl ?_
    refine h_calls (pc' := 81) (M := [(0, .long z27), (2, .long (Int64.ofInt 97)), (4, .long (Int64.ofInt 122))]) rfl rfl rfl rfl rfl rfl ?_
    refine h_lload_n (pc' := 1) rfl rfl rfl ?_
    refine h_lload_n (pc' := 2) rfl rfl rfl ?_
    refine h_lcmp (pc' := 3) rfl rfl hz27 cl_97 (fun z28 hz28 => ?_)
    refine h_zlt (tg := 17) (pc' := 6) rfl rfl rfl rfl (fun c29 => ?_) (fun c29 => absurd c29 (by omega))
    replace c29 := (h_lcr hz28).1 c29
    clear hz28
    refine h_iconst (pc' := 18) (x := (Int32.ofInt 0)) rfl rfl rfl ?_
    refine h_zret rfl rfl ci_0 (by omega) (h_Kv ?_)
    clear hz27
    refine h_zeq (tg := 126) (pc' := 84) rfl rfl rfl ci_0 (fun c30 => ?_) (fun c30 => absurd c30 (by omega))
    refine h_iload_n (pc' := 127) rfl rfl rfl ?_
    refine h_i2l (pc' := 128) rfl rfl hz24 (fun z31 hz31 => ?_)
    refine h_ldc2 (pc' := 131) (x := (Int64.ofInt 48)) rfl rfl rfl ?_
    refine h_ldc2 (pc' := 134) (x := (Int64.ofInt 57)) rfl rfl rfl ?_
    refine h_calls (pc' := 137) (M := [(0, .long z31), (2, .long (Int64.ofInt 48)), (4, .long (Int64.ofInt 57))]) rfl rfl rfl rfl rfl rfl ?_
    refine h_lload_n (pc' := 1) rfl rfl rfl ?_
    refine h_lload_n (pc' := 2) rfl rfl rfl ?_
    refine h_lcmp (pc' := 3) rfl rfl hz31 cl_48 (fun z32 hz32 => ?_)
    refine h_zlt (tg := 17) (pc' := 6) rfl rfl rfl rfl (fun c33 => absurd c33 (by omega)) (fun c33 => ?_)
    replace c33 := (h_lcr hz32).2.1 c33
    clear hz32
    refine h_lload_n (pc' := 7) rfl rfl rfl ?_
    refine h_lload (pc' := 9) rfl rfl rfl ?_
    refine h_lcmp (pc' := 10) rfl rfl hz31 cl_57 (fun z34 hz34 => ?_)
    refine h_zgt (tg := 17) (pc' := 13) rfl rfl rfl rfl (fun c35 => ?_) (fun c35 => absurd c35 (by omega))
    replace c35 := (h_lcr hz34).2.2.2.1 c35
    clear hz34
    refine h_iconst (pc' := 18) (x := (Int32.ofInt 0)) rfl rfl rfl ?_
    refine h_zret rfl rfl ci_0 (by omega) (h_Kv ?_)
    clear hz31
    refine h_zeq (tg := 243) (pc' := 140) rfl rfl rfl ci_0 (fun c36 => ?_) (fun c36 => absurd c36 (by omega))
    refine h_aload_n (pc' := 244) rfl rfl rfl ?_
    refine h_iconst (pc' := 245) (x := (Int32.ofInt 3)) rfl rfl rfl ?_
    refine h_put (pc' := 248) rfl rfl rfl rfl rfl rfl ci_3 rfl (h_fgt (E := fun s => s 98 15 = σ2 98 15 ∧ s 98 16 = (σ2 98 15) ∧ s 98 17 = 3 ∧ s 98 18 = 0 ∧ s 98 13 = σ2 98 13 ∧ s 98 14 = σ2 98 14) _ (if_98_17 Is25 (by omega)) (Fs25.up rfl) ⟨es25.1, es25.2.1, rfl, es25.2.2.2.1, es25.2.2.2.2.1, es25.2.2.2.2.2⟩ (fun s37 Is37 Fs37 (es37 : s37 98 15 = σ2 98 15 ∧ s37 98 16 = (σ2 98 15) ∧ s37 98 17 = 3 ∧ s37 98 18 = 0 ∧ s37 98 13 = σ2 98 13 ∧ s37 98 14 = σ2 98 14) => ?_))
    clear es25
    refine h_aload_n (pc' := 249) rfl rfl rfl ?_
    refine h_dup (pc' := 250) rfl rfl rfl ?_
    refine h_getI (pc' := 253) (v := σ2 98 15) rfl rfl rfl rfl rfl es37.1 (fun z38 hz38 => ?_)
    refine h_iconst (pc' := 254) (x := (Int32.ofInt 1)) rfl rfl rfl ?_
    refine h_iadd (pc' := 255) rfl rfl hz38 ci_1 rfl (by omega) (by omega) (fun z39 hz39 => ?_)
    clear hz38
    refine h_put (pc' := 258) rfl rfl rfl rfl rfl rfl hz39 rfl (h_fgt (E := fun s => s 98 15 = ((σ2 98 15) + 1) ∧ s 98 16 = (σ2 98 15) ∧ s 98 17 = 3 ∧ s 98 18 = 0 ∧ s 98 13 = σ2 98 13 ∧ s 98 14 = σ2 98 14) _ (if_98_15 Is37 (by omega)) (Fs37.up rfl) ⟨rfl, es37.2.1, es37.2.2.1, es37.2.2.2.1, es37.2.2.2.2.1, es37.2.2.2.2.2⟩ (fun s40 Is40 Fs40 (es40 : s40 98 15 = ((σ2 98 15) + 1) ∧ s40 98 16 = (σ2 98 15) ∧ s40 98 17 = 3 ∧ s40 98 18 = 0 ∧ s40 98 13 = σ2 98 13 ∧ s40 98 14 = σ2 98 14) => ?_))
    clear es37
    refine h_iload_n (pc' := 259) rfl rfl rfl ?_
    refine h_bipush (pc' := 261) (x := (Int32.ofInt 59)) rfl rfl cb_59 ?_
    refine h_ceq (tg := 269) (pc' := 264) rfl rfl rfl hz24 ci_59 (fun c41 => ?_) (fun c41 => ?_)
    · exfalso
      omega
    · refine h_aload_n (pc' := 265) rfl rfl rfl ?_
      refine h_iconst (pc' := 266) (x := (Int32.ofInt 1)) rfl rfl rfl ?_
      refine h_call (sp := false) (pc' := 269) (M := [(0, .ref 98), (1, .int (Int32.ofInt 1))]) rfl rfl rfl rfl rfl rfl rfl rfl ?_
      refine h_aload_n (pc' := 1) rfl rfl rfl ?_
      refine h_getI (pc' := 4) (v := σ2 98 13) rfl rfl rfl rfl rfl es40.2.2.2.2.1 (fun z43 hz43 => ?_)
      have tz43 := tf_98_13 hI2
      refine h_zne (tg := 20) (pc' := 7) rfl rfl rfl hz43 (fun c44 => absurd c44 (by omega)) (fun c44 => ?_)
      clear hz43
      refine h_aload_n (pc' := 8) rfl rfl rfl ?_
      refine h_iload_n (pc' := 9) rfl rfl rfl ?_
      refine h_put (pc' := 12) rfl rfl rfl rfl rfl rfl ci_1 rfl (h_fgt (E := fun s => s 98 15 = ((σ2 98 15) + 1) ∧ s 98 16 = (σ2 98 15) ∧ s 98 17 = 3 ∧ s 98 18 = 0 ∧ s 98 13 = 1 ∧ s 98 14 = σ2 98 14) _ (if_98_13 Is40 (by omega)) (Fs40.up rfl) ⟨es40.1, es40.2.1, es40.2.2.1, es40.2.2.2.1, rfl, es40.2.2.2.2.2⟩ (fun s45 Is45 Fs45 (es45 : s45 98 15 = ((σ2 98 15) + 1) ∧ s45 98 16 = (σ2 98 15) ∧ s45 98 17 = 3 ∧ s45 98 18 = 0 ∧ s45 98 13 = 1 ∧ s45 98 14 = σ2 98 14) => ?_))
      clear es40
      refine h_aload_n (pc' := 13) rfl rfl rfl ?_
      refine h_aload_n (pc' := 14) rfl rfl rfl ?_
      refine h_getI (pc' := 17) (v := (σ2 98 15)) rfl rfl rfl rfl rfl es45.2.1 (fun z46 hz46 => ?_)
      refine h_put (pc' := 20) rfl rfl rfl rfl rfl rfl hz46 rfl (h_fgt (E := fun s => s 98 15 = ((σ2 98 15) + 1) ∧ s 98 16 = (σ2 98 15) ∧ s 98 17 = 3 ∧ s 98 18 = 0 ∧ s 98 13 = 1 ∧ s 98 14 = (σ2 98 15)) _ (if_98_14 Is45 (h_rgv hz46)) (Fs45.up rfl) ⟨es45.1, es45.2.1, es45.2.2.1, es45.2.2.2.1, es45.2.2.2.2.1, rfl⟩ (fun s47 Is47 Fs47 (es47 : s47 98 15 = ((σ2 98 15) + 1) ∧ s47 98 16 = (σ2 98 15) ∧ s47 98 17 = 3 ∧ s47 98 18 = 0 ∧ s47 98 13 = 1 ∧ s47 98 14 = (σ2 98 15)) => ?_))
      clear es45
      refine h_vret rfl rfl (h_Kn ?_)
      refine d_toL (g_inj ns) hlw18 hRw18 (fun lvw48 memw48 hlw48 hRw48 => ?_)
      show h_T g_P (g_Y ns) 75 298 [(1, .int z8), (0, .ref 64)] [] s17 _
      exact h_wk [(0, .ref 64)] ⟨rfl, trivial⟩ (kx0 _ _ Is17 Is47 Fs17 Fs47 (by omega) (by omega) (by omega) (by omega) (by omega) (Or.inr ⟨by omega, by omega, by omega, by omega, by omega⟩) _ _ (h_al_ok ⟨rfl, trivial⟩ hlw48) hRw48)
  · refine h_iconst (pc' := 291) (x := (Int32.ofInt 3)) rfl rfl rfl ?_
    refine h_goto (pc' := 295) rfl rfl ?_
    refine h_put (pc' := 298) rfl rfl rfl rfl rfl rfl ci_3 rfl (h_fgt (E := fun s => s 64 2 = ((σ1 64 2) + 1) ∧ s 64 4 = (σ1 64 2) ∧ s 64 3 = 3 ∧ s 64 5 = 0 ∧ s 63 2 = σ1 63 2 ∧ s 63 3 = σ1 63 3 ∧ s 64 1 = σ1 64 1) _ (if_64_3 Is15 (by omega)) (Fs15.up rfl) ⟨es15.1, es15.2.1, rfl, es15.2.2.2.1, es15.2.2.2.2.1, es15.2.2.2.2.2.1, es15.2.2.2.2.2.2⟩ (fun s49 Is49 Fs49 (es49 : s49 64 2 = ((σ1 64 2) + 1) ∧ s49 64 4 = (σ1 64 2) ∧ s49 64 3 = 3 ∧ s49 64 5 = 0 ∧ s49 63 2 = σ1 63 2 ∧ s49 63 3 = σ1 63 3 ∧ s49 64 1 = σ1 64 1) => ?_))
    clear es15
    refine d_toM (g_inj ns) hl2 hR2 (fun lvw50 memw50 hlw50 hRw50 => ?_)
    show h_T g_P (g_Y ns) 148 34 [(0, .ref 98)] [] σ2 _
    refine h_aload_n (pc' := 35) rfl rfl rfl ?_
    refine h_aload_n (pc' := 36) rfl rfl rfl ?_
    refine h_getI (pc' := 39) (v := σ2 98 15) rfl rfl rfl rfl rfl rfl (fun z51 hz51 => ?_)
    have tz51 := tf_98_15 hI2
    refine h_put (pc' := 42) rfl rfl rfl rfl rfl rfl hz51 rfl (h_fgt (E := fun s => s 98 15 = σ2 98 15 ∧ s 98 16 = (σ2 98 15) ∧ s 98 17 = σ2 98 17 ∧ s 98 18 = σ2 98 18 ∧ s 98 13 = σ2 98 13 ∧ s 98 14 = σ2 98 14) _ (if_98_16 hI2 (by omega)) (F2.up rfl) ⟨rfl, rfl, rfl, rfl, rfl, rfl⟩ (fun s52 Is52 Fs52 (es52 : s52 98 15 = σ2 98 15 ∧ s52 98 16 = (σ2 98 15) ∧ s52 98 17 = σ2 98 17 ∧ s52 98 18 = σ2 98 18 ∧ s52 98 13 = σ2 98 13 ∧ s52 98 14 = σ2 98 14) => ?_))
    refine h_aload_n (pc' := 43) rfl rfl rfl ?_
    refine h_aload_n (pc' := 44) rfl rfl rfl ?_
    refine h_getI (pc' := 47) (v := σ2 98 15) rfl rfl rfl rfl rfl es52.1 (fun z53 hz53 => ?_)
    refine h_call (sp := false) (pc' := 50) (M := [(0, .ref 98), (1, .int z53)]) rfl rfl rfl rfl rfl rfl rfl rfl ?_
    refine h_iload_n (pc' := 1) rfl rfl rfl ?_
    refine h_aload_n (pc' := 2) rfl rfl rfl ?_
    refine h_getI (pc' := 5) (v := σ2 98 11) rfl rfl rfl rfl rfl (Fs52 98 11 rfl) (fun z54 hz54 => ?_)
    have tz54 := tf_98_11 hI2
    refine h_cge (tg := 17) (pc' := 8) rfl rfl rfl hz53 hz54 (fun c55 => absurd c55 (by omega)) (fun c55 => ?_)
    clear hz54
    refine h_aload_n (pc' := 9) rfl rfl rfl ?_
    refine h_getR (pc' := 12) rfl rfl rfl rfl rfl ?_
    refine h_iload_n (pc' := 13) rfl rfl rfl ?_
    refine h_iald (pc' := 14) (v := σ2 102 (σ2 98 15)) rfl rfl rfl hz53 (by omega) (by omega) (Fs52 102 _ rfl) (fun z56 hz56 => ?_)
    have tz56 := ty_102 hI2 (σ2 98 15)
    have lz56 : σ2 102 (σ2 98 15) = σ1 65 (σ1 64 2) := (congrArg (σ2 102) (show (σ2 98 15) = (σ1 64 2) by omega)).trans lz8.symm
    refine h_goto (pc' := 19) rfl rfl ?_
    refine h_iret rfl rfl (h_Kv ?_)
    clear hz53
    refine h_istore_n (pc' := 51) (M := [(1, .int z56), (0, .ref 98)]) rfl rfl rfl rfl ?_
    refine h_aload_n (pc' := 52) rfl rfl rfl ?_
    refine h_iconst (pc' := 53) (x := (Int32.ofInt 0)) rfl rfl rfl ?_
    refine h_put (pc' := 56) rfl rfl rfl rfl rfl rfl ci_0 rfl (h_fgt (E := fun s => s 98 15 = σ2 98 15 ∧ s 98 16 = (σ2 98 15) ∧ s 98 17 = σ2 98 17 ∧ s 98 18 = 0 ∧ s 98 13 = σ2 98 13 ∧ s 98 14 = σ2 98 14) _ (if_98_18 Is52 (by omega)) (Fs52.up rfl) ⟨es52.1, es52.2.1, es52.2.2.1, rfl, es52.2.2.2.2.1, es52.2.2.2.2.2⟩ (fun s57 Is57 Fs57 (es57 : s57 98 15 = σ2 98 15 ∧ s57 98 16 = (σ2 98 15) ∧ s57 98 17 = σ2 98 17 ∧ s57 98 18 = 0 ∧ s57 98 13 = σ2 98 13 ∧ s57 98 14 = σ2 98 14) => ?_))
    clear es52
    refine h_iload_n (pc' := 57) rfl rfl rfl ?_
    refine h_bipush (pc' := 59) (x := (Int32.ofInt (-4))) rfl rfl cb_m4 ?_
    refine h_cne (tg := 70) (pc' := 62) rfl rfl rfl hz56 ci_m4 (fun c58 => ?_) (fun c58 => absurd c58 (by omega))
    refine h_iload_n (pc' := 71) rfl rfl rfl ?_
    refine h_i2l (pc' := 72) rfl rfl hz56 (fun z59 hz59 => ?_)
    refine h_ldc2 (pc' := 75) (x := (Int64.ofInt 97)) rfl rfl rfl ?_
    refine h_ldc2 (pc' := 78) (x := (Int64.ofInt 122)) rfl rfl rfl ?_
    refine h_calls (pc' := 81) (M := [(0, .long z59), (2, .long (Int64.ofInt 97)), (4, .long (Int64.ofInt 122))]) rfl rfl rfl rfl rfl rfl ?_
    refine h_lload_n (pc' := 1) rfl rfl rfl ?_
    refine h_lload_n (pc' := 2) rfl rfl rfl ?_
    refine h_lcmp (pc' := 3) rfl rfl hz59 cl_97 (fun z60 hz60 => ?_)
    refine h_zlt (tg := 17) (pc' := 6) rfl rfl rfl rfl (fun c61 => ?_) (fun c61 => absurd c61 (by omega))
    replace c61 := (h_lcr hz60).1 c61
    clear hz60
    refine h_iconst (pc' := 18) (x := (Int32.ofInt 0)) rfl rfl rfl ?_
    refine h_zret rfl rfl ci_0 (by omega) (h_Kv ?_)
    clear hz59
    refine h_zeq (tg := 126) (pc' := 84) rfl rfl rfl ci_0 (fun c62 => ?_) (fun c62 => absurd c62 (by omega))
    refine h_iload_n (pc' := 127) rfl rfl rfl ?_
    refine h_i2l (pc' := 128) rfl rfl hz56 (fun z63 hz63 => ?_)
    refine h_ldc2 (pc' := 131) (x := (Int64.ofInt 48)) rfl rfl rfl ?_
    refine h_ldc2 (pc' := 134) (x := (Int64.ofInt 57)) rfl rfl rfl ?_
    refine h_calls (pc' := 137) (M := [(0, .long z63), (2, .long (Int64.ofInt 48)), (4, .long (Int64.ofInt 57))]) rfl rfl rfl rfl rfl rfl ?_
    refine h_lload_n (pc' := 1) rfl rfl rfl ?_
    refine h_lload_n (pc' := 2) rfl rfl rfl ?_
    refine h_lcmp (pc' := 3) rfl rfl hz63 cl_48 (fun z64 hz64 => ?_)
    refine h_zlt (tg := 17) (pc' := 6) rfl rfl rfl rfl (fun c65 => absurd c65 (by omega)) (fun c65 => ?_)
    replace c65 := (h_lcr hz64).2.1 c65
    clear hz64
    refine h_lload_n (pc' := 7) rfl rfl rfl ?_
    refine h_lload (pc' := 9) rfl rfl rfl ?_
    refine h_lcmp (pc' := 10) rfl rfl hz63 cl_57 (fun z66 hz66 => ?_)
    refine h_zgt (tg := 17) (pc' := 13) rfl rfl rfl rfl (fun c67 => ?_) (fun c67 => absurd c67 (by omega))
    replace c67 := (h_lcr hz66).2.2.2.1 c67
    clear hz66
    refine h_iconst (pc' := 18) (x := (Int32.ofInt 0)) rfl rfl rfl ?_
    refine h_zret rfl rfl ci_0 (by omega) (h_Kv ?_)
    clear hz63
    refine h_zeq (tg := 243) (pc' := 140) rfl rfl rfl ci_0 (fun c68 => ?_) (fun c68 => absurd c68 (by omega))
    refine h_aload_n (pc' := 244) rfl rfl rfl ?_
    refine h_iconst (pc' := 245) (x := (Int32.ofInt 3)) rfl rfl rfl ?_
    refine h_put (pc' := 248) rfl rfl rfl rfl rfl rfl ci_3 rfl (h_fgt (E := fun s => s 98 15 = σ2 98 15 ∧ s 98 16 = (σ2 98 15) ∧ s 98 17 = 3 ∧ s 98 18 = 0 ∧ s 98 13 = σ2 98 13 ∧ s 98 14 = σ2 98 14) _ (if_98_17 Is57 (by omega)) (Fs57.up rfl) ⟨es57.1, es57.2.1, rfl, es57.2.2.2.1, es57.2.2.2.2.1, es57.2.2.2.2.2⟩ (fun s69 Is69 Fs69 (es69 : s69 98 15 = σ2 98 15 ∧ s69 98 16 = (σ2 98 15) ∧ s69 98 17 = 3 ∧ s69 98 18 = 0 ∧ s69 98 13 = σ2 98 13 ∧ s69 98 14 = σ2 98 14) => ?_))
    clear es57
    refine h_aload_n (pc' := 249) rfl rfl rfl ?_
    refine h_dup (pc' := 250) rfl rfl rfl ?_
    refine h_getI (pc' := 253) (v := σ2 98 15) rfl rfl rfl rfl rfl es69.1 (fun z70 hz70 => ?_)
    refine h_iconst (pc' := 254) (x := (Int32.ofInt 1)) rfl rfl rfl ?_
    refine h_iadd (pc' := 255) rfl rfl hz70 ci_1 rfl (by omega) (by omega) (fun z71 hz71 => ?_)
    clear hz70
    refine h_put (pc' := 258) rfl rfl rfl rfl rfl rfl hz71 rfl (h_fgt (E := fun s => s 98 15 = ((σ2 98 15) + 1) ∧ s 98 16 = (σ2 98 15) ∧ s 98 17 = 3 ∧ s 98 18 = 0 ∧ s 98 13 = σ2 98 13 ∧ s 98 14 = σ2 98 14) _ (if_98_15 Is69 (by omega)) (Fs69.up rfl) ⟨rfl, es69.2.1, es69.2.2.1, es69.2.2.2.1, es69.2.2.2.2.1, es69.2.2.2.2.2⟩ (fun s72 Is72 Fs72 (es72 : s72 98 15 = ((σ2 98 15) + 1) ∧ s72 98 16 = (σ2 98 15) ∧ s72 98 17 = 3 ∧ s72 98 18 = 0 ∧ s72 98 13 = σ2 98 13 ∧ s72 98 14 = σ2 98 14) => ?_))
    clear es69
    refine h_iload_n (pc' := 259) rfl rfl rfl ?_
    refine h_bipush (pc' := 261) (x := (Int32.ofInt 59)) rfl rfl cb_59 ?_
    refine h_ceq (tg := 269) (pc' := 264) rfl rfl rfl hz56 ci_59 (fun c73 => ?_) (fun c73 => absurd c73 (by omega))
    refine d_toL (g_inj ns) hlw50 hRw50 (fun lvw74 memw74 hlw74 hRw74 => ?_)
    show h_T g_P (g_Y ns) 75 298 [(1, .int z8), (0, .ref 64)] [] s49 _
    exact h_wk [(0, .ref 64)] ⟨rfl, trivial⟩ (kx0 _ _ Is49 Is72 Fs49 Fs72 (by omega) (by omega) (by omega) (by omega) (by omega) (Or.inl ⟨by omega, by omega, by omega, by omega, by omega⟩) _ _ (h_al_ok ⟨rfl, trivial⟩ hlw74) hRw74)
set_option maxHeartbeats 100000000 in
theorem ls_t3 {ns : Nat} {σ1 σ2 : h_S} (hI1 : h_I σ1) (hI2 : h_I σ2) (hTL : d_tape σ1 σ2)  (pr0 : σ1 64 2 = σ2 98 15) (pr1 : σ2 98 13 = 0) (pr2 : σ1 64 2 ≤ σ1 64 1) (pr3 : σ1 64 2 < σ1 64 1 ∧ 97 ≤ σ1 65 (σ1 64 2) ∧ σ1 65 (σ1 64 2) ≤ 122) {cs1 cs2 : List d_Fr} {Q : d_Q} (kx0 : ∀ (s t : h_S), h_I s → h_I t → h_F (k_in k_lx) s σ1 → h_F (k_in k_lm) t σ2 → (s 64 2 = t 98 15) → (s 64 4 = t 98 16) → (s 63 2 = σ1 63 2) → (s 64 2 ≤ σ1 64 1) → (σ1 64 2 ≤ s 64 2) → (((s 64 3 = 1) ∧ (t 98 13 = 0) ∧ (t 98 17 = 1) ∧ (s 64 4 < s 64 2) ∧ (σ1 64 2 < s 64 2))) → ∀ lv2 mem2, h_loc [(0, .ref 98)] lv2 → h_R (g_Y ns) t mem2 → h_T g_P (g_Y ns) 75 298 [(0, .ref 64)] [] s (d_cs g_P (g_Y ns) cs1 (d_L g_P (g_Y ns) (148, 269, lv2, []) cs2 mem2 Q))) : ∀ lv2 mem2, h_loc [(0, .ref 98)] lv2 → h_R (g_Y ns) σ2 mem2 → h_T g_P (g_Y ns) 75 38 [(0, .ref 64)] [] σ1 (d_cs g_P (g_Y ns) cs1 (d_L g_P (g_Y ns) (148, 34, lv2, []) cs2 mem2 Q)) := by
  intro lv2 mem2 hl2 hR2
  have hT := hTL.1
  have hL := hTL.2
  have F1 : h_F (k_in k_lx) σ1 σ1 := h_F.rf
  have F2 : h_F (k_in k_lm) σ2 σ2 := h_F.rf
  have ge0 := tf_64_2 hI1
  have ge1 := tf_64_1 hI1
  refine h_aload_n (pc' := 39) rfl rfl rfl ?_
  refine h_aload_n (pc' := 40) rfl rfl rfl ?_
  refine h_getI (pc' := 43) (v := σ1 64 2) rfl rfl rfl rfl rfl rfl (fun z1 hz1 => ?_)
  have tz1 := tf_64_2 hI1
  refine h_put (pc' := 46) rfl rfl rfl rfl rfl rfl hz1 rfl (h_fgt (E := fun s => s 64 2 = σ1 64 2 ∧ s 64 4 = (σ1 64 2) ∧ s 64 3 = σ1 64 3 ∧ s 64 5 = σ1 64 5 ∧ s 63 2 = σ1 63 2 ∧ s 63 3 = σ1 63 3 ∧ s 64 1 = σ1 64 1) _ (if_64_4 hI1 (by omega)) (F1.up rfl) ⟨rfl, rfl, rfl, rfl, rfl, rfl, rfl⟩ (fun s2 Is2 Fs2 (es2 : s2 64 2 = σ1 64 2 ∧ s2 64 4 = (σ1 64 2) ∧ s2 64 3 = σ1 64 3 ∧ s2 64 5 = σ1 64 5 ∧ s2 63 2 = σ1 63 2 ∧ s2 63 3 = σ1 63 3 ∧ s2 64 1 = σ1 64 1) => ?_))
  refine h_aload_n (pc' := 47) rfl rfl rfl ?_
  refine h_iconst (pc' := 48) (x := (Int32.ofInt 0)) rfl rfl rfl ?_
  refine h_put (pc' := 51) rfl rfl rfl rfl rfl rfl ci_0 rfl (h_fgt (E := fun s => s 64 2 = σ1 64 2 ∧ s 64 4 = (σ1 64 2) ∧ s 64 3 = σ1 64 3 ∧ s 64 5 = 0 ∧ s 63 2 = σ1 63 2 ∧ s 63 3 = σ1 63 3 ∧ s 64 1 = σ1 64 1) _ (if_64_5 Is2 (h_rgv ci_0)) (Fs2.up rfl) ⟨es2.1, es2.2.1, es2.2.2.1, rfl, es2.2.2.2.2.1, es2.2.2.2.2.2.1, es2.2.2.2.2.2.2⟩ (fun s3 Is3 Fs3 (es3 : s3 64 2 = σ1 64 2 ∧ s3 64 4 = (σ1 64 2) ∧ s3 64 3 = σ1 64 3 ∧ s3 64 5 = 0 ∧ s3 63 2 = σ1 63 2 ∧ s3 63 3 = σ1 63 3 ∧ s3 64 1 = σ1 64 1) => ?_))
  clear es2
  refine h_aload_n (pc' := 52) rfl rfl rfl ?_
  refine h_getI (pc' := 55) (v := σ1 64 2) rfl rfl rfl rfl rfl es3.1 (fun z4 hz4 => ?_)
  refine h_aload_n (pc' := 56) rfl rfl rfl ?_
  refine h_getI (pc' := 59) (v := σ1 64 1) rfl rfl rfl rfl rfl es3.2.2.2.2.2.2 (fun z5 hz5 => ?_)
  have tz5 := tf_64_1 hI1
  refine h_cge (tg := 74) (pc' := 62) rfl rfl rfl hz4 hz5 (fun c6 => absurd c6 (by omega)) (fun c6 => ?_)
  clear hz4 hz5
  refine h_aload_n (pc' := 63) rfl rfl rfl ?_
  refine h_getR (pc' := 66) rfl rfl rfl rfl rfl ?_
  refine h_aload_n (pc' := 67) rfl rfl rfl ?_
  refine h_getI (pc' := 70) (v := σ1 64 2) rfl rfl rfl rfl rfl es3.1 (fun z7 hz7 => ?_)
  refine h_iald (pc' := 71) (v := σ1 65 (σ1 64 2)) rfl rfl rfl hz7 (by omega) (by omega) (Fs3 65 _ rfl) (fun z8 hz8 => ?_)
  have tz8 := ty_65 hI1 (σ1 64 2)
  have lz8 := hT (σ1 64 2) (by omega) (by omega)
  clear hz7
  refine h_goto (pc' := 75) rfl rfl ?_
  refine h_istore_n (pc' := 76) (M := [(1, .int z8), (0, .ref 64)]) rfl rfl rfl rfl ?_
  refine h_iload_n (pc' := 77) rfl rfl rfl ?_
  refine h_zge (tg := 88) (pc' := 80) rfl rfl rfl hz8 (fun c9 => ?_) (fun c9 => absurd c9 (by omega))
  refine h_iload_n (pc' := 89) rfl rfl rfl ?_
  refine h_bipush (pc' := 91) (x := (Int32.ofInt 97)) rfl rfl cb_97 ?_
  refine h_clt (tg := 160) (pc' := 94) rfl rfl rfl hz8 ci_97 (fun c10 => absurd c10 (by omega)) (fun c10 => ?_)
  refine h_iload_n (pc' := 95) rfl rfl rfl ?_
  refine h_bipush (pc' := 97) (x := (Int32.ofInt 122)) rfl rfl cb_122 ?_
  refine h_cgt (tg := 160) (pc' := 100) rfl rfl rfl hz8 ci_122 (fun c11 => absurd c11 (by omega)) (fun c11 => ?_)
  refine h_aload_n (pc' := 101) rfl rfl rfl ?_
  refine h_getI (pc' := 104) (v := σ1 64 2) rfl rfl rfl rfl rfl es3.1 (fun z12 hz12 => ?_)
  refine h_aload_n (pc' := 105) rfl rfl rfl ?_
  refine h_getI (pc' := 108) (v := σ1 64 1) rfl rfl rfl rfl rfl es3.2.2.2.2.2.2 (fun z13 hz13 => ?_)
  refine h_cge (tg := 152) (pc' := 111) rfl rfl rfl hz12 hz13 (fun c14 => absurd c14 (by omega)) (fun c14 => ?_)
  clear hz12 hz13
  refine h_aload_n (pc' := 112) rfl rfl rfl ?_
  refine h_getR (pc' := 115) rfl rfl rfl rfl rfl ?_
  refine h_aload_n (pc' := 116) rfl rfl rfl ?_
  refine h_getI (pc' := 119) (v := σ1 64 2) rfl rfl rfl rfl rfl es3.1 (fun z15 hz15 => ?_)
  refine h_iald (pc' := 120) (v := σ1 65 (σ1 64 2)) rfl rfl rfl hz15 (by omega) (by omega) (Fs3 65 _ rfl) (fun z16 hz16 => ?_)
  clear hz15
  refine h_bipush (pc' := 122) (x := (Int32.ofInt 97)) rfl rfl cb_97 ?_
  refine h_clt (tg := 152) (pc' := 125) rfl rfl rfl hz16 ci_97 (fun c17 => absurd c17 (by omega)) (fun c17 => ?_)
  clear hz16
  refine h_aload_n (pc' := 126) rfl rfl rfl ?_
  refine h_getR (pc' := 129) rfl rfl rfl rfl rfl ?_
  refine h_aload_n (pc' := 130) rfl rfl rfl ?_
  refine h_getI (pc' := 133) (v := σ1 64 2) rfl rfl rfl rfl rfl es3.1 (fun z18 hz18 => ?_)
  refine h_iald (pc' := 134) (v := σ1 65 (σ1 64 2)) rfl rfl rfl hz18 (by omega) (by omega) (Fs3 65 _ rfl) (fun z19 hz19 => ?_)
  clear hz18
  refine h_bipush (pc' := 136) (x := (Int32.ofInt 122)) rfl rfl cb_122 ?_
  refine h_cgt (tg := 152) (pc' := 139) rfl rfl rfl hz19 ci_122 (fun c20 => absurd c20 (by omega)) (fun c20 => ?_)
  clear hz19
  refine h_aload_n (pc' := 140) rfl rfl rfl ?_
  refine h_dup (pc' := 141) rfl rfl rfl ?_
  refine h_getI (pc' := 144) (v := σ1 64 2) rfl rfl rfl rfl rfl es3.1 (fun z21 hz21 => ?_)
  refine h_iconst (pc' := 145) (x := (Int32.ofInt 1)) rfl rfl rfl ?_
  refine h_iadd (pc' := 146) rfl rfl hz21 ci_1 rfl (by omega) (by omega) (fun z22 hz22 => ?_)
  clear hz21
  refine h_put (pc' := 149) rfl rfl rfl rfl rfl rfl hz22 rfl (h_fgt (E := fun s => s 64 2 = ((σ1 64 2) + 1) ∧ s 64 4 = (σ1 64 2) ∧ s 64 3 = σ1 64 3 ∧ s 64 5 = 0 ∧ s 63 2 = σ1 63 2 ∧ s 63 3 = σ1 63 3 ∧ s 64 1 = σ1 64 1) _ (if_64_2 Is3 (by omega)) (Fs3.up rfl) ⟨rfl, es3.2.1, es3.2.2.1, es3.2.2.2.1, es3.2.2.2.2.1, es3.2.2.2.2.2.1, es3.2.2.2.2.2.2⟩ (fun s23 Is23 Fs23 (es23 : s23 64 2 = ((σ1 64 2) + 1) ∧ s23 64 4 = (σ1 64 2) ∧ s23 64 3 = σ1 64 3 ∧ s23 64 5 = 0 ∧ s23 63 2 = σ1 63 2 ∧ s23 63 3 = σ1 63 3 ∧ s23 64 1 = σ1 64 1) => ?_))
  clear es3
  refine h_goto (pc' := 100) rfl rfl ?_
  refine d_toM (g_inj ns) hl2 hR2 (fun lvw24 memw24 hlw24 hRw24 => ?_)
  show h_T g_P (g_Y ns) 148 34 [(0, .ref 98)] [] σ2 _
  refine h_aload_n (pc' := 35) rfl rfl rfl ?_
  refine h_aload_n (pc' := 36) rfl rfl rfl ?_
  refine h_getI (pc' := 39) (v := σ2 98 15) rfl rfl rfl rfl rfl rfl (fun z25 hz25 => ?_)
  have tz25 := tf_98_15 hI2
  refine h_put (pc' := 42) rfl rfl rfl rfl rfl rfl hz25 rfl (h_fgt (E := fun s => s 98 15 = σ2 98 15 ∧ s 98 16 = (σ2 98 15) ∧ s 98 17 = σ2 98 17 ∧ s 98 18 = σ2 98 18 ∧ s 98 13 = σ2 98 13 ∧ s 98 14 = σ2 98 14) _ (if_98_16 hI2 (by omega)) (F2.up rfl) ⟨rfl, rfl, rfl, rfl, rfl, rfl⟩ (fun s26 Is26 Fs26 (es26 : s26 98 15 = σ2 98 15 ∧ s26 98 16 = (σ2 98 15) ∧ s26 98 17 = σ2 98 17 ∧ s26 98 18 = σ2 98 18 ∧ s26 98 13 = σ2 98 13 ∧ s26 98 14 = σ2 98 14) => ?_))
  refine h_aload_n (pc' := 43) rfl rfl rfl ?_
  refine h_aload_n (pc' := 44) rfl rfl rfl ?_
  refine h_getI (pc' := 47) (v := σ2 98 15) rfl rfl rfl rfl rfl es26.1 (fun z27 hz27 => ?_)
  refine h_call (sp := false) (pc' := 50) (M := [(0, .ref 98), (1, .int z27)]) rfl rfl rfl rfl rfl rfl rfl rfl ?_
  refine h_iload_n (pc' := 1) rfl rfl rfl ?_
  refine h_aload_n (pc' := 2) rfl rfl rfl ?_
  refine h_getI (pc' := 5) (v := σ2 98 11) rfl rfl rfl rfl rfl (Fs26 98 11 rfl) (fun z28 hz28 => ?_)
  have tz28 := tf_98_11 hI2
  refine h_cge (tg := 17) (pc' := 8) rfl rfl rfl hz27 hz28 (fun c29 => absurd c29 (by omega)) (fun c29 => ?_)
  clear hz28
  refine h_aload_n (pc' := 9) rfl rfl rfl ?_
  refine h_getR (pc' := 12) rfl rfl rfl rfl rfl ?_
  refine h_iload_n (pc' := 13) rfl rfl rfl ?_
  refine h_iald (pc' := 14) (v := σ2 102 (σ2 98 15)) rfl rfl rfl hz27 (by omega) (by omega) (Fs26 102 _ rfl) (fun z30 hz30 => ?_)
  have tz30 := ty_102 hI2 (σ2 98 15)
  have lz30 : σ2 102 (σ2 98 15) = σ1 65 (σ1 64 2) := (congrArg (σ2 102) (show (σ2 98 15) = (σ1 64 2) by omega)).trans lz8.symm
  refine h_goto (pc' := 19) rfl rfl ?_
  refine h_iret rfl rfl (h_Kv ?_)
  clear hz27
  refine h_istore_n (pc' := 51) (M := [(1, .int z30), (0, .ref 98)]) rfl rfl rfl rfl ?_
  refine h_aload_n (pc' := 52) rfl rfl rfl ?_
  refine h_iconst (pc' := 53) (x := (Int32.ofInt 0)) rfl rfl rfl ?_
  refine h_put (pc' := 56) rfl rfl rfl rfl rfl rfl ci_0 rfl (h_fgt (E := fun s => s 98 15 = σ2 98 15 ∧ s 98 16 = (σ2 98 15) ∧ s 98 17 = σ2 98 17 ∧ s 98 18 = 0 ∧ s 98 13 = σ2 98 13 ∧ s 98 14 = σ2 98 14) _ (if_98_18 Is26 (by omega)) (Fs26.up rfl) ⟨es26.1, es26.2.1, es26.2.2.1, rfl, es26.2.2.2.2.1, es26.2.2.2.2.2⟩ (fun s31 Is31 Fs31 (es31 : s31 98 15 = σ2 98 15 ∧ s31 98 16 = (σ2 98 15) ∧ s31 98 17 = σ2 98 17 ∧ s31 98 18 = 0 ∧ s31 98 13 = σ2 98 13 ∧ s31 98 14 = σ2 98 14) => ?_))
  clear es26
  refine h_iload_n (pc' := 57) rfl rfl rfl ?_
  refine h_bipush (pc' := 59) (x := (Int32.ofInt (-4))) rfl rfl cb_m4 ?_
  refine h_cne (tg := 70) (pc' := 62) rfl rfl rfl hz30 ci_m4 (fun c32 => ?_) (fun c32 => absurd c32 (by omega))
  refine h_iload_n (pc' := 71) rfl rfl rfl ?_
  refine h_i2l (pc' := 72) rfl rfl hz30 (fun z33 hz33 => ?_)
  refine h_ldc2 (pc' := 75) (x := (Int64.ofInt 97)) rfl rfl rfl ?_
  refine h_ldc2 (pc' := 78) (x := (Int64.ofInt 122)) rfl rfl rfl ?_
  refine h_calls (pc' := 81) (M := [(0, .long z33), (2, .long (Int64.ofInt 97)), (4, .long (Int64.ofInt 122))]) rfl rfl rfl rfl rfl rfl ?_
  refine h_lload_n (pc' := 1) rfl rfl rfl ?_
  refine h_lload_n (pc' := 2) rfl rfl rfl ?_
  refine h_lcmp (pc' := 3) rfl rfl hz33 cl_97 (fun z34 hz34 => ?_)
  refine h_zlt (tg := 17) (pc' := 6) rfl rfl rfl rfl (fun c35 => absurd c35 (by omega)) (fun c35 => ?_)
  replace c35 := (h_lcr hz34).2.1 c35
  clear hz34
  refine h_lload_n (pc' := 7) rfl rfl rfl ?_
  refine h_lload (pc' := 9) rfl rfl rfl ?_
  refine h_lcmp (pc' := 10) rfl rfl hz33 cl_122 (fun z36 hz36 => ?_)
  refine h_zgt (tg := 17) (pc' := 13) rfl rfl rfl rfl (fun c37 => absurd c37 (by omega)) (fun c37 => ?_)
  replace c37 := (h_lcr hz36).2.2.1 c37
  clear hz36
  refine h_iconst (pc' := 14) (x := (Int32.ofInt 1)) rfl rfl rfl ?_
  refine h_goto (pc' := 18) rfl rfl ?_
  refine h_zret rfl rfl ci_1 (by omega) (h_Kv ?_)
  clear hz33
  refine h_zeq (tg := 126) (pc' := 84) rfl rfl rfl ci_1 (fun c38 => absurd c38 (by omega)) (fun c38 => ?_)
  refine h_aload_n (pc' := 85) rfl rfl rfl ?_
  refine h_aload_n (pc' := 86) rfl rfl rfl ?_
  refine h_getI (pc' := 89) (v := σ2 98 15) rfl rfl rfl rfl rfl es31.1 (fun z39 hz39 => ?_)
  refine h_call (sp := false) (pc' := 92) (M := [(0, .ref 98), (1, .int z39)]) rfl rfl rfl rfl rfl rfl rfl rfl ?_
  refine h_iload_n (pc' := 1) rfl rfl rfl ?_
  refine h_aload_n (pc' := 2) rfl rfl rfl ?_
  refine h_getI (pc' := 5) (v := σ2 98 11) rfl rfl rfl rfl rfl (Fs31 98 11 rfl) (fun z40 hz40 => ?_)
  refine h_cge (tg := 17) (pc' := 8) rfl rfl rfl hz39 hz40 (fun c41 => absurd c41 (by omega)) (fun c41 => ?_)
  clear hz40
  refine h_aload_n (pc' := 9) rfl rfl rfl ?_
  refine h_getR (pc' := 12) rfl rfl rfl rfl rfl ?_
  refine h_iload_n (pc' := 13) rfl rfl rfl ?_
  refine h_iald (pc' := 14) (v := σ2 102 (σ2 98 15)) rfl rfl rfl hz39 (by omega) (by omega) (Fs31 102 _ rfl) (fun z42 hz42 => ?_)
  refine h_goto (pc' := 19) rfl rfl ?_
  refine h_iret rfl rfl (h_Kv ?_)
  clear hz39
  refine h_i2l (pc' := 93) rfl rfl hz42 (fun z43 hz43 => ?_)
  clear hz42
  refine h_ldc2 (pc' := 96) (x := (Int64.ofInt 97)) rfl rfl rfl ?_
  refine h_ldc2 (pc' := 99) (x := (Int64.ofInt 122)) rfl rfl rfl ?_
  refine h_calls (pc' := 102) (M := [(0, .long z43), (2, .long (Int64.ofInt 97)), (4, .long (Int64.ofInt 122))]) rfl rfl rfl rfl rfl rfl ?_
  refine h_lload_n (pc' := 1) rfl rfl rfl ?_
  refine h_lload_n (pc' := 2) rfl rfl rfl ?_
  refine h_lcmp (pc' := 3) rfl rfl hz43 cl_97 (fun z44 hz44 => ?_)
  refine h_zlt (tg := 17) (pc' := 6) rfl rfl rfl rfl (fun c45 => absurd c45 (by omega)) (fun c45 => ?_)
  replace c45 := (h_lcr hz44).2.1 c45
  clear hz44
  refine h_lload_n (pc' := 7) rfl rfl rfl ?_
  refine h_lload (pc' := 9) rfl rfl rfl ?_
  refine h_lcmp (pc' := 10) rfl rfl hz43 cl_122 (fun z46 hz46 => ?_)
  refine h_zgt (tg := 17) (pc' := 13) rfl rfl rfl rfl (fun c47 => absurd c47 (by omega)) (fun c47 => ?_)
  replace c47 := (h_lcr hz46).2.2.1 c47
  clear hz46
  refine h_iconst (pc' := 14) (x := (Int32.ofInt 1)) rfl rfl rfl ?_
  refine h_goto (pc' := 18) rfl rfl ?_
  refine h_zret rfl rfl ci_1 (by omega) (h_Kv ?_)
  clear hz43
  refine h_zeq (tg := 118) (pc' := 105) rfl rfl rfl ci_1 (fun c48 => absurd c48 (by omega)) (fun c48 => ?_)
  refine h_aload_n (pc' := 106) rfl rfl rfl ?_
  refine h_dup (pc' := 107) rfl rfl rfl ?_
  refine h_getI (pc' := 110) (v := σ2 98 15) rfl rfl rfl rfl rfl es31.1 (fun z49 hz49 => ?_)
  refine h_iconst (pc' := 111) (x := (Int32.ofInt 1)) rfl rfl rfl ?_
  refine h_iadd (pc' := 112) rfl rfl hz49 ci_1 rfl (by omega) (by omega) (fun z50 hz50 => ?_)
  clear hz49
  refine h_put (pc' := 115) rfl rfl rfl rfl rfl rfl hz50 rfl (h_fgt (E := fun s => s 98 15 = ((σ2 98 15) + 1) ∧ s 98 16 = (σ2 98 15) ∧ s 98 17 = σ2 98 17 ∧ s 98 18 = 0 ∧ s 98 13 = σ2 98 13 ∧ s 98 14 = σ2 98 14) _ (if_98_15 Is31 (by omega)) (Fs31.up rfl) ⟨rfl, es31.2.1, es31.2.2.1, es31.2.2.2.1, es31.2.2.2.2.1, es31.2.2.2.2.2⟩ (fun s51 Is51 Fs51 (es51 : s51 98 15 = ((σ2 98 15) + 1) ∧ s51 98 16 = (σ2 98 15) ∧ s51 98 17 = σ2 98 17 ∧ s51 98 18 = 0 ∧ s51 98 13 = σ2 98 13 ∧ s51 98 14 = σ2 98 14) => ?_))
  clear es31
  refine h_goto (pc' := 84) rfl rfl ?_
  refine d_toL (g_inj ns) hlw24 hRw24 (fun lvw52 memw52 hlw52 hRw52 => ?_)
  show h_T g_P (g_Y ns) 75 100 [(1, .int z8), (0, .ref 64)] [] s23 _
  have ga53 := tf_64_2 Is23
  refine h_wk [(0, .ref 64)] ⟨rfl, trivial⟩ (lp_le Is23 Is51 (hTL.fr (Fs23.mono rfl) (Fs51.mono rfl)) (fun sq54 tq54 Isq54 Itq54 Gsq54 Gtq54   yq54_0 yq54_1 yq54_2 yq54_3 yq54_4 yq54_5 yq54_6  lvq54 memq54 hlq54 hRq54 => ?_) 100000 _ _ Is23 Is51 h_F.rf h_F.rf   (by omega) (by omega) (by omega) (by omega) (by omega) (by omega) (by omega) (by omega) _ _ (h_al_ok ⟨rfl, trivial⟩ hlw52) hRw52)
  · have Fsq54 := (Gsq54.mono (B := k_lx) rfl).tr Fs23
    have Ftq54 := (Gtq54.mono (B := k_lm) rfl).tr Fs51
    have Isq54 := Isq54
    have Itq54 := Itq54
    have Gsq54 := Gsq54
    have Gtq54 := Gtq54
    have esq54_6 : sq54 64 1 = σ1 64 1 := (Gsq54 64 1 rfl).trans es23.2.2.2.2.2.2
    have esq54_4 : sq54 63 2 = σ1 63 2 := yq54_3.trans es23.2.2.2.2.1
    show h_T g_P (g_Y ns) 75 152 [(0, .ref 64)] [] sq54 _
    clear hz1 hz22 hz25 hz30 hz50 hz8
    refine h_aload_n (pc' := 153) rfl rfl rfl ?_
    refine h_iconst (pc' := 154) (x := (Int32.ofInt 1)) rfl rfl rfl ?_
    refine h_put (pc' := 157) rfl rfl rfl rfl rfl rfl ci_1 rfl (h_fgt (E := fun s => s 64 2 = sq54 64 2 ∧ s 64 4 = sq54 64 4 ∧ s 64 3 = 1 ∧ s 64 5 = sq54 64 5 ∧ s 63 2 = σ1 63 2 ∧ s 63 3 = sq54 63 3 ∧ s 64 1 = σ1 64 1) _ (if_64_3 Isq54 (by omega)) (Fsq54.up rfl) ⟨rfl, rfl, rfl, rfl, esq54_4, rfl, esq54_6⟩ (fun s55 Is55 Fs55 (es55 : s55 64 2 = sq54 64 2 ∧ s55 64 4 = sq54 64 4 ∧ s55 64 3 = 1 ∧ s55 64 5 = sq54 64 5 ∧ s55 63 2 = σ1 63 2 ∧ s55 63 3 = sq54 63 3 ∧ s55 64 1 = σ1 64 1) => ?_))
    clear esq54_4 esq54_6
    refine h_goto (pc' := 298) rfl rfl ?_
    refine d_toM (g_inj ns) hlq54 hRq54 (fun lvw56 memw56 hlw56 hRw56 => ?_)
    show h_T g_P (g_Y ns) 148 118 [(0, .ref 98)] [] tq54 _
    refine h_aload_n (pc' := 119) rfl rfl rfl ?_
    refine h_iconst (pc' := 120) (x := (Int32.ofInt 1)) rfl rfl rfl ?_
    refine h_put (pc' := 123) rfl rfl rfl rfl rfl rfl ci_1 rfl (h_fgt (E := fun s => s 98 15 = tq54 98 15 ∧ s 98 16 = tq54 98 16 ∧ s 98 17 = 1 ∧ s 98 18 = tq54 98 18 ∧ s 98 13 = tq54 98 13 ∧ s 98 14 = tq54 98 14) _ (if_98_17 Itq54 (by omega)) (Ftq54.up rfl) ⟨rfl, rfl, rfl, rfl, rfl, rfl⟩ (fun s57 Is57 Fs57 (es57 : s57 98 15 = tq54 98 15 ∧ s57 98 16 = tq54 98 16 ∧ s57 98 17 = 1 ∧ s57 98 18 = tq54 98 18 ∧ s57 98 13 = tq54 98 13 ∧ s57 98 14 = tq54 98 14) => ?_))
    refine h_goto (pc' := 269) rfl rfl ?_
    refine d_toL (g_inj ns) hlw56 hRw56 (fun lvw58 memw58 hlw58 hRw58 => ?_)
    show h_T g_P (g_Y ns) 75 298 [(0, .ref 64)] [] s55 _
    exact h_wk [(0, .ref 64)] ⟨rfl, trivial⟩ (kx0 _ _ Is55 Is57 Fs55 Fs57 (by omega) (by omega) (by omega) (by omega) (by omega) ⟨by omega, by omega, by omega, by omega, by omega⟩ _ _ (h_al_ok ⟨rfl, trivial⟩ hlw58) hRw58)
set_option maxHeartbeats 100000000 in
theorem ls_t4 {ns : Nat} {σ1 σ2 : h_S} (hI1 : h_I σ1) (hI2 : h_I σ2) (hTL : d_tape σ1 σ2)  (pr0 : σ1 64 2 = σ2 98 15) (pr1 : σ2 98 13 = 0) (pr2 : σ1 64 2 ≤ σ1 64 1) (pr3 : σ1 64 2 < σ1 64 1 ∧ 123 ≤ σ1 65 (σ1 64 2) ∧ σ1 65 (σ1 64 2) ≤ 127) {cs1 cs2 : List d_Fr} {Q : d_Q} (kx0 : ∀ (s t : h_S), h_I s → h_I t → h_F (k_in k_lx) s σ1 → h_F (k_in k_lm) t σ2 → (s 64 2 = t 98 15) → (s 64 4 = t 98 16) → (s 63 2 = σ1 63 2) → (s 64 2 ≤ σ1 64 1) → (σ1 64 2 ≤ s 64 2) → (((s 64 3 = 4) ∧ (t 98 13 = 1) ∧ (s 64 4 < s 64 2) ∧ (σ1 64 2 < s 64 2) ∧ (s 64 4 = t 98 14))) → ∀ lv2 mem2, h_loc [(0, .ref 98)] lv2 → h_R (g_Y ns) t mem2 → h_T g_P (g_Y ns) 75 298 [(0, .ref 64)] [] s (d_cs g_P (g_Y ns) cs1 (d_L g_P (g_Y ns) (148, 269, lv2, []) cs2 mem2 Q))) : ∀ lv2 mem2, h_loc [(0, .ref 98)] lv2 → h_R (g_Y ns) σ2 mem2 → h_T g_P (g_Y ns) 75 38 [(0, .ref 64)] [] σ1 (d_cs g_P (g_Y ns) cs1 (d_L g_P (g_Y ns) (148, 34, lv2, []) cs2 mem2 Q)) := by
  intro lv2 mem2 hl2 hR2
  have hT := hTL.1
  have hL := hTL.2
  have F1 : h_F (k_in k_lx) σ1 σ1 := h_F.rf
  have F2 : h_F (k_in k_lm) σ2 σ2 := h_F.rf
  have ge0 := tf_64_2 hI1
  have ge1 := tf_64_1 hI1
  refine h_aload_n (pc' := 39) rfl rfl rfl ?_
  refine h_aload_n (pc' := 40) rfl rfl rfl ?_
  refine h_getI (pc' := 43) (v := σ1 64 2) rfl rfl rfl rfl rfl rfl (fun z1 hz1 => ?_)
  have tz1 := tf_64_2 hI1
  refine h_put (pc' := 46) rfl rfl rfl rfl rfl rfl hz1 rfl (h_fgt (E := fun s => s 64 2 = σ1 64 2 ∧ s 64 4 = (σ1 64 2) ∧ s 64 3 = σ1 64 3 ∧ s 64 5 = σ1 64 5 ∧ s 63 2 = σ1 63 2 ∧ s 63 3 = σ1 63 3 ∧ s 64 1 = σ1 64 1) _ (if_64_4 hI1 (by omega)) (F1.up rfl) ⟨rfl, rfl, rfl, rfl, rfl, rfl, rfl⟩ (fun s2 Is2 Fs2 (es2 : s2 64 2 = σ1 64 2 ∧ s2 64 4 = (σ1 64 2) ∧ s2 64 3 = σ1 64 3 ∧ s2 64 5 = σ1 64 5 ∧ s2 63 2 = σ1 63 2 ∧ s2 63 3 = σ1 63 3 ∧ s2 64 1 = σ1 64 1) => ?_))
  refine h_aload_n (pc' := 47) rfl rfl rfl ?_
  refine h_iconst (pc' := 48) (x := (Int32.ofInt 0)) rfl rfl rfl ?_
  refine h_put (pc' := 51) rfl rfl rfl rfl rfl rfl ci_0 rfl (h_fgt (E := fun s => s 64 2 = σ1 64 2 ∧ s 64 4 = (σ1 64 2) ∧ s 64 3 = σ1 64 3 ∧ s 64 5 = 0 ∧ s 63 2 = σ1 63 2 ∧ s 63 3 = σ1 63 3 ∧ s 64 1 = σ1 64 1) _ (if_64_5 Is2 (h_rgv ci_0)) (Fs2.up rfl) ⟨es2.1, es2.2.1, es2.2.2.1, rfl, es2.2.2.2.2.1, es2.2.2.2.2.2.1, es2.2.2.2.2.2.2⟩ (fun s3 Is3 Fs3 (es3 : s3 64 2 = σ1 64 2 ∧ s3 64 4 = (σ1 64 2) ∧ s3 64 3 = σ1 64 3 ∧ s3 64 5 = 0 ∧ s3 63 2 = σ1 63 2 ∧ s3 63 3 = σ1 63 3 ∧ s3 64 1 = σ1 64 1) => ?_))
  clear es2
  refine h_aload_n (pc' := 52) rfl rfl rfl ?_
  refine h_getI (pc' := 55) (v := σ1 64 2) rfl rfl rfl rfl rfl es3.1 (fun z4 hz4 => ?_)
  refine h_aload_n (pc' := 56) rfl rfl rfl ?_
  refine h_getI (pc' := 59) (v := σ1 64 1) rfl rfl rfl rfl rfl es3.2.2.2.2.2.2 (fun z5 hz5 => ?_)
  have tz5 := tf_64_1 hI1
  refine h_cge (tg := 74) (pc' := 62) rfl rfl rfl hz4 hz5 (fun c6 => absurd c6 (by omega)) (fun c6 => ?_)
  clear hz4 hz5
  refine h_aload_n (pc' := 63) rfl rfl rfl ?_
  refine h_getR (pc' := 66) rfl rfl rfl rfl rfl ?_
  refine h_aload_n (pc' := 67) rfl rfl rfl ?_
  refine h_getI (pc' := 70) (v := σ1 64 2) rfl rfl rfl rfl rfl es3.1 (fun z7 hz7 => ?_)
  refine h_iald (pc' := 71) (v := σ1 65 (σ1 64 2)) rfl rfl rfl hz7 (by omega) (by omega) (Fs3 65 _ rfl) (fun z8 hz8 => ?_)
  have tz8 := ty_65 hI1 (σ1 64 2)
  have lz8 := hT (σ1 64 2) (by omega) (by omega)
  clear hz7
  refine h_goto (pc' := 75) rfl rfl ?_
  refine h_istore_n (pc' := 76) (M := [(1, .int z8), (0, .ref 64)]) rfl rfl rfl rfl ?_
  refine h_iload_n (pc' := 77) rfl rfl rfl ?_
  refine h_zge (tg := 88) (pc' := 80) rfl rfl rfl hz8 (fun c9 => ?_) (fun c9 => absurd c9 (by omega))
  refine h_iload_n (pc' := 89) rfl rfl rfl ?_
  refine h_bipush (pc' := 91) (x := (Int32.ofInt 97)) rfl rfl cb_97 ?_
  refine h_clt (tg := 160) (pc' := 94) rfl rfl rfl hz8 ci_97 (fun c10 => absurd c10 (by omega)) (fun c10 => ?_)
  refine h_iload_n (pc' := 95) rfl rfl rfl ?_
  refine h_bipush (pc' := 97) (x := (Int32.ofInt 122)) rfl rfl cb_122 ?_
  refine h_cgt (tg := 160) (pc' := 100) rfl rfl rfl hz8 ci_122 (fun c11 => ?_) (fun c11 => absurd c11 (by omega))
  refine h_iload_n (pc' := 161) rfl rfl rfl ?_
  refine h_bipush (pc' := 163) (x := (Int32.ofInt 48)) rfl rfl cb_48 ?_
  refine h_clt (tg := 273) (pc' := 166) rfl rfl rfl hz8 ci_48 (fun c12 => absurd c12 (by omega)) (fun c12 => ?_)
  refine h_iload_n (pc' := 167) rfl rfl rfl ?_
  refine h_bipush (pc' := 169) (x := (Int32.ofInt 57)) rfl rfl cb_57 ?_
  refine h_cgt (tg := 273) (pc' := 172) rfl rfl rfl hz8 ci_57 (fun c13 => ?_) (fun c13 => absurd c13 (by omega))
  refine h_aload_n (pc' := 274) rfl rfl rfl ?_
  refine h_dup (pc' := 275) rfl rfl rfl ?_
  refine h_getI (pc' := 278) (v := σ1 64 2) rfl rfl rfl rfl rfl es3.1 (fun z14 hz14 => ?_)
  refine h_iconst (pc' := 279) (x := (Int32.ofInt 1)) rfl rfl rfl ?_
  refine h_iadd (pc' := 280) rfl rfl hz14 ci_1 rfl (by omega) (by omega) (fun z15 hz15 => ?_)
  clear hz14
  refine h_put (pc' := 283) rfl rfl rfl rfl rfl rfl hz15 rfl (h_fgt (E := fun s => s 64 2 = ((σ1 64 2) + 1) ∧ s 64 4 = (σ1 64 2) ∧ s 64 3 = σ1 64 3 ∧ s 64 5 = 0 ∧ s 63 2 = σ1 63 2 ∧ s 63 3 = σ1 63 3 ∧ s 64 1 = σ1 64 1) _ (if_64_2 Is3 (by omega)) (Fs3.up rfl) ⟨rfl, es3.2.1, es3.2.2.1, es3.2.2.2.1, es3.2.2.2.2.1, es3.2.2.2.2.2.1, es3.2.2.2.2.2.2⟩ (fun s16 Is16 Fs16 (es16 : s16 64 2 = ((σ1 64 2) + 1) ∧ s16 64 4 = (σ1 64 2) ∧ s16 64 3 = σ1 64 3 ∧ s16 64 5 = 0 ∧ s16 63 2 = σ1 63 2 ∧ s16 63 3 = σ1 63 3 ∧ s16 64 1 = σ1 64 1) => ?_))
  clear es3
  refine h_aload_n (pc' := 284) rfl rfl rfl ?_
  refine h_iload_n (pc' := 285) rfl rfl rfl ?_
  refine h_bipush (pc' := 287) (x := (Int32.ofInt 59)) rfl rfl cb_59 ?_
  refine h_cne (tg := 294) (pc' := 290) rfl rfl rfl hz8 ci_59 (fun c17 => ?_) (fun c17 => absurd c17 (by omega))
  refine h_iconst (pc' := 295) (x := (Int32.ofInt 4)) rfl rfl rfl ?_
  refine h_put (pc' := 298) rfl rfl rfl rfl rfl rfl ci_4 rfl (h_fgt (E := fun s => s 64 2 = ((σ1 64 2) + 1) ∧ s 64 4 = (σ1 64 2) ∧ s 64 3 = 4 ∧ s 64 5 = 0 ∧ s 63 2 = σ1 63 2 ∧ s 63 3 = σ1 63 3 ∧ s 64 1 = σ1 64 1) _ (if_64_3 Is16 (by omega)) (Fs16.up rfl) ⟨es16.1, es16.2.1, rfl, es16.2.2.2.1, es16.2.2.2.2.1, es16.2.2.2.2.2.1, es16.2.2.2.2.2.2⟩ (fun s18 Is18 Fs18 (es18 : s18 64 2 = ((σ1 64 2) + 1) ∧ s18 64 4 = (σ1 64 2) ∧ s18 64 3 = 4 ∧ s18 64 5 = 0 ∧ s18 63 2 = σ1 63 2 ∧ s18 63 3 = σ1 63 3 ∧ s18 64 1 = σ1 64 1) => ?_))
  clear es16
  refine d_toM (g_inj ns) hl2 hR2 (fun lvw19 memw19 hlw19 hRw19 => ?_)
  show h_T g_P (g_Y ns) 148 34 [(0, .ref 98)] [] σ2 _
  refine h_aload_n (pc' := 35) rfl rfl rfl ?_
  refine h_aload_n (pc' := 36) rfl rfl rfl ?_
  refine h_getI (pc' := 39) (v := σ2 98 15) rfl rfl rfl rfl rfl rfl (fun z20 hz20 => ?_)
  have tz20 := tf_98_15 hI2
  refine h_put (pc' := 42) rfl rfl rfl rfl rfl rfl hz20 rfl (h_fgt (E := fun s => s 98 15 = σ2 98 15 ∧ s 98 16 = (σ2 98 15) ∧ s 98 17 = σ2 98 17 ∧ s 98 18 = σ2 98 18 ∧ s 98 13 = σ2 98 13 ∧ s 98 14 = σ2 98 14) _ (if_98_16 hI2 (by omega)) (F2.up rfl) ⟨rfl, rfl, rfl, rfl, rfl, rfl⟩ (fun s21 Is21 Fs21 (es21 : s21 98 15 = σ2 98 15 ∧ s21 98 16 = (σ2 98 15) ∧ s21 98 17 = σ2 98 17 ∧ s21 98 18 = σ2 98 18 ∧ s21 98 13 = σ2 98 13 ∧ s21 98 14 = σ2 98 14) => ?_))
  refine h_aload_n (pc' := 43) rfl rfl rfl ?_
  refine h_aload_n (pc' := 44) rfl rfl rfl ?_
  refine h_getI (pc' := 47) (v := σ2 98 15) rfl rfl rfl rfl rfl es21.1 (fun z22 hz22 => ?_)
  refine h_call (sp := false) (pc' := 50) (M := [(0, .ref 98), (1, .int z22)]) rfl rfl rfl rfl rfl rfl rfl rfl ?_
  refine h_iload_n (pc' := 1) rfl rfl rfl ?_
  refine h_aload_n (pc' := 2) rfl rfl rfl ?_
  refine h_getI (pc' := 5) (v := σ2 98 11) rfl rfl rfl rfl rfl (Fs21 98 11 rfl) (fun z23 hz23 => ?_)
  have tz23 := tf_98_11 hI2
  refine h_cge (tg := 17) (pc' := 8) rfl rfl rfl hz22 hz23 (fun c24 => absurd c24 (by omega)) (fun c24 => ?_)
  clear hz23
  refine h_aload_n (pc' := 9) rfl rfl rfl ?_
  refine h_getR (pc' := 12) rfl rfl rfl rfl rfl ?_
  refine h_iload_n (pc' := 13) rfl rfl rfl ?_
  refine h_iald (pc' := 14) (v := σ2 102 (σ2 98 15)) rfl rfl rfl hz22 (by omega) (by omega) (Fs21 102 _ rfl) (fun z25 hz25 => ?_)
  have tz25 := ty_102 hI2 (σ2 98 15)
  have lz25 : σ2 102 (σ2 98 15) = σ1 65 (σ1 64 2) := (congrArg (σ2 102) (show (σ2 98 15) = (σ1 64 2) by omega)).trans lz8.symm
  refine h_goto (pc' := 19) rfl rfl ?_
  refine h_iret rfl rfl (h_Kv ?_)
  clear hz22
  refine h_istore_n (pc' := 51) (M := [(1, .int z25), (0, .ref 98)]) rfl rfl rfl rfl ?_
  refine h_aload_n (pc' := 52) rfl rfl rfl ?_
  refine h_iconst (pc' := 53) (x := (Int32.ofInt 0)) rfl rfl rfl ?_
  refine h_put (pc' := 56) rfl rfl rfl rfl rfl rfl ci_0 rfl (h_fgt (E := fun s => s 98 15 = σ2 98 15 ∧ s 98 16 = (σ2 98 15) ∧ s 98 17 = σ2 98 17 ∧ s 98 18 = 0 ∧ s 98 13 = σ2 98 13 ∧ s 98 14 = σ2 98 14) _ (if_98_18 Is21 (by omega)) (Fs21.up rfl) ⟨es21.1, es21.2.1, es21.2.2.1, rfl, es21.2.2.2.2.1, es21.2.2.2.2.2⟩ (fun s26 Is26 Fs26 (es26 : s26 98 15 = σ2 98 15 ∧ s26 98 16 = (σ2 98 15) ∧ s26 98 17 = σ2 98 17 ∧ s26 98 18 = 0 ∧ s26 98 13 = σ2 98 13 ∧ s26 98 14 = σ2 98 14) => ?_))
  clear es21
  refine h_iload_n (pc' := 57) rfl rfl rfl ?_
  refine h_bipush (pc' := 59) (x := (Int32.ofInt (-4))) rfl rfl cb_m4 ?_
  refine h_cne (tg := 70) (pc' := 62) rfl rfl rfl hz25 ci_m4 (fun c27 => ?_) (fun c27 => absurd c27 (by omega))
  refine h_iload_n (pc' := 71) rfl rfl rfl ?_
  refine h_i2l (pc' := 72) rfl rfl hz25 (fun z28 hz28 => ?_)
  refine h_ldc2 (pc' := 75) (x := (Int64.ofInt 97)) rfl rfl rfl ?_
  refine h_ldc2 (pc' := 78) (x := (Int64.ofInt 122)) rfl rfl rfl ?_
  refine h_calls (pc' := 81) (M := [(0, .long z28), (2, .long (Int64.ofInt 97)), (4, .long (Int64.ofInt 122))]) rfl rfl rfl rfl rfl rfl ?_
  refine h_lload_n (pc' := 1) rfl rfl rfl ?_
  refine h_lload_n (pc' := 2) rfl rfl rfl ?_
  refine h_lcmp (pc' := 3) rfl rfl hz28 cl_97 (fun z29 hz29 => ?_)
  refine h_zlt (tg := 17) (pc' := 6) rfl rfl rfl rfl (fun c30 => absurd c30 (by omega)) (fun c30 => ?_)
  replace c30 := (h_lcr hz29).2.1 c30
  clear hz29
  refine h_lload_n (pc' := 7) rfl rfl rfl ?_
  refine h_lload (pc' := 9) rfl rfl rfl ?_
  refine h_lcmp (pc' := 10) rfl rfl hz28 cl_122 (fun z31 hz31 => ?_)
  refine h_zgt (tg := 17) (pc' := 13) rfl rfl rfl rfl (fun c32 => ?_) (fun c32 => absurd c32 (by omega))
  replace c32 := (h_lcr hz31).2.2.2.1 c32
  clear hz31
  refine h_iconst (pc' := 18) (x := (Int32.ofInt 0)) rfl rfl rfl ?_
  refine h_zret rfl rfl ci_0 (by omega) (h_Kv ?_)
  clear hz28
  refine h_zeq (tg := 126) (pc' := 84) rfl rfl rfl ci_0 (fun c33 => ?_) (fun c33 => absurd c33 (by omega))
  refine h_iload_n (pc' := 127) rfl rfl rfl ?_
  refine h_i2l (pc' := 128) rfl rfl hz25 (fun z34 hz34 => ?_)
  refine h_ldc2 (pc' := 131) (x := (Int64.ofInt 48)) rfl rfl rfl ?_
  refine h_ldc2 (pc' := 134) (x := (Int64.ofInt 57)) rfl rfl rfl ?_
  refine h_calls (pc' := 137) (M := [(0, .long z34), (2, .long (Int64.ofInt 48)), (4, .long (Int64.ofInt 57))]) rfl rfl rfl rfl rfl rfl ?_
  refine h_lload_n (pc' := 1) rfl rfl rfl ?_
  refine h_lload_n (pc' := 2) rfl rfl rfl ?_
  refine h_lcmp (pc' := 3) rfl rfl hz34 cl_48 (fun z35 hz35 => ?_)
  refine h_zlt (tg := 17) (pc' := 6) rfl rfl rfl rfl (fun c36 => absurd c36 (by omega)) (fun c36 => ?_)
  replace c36 := (h_lcr hz35).2.1 c36
  clear hz35
  refine h_lload_n (pc' := 7) rfl rfl rfl ?_
  refine h_lload (pc' := 9) rfl rfl rfl ?_
  refine h_lcmp (pc' := 10) rfl rfl hz34 cl_57 (fun z37 hz37 => ?_)
  refine h_zgt (tg := 17) (pc' := 13) rfl rfl rfl rfl (fun c38 => ?_) (fun c38 => absurd c38 (by omega))
  replace c38 := (h_lcr hz37).2.2.2.1 c38
  clear hz37
  refine h_iconst (pc' := 18) (x := (Int32.ofInt 0)) rfl rfl rfl ?_
  refine h_zret rfl rfl ci_0 (by omega) (h_Kv ?_)
  clear hz34
  refine h_zeq (tg := 243) (pc' := 140) rfl rfl rfl ci_0 (fun c39 => ?_) (fun c39 => absurd c39 (by omega))
  refine h_aload_n (pc' := 244) rfl rfl rfl ?_
  refine h_iconst (pc' := 245) (x := (Int32.ofInt 3)) rfl rfl rfl ?_
  refine h_put (pc' := 248) rfl rfl rfl rfl rfl rfl ci_3 rfl (h_fgt (E := fun s => s 98 15 = σ2 98 15 ∧ s 98 16 = (σ2 98 15) ∧ s 98 17 = 3 ∧ s 98 18 = 0 ∧ s 98 13 = σ2 98 13 ∧ s 98 14 = σ2 98 14) _ (if_98_17 Is26 (by omega)) (Fs26.up rfl) ⟨es26.1, es26.2.1, rfl, es26.2.2.2.1, es26.2.2.2.2.1, es26.2.2.2.2.2⟩ (fun s40 Is40 Fs40 (es40 : s40 98 15 = σ2 98 15 ∧ s40 98 16 = (σ2 98 15) ∧ s40 98 17 = 3 ∧ s40 98 18 = 0 ∧ s40 98 13 = σ2 98 13 ∧ s40 98 14 = σ2 98 14) => ?_))
  clear es26
  refine h_aload_n (pc' := 249) rfl rfl rfl ?_
  refine h_dup (pc' := 250) rfl rfl rfl ?_
  refine h_getI (pc' := 253) (v := σ2 98 15) rfl rfl rfl rfl rfl es40.1 (fun z41 hz41 => ?_)
  refine h_iconst (pc' := 254) (x := (Int32.ofInt 1)) rfl rfl rfl ?_
  refine h_iadd (pc' := 255) rfl rfl hz41 ci_1 rfl (by omega) (by omega) (fun z42 hz42 => ?_)
  clear hz41
  refine h_put (pc' := 258) rfl rfl rfl rfl rfl rfl hz42 rfl (h_fgt (E := fun s => s 98 15 = ((σ2 98 15) + 1) ∧ s 98 16 = (σ2 98 15) ∧ s 98 17 = 3 ∧ s 98 18 = 0 ∧ s 98 13 = σ2 98 13 ∧ s 98 14 = σ2 98 14) _ (if_98_15 Is40 (by omega)) (Fs40.up rfl) ⟨rfl, es40.2.1, es40.2.2.1, es40.2.2.2.1, es40.2.2.2.2.1, es40.2.2.2.2.2⟩ (fun s43 Is43 Fs43 (es43 : s43 98 15 = ((σ2 98 15) + 1) ∧ s43 98 16 = (σ2 98 15) ∧ s43 98 17 = 3 ∧ s43 98 18 = 0 ∧ s43 98 13 = σ2 98 13 ∧ s43 98 14 = σ2 98 14) => ?_))
  clear es40
  refine h_iload_n (pc' := 259) rfl rfl rfl ?_
  refine h_bipush (pc' := 261) (x := (Int32.ofInt 59)) rfl rfl cb_59 ?_
  refine h_ceq (tg := 269) (pc' := 264) rfl rfl rfl hz25 ci_59 (fun c44 => absurd c44 (by omega)) (fun c44 => ?_)
  refine h_aload_n (pc' := 265) rfl rfl rfl ?_
  refine h_iconst (pc' := 266) (x := (Int32.ofInt 1)) rfl rfl rfl ?_
  refine h_call (sp := false) (pc' := 269) (M := [(0, .ref 98), (1, .int (Int32.ofInt 1))]) rfl rfl rfl rfl rfl rfl rfl rfl ?_
  refine h_aload_n (pc' := 1) rfl rfl rfl ?_
  refine h_getI (pc' := 4) (v := σ2 98 13) rfl rfl rfl rfl rfl es43.2.2.2.2.1 (fun z45 hz45 => ?_)
  have tz45 := tf_98_13 hI2
  refine h_zne (tg := 20) (pc' := 7) rfl rfl rfl hz45 (fun c46 => absurd c46 (by omega)) (fun c46 => ?_)
  clear hz45
  refine h_aload_n (pc' := 8) rfl rfl rfl ?_
  refine h_iload_n (pc' := 9) rfl rfl rfl ?_
  refine h_put (pc' := 12) rfl rfl rfl rfl rfl rfl ci_1 rfl (h_fgt (E := fun s => s 98 15 = ((σ2 98 15) + 1) ∧ s 98 16 = (σ2 98 15) ∧ s 98 17 = 3 ∧ s 98 18 = 0 ∧ s 98 13 = 1 ∧ s 98 14 = σ2 98 14) _ (if_98_13 Is43 (by omega)) (Fs43.up rfl) ⟨es43.1, es43.2.1, es43.2.2.1, es43.2.2.2.1, rfl, es43.2.2.2.2.2⟩ (fun s47 Is47 Fs47 (es47 : s47 98 15 = ((σ2 98 15) + 1) ∧ s47 98 16 = (σ2 98 15) ∧ s47 98 17 = 3 ∧ s47 98 18 = 0 ∧ s47 98 13 = 1 ∧ s47 98 14 = σ2 98 14) => ?_))
  clear es43
  refine h_aload_n (pc' := 13) rfl rfl rfl ?_
  refine h_aload_n (pc' := 14) rfl rfl rfl ?_
  refine h_getI (pc' := 17) (v := (σ2 98 15)) rfl rfl rfl rfl rfl es47.2.1 (fun z48 hz48 => ?_)
  refine h_put (pc' := 20) rfl rfl rfl rfl rfl rfl hz48 rfl (h_fgt (E := fun s => s 98 15 = ((σ2 98 15) + 1) ∧ s 98 16 = (σ2 98 15) ∧ s 98 17 = 3 ∧ s 98 18 = 0 ∧ s 98 13 = 1 ∧ s 98 14 = (σ2 98 15)) _ (if_98_14 Is47 (h_rgv hz48)) (Fs47.up rfl) ⟨es47.1, es47.2.1, es47.2.2.1, es47.2.2.2.1, es47.2.2.2.2.1, rfl⟩ (fun s49 Is49 Fs49 (es49 : s49 98 15 = ((σ2 98 15) + 1) ∧ s49 98 16 = (σ2 98 15) ∧ s49 98 17 = 3 ∧ s49 98 18 = 0 ∧ s49 98 13 = 1 ∧ s49 98 14 = (σ2 98 15)) => ?_))
  clear es47
  refine h_vret rfl rfl (h_Kn ?_)
  refine d_toL (g_inj ns) hlw19 hRw19 (fun lvw50 memw50 hlw50 hRw50 => ?_)
  show h_T g_P (g_Y ns) 75 298 [(1, .int z8), (0, .ref 64)] [] s18 _
  exact h_wk [(0, .ref 64)] ⟨rfl, trivial⟩ (kx0 _ _ Is18 Is49 Fs18 Fs49 (by omega) (by omega) (by omega) (by omega) (by omega) ⟨by omega, by omega, by omega, by omega, by omega⟩ _ _ (h_al_ok ⟨rfl, trivial⟩ hlw50) hRw50)
set_option maxHeartbeats 100000000 in
theorem pp_step {ns : Nat} {σ1 σ2 : h_S} (hI1 : h_I σ1) (hI2 : h_I σ2) (hTL : d_tape σ1 σ2)  (pr0 : σ1 64 2 = σ2 98 15) (pr1 : σ1 64 4 = σ2 98 16) (pr2 : σ1 63 2 = σ2 98 13) (pr3 : σ1 64 2 ≤ σ1 64 1) (pc0 : ((1 ≤ σ1 63 2 ∧ σ1 63 2 ≤ 6) ∧ (1 ≤ σ2 98 13 ∧ σ2 98 13 ≤ 6) ∧ (σ1 63 3 = σ2 98 14)) ∨ ((σ1 63 2 = 0) ∧ (σ2 98 13 = 0))) {Q : d_Q} (kk : ∀ (τ1 τ2 : h_S), h_I τ1 → h_I τ2 → h_F (k_in k_lx) τ1 σ1 → h_F (k_in k_lm) τ2 σ2 → (τ1 64 2 = τ2 98 15) → (τ1 64 4 = τ2 98 16) → (τ1 63 2 = τ2 98 13) → (τ1 64 2 ≤ τ1 64 1) → (σ1 64 2 ≤ τ1 64 2) → (((1 ≤ τ1 63 2 ∧ τ1 63 2 ≤ 6) ∧ (1 ≤ τ2 98 13 ∧ τ2 98 13 ≤ 6) ∧ (τ1 63 2 = τ2 98 13) ∧ (τ1 63 3 = τ2 98 14)) ∨ ((σ1 63 2 = 0) ∧ (τ1 63 2 = 0) ∧ (τ1 64 3 = 0) ∧ (τ2 98 13 = 0) ∧ (τ2 98 17 = 0) ∧ (τ1 64 4 = τ1 64 1)) ∨ ((σ1 63 2 = 0) ∧ (τ1 63 2 = 0) ∧ (τ1 64 3 = 1) ∧ (τ2 98 13 = 0) ∧ (τ2 98 17 = 1) ∧ (τ1 64 4 < τ1 64 2) ∧ (σ1 64 2 < τ1 64 2)) ∨ ((σ1 63 2 = 0) ∧ (τ1 63 2 = 0) ∧ (τ1 64 3 = 2) ∧ (τ2 98 13 = 0) ∧ (τ2 98 17 = 2) ∧ (0 ≤ τ1 64 5 ∧ τ1 64 5 ≤ 99) ∧ (0 ≤ τ2 98 18 ∧ τ2 98 18 ≤ 99) ∧ (τ1 64 5 = τ2 98 18) ∧ (τ1 64 4 < τ1 64 2) ∧ (σ1 64 2 < τ1 64 2)) ∨ ((σ1 63 2 = 0) ∧ (τ1 63 2 = 0) ∧ (τ1 64 3 = 3) ∧ (τ2 98 13 = 0) ∧ (τ2 98 17 = 3) ∧ (τ1 64 4 < τ1 64 2) ∧ (σ1 64 2 < τ1 64 2))) → Q none τ1 none τ2) : d_P g_P (g_Y ns) 54 0 [(0, .ref 63)] σ1 148 0 [(0, .ref 98)] σ2 Q := by
  intro lv2 mem2 hl2 hR2
  have hT := hTL.1
  have hL := hTL.2
  have F1 : h_F (k_in k_lx) σ1 σ1 := h_F.rf
  have F2 : h_F (k_in k_lm) σ2 σ2 := h_F.rf
  have ge0 := tf_63_2 hI1
  have ge1 := tf_98_13 hI2
  have ge2 := tf_64_1 hI1
  rcases pc0 with pc0 | pc0
  · show h_T g_P (g_Y ns) 54 0 [(0, .ref 63)] [] σ1 _
    refine h_aload_n (pc' := 1) rfl rfl rfl ?_
    refine h_getI (pc' := 4) (v := σ1 63 2) rfl rfl rfl rfl rfl rfl (fun z1 hz1 => ?_)
    have tz1 := tf_63_2 hI1
    refine h_zne (tg := 37) (pc' := 7) rfl rfl rfl hz1 (fun c2 => ?_) (fun c2 => absurd c2 (by omega))
    clear hz1
    refine d_toM (g_inj ns) hl2 hR2 (fun lvw3 memw3 hlw3 hRw3 => ?_)
    show h_T g_P (g_Y ns) 148 0 [(0, .ref 98)] [] σ2 _
    refine h_aload_n (pc' := 1) rfl rfl rfl ?_
    refine h_getI (pc' := 4) (v := σ2 98 13) rfl rfl rfl rfl rfl rfl (fun z4 hz4 => ?_)
    have tz4 := tf_98_13 hI2
    refine h_zle (tg := 8) (pc' := 7) rfl rfl rfl hz4 (fun c5 => absurd c5 (by omega)) (fun c5 => ?_)
    clear hz4
    refine h_vret rfl rfl (d_endM hlw3 hRw3 ?_)
    show h_T g_P (g_Y ns) 54 37 [(0, .ref 63)] [] σ1 _
    exact h_vret rfl rfl (d_cs.nil (kk _ _ hI1 hI2 F1 F2 (by omega) (by omega) (by omega) (by omega) (by omega) (Or.inl ⟨by omega, by omega, by omega, by omega⟩)))
  · show h_T g_P (g_Y ns) 54 0 [(0, .ref 63)] [] σ1 _
    refine h_aload_n (pc' := 1) rfl rfl rfl ?_
    refine h_getI (pc' := 4) (v := σ1 63 2) rfl rfl rfl rfl rfl rfl (fun z6 hz6 => ?_)
    have tz6 := tf_63_2 hI1
    refine h_zne (tg := 37) (pc' := 7) rfl rfl rfl hz6 (fun c7 => absurd c7 (by omega)) (fun c7 => ?_)
    clear hz6
    refine h_aload_n (pc' := 8) rfl rfl rfl ?_
    refine h_getR (pc' := 11) rfl rfl rfl rfl rfl ?_
    refine d_call (g_inj ns) (pc' := 14) (m := 75) (M := [(0, .ref 64)]) (rest := []) ⟨false, _, _, _, _, _, _, rfl, rfl, rfl, rfl, rfl, rfl, rfl⟩ (fun lv8 hlv8 => ?_)
    refine d_toM (g_inj ns) hl2 hR2 (fun lvw9 memw9 hlw9 hRw9 => ?_)
    show h_T g_P (g_Y ns) 148 0 [(0, .ref 98)] [] σ2 _
    refine h_aload_n (pc' := 1) rfl rfl rfl ?_
    refine h_getI (pc' := 4) (v := σ2 98 13) rfl rfl rfl rfl rfl rfl (fun z10 hz10 => ?_)
    have tz10 := tf_98_13 hI2
    refine h_zle (tg := 8) (pc' := 7) rfl rfl rfl hz10 (fun c11 => ?_) (fun c11 => absurd c11 (by omega))
    clear hz10
    refine d_toL (g_inj ns) hlw9 hRw9 (fun lvw12 memw12 hlw12 hRw12 => ?_)
    show h_T g_P (g_Y ns) 75 0 [(0, .ref 64)] [] σ1 _
    have ga13 := tf_64_2 hI1
    refine h_wk [(0, .ref 64)] ⟨rfl, trivial⟩ (lp_sp hI1 hI2 (hTL.fr (F1.mono rfl) (F2.mono rfl)) (fun sq14 tq14 Isq14 Itq14 Gsq14 Gtq14   yq14_0 yq14_1 yq14_2 yq14_3 yq14_4  lvq14 memq14 hlq14 hRq14 => ?_) 100000 _ _ hI1 hI2 h_F.rf h_F.rf   (by omega) (by omega) (by omega) (by omega) (by omega) (by omega) _ _ (h_al_ok ⟨rfl, trivial⟩ hlw12) hRw12)
    · have Fsq14 := (Gsq14.mono (B := k_lx) rfl).tr F1
      have Ftq14 := (Gtq14.mono (B := k_lm) rfl).tr F2
      have Isq14 := Isq14
      have Itq14 := Itq14
      have Gsq14 := Gsq14
      have Gtq14 := Gtq14
      have esq14_6 : sq14 64 1 = σ1 64 1 := (Gsq14 64 1 rfl).trans rfl
      have esq14_4 : sq14 63 2 = σ1 63 2 := yq14_2.trans rfl
      show h_T g_P (g_Y ns) 75 38 [(0, .ref 64)] [] sq14 _
      refine d_toM (g_inj ns) hlq14 hRq14 (fun lvw15 memw15 hlw15 hRw15 => ?_)
      show h_T g_P (g_Y ns) 148 34 [(0, .ref 98)] [] tq14 _
      refine d_toL (g_inj ns) hlw15 hRw15 (fun lvw16 memw16 hlw16 hRw16 => ?_)
      show h_T g_P (g_Y ns) 75 38 [(0, .ref 64)] [] sq14 _
      have ga18 := tf_64_2 Isq14
      have ga19 := ty_65 Isq14 (sq14 64 2)
      rcases (show (sq14 64 2 = sq14 64 1) ∨ (sq14 64 2 < sq14 64 1 ∧ 0 ≤ sq14 65 (sq14 64 2) ∧ sq14 65 (sq14 64 2) ≤ 47) ∨ (sq14 64 2 < sq14 64 1 ∧ 48 ≤ sq14 65 (sq14 64 2) ∧ sq14 65 (sq14 64 2) ≤ 57) ∨ (sq14 64 2 < sq14 64 1 ∧ 58 ≤ sq14 65 (sq14 64 2) ∧ sq14 65 (sq14 64 2) ≤ 96) ∨ (sq14 64 2 < sq14 64 1 ∧ 97 ≤ sq14 65 (sq14 64 2) ∧ sq14 65 (sq14 64 2) ≤ 122) ∨ (sq14 64 2 < sq14 64 1 ∧ 123 ≤ sq14 65 (sq14 64 2) ∧ sq14 65 (sq14 64 2) ≤ 127) by omega) with c17 | c17 | c17 | c17 | c17 | c17
      · refine h_wk [(0, .ref 64)] ⟨rfl, trivial⟩ (ls_te Isq14 Itq14 (hTL.fr (Fsq14.mono rfl) (Ftq14.mono rfl))   (by omega) (by omega) (by omega) (by omega) (fun sq20 tq20 Isq20 Itq20 Gsq20 Gtq20   yq20_0 yq20_1 yq20_2 yq20_3 yq20_4 pcq20 lvq20 memq20 hlq20 hRq20 => ?_) _ _ (h_al_ok ⟨rfl, trivial⟩ hlw16) hRw16)
        · have Fsq20 := (Gsq20.mono (B := k_lx) rfl).tr Fsq14
          have Ftq20 := (Gtq20.mono (B := k_lm) rfl).tr Ftq14
          have Isq20 := Isq20
          have Itq20 := Itq20
          have Gsq20 := Gsq20
          have Gtq20 := Gtq20
          have esq20_6 : sq20 64 1 = σ1 64 1 := (Gsq20 64 1 rfl).trans esq14_6
          have esq20_4 : sq20 63 2 = σ1 63 2 := yq20_2.trans esq14_4
          rcases pcq20 with pcq20
          · show h_T g_P (g_Y ns) 75 298 [(0, .ref 64)] [] sq20 _
            refine h_vret rfl rfl (d_retn hlv8 ?_)
            refine h_aload_n (pc' := 15) rfl rfl rfl ?_
            refine h_getR (pc' := 18) rfl rfl rfl rfl rfl ?_
            refine h_getI (pc' := 21) (v := sq20 64 3) rfl rfl rfl rfl rfl rfl (fun z21 hz21 => ?_)
            have tz21 := tf_64_3 Isq20
            refine h_iconst (pc' := 22) (x := (Int32.ofInt 4)) rfl rfl rfl ?_
            refine h_cne (tg := 37) (pc' := 25) rfl rfl rfl hz21 ci_4 (fun c22 => ?_) (fun c22 => absurd c22 (by omega))
            clear hz21
            refine d_toM (g_inj ns) hlq20 hRq20 (fun lvw23 memw23 hlw23 hRw23 => ?_)
            show h_T g_P (g_Y ns) 148 269 [(0, .ref 98)] [] tq20 _
            refine h_vret rfl rfl (d_endM hlw23 hRw23 ?_)
            show h_T g_P (g_Y ns) 54 37 [(0, .ref 63)] [] sq20 _
            exact h_vret rfl rfl (d_cs.nil (kk _ _ Isq20 Itq20 Fsq20 Ftq20 (by omega) (by omega) (by omega) (by omega) (by omega) (Or.inr (Or.inl ⟨by omega, by omega, by omega, by omega, by omega, by omega⟩))))
      · refine h_wk [(0, .ref 64)] ⟨rfl, trivial⟩ (ls_t0 Isq14 Itq14 (hTL.fr (Fsq14.mono rfl) (Ftq14.mono rfl))   (by omega) (by omega) (by omega) (by omega) (fun sq24 tq24 Isq24 Itq24 Gsq24 Gtq24   yq24_0 yq24_1 yq24_2 yq24_3 yq24_4 pcq24 lvq24 memq24 hlq24 hRq24 => ?_) _ _ (h_al_ok ⟨rfl, trivial⟩ hlw16) hRw16)
        · have Fsq24 := (Gsq24.mono (B := k_lx) rfl).tr Fsq14
          have Ftq24 := (Gtq24.mono (B := k_lm) rfl).tr Ftq14
          have Isq24 := Isq24
          have Itq24 := Itq24
          have Gsq24 := Gsq24
          have Gtq24 := Gtq24
          have esq24_6 : sq24 64 1 = σ1 64 1 := (Gsq24 64 1 rfl).trans esq14_6
          have esq24_4 : sq24 63 2 = σ1 63 2 := yq24_2.trans esq14_4
          rcases pcq24 with pcq24
          · show h_T g_P (g_Y ns) 75 298 [(0, .ref 64)] [] sq24 _
            refine h_vret rfl rfl (d_retn hlv8 ?_)
            refine h_aload_n (pc' := 15) rfl rfl rfl ?_
            refine h_getR (pc' := 18) rfl rfl rfl rfl rfl ?_
            refine h_getI (pc' := 21) (v := sq24 64 3) rfl rfl rfl rfl rfl rfl (fun z25 hz25 => ?_)
            have tz25 := tf_64_3 Isq24
            refine h_iconst (pc' := 22) (x := (Int32.ofInt 4)) rfl rfl rfl ?_
            refine h_cne (tg := 37) (pc' := 25) rfl rfl rfl hz25 ci_4 (fun c26 => absurd c26 (by omega)) (fun c26 => ?_)
            clear hz25
            refine h_aload_n (pc' := 26) rfl rfl rfl ?_
            refine h_iconst (pc' := 27) (x := (Int32.ofInt 1)) rfl rfl rfl ?_
            refine h_aload_n (pc' := 28) rfl rfl rfl ?_
            refine h_getR (pc' := 31) rfl rfl rfl rfl rfl ?_
            refine h_getI (pc' := 34) (v := sq24 64 4) rfl rfl rfl rfl rfl rfl (fun z27 hz27 => ?_)
            have tz27 := tf_64_4 Isq24
            refine h_call (sp := false) (pc' := 37) (M := [(0, .ref 63), (1, .int (Int32.ofInt 1)), (2, .int z27)]) rfl rfl rfl rfl rfl rfl rfl rfl ?_
            refine h_aload_n (pc' := 1) rfl rfl rfl ?_
            refine h_getI (pc' := 4) (v := σ1 63 2) rfl rfl rfl rfl rfl esq24_4 (fun z28 hz28 => ?_)
            refine h_zne (tg := 17) (pc' := 7) rfl rfl rfl hz28 (fun c29 => absurd c29 (by omega)) (fun c29 => ?_)
            clear hz28
            refine h_aload_n (pc' := 8) rfl rfl rfl ?_
            refine h_iload_n (pc' := 9) rfl rfl rfl ?_
            refine h_put (pc' := 12) rfl rfl rfl rfl rfl rfl ci_1 rfl (h_fgt (E := fun s => s 64 2 = sq24 64 2 ∧ s 64 4 = sq24 64 4 ∧ s 64 3 = sq24 64 3 ∧ s 64 5 = sq24 64 5 ∧ s 63 2 = 1 ∧ s 63 3 = sq24 63 3 ∧ s 64 1 = σ1 64 1) _ (if_63_2 Isq24 (by omega)) (Fsq24.up rfl) ⟨rfl, rfl, rfl, rfl, rfl, rfl, esq24_6⟩ (fun s30 Is30 Fs30 (es30 : s30 64 2 = sq24 64 2 ∧ s30 64 4 = sq24 64 4 ∧ s30 64 3 = sq24 64 3 ∧ s30 64 5 = sq24 64 5 ∧ s30 63 2 = 1 ∧ s30 63 3 = sq24 63 3 ∧ s30 64 1 = σ1 64 1) => ?_))
            clear esq24_4 esq24_6
            refine h_aload_n (pc' := 13) rfl rfl rfl ?_
            refine h_iload_n (pc' := 14) rfl rfl rfl ?_
            refine h_put (pc' := 17) rfl rfl rfl rfl rfl rfl hz27 rfl (h_fgt (E := fun s => s 64 2 = sq24 64 2 ∧ s 64 4 = sq24 64 4 ∧ s 64 3 = sq24 64 3 ∧ s 64 5 = sq24 64 5 ∧ s 63 2 = 1 ∧ s 63 3 = (sq24 64 4) ∧ s 64 1 = σ1 64 1) _ (if_63_3 Is30 (h_rgv hz27)) (Fs30.up rfl) ⟨es30.1, es30.2.1, es30.2.2.1, es30.2.2.2.1, es30.2.2.2.2.1, rfl, es30.2.2.2.2.2.2⟩ (fun s31 Is31 Fs31 (es31 : s31 64 2 = sq24 64 2 ∧ s31 64 4 = sq24 64 4 ∧ s31 64 3 = sq24 64 3 ∧ s31 64 5 = sq24 64 5 ∧ s31 63 2 = 1 ∧ s31 63 3 = (sq24 64 4) ∧ s31 64 1 = σ1 64 1) => ?_))
            clear es30
            refine h_vret rfl rfl (h_Kn ?_)
            refine d_toM (g_inj ns) hlq24 hRq24 (fun lvw32 memw32 hlw32 hRw32 => ?_)
            show h_T g_P (g_Y ns) 148 269 [(0, .ref 98)] [] tq24 _
            refine h_vret rfl rfl (d_endM hlw32 hRw32 ?_)
            show h_T g_P (g_Y ns) 54 37 [(0, .ref 63)] [] s31 _
            exact h_vret rfl rfl (d_cs.nil (kk _ _ Is31 Itq24 Fs31 Ftq24 (by omega) (by omega) (by omega) (by omega) (by omega) (Or.inl ⟨by omega, by omega, by omega, by omega⟩)))
      · refine h_wk [(0, .ref 64)] ⟨rfl, trivial⟩ (ls_t1 Isq14 Itq14 (hTL.fr (Fsq14.mono rfl) (Ftq14.mono rfl))   (by omega) (by omega) (by omega) (by omega) (fun sq33 tq33 Isq33 Itq33 Gsq33 Gtq33   yq33_0 yq33_1 yq33_2 yq33_3 yq33_4 pcq33 lvq33 memq33 hlq33 hRq33 => ?_) _ _ (h_al_ok ⟨rfl, trivial⟩ hlw16) hRw16)
        · have Fsq33 := (Gsq33.mono (B := k_lx) rfl).tr Fsq14
          have Ftq33 := (Gtq33.mono (B := k_lm) rfl).tr Ftq14
          have Isq33 := Isq33
          have Itq33 := Itq33
          have Gsq33 := Gsq33
          have Gtq33 := Gtq33
          have esq33_6 : sq33 64 1 = σ1 64 1 := (Gsq33 64 1 rfl).trans esq14_6
          have esq33_4 : sq33 63 2 = σ1 63 2 := yq33_2.trans esq14_4
          rcases pcq33 with pcq33 | pcq33
          · show h_T g_P (g_Y ns) 75 298 [(0, .ref 64)] [] sq33 _
            refine h_vret rfl rfl (d_retn hlv8 ?_)
            refine h_aload_n (pc' := 15) rfl rfl rfl ?_
            refine h_getR (pc' := 18) rfl rfl rfl rfl rfl ?_
            refine h_getI (pc' := 21) (v := sq33 64 3) rfl rfl rfl rfl rfl rfl (fun z34 hz34 => ?_)
            have tz34 := tf_64_3 Isq33
            refine h_iconst (pc' := 22) (x := (Int32.ofInt 4)) rfl rfl rfl ?_
            refine h_cne (tg := 37) (pc' := 25) rfl rfl rfl hz34 ci_4 (fun c35 => ?_) (fun c35 => absurd c35 (by omega))
            clear hz34
            refine d_toM (g_inj ns) hlq33 hRq33 (fun lvw36 memw36 hlw36 hRw36 => ?_)
            show h_T g_P (g_Y ns) 148 269 [(0, .ref 98)] [] tq33 _
            refine h_vret rfl rfl (d_endM hlw36 hRw36 ?_)
            show h_T g_P (g_Y ns) 54 37 [(0, .ref 63)] [] sq33 _
            exact h_vret rfl rfl (d_cs.nil (kk _ _ Isq33 Itq33 Fsq33 Ftq33 (by omega) (by omega) (by omega) (by omega) (by omega) (Or.inr (Or.inr (Or.inr (Or.inl ⟨by omega, by omega, by omega, by omega, by omega, by omega, by omega, by omega, by omega, by omega⟩))))))
          · show h_T g_P (g_Y ns) 75 298 [(0, .ref 64)] [] sq33 _
            refine h_vret rfl rfl (d_retn hlv8 ?_)
            refine h_aload_n (pc' := 15) rfl rfl rfl ?_
            refine h_getR (pc' := 18) rfl rfl rfl rfl rfl ?_
            refine h_getI (pc' := 21) (v := sq33 64 3) rfl rfl rfl rfl rfl rfl (fun z37 hz37 => ?_)
            have tz37 := tf_64_3 Isq33
            refine h_iconst (pc' := 22) (x := (Int32.ofInt 4)) rfl rfl rfl ?_
            refine h_cne (tg := 37) (pc' := 25) rfl rfl rfl hz37 ci_4 (fun c38 => absurd c38 (by omega)) (fun c38 => ?_)
            clear hz37
            refine h_aload_n (pc' := 26) rfl rfl rfl ?_
            refine h_iconst (pc' := 27) (x := (Int32.ofInt 1)) rfl rfl rfl ?_
            refine h_aload_n (pc' := 28) rfl rfl rfl ?_
            refine h_getR (pc' := 31) rfl rfl rfl rfl rfl ?_
            refine h_getI (pc' := 34) (v := sq33 64 4) rfl rfl rfl rfl rfl rfl (fun z39 hz39 => ?_)
            have tz39 := tf_64_4 Isq33
            refine h_call (sp := false) (pc' := 37) (M := [(0, .ref 63), (1, .int (Int32.ofInt 1)), (2, .int z39)]) rfl rfl rfl rfl rfl rfl rfl rfl ?_
            refine h_aload_n (pc' := 1) rfl rfl rfl ?_
            refine h_getI (pc' := 4) (v := σ1 63 2) rfl rfl rfl rfl rfl esq33_4 (fun z40 hz40 => ?_)
            refine h_zne (tg := 17) (pc' := 7) rfl rfl rfl hz40 (fun c41 => absurd c41 (by omega)) (fun c41 => ?_)
            clear hz40
            refine h_aload_n (pc' := 8) rfl rfl rfl ?_
            refine h_iload_n (pc' := 9) rfl rfl rfl ?_
            refine h_put (pc' := 12) rfl rfl rfl rfl rfl rfl ci_1 rfl (h_fgt (E := fun s => s 64 2 = sq33 64 2 ∧ s 64 4 = sq33 64 4 ∧ s 64 3 = sq33 64 3 ∧ s 64 5 = sq33 64 5 ∧ s 63 2 = 1 ∧ s 63 3 = sq33 63 3 ∧ s 64 1 = σ1 64 1) _ (if_63_2 Isq33 (by omega)) (Fsq33.up rfl) ⟨rfl, rfl, rfl, rfl, rfl, rfl, esq33_6⟩ (fun s42 Is42 Fs42 (es42 : s42 64 2 = sq33 64 2 ∧ s42 64 4 = sq33 64 4 ∧ s42 64 3 = sq33 64 3 ∧ s42 64 5 = sq33 64 5 ∧ s42 63 2 = 1 ∧ s42 63 3 = sq33 63 3 ∧ s42 64 1 = σ1 64 1) => ?_))
            clear esq33_4 esq33_6
            refine h_aload_n (pc' := 13) rfl rfl rfl ?_
            refine h_iload_n (pc' := 14) rfl rfl rfl ?_
            refine h_put (pc' := 17) rfl rfl rfl rfl rfl rfl hz39 rfl (h_fgt (E := fun s => s 64 2 = sq33 64 2 ∧ s 64 4 = sq33 64 4 ∧ s 64 3 = sq33 64 3 ∧ s 64 5 = sq33 64 5 ∧ s 63 2 = 1 ∧ s 63 3 = (sq33 64 4) ∧ s 64 1 = σ1 64 1) _ (if_63_3 Is42 (h_rgv hz39)) (Fs42.up rfl) ⟨es42.1, es42.2.1, es42.2.2.1, es42.2.2.2.1, es42.2.2.2.2.1, rfl, es42.2.2.2.2.2.2⟩ (fun s43 Is43 Fs43 (es43 : s43 64 2 = sq33 64 2 ∧ s43 64 4 = sq33 64 4 ∧ s43 64 3 = sq33 64 3 ∧ s43 64 5 = sq33 64 5 ∧ s43 63 2 = 1 ∧ s43 63 3 = (sq33 64 4) ∧ s43 64 1 = σ1 64 1) => ?_))
            clear es42
            refine h_vret rfl rfl (h_Kn ?_)
            refine d_toM (g_inj ns) hlq33 hRq33 (fun lvw44 memw44 hlw44 hRw44 => ?_)
            show h_T g_P (g_Y ns) 148 269 [(0, .ref 98)] [] tq33 _
            refine h_vret rfl rfl (d_endM hlw44 hRw44 ?_)
            show h_T g_P (g_Y ns) 54 37 [(0, .ref 63)] [] s43 _
            exact h_vret rfl rfl (d_cs.nil (kk _ _ Is43 Itq33 Fs43 Ftq33 (by omega) (by omega) (by omega) (by omega) (by omega) (Or.inl ⟨by omega, by omega, by omega, by omega⟩)))
      · refine h_wk [(0, .ref 64)] ⟨rfl, trivial⟩ (ls_t2 Isq14 Itq14 (hTL.fr (Fsq14.mono rfl) (Ftq14.mono rfl))   (by omega) (by omega) (by omega) (by omega) (fun sq45 tq45 Isq45 Itq45 Gsq45 Gtq45   yq45_0 yq45_1 yq45_2 yq45_3 yq45_4 pcq45 lvq45 memq45 hlq45 hRq45 => ?_) _ _ (h_al_ok ⟨rfl, trivial⟩ hlw16) hRw16)
        · have Fsq45 := (Gsq45.mono (B := k_lx) rfl).tr Fsq14
          have Ftq45 := (Gtq45.mono (B := k_lm) rfl).tr Ftq14
          have Isq45 := Isq45
          have Itq45 := Itq45
          have Gsq45 := Gsq45
          have Gtq45 := Gtq45
          have esq45_6 : sq45 64 1 = σ1 64 1 := (Gsq45 64 1 rfl).trans esq14_6
          have esq45_4 : sq45 63 2 = σ1 63 2 := yq45_2.trans esq14_4
          rcases pcq45 with pcq45 | pcq45
          · show h_T g_P (g_Y ns) 75 298 [(0, .ref 64)] [] sq45 _
            refine h_vret rfl rfl (d_retn hlv8 ?_)
            refine h_aload_n (pc' := 15) rfl rfl rfl ?_
            refine h_getR (pc' := 18) rfl rfl rfl rfl rfl ?_
            refine h_getI (pc' := 21) (v := sq45 64 3) rfl rfl rfl rfl rfl rfl (fun z46 hz46 => ?_)
            have tz46 := tf_64_3 Isq45
            refine h_iconst (pc' := 22) (x := (Int32.ofInt 4)) rfl rfl rfl ?_
            refine h_cne (tg := 37) (pc' := 25) rfl rfl rfl hz46 ci_4 (fun c47 => ?_) (fun c47 => absurd c47 (by omega))
            clear hz46
            refine d_toM (g_inj ns) hlq45 hRq45 (fun lvw48 memw48 hlw48 hRw48 => ?_)
            show h_T g_P (g_Y ns) 148 269 [(0, .ref 98)] [] tq45 _
            refine h_vret rfl rfl (d_endM hlw48 hRw48 ?_)
            show h_T g_P (g_Y ns) 54 37 [(0, .ref 63)] [] sq45 _
            exact h_vret rfl rfl (d_cs.nil (kk _ _ Isq45 Itq45 Fsq45 Ftq45 (by omega) (by omega) (by omega) (by omega) (by omega) (Or.inr (Or.inr (Or.inr (Or.inr ⟨by omega, by omega, by omega, by omega, by omega, by omega, by omega⟩))))))
          · show h_T g_P (g_Y ns) 75 298 [(0, .ref 64)] [] sq45 _
            refine h_vret rfl rfl (d_retn hlv8 ?_)
            refine h_aload_n (pc' := 15) rfl rfl rfl ?_
            refine h_getR (pc' := 18) rfl rfl rfl rfl rfl ?_
            refine h_getI (pc' := 21) (v := sq45 64 3) rfl rfl rfl rfl rfl rfl (fun z49 hz49 => ?_)
            have tz49 := tf_64_3 Isq45
            refine h_iconst (pc' := 22) (x := (Int32.ofInt 4)) rfl rfl rfl ?_
            refine h_cne (tg := 37) (pc' := 25) rfl rfl rfl hz49 ci_4 (fun c50 => absurd c50 (by omega)) (fun c50 => ?_)
            clear hz49
            refine h_aload_n (pc' := 26) rfl rfl rfl ?_
            refine h_iconst (pc' := 27) (x := (Int32.ofInt 1)) rfl rfl rfl ?_
            refine h_aload_n (pc' := 28) rfl rfl rfl ?_
            refine h_getR (pc' := 31) rfl rfl rfl rfl rfl ?_
            refine h_getI (pc' := 34) (v := sq45 64 4) rfl rfl rfl rfl rfl rfl (fun z51 hz51 => ?_)
            have tz51 := tf_64_4 Isq45
            refine h_call (sp := false) (pc' := 37) (M := [(0, .ref 63), (1, .int (Int32.ofInt 1)), (2, .int z51)]) rfl rfl rfl rfl rfl rfl rfl rfl ?_
            refine h_aload_n (pc' := 1) rfl rfl rfl ?_
            refine h_getI (pc' := 4) (v := σ1 63 2) rfl rfl rfl rfl rfl esq45_4 (fun z52 hz52 => ?_)
            refine h_zne (tg := 17) (pc' := 7) rfl rfl rfl hz52 (fun c53 => absurd c53 (by omega)) (fun c53 => ?_)
            clear hz52
            refine h_aload_n (pc' := 8) rfl rfl rfl ?_
            refine h_iload_n (pc' := 9) rfl rfl rfl ?_
            refine h_put (pc' := 12) rfl rfl rfl rfl rfl rfl ci_1 rfl (h_fgt (E := fun s => s 64 2 = sq45 64 2 ∧ s 64 4 = sq45 64 4 ∧ s 64 3 = sq45 64 3 ∧ s 64 5 = sq45 64 5 ∧ s 63 2 = 1 ∧ s 63 3 = sq45 63 3 ∧ s 64 1 = σ1 64 1) _ (if_63_2 Isq45 (by omega)) (Fsq45.up rfl) ⟨rfl, rfl, rfl, rfl, rfl, rfl, esq45_6⟩ (fun s54 Is54 Fs54 (es54 : s54 64 2 = sq45 64 2 ∧ s54 64 4 = sq45 64 4 ∧ s54 64 3 = sq45 64 3 ∧ s54 64 5 = sq45 64 5 ∧ s54 63 2 = 1 ∧ s54 63 3 = sq45 63 3 ∧ s54 64 1 = σ1 64 1) => ?_))
            clear esq45_4 esq45_6
            refine h_aload_n (pc' := 13) rfl rfl rfl ?_
            refine h_iload_n (pc' := 14) rfl rfl rfl ?_
            refine h_put (pc' := 17) rfl rfl rfl rfl rfl rfl hz51 rfl (h_fgt (E := fun s => s 64 2 = sq45 64 2 ∧ s 64 4 = sq45 64 4 ∧ s 64 3 = sq45 64 3 ∧ s 64 5 = sq45 64 5 ∧ s 63 2 = 1 ∧ s 63 3 = (sq45 64 4) ∧ s 64 1 = σ1 64 1) _ (if_63_3 Is54 (h_rgv hz51)) (Fs54.up rfl) ⟨es54.1, es54.2.1, es54.2.2.1, es54.2.2.2.1, es54.2.2.2.2.1, rfl, es54.2.2.2.2.2.2⟩ (fun s55 Is55 Fs55 (es55 : s55 64 2 = sq45 64 2 ∧ s55 64 4 = sq45 64 4 ∧ s55 64 3 = sq45 64 3 ∧ s55 64 5 = sq45 64 5 ∧ s55 63 2 = 1 ∧ s55 63 3 = (sq45 64 4) ∧ s55 64 1 = σ1 64 1) => ?_))
            clear es54
            refine h_vret rfl rfl (h_Kn ?_)
            refine d_toM (g_inj ns) hlq45 hRq45 (fun lvw56 memw56 hlw56 hRw56 => ?_)
            show h_T g_P (g_Y ns) 148 269 [(0, .ref 98)] [] tq45 _
            refine h_vret rfl rfl (d_endM hlw56 hRw56 ?_)
            show h_T g_P (g_Y ns) 54 37 [(0, .ref 63)] [] s55 _
            exact h_vret rfl rfl (d_cs.nil (kk _ _ Is55 Itq45 Fs55 Ftq45 (by omega) (by omega) (by omega) (by omega) (by omega) (Or.inl ⟨by omega, by omega, by omega, by omega⟩)))
      · refine h_wk [(0, .ref 64)] ⟨rfl, trivial⟩ (ls_t3 Isq14 Itq14 (hTL.fr (Fsq14.mono rfl) (Ftq14.mono rfl))   (by omega) (by omega) (by omega) (by omega) (fun sq57 tq57 Isq57 Itq57 Gsq57 Gtq57   yq57_0 yq57_1 yq57_2 yq57_3 yq57_4 pcq57 lvq57 memq57 hlq57 hRq57 => ?_) _ _ (h_al_ok ⟨rfl, trivial⟩ hlw16) hRw16)
        · have Fsq57 := (Gsq57.mono (B := k_lx) rfl).tr Fsq14
          have Ftq57 := (Gtq57.mono (B := k_lm) rfl).tr Ftq14
          have Isq57 := Isq57
          have Itq57 := Itq57
          have Gsq57 := Gsq57
          have Gtq57 := Gtq57
          have esq57_6 : sq57 64 1 = σ1 64 1 := (Gsq57 64 1 rfl).trans esq14_6
          have esq57_4 : sq57 63 2 = σ1 63 2 := yq57_2.trans esq14_4
          rcases pcq57 with pcq57
          · show h_T g_P (g_Y ns) 75 298 [(0, .ref 64)] [] sq57 _
            refine h_vret rfl rfl (d_retn hlv8 ?_)
            refine h_aload_n (pc' := 15) rfl rfl rfl ?_
            refine h_getR (pc' := 18) rfl rfl rfl rfl rfl ?_
            refine h_getI (pc' := 21) (v := sq57 64 3) rfl rfl rfl rfl rfl rfl (fun z58 hz58 => ?_)
            have tz58 := tf_64_3 Isq57
            refine h_iconst (pc' := 22) (x := (Int32.ofInt 4)) rfl rfl rfl ?_
            refine h_cne (tg := 37) (pc' := 25) rfl rfl rfl hz58 ci_4 (fun c59 => ?_) (fun c59 => absurd c59 (by omega))
            clear hz58
            refine d_toM (g_inj ns) hlq57 hRq57 (fun lvw60 memw60 hlw60 hRw60 => ?_)
            show h_T g_P (g_Y ns) 148 269 [(0, .ref 98)] [] tq57 _
            refine h_vret rfl rfl (d_endM hlw60 hRw60 ?_)
            show h_T g_P (g_Y ns) 54 37 [(0, .ref 63)] [] sq57 _
            exact h_vret rfl rfl (d_cs.nil (kk _ _ Isq57 Itq57 Fsq57 Ftq57 (by omega) (by omega) (by omega) (by omega) (by omega) (Or.inr (Or.inr (Or.inl ⟨by omega, by omega, by omega, by omega, by omega, by omega, by omega⟩)))))
      · refine h_wk [(0, .ref 64)] ⟨rfl, trivial⟩ (ls_t4 Isq14 Itq14 (hTL.fr (Fsq14.mono rfl) (Ftq14.mono rfl))   (by omega) (by omega) (by omega) (by omega) (fun sq61 tq61 Isq61 Itq61 Gsq61 Gtq61   yq61_0 yq61_1 yq61_2 yq61_3 yq61_4 pcq61 lvq61 memq61 hlq61 hRq61 => ?_) _ _ (h_al_ok ⟨rfl, trivial⟩ hlw16) hRw16)
        · have Fsq61 := (Gsq61.mono (B := k_lx) rfl).tr Fsq14
          have Ftq61 := (Gtq61.mono (B := k_lm) rfl).tr Ftq14
          have Isq61 := Isq61
          have Itq61 := Itq61
          have Gsq61 := Gsq61
          have Gtq61 := Gtq61
          have esq61_6 : sq61 64 1 = σ1 64 1 := (Gsq61 64 1 rfl).trans esq14_6
          have esq61_4 : sq61 63 2 = σ1 63 2 := yq61_2.trans esq14_4
          rcases pcq61 with pcq61
          · show h_T g_P (g_Y ns) 75 298 [(0, .ref 64)] [] sq61 _
            refine h_vret rfl rfl (d_retn hlv8 ?_)
            refine h_aload_n (pc' := 15) rfl rfl rfl ?_
            refine h_getR (pc' := 18) rfl rfl rfl rfl rfl ?_
            refine h_getI (pc' := 21) (v := sq61 64 3) rfl rfl rfl rfl rfl rfl (fun z62 hz62 => ?_)
            have tz62 := tf_64_3 Isq61
            refine h_iconst (pc' := 22) (x := (Int32.ofInt 4)) rfl rfl rfl ?_
            refine h_cne (tg := 37) (pc' := 25) rfl rfl rfl hz62 ci_4 (fun c63 => absurd c63 (by omega)) (fun c63 => ?_)
            clear hz62
            refine h_aload_n (pc' := 26) rfl rfl rfl ?_
            refine h_iconst (pc' := 27) (x := (Int32.ofInt 1)) rfl rfl rfl ?_
            refine h_aload_n (pc' := 28) rfl rfl rfl ?_
            refine h_getR (pc' := 31) rfl rfl rfl rfl rfl ?_
            refine h_getI (pc' := 34) (v := sq61 64 4) rfl rfl rfl rfl rfl rfl (fun z64 hz64 => ?_)
            have tz64 := tf_64_4 Isq61
            refine h_call (sp := false) (pc' := 37) (M := [(0, .ref 63), (1, .int (Int32.ofInt 1)), (2, .int z64)]) rfl rfl rfl rfl rfl rfl rfl rfl ?_
            refine h_aload_n (pc' := 1) rfl rfl rfl ?_
            refine h_getI (pc' := 4) (v := σ1 63 2) rfl rfl rfl rfl rfl esq61_4 (fun z65 hz65 => ?_)
            refine h_zne (tg := 17) (pc' := 7) rfl rfl rfl hz65 (fun c66 => absurd c66 (by omega)) (fun c66 => ?_)
            clear hz65
            refine h_aload_n (pc' := 8) rfl rfl rfl ?_
            refine h_iload_n (pc' := 9) rfl rfl rfl ?_
            refine h_put (pc' := 12) rfl rfl rfl rfl rfl rfl ci_1 rfl (h_fgt (E := fun s => s 64 2 = sq61 64 2 ∧ s 64 4 = sq61 64 4 ∧ s 64 3 = sq61 64 3 ∧ s 64 5 = sq61 64 5 ∧ s 63 2 = 1 ∧ s 63 3 = sq61 63 3 ∧ s 64 1 = σ1 64 1) _ (if_63_2 Isq61 (by omega)) (Fsq61.up rfl) ⟨rfl, rfl, rfl, rfl, rfl, rfl, esq61_6⟩ (fun s67 Is67 Fs67 (es67 : s67 64 2 = sq61 64 2 ∧ s67 64 4 = sq61 64 4 ∧ s67 64 3 = sq61 64 3 ∧ s67 64 5 = sq61 64 5 ∧ s67 63 2 = 1 ∧ s67 63 3 = sq61 63 3 ∧ s67 64 1 = σ1 64 1) => ?_))
            clear esq61_4 esq61_6
            refine h_aload_n (pc' := 13) rfl rfl rfl ?_
            refine h_iload_n (pc' := 14) rfl rfl rfl ?_
            refine h_put (pc' := 17) rfl rfl rfl rfl rfl rfl hz64 rfl (h_fgt (E := fun s => s 64 2 = sq61 64 2 ∧ s 64 4 = sq61 64 4 ∧ s 64 3 = sq61 64 3 ∧ s 64 5 = sq61 64 5 ∧ s 63 2 = 1 ∧ s 63 3 = (sq61 64 4) ∧ s 64 1 = σ1 64 1) _ (if_63_3 Is67 (h_rgv hz64)) (Fs67.up rfl) ⟨es67.1, es67.2.1, es67.2.2.1, es67.2.2.2.1, es67.2.2.2.2.1, rfl, es67.2.2.2.2.2.2⟩ (fun s68 Is68 Fs68 (es68 : s68 64 2 = sq61 64 2 ∧ s68 64 4 = sq61 64 4 ∧ s68 64 3 = sq61 64 3 ∧ s68 64 5 = sq61 64 5 ∧ s68 63 2 = 1 ∧ s68 63 3 = (sq61 64 4) ∧ s68 64 1 = σ1 64 1) => ?_))
            clear es67
            refine h_vret rfl rfl (h_Kn ?_)
            refine d_toM (g_inj ns) hlq61 hRq61 (fun lvw69 memw69 hlw69 hRw69 => ?_)
            show h_T g_P (g_Y ns) 148 269 [(0, .ref 98)] [] tq61 _
            refine h_vret rfl rfl (d_endM hlw69 hRw69 ?_)
            show h_T g_P (g_Y ns) 54 37 [(0, .ref 63)] [] s68 _
            exact h_vret rfl rfl (d_cs.nil (kk _ _ Is68 Itq61 Fs68 Ftq61 (by omega) (by omega) (by omega) (by omega) (by omega) (Or.inl ⟨by omega, by omega, by omega, by omega⟩)))
