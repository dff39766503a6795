set_option maxHeartbeats 100000000 in
theorem ls_mar_d {ns : Nat} {σ1 σ2 : h_S} (hI1 : h_I σ1) (hI2 : h_I σ2) (hTL : d_tape σ1 σ2) (x2 : Int32) (a2 : Int) (hx2 : x2.toInt = a2) (y2 : Int32) (c2 : Int) (hy2 : y2.toInt = c2) (y3 : Int32) (c3 : Int) (hy3 : y3.toInt = c3) (H0 : Int) (pr0 : σ1 64 2 = σ2 98 15) (pr1 : σ1 64 4 = σ2 98 16) (pr2 : σ1 63 2 = σ2 98 13) (pr3 : σ1 66 8 = σ2 98 5) (pr4 : σ1 66 9 = σ2 98 6) (pr5 : σ1 66 10 = σ2 101 43) (pr6 : σ1 69 2 = σ2 101 18) (pr7 : σ1 72 2 = σ2 101 25) (pr8 : σ1 63 5 = σ2 98 7) (pr9 : σ1 64 2 ≤ σ1 64 1) (pr10 : d_RH σ1 σ2 H0) (pr11 : a2 = c3) (pr12 : 0 ≤ a2 ∧ a2 ≤ 5) (pr13 : c2 = σ2 101 18) (pr14 : H0 ≤ σ2 98 8) (pr15 : c3 ≤ σ2 98 8) (pr16 : σ2 98 8 = H0 ∨ σ2 98 8 = c3) (pc0 : ((σ1 63 2 = 0) ∧ (σ1 64 3 = 0) ∧ (0 ≤ σ1 69 2 ∧ σ1 69 2 ≤ 2) ∧ (σ2 98 13 = 0) ∧ (σ2 98 17 = 0) ∧ (0 ≤ σ2 101 18 ∧ σ2 101 18 ≤ 2) ∧ (σ1 64 4 = σ1 64 1)) ∨ ((σ1 63 2 = 0) ∧ (σ1 64 3 = 1) ∧ (0 ≤ σ1 69 2 ∧ σ1 69 2 ≤ 2) ∧ (σ2 98 13 = 0) ∧ (σ2 98 17 = 1) ∧ (0 ≤ σ2 101 18 ∧ σ2 101 18 ≤ 2) ∧ (σ1 64 4 < σ1 64 2)) ∨ ((σ1 63 2 = 0) ∧ (σ1 64 3 = 2) ∧ (0 ≤ σ1 69 2 ∧ σ1 69 2 ≤ 2) ∧ (σ2 98 13 = 0) ∧ (σ2 98 17 = 2) ∧ (0 ≤ σ2 101 18 ∧ σ2 101 18 ≤ 2) ∧ (0 ≤ σ1 64 5 ∧ σ1 64 5 ≤ 99) ∧ (0 ≤ σ2 98 18 ∧ σ2 98 18 ≤ 99) ∧ (σ1 64 5 = σ2 98 18) ∧ (σ1 64 4 < σ1 64 2)) ∨ ((σ1 63 2 = 0) ∧ (σ1 64 3 = 3) ∧ (0 ≤ σ1 69 2 ∧ σ1 69 2 ≤ 2) ∧ (σ2 98 13 = 0) ∧ (σ2 98 17 = 3) ∧ (0 ≤ σ2 101 18 ∧ σ2 101 18 ≤ 2) ∧ (σ1 64 4 < σ1 64 2))) {cs1 cs2 : List d_Fr} {Q : d_Q} (kx0 : ∀ (s t : h_S), h_I s → h_I t → h_F (k_in k_pl) s σ1 → h_F (k_in k_pm) t σ2 → (s 64 2 = t 98 15) → (s 64 4 = t 98 16) → (s 63 2 = t 98 13) → (s 64 2 ≤ s 64 1) → (σ1 64 2 ≤ s 64 2) → (d_ok s t) → (((1 ≤ s 63 2 ∧ s 63 2 ≤ 6) ∧ (1 ≤ t 98 13 ∧ t 98 13 ≤ 6) ∧ (s 63 2 = t 98 13) ∧ (s 63 3 = t 98 14)) ∨ ((s 63 2 = 0) ∧ (s 64 3 = 0) ∧ (t 98 13 = 0) ∧ (t 98 17 = 0) ∧ (s 64 4 = s 64 1)) ∨ ((s 63 2 = 0) ∧ (s 64 3 = 1) ∧ (t 98 13 = 0) ∧ (t 98 17 = 1) ∧ (s 64 4 < s 64 2)) ∨ ((s 63 2 = 0) ∧ (s 64 3 = 2) ∧ (t 98 13 = 0) ∧ (t 98 17 = 2) ∧ (0 ≤ s 64 5 ∧ s 64 5 ≤ 99) ∧ (0 ≤ t 98 18 ∧ t 98 18 ≤ 99) ∧ (s 64 5 = t 98 18) ∧ (s 64 4 < s 64 2)) ∨ ((s 63 2 = 0) ∧ (s 64 3 = 3) ∧ (t 98 13 = 0) ∧ (t 98 17 = 3) ∧ (s 64 4 < s 64 2) ∧ ((s 64 2 = σ1 64 2 ∧ s 64 3 = σ1 64 3) ∨ σ1 64 2 < s 64 2))) → ∀ lv2 mem2, h_loc [(0, .ref 98)] lv2 → h_R (g_Y ns) t mem2 → h_T g_P (g_Y ns) 60 64 [(0, .ref 63)] [] s (d_cs g_P (g_Y ns) cs1 (d_L g_P (g_Y ns) (151, 73, lv2, []) cs2 mem2 Q))) : ∀ lv2 mem2, h_loc [(0, .ref 98), (1, .int (Int32.ofInt 12)), (2, .int y2), (3, .int y3)] lv2 → h_R (g_Y ns) σ2 mem2 → h_T g_P (g_Y ns) 60 44 [(0, .ref 63), (1, .ref 69), (2, .int x2)] [] σ1 (d_cs g_P (g_Y ns) cs1 (d_L g_P (g_Y ns) (151, 33, lv2, []) cs2 mem2 Q)) := by
  intro lv2 mem2 hl2 hR2
  have hT := hTL.1
  have hL := hTL.2
  have F1 : h_F (k_in k_pl) σ1 σ1 := h_F.rf
  have F2 : h_F (k_in k_pm) σ2 σ2 := h_F.rf
  have ge0 := tf_64_1 hI1
  have ge1 := tf_66_8 hI1
  have ge2 := tf_66_9 hI1
  have ge3 := tf_66_10 hI1
  have ge4 := tf_69_2 hI1
  have ge5 := tf_72_2 hI1
  have ge6 := tf_63_5 hI1
  have ge7 := tf_63_2 hI1
  have ge8 := tf_98_8 hI2
  have ge9 := tf_98_9 hI2
  have ge10 := tf_98_13 hI2
  rcases pc0 with pc0 | pc0 | pc0 | pc0
  · show h_T g_P (g_Y ns) 60 44 [(0, .ref 63), (1, .ref 69), (2, .int x2)] [] σ1 _
    refine h_aload_n (pc' := 45) rfl rfl rfl ?_
    refine h_iconst (pc' := 46) (x := (Int32.ofInt 5)) rfl rfl rfl ?_
    refine d_toM (g_inj ns) hl2 hR2 (fun lvw21 memw21 hlw21 hRw21 => ?_)
    show h_T g_P (g_Y ns) 151 33 [(0, .ref 98), (1, .int (Int32.ofInt 12)), (2, .int y2), (3, .int y3)] [] σ2 _
    refine h_aload_n (pc' := 34) rfl rfl rfl ?_
    refine h_getR (pc' := 37) rfl rfl rfl rfl rfl ?_
    refine h_iload_n (pc' := 38) rfl rfl rfl ?_
    refine h_iconst (pc' := 39) (x := (Int32.ofInt 2)) rfl rfl rfl ?_
    refine h_iload_n (pc' := 40) rfl rfl rfl ?_
    refine h_imul (pc' := 41) rfl rfl ci_2 hy2 rfl (by omega) (by omega) (fun z22 hz22 => ?_)
    refine h_iadd (pc' := 42) rfl rfl ci_12 hz22 rfl (by omega) (by omega) (fun z23 hz23 => ?_)
    clear hz22
    refine h_iload_n (pc' := 43) rfl rfl rfl ?_
    refine h_iast (pc' := 44) rfl rfl rfl rfl hz23 (by omega) (by omega) hy3 (h_fgt (E := fun s => s 98 15 = σ2 98 15 ∧ s 98 16 = σ2 98 16 ∧ s 98 17 = σ2 98 17 ∧ s 98 18 = σ2 98 18 ∧ s 98 13 = σ2 98 13 ∧ s 98 14 = σ2 98 14 ∧ s 98 5 = σ2 98 5 ∧ s 98 6 = σ2 98 6 ∧ s 98 7 = σ2 98 7 ∧ s 98 8 = σ2 98 8 ∧ s 98 9 = σ2 98 9 ∧ s 101 18 = σ2 101 18 ∧ s 101 25 = σ2 101 25 ∧ s 101 43 = σ2 101 43 ∧ s = h_up σ2 101 (12 + (2 * c2)) c3) _ (ip_101_2 hI2 (by omega) (by omega)) (F2.up rfl) ⟨rfl, rfl, rfl, rfl, rfl, rfl, rfl, rfl, rfl, rfl, rfl, h_up_n2 (by omega) rfl, h_up_n2 (by omega) rfl, h_up_n2 (by omega) rfl, rfl⟩ (fun s24 Is24 Fs24 (es24 : s24 98 15 = σ2 98 15 ∧ s24 98 16 = σ2 98 16 ∧ s24 98 17 = σ2 98 17 ∧ s24 98 18 = σ2 98 18 ∧ s24 98 13 = σ2 98 13 ∧ s24 98 14 = σ2 98 14 ∧ s24 98 5 = σ2 98 5 ∧ s24 98 6 = σ2 98 6 ∧ s24 98 7 = σ2 98 7 ∧ s24 98 8 = σ2 98 8 ∧ s24 98 9 = σ2 98 9 ∧ s24 101 18 = σ2 101 18 ∧ s24 101 25 = σ2 101 25 ∧ s24 101 43 = σ2 101 43 ∧ s24 = h_up σ2 101 (12 + (2 * c2)) c3) => ?_))
    have us24 := es24.2.2.2.2.2.2.2.2.2.2.2.2.2.2
    clear hz23
    refine h_aload_n (pc' := 45) rfl rfl rfl ?_
    refine h_getR (pc' := 48) rfl rfl rfl rfl rfl ?_
    refine h_iload_n (pc' := 49) rfl rfl rfl ?_
    refine h_iconst (pc' := 50) (x := (Int32.ofInt 2)) rfl rfl rfl ?_
    refine h_iload_n (pc' := 51) rfl rfl rfl ?_
    refine h_imul (pc' := 52) rfl rfl ci_2 hy2 rfl (by omega) (by omega) (fun z25 hz25 => ?_)
    refine h_iadd (pc' := 53) rfl rfl ci_12 hz25 rfl (by omega) (by omega) (fun z26 hz26 => ?_)
    clear hz25
    refine h_iconst (pc' := 54) (x := (Int32.ofInt 1)) rfl rfl rfl ?_
    refine h_iadd (pc' := 55) rfl rfl hz26 ci_1 rfl (by omega) (by omega) (fun z27 hz27 => ?_)
    clear hz26
    refine h_aload_n (pc' := 56) rfl rfl rfl ?_
    refine d_call (g_inj ns) (pc' := 59) (m := 150) (M := [(0, .ref 98)]) (rest := [.int z27, .ref 101]) ⟨false, _, _, _, _, _, _, rfl, rfl, rfl, rfl, rfl, rfl, rfl⟩ (fun lv28 hlv28 => ?_)
    refine h_aload_n (pc' := 1) rfl rfl rfl ?_
    refine h_iconst (pc' := 2) (x := (Int32.ofInt 0)) rfl rfl rfl ?_
    refine h_iconst (pc' := 3) (x := (Int32.ofInt 5)) rfl rfl rfl ?_
    refine d_pcall (g_inj ns) (m1 := 58) (pc1' := 49) (M1 := [(0, .ref 63), (1, .int (Int32.ofInt 5))]) (rest1 := []) (m2 := 149) (pc2' := 6) (M2 := [(0, .ref 98), (1, .int (Int32.ofInt 0)), (2, .int (Int32.ofInt 5))]) (rest2 := []) ⟨false, _, _, _, _, _, _, rfl, rfl, rfl, rfl, rfl, rfl, rfl⟩ ⟨false, _, _, _, _, _, _, rfl, rfl, rfl, rfl, rfl, rfl, rfl⟩ hRw21 ?_
    refine pp_num hI1 Is24 (hTL.fr (F1.mono rfl) (Fs24.mono rfl)) (Int32.ofInt 5) _ ci_5 (Int32.ofInt 5) _ ci_5 (Int.le_antisymm (by omega) (by omega)) (Int.le_antisymm (by omega) (by omega)) (Int.le_antisymm (by omega) (by omega)) (by omega) (Int.le_antisymm (by omega) (by omega)) (⟨by omega, by omega⟩) (Or.inr (Or.inl ⟨Int.le_antisymm (by omega) (by omega), Int.le_antisymm (by omega) (by omega), Int.le_antisymm (by omega) (by omega), Int.le_antisymm (by omega) (by omega), Int.le_antisymm (by omega) (by omega)⟩)) (fun rq29x bq29x hq29x rq29m bq29m hq29m sq29 tq29 Isq29 Itq29 Gsq29 Gtq29 yq29_0 yq29_1 yq29_2 yq29_3 yq29_4 pcq29 memq29 hRq29 => ?_)
    have Fsq29 := (Gsq29.mono (B := k_pl) rfl).tr F1
    have Ftq29 := (Gtq29.mono (B := k_pm) rfl).tr Fs24
    have esq29_6 : sq29 64 1 = σ1 64 1 := (Gsq29 64 1 rfl).trans rfl
    have esq29_7 : sq29 66 8 = σ1 66 8 := (Gsq29 66 8 rfl).trans rfl
    have esq29_8 : sq29 66 9 = σ1 66 9 := (Gsq29 66 9 rfl).trans rfl
    have esq29_9 : sq29 66 10 = σ1 66 10 := (Gsq29 66 10 rfl).trans rfl
    have esq29_10 : sq29 69 2 = σ1 69 2 := (Gsq29 69 2 rfl).trans rfl
    have esq29_11 : sq29 72 2 = σ1 72 2 := (Gsq29 72 2 rfl).trans rfl
    have esq29_12 : sq29 63 5 = σ1 63 5 := (Gsq29 63 5 rfl).trans rfl
    have etq29_6 : tq29 98 5 = σ2 98 5 := (Gtq29 98 5 rfl).trans es24.2.2.2.2.2.2.1
    have etq29_7 : tq29 98 6 = σ2 98 6 := (Gtq29 98 6 rfl).trans es24.2.2.2.2.2.2.2.1
    have etq29_8 : tq29 98 7 = σ2 98 7 := (Gtq29 98 7 rfl).trans es24.2.2.2.2.2.2.2.2.1
    have etq29_9 : tq29 98 8 = σ2 98 8 := (Gtq29 98 8 rfl).trans es24.2.2.2.2.2.2.2.2.2.1
    have etq29_10 : tq29 98 9 = σ2 98 9 := (Gtq29 98 9 rfl).trans es24.2.2.2.2.2.2.2.2.2.2.1
    have etq29_11 : tq29 101 18 = σ2 101 18 := (Gtq29 101 18 rfl).trans es24.2.2.2.2.2.2.2.2.2.2.2.1
    have etq29_12 : tq29 101 25 = σ2 101 25 := (Gtq29 101 25 rfl).trans es24.2.2.2.2.2.2.2.2.2.2.2.2.1
    have etq29_13 : tq29 101 43 = σ2 101 43 := (Gtq29 101 43 rfl).trans es24.2.2.2.2.2.2.2.2.2.2.2.2.2.1
    rcases pcq29 with pcq29 | pcq29
    · show h_T g_P (g_Y ns) 150 6 [(0, .ref 98)] [.int rq29m] tq29 _
      refine h_istore_n (pc' := 7) (M := [(1, .int rq29m), (0, .ref 98)]) rfl rfl rfl rfl ?_
      have oH30 : tq29 98 8 = σ2 98 8 := etq29_9
      have uH30 := tf_98_8 Itq29
      refine h_wk [(0, .ref 98), (1, .int rq29m)] ⟨rfl, rfl, trivial⟩ (lm_hi _ Itq29 rq29m _ hq29m (by omega) (fun H30 hH30 => (h_fgt (E := fun s => s 98 15 = tq29 98 15 ∧ s 98 16 = tq29 98 16 ∧ s 98 17 = tq29 98 17 ∧ s 98 18 = tq29 98 18 ∧ s 98 13 = tq29 98 13 ∧ s 98 14 = tq29 98 14 ∧ s 98 5 = σ2 98 5 ∧ s 98 6 = σ2 98 6 ∧ s 98 7 = σ2 98 7 ∧ s 98 8 = H30 ∧ s 98 9 = σ2 98 9 ∧ s 101 18 = σ2 101 18 ∧ s 101 25 = σ2 101 25 ∧ s 101 43 = σ2 101 43 ∧ s = h_up tq29 98 8 H30) _ (if_98_8 Itq29 (by omega)) (Ftq29.up rfl) ⟨rfl, rfl, rfl, rfl, rfl, rfl, etq29_6, etq29_7, etq29_8, rfl, etq29_10, etq29_11, etq29_12, etq29_13, rfl⟩ (fun s31 Is31 Fs31 (es31 : s31 98 15 = tq29 98 15 ∧ s31 98 16 = tq29 98 16 ∧ s31 98 17 = tq29 98 17 ∧ s31 98 18 = tq29 98 18 ∧ s31 98 13 = tq29 98 13 ∧ s31 98 14 = tq29 98 14 ∧ s31 98 5 = σ2 98 5 ∧ s31 98 6 = σ2 98 6 ∧ s31 98 7 = σ2 98 7 ∧ s31 98 8 = H30 ∧ s31 98 9 = σ2 98 9 ∧ s31 101 18 = σ2 101 18 ∧ s31 101 25 = σ2 101 25 ∧ s31 101 43 = σ2 101 43 ∧ s31 = h_up tq29 98 8 H30) => ?_))))
      have us31 := es31.2.2.2.2.2.2.2.2.2.2.2.2.2.2
      refine h_iload_n (pc' := 28) rfl rfl rfl ?_
      refine h_iret rfl rfl (d_ret hlv28 ?_)
      refine h_iast (pc' := 60) rfl rfl rfl rfl hz27 (by omega) (by omega) hq29m (h_fgt (E := fun s => s 98 15 = tq29 98 15 ∧ s 98 16 = tq29 98 16 ∧ s 98 17 = tq29 98 17 ∧ s 98 18 = tq29 98 18 ∧ s 98 13 = tq29 98 13 ∧ s 98 14 = tq29 98 14 ∧ s 98 5 = σ2 98 5 ∧ s 98 6 = σ2 98 6 ∧ s 98 7 = σ2 98 7 ∧ s 98 8 = H30 ∧ s 98 9 = σ2 98 9 ∧ s 101 18 = σ2 101 18 ∧ s 101 25 = σ2 101 25 ∧ s 101 43 = σ2 101 43 ∧ s = h_up s31 101 ((12 + (2 * c2)) + 1) bq29m) _ (ip_101_2 Is31 (by omega) (by omega)) (Fs31.up rfl) ⟨es31.1, es31.2.1, es31.2.2.1, es31.2.2.2.1, es31.2.2.2.2.1, es31.2.2.2.2.2.1, es31.2.2.2.2.2.2.1, es31.2.2.2.2.2.2.2.1, es31.2.2.2.2.2.2.2.2.1, es31.2.2.2.2.2.2.2.2.2.1, es31.2.2.2.2.2.2.2.2.2.2.1, h_up_n2 (by omega) es31.2.2.2.2.2.2.2.2.2.2.2.1, h_up_n2 (by omega) es31.2.2.2.2.2.2.2.2.2.2.2.2.1, h_up_n2 (by omega) es31.2.2.2.2.2.2.2.2.2.2.2.2.2.1, rfl⟩ (fun s32 Is32 Fs32 (es32 : s32 98 15 = tq29 98 15 ∧ s32 98 16 = tq29 98 16 ∧ s32 98 17 = tq29 98 17 ∧ s32 98 18 = tq29 98 18 ∧ s32 98 13 = tq29 98 13 ∧ s32 98 14 = tq29 98 14 ∧ s32 98 5 = σ2 98 5 ∧ s32 98 6 = σ2 98 6 ∧ s32 98 7 = σ2 98 7 ∧ s32 98 8 = H30 ∧ s32 98 9 = σ2 98 9 ∧ s32 101 18 = σ2 101 18 ∧ s32 101 25 = σ2 101 25 ∧ s32 101 43 = σ2 101 43 ∧ s32 = h_up s31 101 ((12 + (2 * c2)) + 1) bq29m) => ?_))
      clear es31
      have us32 := es32.2.2.2.2.2.2.2.2.2.2.2.2.2.2
      clear hq29m hz27
      refine h_aload_n (pc' := 61) rfl rfl rfl ?_
      refine h_getR (pc' := 64) rfl rfl rfl rfl rfl ?_
      refine h_iload_n (pc' := 65) rfl rfl rfl ?_
      refine h_bipush (pc' := 67) (x := (Int32.ofInt 6)) rfl rfl cb_6 ?_
      refine h_iadd (pc' := 68) (c := 18) rfl rfl ci_12 ci_6 rfl (by omega) (by omega) (fun z33 hz33 => ?_)
      refine h_dup2 (pc' := 69) rfl rfl rfl ?_
      refine h_iald (pc' := 70) (v := σ2 101 18) rfl rfl rfl hz33 (by omega) (by omega) es32.2.2.2.2.2.2.2.2.2.2.2.1 (fun z34 hz34 => ?_)
      have tz34 := ty_101_3 hI2 18 (by omega)
      refine h_iconst (pc' := 71) (x := (Int32.ofInt 1)) rfl rfl rfl ?_
      refine h_iadd (pc' := 72) rfl rfl hz34 ci_1 rfl (by omega) (by omega) (fun z35 hz35 => ?_)
      clear hz34
      refine h_iast (pc' := 73) rfl rfl rfl rfl hz33 (by omega) (by omega) hz35 (h_fgt (E := fun s => s 98 15 = tq29 98 15 ∧ s 98 16 = tq29 98 16 ∧ s 98 17 = tq29 98 17 ∧ s 98 18 = tq29 98 18 ∧ s 98 13 = tq29 98 13 ∧ s 98 14 = tq29 98 14 ∧ s 98 5 = σ2 98 5 ∧ s 98 6 = σ2 98 6 ∧ s 98 7 = σ2 98 7 ∧ s 98 8 = H30 ∧ s 98 9 = σ2 98 9 ∧ s 101 18 = ((σ2 101 18) + 1) ∧ s 101 25 = σ2 101 25 ∧ s 101 43 = σ2 101 43 ∧ s = h_up s32 101 18 ((σ2 101 18) + 1)) _ (ip_101_3 Is32 (by omega) (by omega)) (Fs32.up rfl) ⟨es32.1, es32.2.1, es32.2.2.1, es32.2.2.2.1, es32.2.2.2.2.1, es32.2.2.2.2.2.1, es32.2.2.2.2.2.2.1, es32.2.2.2.2.2.2.2.1, es32.2.2.2.2.2.2.2.2.1, es32.2.2.2.2.2.2.2.2.2.1, es32.2.2.2.2.2.2.2.2.2.2.1, rfl, es32.2.2.2.2.2.2.2.2.2.2.2.2.1, es32.2.2.2.2.2.2.2.2.2.2.2.2.2.1, rfl⟩ (fun s36 Is36 Fs36 (es36 : s36 98 15 = tq29 98 15 ∧ s36 98 16 = tq29 98 16 ∧ s36 98 17 = tq29 98 17 ∧ s36 98 18 = tq29 98 18 ∧ s36 98 13 = tq29 98 13 ∧ s36 98 14 = tq29 98 14 ∧ s36 98 5 = σ2 98 5 ∧ s36 98 6 = σ2 98 6 ∧ s36 98 7 = σ2 98 7 ∧ s36 98 8 = H30 ∧ s36 98 9 = σ2 98 9 ∧ s36 101 18 = ((σ2 101 18) + 1) ∧ s36 101 25 = σ2 101 25 ∧ s36 101 43 = σ2 101 43 ∧ s36 = h_up s32 101 18 ((σ2 101 18) + 1)) => ?_))
      clear es32
      have us36 := es36.2.2.2.2.2.2.2.2.2.2.2.2.2.2
      clear hz33
      refine d_toL (g_inj ns) hlw21 hRq29 (fun lvw37 memw37 hlw37 hRw37 => ?_)
      show h_T g_P (g_Y ns) 60 49 [(0, .ref 63), (1, .ref 69), (2, .int x2)] [.int rq29x] sq29 _
      refine h_istore_n (pc' := 50) (M := [(3, .int rq29x), (0, .ref 63), (1, .ref 69), (2, .int x2)]) rfl rfl rfl rfl ?_
      refine h_aload_n (pc' := 51) rfl rfl rfl ?_
      refine h_getI (pc' := 54) (v := sq29 63 2) rfl rfl rfl rfl rfl rfl (fun z38 hz38 => ?_)
      have tz38 := tf_63_2 Isq29
      refine h_zne (tg := 64) (pc' := 57) rfl rfl rfl hz38 (fun c39 => ?_) (fun c39 => absurd c39 (by omega))
      clear hz38
      exact h_wk [(0, .ref 63)] ⟨rfl, trivial⟩ (kx0 _ _ Isq29 Is36 Fsq29 Fs36 (Int.le_antisymm (by omega) (by omega)) (Int.le_antisymm (by omega) (by omega)) (Int.le_antisymm (by omega) (by omega)) (by omega) (by omega) (fun h => absurd h (by omega)) (Or.inl ⟨⟨by omega, by omega⟩, ⟨by omega, by omega⟩, Int.le_antisymm (by omega) (by omega), Int.le_antisymm (by omega) (by omega)⟩) _ _ (h_al_ok ⟨rfl, trivial⟩ hlw37) hRw37)
    · exfalso; omega
  · show h_T g_P (g_Y ns) 60 44 [(0, .ref 63), (1, .ref 69), (2, .int x2)] [] σ1 _
    refine h_aload_n (pc' := 45) rfl rfl rfl ?_
    refine h_iconst (pc' := 46) (x := (Int32.ofInt 5)) rfl rfl rfl ?_
    refine d_toM (g_inj ns) hl2 hR2 (fun lvw40 memw40 hlw40 hRw40 => ?_)
    show h_T g_P (g_Y ns) 151 33 [(0, .ref 98), (1, .int (Int32.ofInt 12)), (2, .int y2), (3, .int y3)] [] σ2 _
    refine h_aload_n (pc' := 34) rfl rfl rfl ?_
    refine h_getR (pc' := 37) rfl rfl rfl rfl rfl ?_
    refine h_iload_n (pc' := 38) rfl rfl rfl ?_
    refine h_iconst (pc' := 39) (x := (Int32.ofInt 2)) rfl rfl rfl ?_
    refine h_iload_n (pc' := 40) rfl rfl rfl ?_
    refine h_imul (pc' := 41) rfl rfl ci_2 hy2 rfl (by omega) (by omega) (fun z41 hz41 => ?_)
    refine h_iadd (pc' := 42) rfl rfl ci_12 hz41 rfl (by omega) (by omega) (fun z42 hz42 => ?_)
    clear hz41
    refine h_iload_n (pc' := 43) rfl rfl rfl ?_
    refine h_iast (pc' := 44) rfl rfl rfl rfl hz42 (by omega) (by omega) hy3 (h_fgt (E := fun s => s 98 15 = σ2 98 15 ∧ s 98 16 = σ2 98 16 ∧ s 98 17 = σ2 98 17 ∧ s 98 18 = σ2 98 18 ∧ s 98 13 = σ2 98 13 ∧ s 98 14 = σ2 98 14 ∧ s 98 5 = σ2 98 5 ∧ s 98 6 = σ2 98 6 ∧ s 98 7 = σ2 98 7 ∧ s 98 8 = σ2 98 8 ∧ s 98 9 = σ2 98 9 ∧ s 101 18 = σ2 101 18 ∧ s 101 25 = σ2 101 25 ∧ s 101 43 = σ2 101 43 ∧ s = h_up σ2 101 (12 + (2 * c2)) c3) _ (ip_101_2 hI2 (by omega) (by omega)) (F2.up rfl) ⟨rfl, rfl, rfl, rfl, rfl, rfl, rfl, rfl, rfl, rfl, rfl, h_up_n2 (by omega) rfl, h_up_n2 (by omega) rfl, h_up_n2 (by omega) rfl, rfl⟩ (fun s43 Is43 Fs43 (es43 : s43 98 15 = σ2 98 15 ∧ s43 98 16 = σ2 98 16 ∧ s43 98 17 = σ2 98 17 ∧ s43 98 18 = σ2 98 18 ∧ s43 98 13 = σ2 98 13 ∧ s43 98 14 = σ2 98 14 ∧ s43 98 5 = σ2 98 5 ∧ s43 98 6 = σ2 98 6 ∧ s43 98 7 = σ2 98 7 ∧ s43 98 8 = σ2 98 8 ∧ s43 98 9 = σ2 98 9 ∧ s43 101 18 = σ2 101 18 ∧ s43 101 25 = σ2 101 25 ∧ s43 101 43 = σ2 101 43 ∧ s43 = h_up σ2 101 (12 + (2 * c2)) c3) => ?_))
    have us43 := es43.2.2.2.2.2.2.2.2.2.2.2.2.2.2
    clear hz42
    refine h_aload_n (pc' := 45) rfl rfl rfl ?_
    refine h_getR (pc' := 48) rfl rfl rfl rfl rfl ?_
    refine h_iload_n (pc' := 49) rfl rfl rfl ?_
    refine h_iconst (pc' := 50) (x := (Int32.ofInt 2)) rfl rfl rfl ?_
    refine h_iload_n (pc' := 51) rfl rfl rfl ?_
    refine h_imul (pc' := 52) rfl rfl ci_2 hy2 rfl (by omega) (by omega) (fun z44 hz44 => ?_)
    refine h_iadd (pc' := 53) rfl rfl ci_12 hz44 rfl (by omega) (by omega) (fun z45 hz45 => ?_)
    clear hz44
    refine h_iconst (pc' := 54) (x := (Int32.ofInt 1)) rfl rfl rfl ?_
    refine h_iadd (pc' := 55) rfl rfl hz45 ci_1 rfl (by omega) (by omega) (fun z46 hz46 => ?_)
    clear hz45
    refine h_aload_n (pc' := 56) rfl rfl rfl ?_
    refine d_call (g_inj ns) (pc' := 59) (m := 150) (M := [(0, .ref 98)]) (rest := [.int z46, .ref 101]) ⟨false, _, _, _, _, _, _, rfl, rfl, rfl, rfl, rfl, rfl, rfl⟩ (fun lv47 hlv47 => ?_)
    refine h_aload_n (pc' := 1) rfl rfl rfl ?_
    refine h_iconst (pc' := 2) (x := (Int32.ofInt 0)) rfl rfl rfl ?_
    refine h_iconst (pc' := 3) (x := (Int32.ofInt 5)) rfl rfl rfl ?_
    refine d_pcall (g_inj ns) (m1 := 58) (pc1' := 49) (M1 := [(0, .ref 63), (1, .int (Int32.ofInt 5))]) (rest1 := []) (m2 := 149) (pc2' := 6) (M2 := [(0, .ref 98), (1, .int (Int32.ofInt 0)), (2, .int (Int32.ofInt 5))]) (rest2 := []) ⟨false, _, _, _, _, _, _, rfl, rfl, rfl, rfl, rfl, rfl, rfl⟩ ⟨false, _, _, _, _, _, _, rfl, rfl, rfl, rfl, rfl, rfl, rfl⟩ hRw40 ?_
    refine pp_num hI1 Is43 (hTL.fr (F1.mono rfl) (Fs43.mono rfl)) (Int32.ofInt 5) _ ci_5 (Int32.ofInt 5) _ ci_5 (Int.le_antisymm (by omega) (by omega)) (Int.le_antisymm (by omega) (by omega)) (Int.le_antisymm (by omega) (by omega)) (by omega) (Int.le_antisymm (by omega) (by omega)) (⟨by omega, by omega⟩) (Or.inr (Or.inr (Or.inl ⟨Int.le_antisymm (by omega) (by omega), Int.le_antisymm (by omega) (by omega), Int.le_antisymm (by omega) (by omega), Int.le_antisymm (by omega) (by omega), by omega⟩))) (fun rq48x bq48x hq48x rq48m bq48m hq48m sq48 tq48 Isq48 Itq48 Gsq48 Gtq48 yq48_0 yq48_1 yq48_2 yq48_3 yq48_4 pcq48 memq48 hRq48 => ?_)
    have Fsq48 := (Gsq48.mono (B := k_pl) rfl).tr F1
    have Ftq48 := (Gtq48.mono (B := k_pm) rfl).tr Fs43
    have esq48_6 : sq48 64 1 = σ1 64 1 := (Gsq48 64 1 rfl).trans rfl
    have esq48_7 : sq48 66 8 = σ1 66 8 := (Gsq48 66 8 rfl).trans rfl
    have esq48_8 : sq48 66 9 = σ1 66 9 := (Gsq48 66 9 rfl).trans rfl
    have esq48_9 : sq48 66 10 = σ1 66 10 := (Gsq48 66 10 rfl).trans rfl
    have esq48_10 : sq48 69 2 = σ1 69 2 := (Gsq48 69 2 rfl).trans rfl
    have esq48_11 : sq48 72 2 = σ1 72 2 := (Gsq48 72 2 rfl).trans rfl
    have esq48_12 : sq48 63 5 = σ1 63 5 := (Gsq48 63 5 rfl).trans rfl
    have etq48_6 : tq48 98 5 = σ2 98 5 := (Gtq48 98 5 rfl).trans es43.2.2.2.2.2.2.1
    have etq48_7 : tq48 98 6 = σ2 98 6 := (Gtq48 98 6 rfl).trans es43.2.2.2.2.2.2.2.1
    have etq48_8 : tq48 98 7 = σ2 98 7 := (Gtq48 98 7 rfl).trans es43.2.2.2.2.2.2.2.2.1
    have etq48_9 : tq48 98 8 = σ2 98 8 := (Gtq48 98 8 rfl).trans es43.2.2.2.2.2.2.2.2.2.1
    have etq48_10 : tq48 98 9 = σ2 98 9 := (Gtq48 98 9 rfl).trans es43.2.2.2.2.2.2.2.2.2.2.1
    have etq48_11 : tq48 101 18 = σ2 101 18 := (Gtq48 101 18 rfl).trans es43.2.2.2.2.2.2.2.2.2.2.2.1
    have etq48_12 : tq48 101 25 = σ2 101 25 := (Gtq48 101 25 rfl).trans es43.2.2.2.2.2.2.2.2.2.2.2.2.1
    have etq48_13 : tq48 101 43 = σ2 101 43 := (Gtq48 101 43 rfl).trans es43.2.2.2.2.2.2.2.2.2.2.2.2.2.1
    rcases pcq48 with pcq48 | pcq48
    · show h_T g_P (g_Y ns) 150 6 [(0, .ref 98)] [.int rq48m] tq48 _
      refine h_istore_n (pc' := 7) (M := [(1, .int rq48m), (0, .ref 98)]) rfl rfl rfl rfl ?_
      have oH49 : tq48 98 8 = σ2 98 8 := etq48_9
      have uH49 := tf_98_8 Itq48
      refine h_wk [(0, .ref 98), (1, .int rq48m)] ⟨rfl, rfl, trivial⟩ (lm_hi _ Itq48 rq48m _ hq48m (by omega) (fun H49 hH49 => (h_fgt (E := fun s => s 98 15 = tq48 98 15 ∧ s 98 16 = tq48 98 16 ∧ s 98 17 = tq48 98 17 ∧ s 98 18 = tq48 98 18 ∧ s 98 13 = tq48 98 13 ∧ s 98 14 = tq48 98 14 ∧ s 98 5 = σ2 98 5 ∧ s 98 6 = σ2 98 6 ∧ s 98 7 = σ2 98 7 ∧ s 98 8 = H49 ∧ s 98 9 = σ2 98 9 ∧ s 101 18 = σ2 101 18 ∧ s 101 25 = σ2 101 25 ∧ s 101 43 = σ2 101 43 ∧ s = h_up tq48 98 8 H49) _ (if_98_8 Itq48 (by omega)) (Ftq48.up rfl) ⟨rfl, rfl, rfl, rfl, rfl, rfl, etq48_6, etq48_7, etq48_8, rfl, etq48_10, etq48_11, etq48_12, etq48_13, rfl⟩ (fun s50 Is50 Fs50 (es50 : s50 98 15 = tq48 98 15 ∧ s50 98 16 = tq48 98 16 ∧ s50 98 17 = tq48 98 17 ∧ s50 98 18 = tq48 98 18 ∧ s50 98 13 = tq48 98 13 ∧ s50 98 14 = tq48 98 14 ∧ s50 98 5 = σ2 98 5 ∧ s50 98 6 = σ2 98 6 ∧ s50 98 7 = σ2 98 7 ∧ s50 98 8 = H49 ∧ s50 98 9 = σ2 98 9 ∧ s50 101 18 = σ2 101 18 ∧ s50 101 25 = σ2 101 25 ∧ s50 101 43 = σ2 101 43 ∧ s50 = h_up tq48 98 8 H49) => ?_))))
      have us50 := es50.2.2.2.2.2.2.2.2.2.2.2.2.2.2
      refine h_iload_n (pc' := 28) rfl rfl rfl ?_
      refine h_iret rfl rfl (d_ret hlv47 ?_)
      refine h_iast (pc' := 60) rfl rfl rfl rfl hz46 (by omega) (by omega) hq48m (h_fgt (E := fun s => s 98 15 = tq48 98 15 ∧ s 98 16 = tq48 98 16 ∧ s 98 17 = tq48 98 17 ∧ s 98 18 = tq48 98 18 ∧ s 98 13 = tq48 98 13 ∧ s 98 14 = tq48 98 14 ∧ s 98 5 = σ2 98 5 ∧ s 98 6 = σ2 98 6 ∧ s 98 7 = σ2 98 7 ∧ s 98 8 = H49 ∧ s 98 9 = σ2 98 9 ∧ s 101 18 = σ2 101 18 ∧ s 101 25 = σ2 101 25 ∧ s 101 43 = σ2 101 43 ∧ s = h_up s50 101 ((12 + (2 * c2)) + 1) bq48m) _ (ip_101_2 Is50 (by omega) (by omega)) (Fs50.up rfl) ⟨es50.1, es50.2.1, es50.2.2.1, es50.2.2.2.1, es50.2.2.2.2.1, es50.2.2.2.2.2.1, es50.2.2.2.2.2.2.1, es50.2.2.2.2.2.2.2.1, es50.2.2.2.2.2.2.2.2.1, es50.2.2.2.2.2.2.2.2.2.1, es50.2.2.2.2.2.2.2.2.2.2.1, h_up_n2 (by omega) es50.2.2.2.2.2.2.2.2.2.2.2.1, h_up_n2 (by omega) es50.2.2.2.2.2.2.2.2.2.2.2.2.1, h_up_n2 (by omega) es50.2.2.2.2.2.2.2.2.2.2.2.2.2.1, rfl⟩ (fun s51 Is51 Fs51 (es51 : s51 98 15 = tq48 98 15 ∧ s51 98 16 = tq48 98 16 ∧ s51 98 17 = tq48 98 17 ∧ s51 98 18 = tq48 98 18 ∧ s51 98 13 = tq48 98 13 ∧ s51 98 14 = tq48 98 14 ∧ s51 98 5 = σ2 98 5 ∧ s51 98 6 = σ2 98 6 ∧ s51 98 7 = σ2 98 7 ∧ s51 98 8 = H49 ∧ s51 98 9 = σ2 98 9 ∧ s51 101 18 = σ2 101 18 ∧ s51 101 25 = σ2 101 25 ∧ s51 101 43 = σ2 101 43 ∧ s51 = h_up s50 101 ((12 + (2 * c2)) + 1) bq48m) => ?_))
      clear es50
      have us51 := es51.2.2.2.2.2.2.2.2.2.2.2.2.2.2
      clear hq48m hz46
      refine h_aload_n (pc' := 61) rfl rfl rfl ?_
      refine h_getR (pc' := 64) rfl rfl rfl rfl rfl ?_
      refine h_iload_n (pc' := 65) rfl rfl rfl ?_
      refine h_bipush (pc' := 67) (x := (Int32.ofInt 6)) rfl rfl cb_6 ?_
      refine h_iadd (pc' := 68) (c := 18) rfl rfl ci_12 ci_6 rfl (by omega) (by omega) (fun z52 hz52 => ?_)
      refine h_dup2 (pc' := 69) rfl rfl rfl ?_
      refine h_iald (pc' := 70) (v := σ2 101 18) rfl rfl rfl hz52 (by omega) (by omega) es51.2.2.2.2.2.2.2.2.2.2.2.1 (fun z53 hz53 => ?_)
      have tz53 := ty_101_3 hI2 18 (by omega)
      refine h_iconst (pc' := 71) (x := (Int32.ofInt 1)) rfl rfl rfl ?_
      refine h_iadd (pc' := 72) rfl rfl hz53 ci_1 rfl (by omega) (by omega) (fun z54 hz54 => ?_)
      clear hz53
      refine h_iast (pc' := 73) rfl rfl rfl rfl hz52 (by omega) (by omega) hz54 (h_fgt (E := fun s => s 98 15 = tq48 98 15 ∧ s 98 16 = tq48 98 16 ∧ s 98 17 = tq48 98 17 ∧ s 98 18 = tq48 98 18 ∧ s 98 13 = tq48 98 13 ∧ s 98 14 = tq48 98 14 ∧ s 98 5 = σ2 98 5 ∧ s 98 6 = σ2 98 6 ∧ s 98 7 = σ2 98 7 ∧ s 98 8 = H49 ∧ s 98 9 = σ2 98 9 ∧ s 101 18 = ((σ2 101 18) + 1) ∧ s 101 25 = σ2 101 25 ∧ s 101 43 = σ2 101 43 ∧ s = h_up s51 101 18 ((σ2 101 18) + 1)) _ (ip_101_3 Is51 (by omega) (by omega)) (Fs51.up rfl) ⟨es51.1, es51.2.1, es51.2.2.1, es51.2.2.2.1, es51.2.2.2.2.1, es51.2.2.2.2.2.1, es51.2.2.2.2.2.2.1, es51.2.2.2.2.2.2.2.1, es51.2.2.2.2.2.2.2.2.1, es51.2.2.2.2.2.2.2.2.2.1, es51.2.2.2.2.2.2.2.2.2.2.1, rfl, es51.2.2.2.2.2.2.2.2.2.2.2.2.1, es51.2.2.2.2.2.2.2.2.2.2.2.2.2.1, rfl⟩ (fun s55 Is55 Fs55 (es55 : s55 98 15 = tq48 98 15 ∧ s55 98 16 = tq48 98 16 ∧ s55 98 17 = tq48 98 17 ∧ s55 98 18 = tq48 98 18 ∧ s55 98 13 = tq48 98 13 ∧ s55 98 14 = tq48 98 14 ∧ s55 98 5 = σ2 98 5 ∧ s55 98 6 = σ2 98 6 ∧ s55 98 7 = σ2 98 7 ∧ s55 98 8 = H49 ∧ s55 98 9 = σ2 98 9 ∧ s55 101 18 = ((σ2 101 18) + 1) ∧ s55 101 25 = σ2 101 25 ∧ s55 101 43 = σ2 101 43 ∧ s55 = h_up s51 101 18 ((σ2 101 18) + 1)) => ?_))
      clear es51
      have us55 := es55.2.2.2.2.2.2.2.2.2.2.2.2.2.2
      clear hz52
      refine d_toL (g_inj ns) hlw40 hRq48 (fun lvw56 memw56 hlw56 hRw56 => ?_)
      show h_T g_P (g_Y ns) 60 49 [(0, .ref 63), (1, .ref 69), (2, .int x2)] [.int rq48x] sq48 _
      refine h_istore_n (pc' := 50) (M := [(3, .int rq48x), (0, .ref 63), (1, .ref 69), (2, .int x2)]) rfl rfl rfl rfl ?_
      refine h_aload_n (pc' := 51) rfl rfl rfl ?_
      refine h_getI (pc' := 54) (v := sq48 63 2) rfl rfl rfl rfl rfl rfl (fun z57 hz57 => ?_)
      have tz57 := tf_63_2 Isq48
      refine h_zne (tg := 64) (pc' := 57) rfl rfl rfl hz57 (fun c58 => ?_) (fun c58 => absurd c58 (by omega))
      clear hz57
      exact h_wk [(0, .ref 63)] ⟨rfl, trivial⟩ (kx0 _ _ Isq48 Is55 Fsq48 Fs55 (Int.le_antisymm (by omega) (by omega)) (Int.le_antisymm (by omega) (by omega)) (Int.le_antisymm (by omega) (by omega)) (by omega) (by omega) (fun h => absurd h (by omega)) (Or.inl ⟨⟨by omega, by omega⟩, ⟨by omega, by omega⟩, Int.le_antisymm (by omega) (by omega), Int.le_antisymm (by omega) (by omega)⟩) _ _ (h_al_ok ⟨rfl, trivial⟩ hlw56) hRw56)
    · exfalso; omega
  · show h_T g_P (g_Y ns) 60 44 [(0, .ref 63), (1, .ref 69), (2, .int x2)] [] σ1 _
    refine h_aload_n (pc' := 45) rfl rfl rfl ?_
    refine h_iconst (pc' := 46) (x := (Int32.ofInt 5)) rfl rfl rfl ?_
    refine d_toM (g_inj ns) hl2 hR2 (fun lvw59 memw59 hlw59 hRw59 => ?_)
    show h_T g_P (g_Y ns) 151 33 [(0, .ref 98), (1, .int (Int32.ofInt 12)), (2, .int y2), (3, .int y3)] [] σ2 _
    refine h_aload_n (pc' := 34) rfl rfl rfl ?_
    refine h_getR (pc' := 37) rfl rfl rfl rfl rfl ?_
    refine h_iload_n (pc' := 38) rfl rfl rfl ?_
    refine h_iconst (pc' := 39) (x := (Int32.ofInt 2)) rfl rfl rfl ?_
    refine h_iload_n (pc' := 40) rfl rfl rfl ?_
    refine h_imul (pc' := 41) rfl rfl ci_2 hy2 rfl (by omega) (by omega) (fun z60 hz60 => ?_)
    refine h_iadd (pc' := 42) rfl rfl ci_12 hz60 rfl (by omega) (by omega) (fun z61 hz61 => ?_)
    clear hz60
    refine h_iload_n (pc' := 43) rfl rfl rfl ?_
    refine h_iast (pc' := 44) rfl rfl rfl rfl hz61 (by omega) (by omega) hy3 (h_fgt (E := fun s => s 98 15 = σ2 98 15 ∧ s 98 16 = σ2 98 16 ∧ s 98 17 = σ2 98 17 ∧ s 98 18 = σ2 98 18 ∧ s 98 13 = σ2 98 13 ∧ s 98 14 = σ2 98 14 ∧ s 98 5 = σ2 98 5 ∧ s 98 6 = σ2 98 6 ∧ s 98 7 = σ2 98 7 ∧ s 98 8 = σ2 98 8 ∧ s 98 9 = σ2 98 9 ∧ s 101 18 = σ2 101 18 ∧ s 101 25 = σ2 101 25 ∧ s 101 43 = σ2 101 43 ∧ s = h_up σ2 101 (12 + (2 * c2)) c3) _ (ip_101_2 hI2 (by omega) (by omega)) (F2.up rfl) ⟨rfl, rfl, rfl, rfl, rfl, rfl, rfl, rfl, rfl, rfl, rfl, h_up_n2 (by omega) rfl, h_up_n2 (by omega) rfl, h_up_n2 (by omega) rfl, rfl⟩ (fun s62 Is62 Fs62 (es62 : s62 98 15 = σ2 98 15 ∧ s62 98 16 = σ2 98 16 ∧ s62 98 17 = σ2 98 17 ∧ s62 98 18 = σ2 98 18 ∧ s62 98 13 = σ2 98 13 ∧ s62 98 14 = σ2 98 14 ∧ s62 98 5 = σ2 98 5 ∧ s62 98 6 = σ2 98 6 ∧ s62 98 7 = σ2 98 7 ∧ s62 98 8 = σ2 98 8 ∧ s62 98 9 = σ2 98 9 ∧ s62 101 18 = σ2 101 18 ∧ s62 101 25 = σ2 101 25 ∧ s62 101 43 = σ2 101 43 ∧ s62 = h_up σ2 101 (12 + (2 * c2)) c3) => ?_))
    have us62 := es62.2.2.2.2.2.2.2.2.2.2.2.2.2.2
    clear hz61
    refine h_aload_n (pc' := 45) rfl rfl rfl ?_
    refine h_getR (pc' := 48) rfl rfl rfl rfl rfl ?_
    refine h_iload_n (pc' := 49) rfl rfl rfl ?_
    refine h_iconst (pc' := 50) (x := (Int32.ofInt 2)) rfl rfl rfl ?_
    refine h_iload_n (pc' := 51) rfl rfl rfl ?_
    refine h_imul (pc' := 52) rfl rfl ci_2 hy2 rfl (by omega) (by omega) (fun z63 hz63 => ?_)
    refine h_iadd (pc' := 53) rfl rfl ci_12 hz63 rfl (by omega) (by omega) (fun z64 hz64 => ?_)
    clear hz63
    refine h_iconst (pc' := 54) (x := (Int32.ofInt 1)) rfl rfl rfl ?_
    refine h_iadd (pc' := 55) rfl rfl hz64 ci_1 rfl (by omega) (by omega) (fun z65 hz65 => ?_)
    clear hz64
    refine h_aload_n (pc' := 56) rfl rfl rfl ?_
    refine d_call (g_inj ns) (pc' := 59) (m := 150) (M := [(0, .ref 98)]) (rest := [.int z65, .ref 101]) ⟨false, _, _, _, _, _, _, rfl, rfl, rfl, rfl, rfl, rfl, rfl⟩ (fun lv66 hlv66 => ?_)
    refine h_aload_n (pc' := 1) rfl rfl rfl ?_
    refine h_iconst (pc' := 2) (x := (Int32.ofInt 0)) rfl rfl rfl ?_
    refine h_iconst (pc' := 3) (x := (Int32.ofInt 5)) rfl rfl rfl ?_
    refine d_pcall (g_inj ns) (m1 := 58) (pc1' := 49) (M1 := [(0, .ref 63), (1, .int (Int32.ofInt 5))]) (rest1 := []) (m2 := 149) (pc2' := 6) (M2 := [(0, .ref 98), (1, .int (Int32.ofInt 0)), (2, .int (Int32.ofInt 5))]) (rest2 := []) ⟨false, _, _, _, _, _, _, rfl, rfl, rfl, rfl, rfl, rfl, rfl⟩ ⟨false, _, _, _, _, _, _, rfl, rfl, rfl, rfl, rfl, rfl, rfl⟩ hRw59 ?_
    refine pp_num hI1 Is62 (hTL.fr (F1.mono rfl) (Fs62.mono rfl)) (Int32.ofInt 5) _ ci_5 (Int32.ofInt 5) _ ci_5 (Int.le_antisymm (by omega) (by omega)) (Int.le_antisymm (by omega) (by omega)) (Int.le_antisymm (by omega) (by omega)) (by omega) (Int.le_antisymm (by omega) (by omega)) (⟨by omega, by omega⟩) (Or.inr (Or.inr (Or.inr (Or.inl ⟨Int.le_antisymm (by omega) (by omega), Int.le_antisymm (by omega) (by omega), Int.le_antisymm (by omega) (by omega), Int.le_antisymm (by omega) (by omega), ⟨by omega, by omega⟩, ⟨by omega, by omega⟩, Int.le_antisymm (by omega) (by omega), by omega⟩)))) (fun rq67x bq67x hq67x rq67m bq67m hq67m sq67 tq67 Isq67 Itq67 Gsq67 Gtq67 yq67_0 yq67_1 yq67_2 yq67_3 yq67_4 pcq67 memq67 hRq67 => ?_)
    have Fsq67 := (Gsq67.mono (B := k_pl) rfl).tr F1
    have Ftq67 := (Gtq67.mono (B := k_pm) rfl).tr Fs62
    have esq67_6 : sq67 64 1 = σ1 64 1 := (Gsq67 64 1 rfl).trans rfl
    have esq67_7 : sq67 66 8 = σ1 66 8 := (Gsq67 66 8 rfl).trans rfl
    have esq67_8 : sq67 66 9 = σ1 66 9 := (Gsq67 66 9 rfl).trans rfl
    have esq67_9 : sq67 66 10 = σ1 66 10 := (Gsq67 66 10 rfl).trans rfl
    have esq67_10 : sq67 69 2 = σ1 69 2 := (Gsq67 69 2 rfl).trans rfl
    have esq67_11 : sq67 72 2 = σ1 72 2 := (Gsq67 72 2 rfl).trans rfl
    have esq67_12 : sq67 63 5 = σ1 63 5 := (Gsq67 63 5 rfl).trans rfl
    have etq67_6 : tq67 98 5 = σ2 98 5 := (Gtq67 98 5 rfl).trans es62.2.2.2.2.2.2.1
    have etq67_7 : tq67 98 6 = σ2 98 6 := (Gtq67 98 6 rfl).trans es62.2.2.2.2.2.2.2.1
    have etq67_8 : tq67 98 7 = σ2 98 7 := (Gtq67 98 7 rfl).trans es62.2.2.2.2.2.2.2.2.1
    have etq67_9 : tq67 98 8 = σ2 98 8 := (Gtq67 98 8 rfl).trans es62.2.2.2.2.2.2.2.2.2.1
    have etq67_10 : tq67 98 9 = σ2 98 9 := (Gtq67 98 9 rfl).trans es62.2.2.2.2.2.2.2.2.2.2.1
    have etq67_11 : tq67 101 18 = σ2 101 18 := (Gtq67 101 18 rfl).trans es62.2.2.2.2.2.2.2.2.2.2.2.1
    have etq67_12 : tq67 101 25 = σ2 101 25 := (Gtq67 101 25 rfl).trans es62.2.2.2.2.2.2.2.2.2.2.2.2.1
    have etq67_13 : tq67 101 43 = σ2 101 43 := (Gtq67 101 43 rfl).trans es62.2.2.2.2.2.2.2.2.2.2.2.2.2.1
    rcases pcq67 with pcq67 | pcq67
    · show h_T g_P (g_Y ns) 150 6 [(0, .ref 98)] [.int rq67m] tq67 _
      refine h_istore_n (pc' := 7) (M := [(1, .int rq67m), (0, .ref 98)]) rfl rfl rfl rfl ?_
      have oH68 : tq67 98 8 = σ2 98 8 := etq67_9
      have uH68 := tf_98_8 Itq67
      refine h_wk [(0, .ref 98), (1, .int rq67m)] ⟨rfl, rfl, trivial⟩ (lm_hi _ Itq67 rq67m _ hq67m (by omega) (fun H68 hH68 => (h_fgt (E := fun s => s 98 15 = tq67 98 15 ∧ s 98 16 = tq67 98 16 ∧ s 98 17 = tq67 98 17 ∧ s 98 18 = tq67 98 18 ∧ s 98 13 = tq67 98 13 ∧ s 98 14 = tq67 98 14 ∧ s 98 5 = σ2 98 5 ∧ s 98 6 = σ2 98 6 ∧ s 98 7 = σ2 98 7 ∧ s 98 8 = H68 ∧ s 98 9 = σ2 98 9 ∧ s 101 18 = σ2 101 18 ∧ s 101 25 = σ2 101 25 ∧ s 101 43 = σ2 101 43 ∧ s = h_up tq67 98 8 H68) _ (if_98_8 Itq67 (by omega)) (Ftq67.up rfl) ⟨rfl, rfl, rfl, rfl, rfl, rfl, etq67_6, etq67_7, etq67_8, rfl, etq67_10, etq67_11, etq67_12, etq67_13, rfl⟩ (fun s69 Is69 Fs69 (es69 : s69 98 15 = tq67 98 15 ∧ s69 98 16 = tq67 98 16 ∧ s69 98 17 = tq67 98 17 ∧ s69 98 18 = tq67 98 18 ∧ s69 98 13 = tq67 98 13 ∧ s69 98 14 = tq67 98 14 ∧ s69 98 5 = σ2 98 5 ∧ s69 98 6 = σ2 98 6 ∧ s69 98 7 = σ2 98 7 ∧ s69 98 8 = H68 ∧ s69 98 9 = σ2 98 9 ∧ s69 101 18 = σ2 101 18 ∧ s69 101 25 = σ2 101 25 ∧ s69 101 43 = σ2 101 43 ∧ s69 = h_up tq67 98 8 H68) => ?_))))
      have us69 := es69.2.2.2.2.2.2.2.2.2.2.2.2.2.2
      refine h_iload_n (pc' := 28) rfl rfl rfl ?_
      refine h_iret rfl rfl (d_ret hlv66 ?_)
      refine h_iast (pc' := 60) rfl rfl rfl rfl hz65 (by omega) (by omega) hq67m (h_fgt (E := fun s => s 98 15 = tq67 98 15 ∧ s 98 16 = tq67 98 16 ∧ s 98 17 = tq67 98 17 ∧ s 98 18 = tq67 98 18 ∧ s 98 13 = tq67 98 13 ∧ s 98 14 = tq67 98 14 ∧ s 98 5 = σ2 98 5 ∧ s 98 6 = σ2 98 6 ∧ s 98 7 = σ2 98 7 ∧ s 98 8 = H68 ∧ s 98 9 = σ2 98 9 ∧ s 101 18 = σ2 101 18 ∧ s 101 25 = σ2 101 25 ∧ s 101 43 = σ2 101 43 ∧ s = h_up s69 101 ((12 + (2 * c2)) + 1) bq67m) _ (ip_101_2 Is69 (by omega) (by omega)) (Fs69.up rfl) ⟨es69.1, es69.2.1, es69.2.2.1, es69.2.2.2.1, es69.2.2.2.2.1, es69.2.2.2.2.2.1, es69.2.2.2.2.2.2.1, es69.2.2.2.2.2.2.2.1, es69.2.2.2.2.2.2.2.2.1, es69.2.2.2.2.2.2.2.2.2.1, es69.2.2.2.2.2.2.2.2.2.2.1, h_up_n2 (by omega) es69.2.2.2.2.2.2.2.2.2.2.2.1, h_up_n2 (by omega) es69.2.2.2.2.2.2.2.2.2.2.2.2.1, h_up_n2 (by omega) es69.2.2.2.2.2.2.2.2.2.2.2.2.2.1, rfl⟩ (fun s70 Is70 Fs70 (es70 : s70 98 15 = tq67 98 15 ∧ s70 98 16 = tq67 98 16 ∧ s70 98 17 = tq67 98 17 ∧ s70 98 18 = tq67 98 18 ∧ s70 98 13 = tq67 98 13 ∧ s70 98 14 = tq67 98 14 ∧ s70 98 5 = σ2 98 5 ∧ s70 98 6 = σ2 98 6 ∧ s70 98 7 = σ2 98 7 ∧ s70 98 8 = H68 ∧ s70 98 9 = σ2 98 9 ∧ s70 101 18 = σ2 101 18 ∧ s70 101 25 = σ2 101 25 ∧ s70 101 43 = σ2 101 43 ∧ s70 = h_up s69 101 ((12 + (2 * c2)) + 1) bq67m) => ?_))
      clear es69
      have us70 := es70.2.2.2.2.2.2.2.2.2.2.2.2.2.2
      clear hq67m hz65
      refine h_aload_n (pc' := 61) rfl rfl rfl ?_
      refine h_getR (pc' := 64) rfl rfl rfl rfl rfl ?_
      refine h_iload_n (pc' := 65) rfl rfl rfl ?_
      refine h_bipush (pc' := 67) (x := (Int32.ofInt 6)) rfl rfl cb_6 ?_
      refine h_iadd (pc' := 68) (c := 18) rfl rfl ci_12 ci_6 rfl (by omega) (by omega) (fun z71 hz71 => ?_)
      refine h_dup2 (pc' := 69) rfl rfl rfl ?_
      refine h_iald (pc' := 70) (v := σ2 101 18) rfl rfl rfl hz71 (by omega) (by omega) es70.2.2.2.2.2.2.2.2.2.2.2.1 (fun z72 hz72 => ?_)
      have tz72 := ty_101_3 hI2 18 (by omega)
      refine h_iconst (pc' := 71) (x := (Int32.ofInt 1)) rfl rfl rfl ?_
      refine h_iadd (pc' := 72) rfl rfl hz72 ci_1 rfl (by omega) (by omega) (fun z73 hz73 => ?_)
      clear hz72
      refine h_iast (pc' := 73) rfl rfl rfl rfl hz71 (by omega) (by omega) hz73 (h_fgt (E := fun s => s 98 15 = tq67 98 15 ∧ s 98 16 = tq67 98 16 ∧ s 98 17 = tq67 98 17 ∧ s 98 18 = tq67 98 18 ∧ s 98 13 = tq67 98 13 ∧ s 98 14 = tq67 98 14 ∧ s 98 5 = σ2 98 5 ∧ s 98 6 = σ2 98 6 ∧ s 98 7 = σ2 98 7 ∧ s 98 8 = H68 ∧ s 98 9 = σ2 98 9 ∧ s 101 18 = ((σ2 101 18) + 1) ∧ s 101 25 = σ2 101 25 ∧ s 101 43 = σ2 101 43 ∧ s = h_up s70 101 18 ((σ2 101 18) + 1)) _ (ip_101_3 Is70 (by omega) (by omega)) (Fs70.up rfl) ⟨es70.1, es70.2.1, es70.2.2.1, es70.2.2.2.1, es70.2.2.2.2.1, es70.2.2.2.2.2.1, es70.2.2.2.2.2.2.1, es70.2.2.2.2.2.2.2.1, es70.2.2.2.2.2.2.2.2.1, es70.2.2.2.2.2.2.2.2.2.1, es70.2.2.2.2.2.2.2.2.2.2.1, rfl, es70.2.2.2.2.2.2.2.2.2.2.2.2.1, es70.2.2.2.2.2.2.2.2.2.2.2.2.2.1, rfl⟩ (fun s74 Is74 Fs74 (es74 : s74 98 15 = tq67 98 15 ∧ s74 98 16 = tq67 98 16 ∧ s74 98 17 = tq67 98 17 ∧ s74 98 18 = tq67 98 18 ∧ s74 98 13 = tq67 98 13 ∧ s74 98 14 = tq67 98 14 ∧ s74 98 5 = σ2 98 5 ∧ s74 98 6 = σ2 98 6 ∧ s74 98 7 = σ2 98 7 ∧ s74 98 8 = H68 ∧ s74 98 9 = σ2 98 9 ∧ s74 101 18 = ((σ2 101 18) + 1) ∧ s74 101 25 = σ2 101 25 ∧ s74 101 43 = σ2 101 43 ∧ s74 = h_up s70 101 18 ((σ2 101 18) + 1)) => ?_))
      clear es70
      have us74 := es74.2.2.2.2.2.2.2.2.2.2.2.2.2.2
      clear hz71
      refine d_toL (g_inj ns) hlw59 hRq67 (fun lvw75 memw75 hlw75 hRw75 => ?_)
      show h_T g_P (g_Y ns) 60 49 [(0, .ref 63), (1, .ref 69), (2, .int x2)] [.int rq67x] sq67 _
      refine h_istore_n (pc' := 50) (M := [(3, .int rq67x), (0, .ref 63), (1, .ref 69), (2, .int x2)]) rfl rfl rfl rfl ?_
      refine h_aload_n (pc' := 51) rfl rfl rfl ?_
      refine h_getI (pc' := 54) (v := sq67 63 2) rfl rfl rfl rfl rfl rfl (fun z76 hz76 => ?_)
      have tz76 := tf_63_2 Isq67
      refine h_zne (tg := 64) (pc' := 57) rfl rfl rfl hz76 (fun c77 => ?_) (fun c77 => absurd c77 (by omega))
      clear hz76
      exact h_wk [(0, .ref 63)] ⟨rfl, trivial⟩ (kx0 _ _ Isq67 Is74 Fsq67 Fs74 (Int.le_antisymm (by omega) (by omega)) (Int.le_antisymm (by omega) (by omega)) (Int.le_antisymm (by omega) (by omega)) (by omega) (by omega) (fun h => absurd h (by omega)) (Or.inl ⟨⟨by omega, by omega⟩, ⟨by omega, by omega⟩, Int.le_antisymm (by omega) (by omega), Int.le_antisymm (by omega) (by omega)⟩) _ _ (h_al_ok ⟨rfl, trivial⟩ hlw75) hRw75)
    · show h_T g_P (g_Y ns) 150 6 [(0, .ref 98)] [.int rq67m] tq67 _
      refine h_istore_n (pc' := 7) (M := [(1, .int rq67m), (0, .ref 98)]) rfl rfl rfl rfl ?_
      have oH78 : tq67 98 8 = σ2 98 8 := etq67_9
      have uH78 := tf_98_8 Itq67
      refine h_wk [(0, .ref 98), (1, .int rq67m)] ⟨rfl, rfl, trivial⟩ (lm_hi _ Itq67 rq67m _ hq67m (by omega) (fun H78 hH78 => (h_fgt (E := fun s => s 98 15 = tq67 98 15 ∧ s 98 16 = tq67 98 16 ∧ s 98 17 = tq67 98 17 ∧ s 98 18 = tq67 98 18 ∧ s 98 13 = tq67 98 13 ∧ s 98 14 = tq67 98 14 ∧ s 98 5 = σ2 98 5 ∧ s 98 6 = σ2 98 6 ∧ s 98 7 = σ2 98 7 ∧ s 98 8 = H78 ∧ s 98 9 = σ2 98 9 ∧ s 101 18 = σ2 101 18 ∧ s 101 25 = σ2 101 25 ∧ s 101 43 = σ2 101 43 ∧ s = h_up tq67 98 8 H78) _ (if_98_8 Itq67 (by omega)) (Ftq67.up rfl) ⟨rfl, rfl, rfl, rfl, rfl, rfl, etq67_6, etq67_7, etq67_8, rfl, etq67_10, etq67_11, etq67_12, etq67_13, rfl⟩ (fun s79 Is79 Fs79 (es79 : s79 98 15 = tq67 98 15 ∧ s79 98 16 = tq67 98 16 ∧ s79 98 17 = tq67 98 17 ∧ s79 98 18 = tq67 98 18 ∧ s79 98 13 = tq67 98 13 ∧ s79 98 14 = tq67 98 14 ∧ s79 98 5 = σ2 98 5 ∧ s79 98 6 = σ2 98 6 ∧ s79 98 7 = σ2 98 7 ∧ s79 98 8 = H78 ∧ s79 98 9 = σ2 98 9 ∧ s79 101 18 = σ2 101 18 ∧ s79 101 25 = σ2 101 25 ∧ s79 101 43 = σ2 101 43 ∧ s79 = h_up tq67 98 8 H78) => ?_))))
      have us79 := es79.2.2.2.2.2.2.2.2.2.2.2.2.2.2
      refine h_iload_n (pc' := 28) rfl rfl rfl ?_
      refine h_iret rfl rfl (d_ret hlv66 ?_)
      refine h_iast (pc' := 60) rfl rfl rfl rfl hz65 (by omega) (by omega) hq67m (h_fgt (E := fun s => s 98 15 = tq67 98 15 ∧ s 98 16 = tq67 98 16 ∧ s 98 17 = tq67 98 17 ∧ s 98 18 = tq67 98 18 ∧ s 98 13 = tq67 98 13 ∧ s 98 14 = tq67 98 14 ∧ s 98 5 = σ2 98 5 ∧ s 98 6 = σ2 98 6 ∧ s 98 7 = σ2 98 7 ∧ s 98 8 = H78 ∧ s 98 9 = σ2 98 9 ∧ s 101 18 = σ2 101 18 ∧ s 101 25 = σ2 101 25 ∧ s 101 43 = σ2 101 43 ∧ s = h_up s79 101 ((12 + (2 * c2)) + 1) bq67m) _ (ip_101_2 Is79 (by omega) (by omega)) (Fs79.up rfl) ⟨es79.1, es79.2.1, es79.2.2.1, es79.2.2.2.1, es79.2.2.2.2.1, es79.2.2.2.2.2.1, es79.2.2.2.2.2.2.1, es79.2.2.2.2.2.2.2.1, es79.2.2.2.2.2.2.2.2.1, es79.2.2.2.2.2.2.2.2.2.1, es79.2.2.2.2.2.2.2.2.2.2.1, h_up_n2 (by omega) es79.2.2.2.2.2.2.2.2.2.2.2.1, h_up_n2 (by omega) es79.2.2.2.2.2.2.2.2.2.2.2.2.1, h_up_n2 (by omega) es79.2.2.2.2.2.2.2.2.2.2.2.2.2.1, rfl⟩ (fun s80 Is80 Fs80 (es80 : s80 98 15 = tq67 98 15 ∧ s80 98 16 = tq67 98 16 ∧ s80 98 17 = tq67 98 17 ∧ s80 98 18 = tq67 98 18 ∧ s80 98 13 = tq67 98 13 ∧ s80 98 14 = tq67 98 14 ∧ s80 98 5 = σ2 98 5 ∧ s80 98 6 = σ2 98 6 ∧ s80 98 7 = σ2 98 7 ∧ s80 98 8 = H78 ∧ s80 98 9 = σ2 98 9 ∧ s80 101 18 = σ2 101 18 ∧ s80 101 25 = σ2 101 25 ∧ s80 101 43 = σ2 101 43 ∧ s80 = h_up s79 101 ((12 + (2 * c2)) + 1) bq67m) => ?_))
      clear es79
      have us80 := es80.2.2.2.2.2.2.2.2.2.2.2.2.2.2
      clear hq67m hz65
      refine h_aload_n (pc' := 61) rfl rfl rfl ?_
      refine h_getR (pc' := 64) rfl rfl rfl rfl rfl ?_
      refine h_iload_n (pc' := 65) rfl rfl rfl ?_
      refine h_bipush (pc' := 67) (x := (Int32.ofInt 6)) rfl rfl cb_6 ?_
      refine h_iadd (pc' := 68) (c := 18) rfl rfl ci_12 ci_6 rfl (by omega) (by omega) (fun z81 hz81 => ?_)
      refine h_dup2 (pc' := 69) rfl rfl rfl ?_
      refine h_iald (pc' := 70) (v := σ2 101 18) rfl rfl rfl hz81 (by omega) (by omega) es80.2.2.2.2.2.2.2.2.2.2.2.1 (fun z82 hz82 => ?_)
      have tz82 := ty_101_3 hI2 18 (by omega)
      refine h_iconst (pc' := 71) (x := (Int32.ofInt 1)) rfl rfl rfl ?_
      refine h_iadd (pc' := 72) rfl rfl hz82 ci_1 rfl (by omega) (by omega) (fun z83 hz83 => ?_)
      clear hz82
      refine h_iast (pc' := 73) rfl rfl rfl rfl hz81 (by omega) (by omega) hz83 (h_fgt (E := fun s => s 98 15 = tq67 98 15 ∧ s 98 16 = tq67 98 16 ∧ s 98 17 = tq67 98 17 ∧ s 98 18 = tq67 98 18 ∧ s 98 13 = tq67 98 13 ∧ s 98 14 = tq67 98 14 ∧ s 98 5 = σ2 98 5 ∧ s 98 6 = σ2 98 6 ∧ s 98 7 = σ2 98 7 ∧ s 98 8 = H78 ∧ s 98 9 = σ2 98 9 ∧ s 101 18 = ((σ2 101 18) + 1) ∧ s 101 25 = σ2 101 25 ∧ s 101 43 = σ2 101 43 ∧ s = h_up s80 101 18 ((σ2 101 18) + 1)) _ (ip_101_3 Is80 (by omega) (by omega)) (Fs80.up rfl) ⟨es80.1, es80.2.1, es80.2.2.1, es80.2.2.2.1, es80.2.2.2.2.1, es80.2.2.2.2.2.1, es80.2.2.2.2.2.2.1, es80.2.2.2.2.2.2.2.1, es80.2.2.2.2.2.2.2.2.1, es80.2.2.2.2.2.2.2.2.2.1, es80.2.2.2.2.2.2.2.2.2.2.1, rfl, es80.2.2.2.2.2.2.2.2.2.2.2.2.1, es80.2.2.2.2.2.2.2.2.2.2.2.2.2.1, rfl⟩ (fun s84 Is84 Fs84 (es84 : s84 98 15 = tq67 98 15 ∧ s84 98 16 = tq67 98 16 ∧ s84 98 17 = tq67 98 17 ∧ s84 98 18 = tq67 98 18 ∧ s84 98 13 = tq67 98 13 ∧ s84 98 14 = tq67 98 14 ∧ s84 98 5 = σ2 98 5 ∧ s84 98 6 = σ2 98 6 ∧ s84 98 7 = σ2 98 7 ∧ s84 98 8 = H78 ∧ s84 98 9 = σ2 98 9 ∧ s84 101 18 = ((σ2 101 18) + 1) ∧ s84 101 25 = σ2 101 25 ∧ s84 101 43 = σ2 101 43 ∧ s84 = h_up s80 101 18 ((σ2 101 18) + 1)) => ?_))
      clear es80
      have us84 := es84.2.2.2.2.2.2.2.2.2.2.2.2.2.2
      clear hz81
      refine d_toL (g_inj ns) hlw59 hRq67 (fun lvw85 memw85 hlw85 hRw85 => ?_)
      show h_T g_P (g_Y ns) 60 49 [(0, .ref 63), (1, .ref 69), (2, .int x2)] [.int rq67x] sq67 _
      refine h_istore_n (pc' := 50) (M := [(3, .int rq67x), (0, .ref 63), (1, .ref 69), (2, .int x2)]) rfl rfl rfl rfl ?_
      refine h_aload_n (pc' := 51) rfl rfl rfl ?_
      refine h_getI (pc' := 54) (v := sq67 63 2) rfl rfl rfl rfl rfl rfl (fun z86 hz86 => ?_)
      have tz86 := tf_63_2 Isq67
      refine h_zne (tg := 64) (pc' := 57) rfl rfl rfl hz86 (fun c87 => absurd (Int.le_antisymm (by omega) (by omega)) c87) (fun c87 => ?_)
      clear hz86
      refine h_aload_n (pc' := 58) rfl rfl rfl ?_
      refine h_iload_n (pc' := 59) rfl rfl rfl ?_
      refine h_iload_n (pc' := 60) rfl rfl rfl ?_
      refine h_call (sp := false) (pc' := 63) (M := [(0, .ref 69), (1, .int x2), (2, .int rq67x)]) rfl rfl rfl rfl rfl rfl rfl rfl ?_
      refine h_aload_n (pc' := 1) rfl rfl rfl ?_
      refine h_call (sp := false) (pc' := 4) (M := [(0, .ref 69)]) rfl rfl rfl rfl rfl rfl rfl rfl ?_
      refine h_aload_n (pc' := 1) rfl rfl rfl ?_
      refine h_getI (pc' := 4) (v := σ1 69 2) rfl rfl rfl rfl rfl esq67_10 (fun z88 hz88 => ?_)
      have tz88 := tf_69_2 hI1
      refine h_iconst (pc' := 5) (x := (Int32.ofInt 3)) rfl rfl rfl ?_
      refine h_clt (tg := 12) (pc' := 8) rfl rfl rfl hz88 ci_3 (fun c89 => ?_) (fun c89 => absurd c89 (by omega))
      clear hz88
      refine h_iconst (pc' := 13) (x := (Int32.ofInt 0)) rfl rfl rfl ?_
      refine h_zret rfl rfl ci_0 (by omega) (h_Kv ?_)
      refine h_zeq (tg := 9) (pc' := 7) rfl rfl rfl ci_0 (fun c90 => ?_) (fun c90 => absurd (Int.le_antisymm (by omega) (by omega)) c90)
      refine h_aload_n (pc' := 10) rfl rfl rfl ?_
      refine h_getR (pc' := 13) rfl rfl rfl rfl rfl ?_
      refine h_aload_n (pc' := 14) rfl rfl rfl ?_
      refine h_getI (pc' := 17) (v := σ1 69 2) rfl rfl rfl rfl rfl esq67_10 (fun z91 hz91 => ?_)
      refine h_iload_n (pc' := 18) rfl rfl rfl ?_
      refine h_iast (pc' := 19) rfl rfl rfl rfl hz91 (by omega) (by omega) hx2 (h_fgt (E := fun s => s 64 2 = sq67 64 2 ∧ s 64 4 = sq67 64 4 ∧ s 64 3 = sq67 64 3 ∧ s 64 5 = sq67 64 5 ∧ s 63 2 = sq67 63 2 ∧ s 63 3 = sq67 63 3 ∧ s 64 1 = σ1 64 1 ∧ s 66 8 = σ1 66 8 ∧ s 66 9 = σ1 66 9 ∧ s 66 10 = σ1 66 10 ∧ s 69 2 = σ1 69 2 ∧ s 72 2 = σ1 72 2 ∧ s 63 5 = σ1 63 5 ∧ s = h_up sq67 70 (σ1 69 2) a2) _ (in_70 Isq67 (by omega)) (Fsq67.up rfl) ⟨rfl, rfl, rfl, rfl, rfl, rfl, esq67_6, esq67_7, esq67_8, esq67_9, esq67_10, esq67_11, esq67_12, rfl⟩ (fun s92 Is92 Fs92 (es92 : s92 64 2 = sq67 64 2 ∧ s92 64 4 = sq67 64 4 ∧ s92 64 3 = sq67 64 3 ∧ s92 64 5 = sq67 64 5 ∧ s92 63 2 = sq67 63 2 ∧ s92 63 3 = sq67 63 3 ∧ s92 64 1 = σ1 64 1 ∧ s92 66 8 = σ1 66 8 ∧ s92 66 9 = σ1 66 9 ∧ s92 66 10 = σ1 66 10 ∧ s92 69 2 = σ1 69 2 ∧ s92 72 2 = σ1 72 2 ∧ s92 63 5 = σ1 63 5 ∧ s92 = h_up sq67 70 (σ1 69 2) a2) => ?_))
      have us92 := es92.2.2.2.2.2.2.2.2.2.2.2.2.2
      clear hz91
      refine h_aload_n (pc' := 20) rfl rfl rfl ?_
      refine h_getR (pc' := 23) rfl rfl rfl rfl rfl ?_
      refine h_aload_n (pc' := 24) rfl rfl rfl ?_
      refine h_getI (pc' := 27) (v := σ1 69 2) rfl rfl rfl rfl rfl es92.2.2.2.2.2.2.2.2.2.2.1 (fun z93 hz93 => ?_)
      refine h_iload_n (pc' := 28) rfl rfl rfl ?_
      refine h_iast (pc' := 29) rfl rfl rfl rfl hz93 (by omega) (by omega) hq67x (h_fgt (E := fun s => s 64 2 = sq67 64 2 ∧ s 64 4 = sq67 64 4 ∧ s 64 3 = sq67 64 3 ∧ s 64 5 = sq67 64 5 ∧ s 63 2 = sq67 63 2 ∧ s 63 3 = sq67 63 3 ∧ s 64 1 = σ1 64 1 ∧ s 66 8 = σ1 66 8 ∧ s 66 9 = σ1 66 9 ∧ s 66 10 = σ1 66 10 ∧ s 69 2 = σ1 69 2 ∧ s 72 2 = σ1 72 2 ∧ s 63 5 = σ1 63 5 ∧ s = h_up s92 71 (σ1 69 2) bq67x) _ (in_71 Is92 (by omega)) (Fs92.up rfl) ⟨es92.1, es92.2.1, es92.2.2.1, es92.2.2.2.1, es92.2.2.2.2.1, es92.2.2.2.2.2.1, es92.2.2.2.2.2.2.1, es92.2.2.2.2.2.2.2.1, es92.2.2.2.2.2.2.2.2.1, es92.2.2.2.2.2.2.2.2.2.1, es92.2.2.2.2.2.2.2.2.2.2.1, es92.2.2.2.2.2.2.2.2.2.2.2.1, es92.2.2.2.2.2.2.2.2.2.2.2.2.1, rfl⟩ (fun s94 Is94 Fs94 (es94 : s94 64 2 = sq67 64 2 ∧ s94 64 4 = sq67 64 4 ∧ s94 64 3 = sq67 64 3 ∧ s94 64 5 = sq67 64 5 ∧ s94 63 2 = sq67 63 2 ∧ s94 63 3 = sq67 63 3 ∧ s94 64 1 = σ1 64 1 ∧ s94 66 8 = σ1 66 8 ∧ s94 66 9 = σ1 66 9 ∧ s94 66 10 = σ1 66 10 ∧ s94 69 2 = σ1 69 2 ∧ s94 72 2 = σ1 72 2 ∧ s94 63 5 = σ1 63 5 ∧ s94 = h_up s92 71 (σ1 69 2) bq67x) => ?_))
      clear es92
      have us94 := es94.2.2.2.2.2.2.2.2.2.2.2.2.2
      clear hz93
      refine h_aload_n (pc' := 30) rfl rfl rfl ?_
      refine h_dup (pc' := 31) rfl rfl rfl ?_
      refine h_getI (pc' := 34) (v := σ1 69 2) rfl rfl rfl rfl rfl es94.2.2.2.2.2.2.2.2.2.2.1 (fun z95 hz95 => ?_)
      refine h_iconst (pc' := 35) (x := (Int32.ofInt 1)) rfl rfl rfl ?_
      refine h_iadd (pc' := 36) rfl rfl hz95 ci_1 rfl (by omega) (by omega) (fun z96 hz96 => ?_)
      clear hz95
      refine h_put (pc' := 39) rfl rfl rfl rfl rfl rfl hz96 rfl (h_fgt (E := fun s => s 64 2 = sq67 64 2 ∧ s 64 4 = sq67 64 4 ∧ s 64 3 = sq67 64 3 ∧ s 64 5 = sq67 64 5 ∧ s 63 2 = sq67 63 2 ∧ s 63 3 = sq67 63 3 ∧ s 64 1 = σ1 64 1 ∧ s 66 8 = σ1 66 8 ∧ s 66 9 = σ1 66 9 ∧ s 66 10 = σ1 66 10 ∧ s 69 2 = ((σ1 69 2) + 1) ∧ s 72 2 = σ1 72 2 ∧ s 63 5 = σ1 63 5 ∧ s = h_up s94 69 2 ((σ1 69 2) + 1)) _ (if_69_2 Is94 (by omega)) (Fs94.up rfl) ⟨es94.1, es94.2.1, es94.2.2.1, es94.2.2.2.1, es94.2.2.2.2.1, es94.2.2.2.2.2.1, es94.2.2.2.2.2.2.1, es94.2.2.2.2.2.2.2.1, es94.2.2.2.2.2.2.2.2.1, es94.2.2.2.2.2.2.2.2.2.1, rfl, es94.2.2.2.2.2.2.2.2.2.2.2.1, es94.2.2.2.2.2.2.2.2.2.2.2.2.1, rfl⟩ (fun s97 Is97 Fs97 (es97 : s97 64 2 = sq67 64 2 ∧ s97 64 4 = sq67 64 4 ∧ s97 64 3 = sq67 64 3 ∧ s97 64 5 = sq67 64 5 ∧ s97 63 2 = sq67 63 2 ∧ s97 63 3 = sq67 63 3 ∧ s97 64 1 = σ1 64 1 ∧ s97 66 8 = σ1 66 8 ∧ s97 66 9 = σ1 66 9 ∧ s97 66 10 = σ1 66 10 ∧ s97 69 2 = ((σ1 69 2) + 1) ∧ s97 72 2 = σ1 72 2 ∧ s97 63 5 = σ1 63 5 ∧ s97 = h_up s94 69 2 ((σ1 69 2) + 1)) => ?_))
      clear es94
      have us97 := es97.2.2.2.2.2.2.2.2.2.2.2.2.2
      refine h_iconst (pc' := 40) (x := (Int32.ofInt 1)) rfl rfl rfl ?_
      refine h_zret rfl rfl ci_1 (by omega) (h_Kv ?_)
      refine h_pop (pc' := 64) rfl rfl rfl ?_
      exact h_wk [(0, .ref 63)] ⟨rfl, trivial⟩ (kx0 _ _ Is97 Is84 Fs97 Fs84 (Int.le_antisymm (by omega) (by omega)) (Int.le_antisymm (by omega) (by omega)) (Int.le_antisymm (by omega) (by omega)) (by omega) (by omega) (fun _ => d_mk (es97.2.2.2.2.2.2.2.1) (es97.2.2.2.2.2.2.2.2.1) (es97.2.2.2.2.2.2.2.2.2.1) (es97.2.2.2.2.2.2.2.2.2.2.1) (es97.2.2.2.2.2.2.2.2.2.2.2.1) (es97.2.2.2.2.2.2.2.2.2.2.2.2.1) (fun j => (h_upo us97 rfl j).trans ((h_upo us94 rfl j).trans ((h_upo us92 rfl j).trans ((Gsq67 67 j rfl))))) (fun j => (h_upo us97 rfl j).trans ((h_upo us94 rfl j).trans ((h_upo us92 rfl j).trans ((Gsq67 68 j rfl))))) (fun j => (h_upo us97 rfl j).trans ((h_upo us94 rfl j).trans ((h_upi us92 j).trans (congrArg (fun z => if j = (σ1 69 2) then a2 else z) ((Gsq67 70 j rfl)))))) (fun j => (h_upo us97 rfl j).trans ((h_upi us94 j).trans (congrArg (fun z => if j = (σ1 69 2) then bq67x else z) ((h_upo us92 rfl j).trans ((Gsq67 71 j rfl)))))) (fun j => (h_upo us97 rfl j).trans ((h_upo us94 rfl j).trans ((h_upo us92 rfl j).trans ((Gsq67 73 j rfl))))) (fun j => (h_upo us97 rfl j).trans ((h_upo us94 rfl j).trans ((h_upo us92 rfl j).trans ((Gsq67 74 j rfl))))) (fun j => (h_upo us97 rfl j).trans ((h_upo us94 rfl j).trans ((h_upo us92 rfl j).trans ((Gsq67 75 j rfl))))) (fun j => (h_upo us97 rfl j).trans ((h_upo us94 rfl j).trans ((h_upo us92 rfl j).trans ((Gsq67 76 j rfl))))) (fun j => (h_upo us97 rfl j).trans ((h_upo us94 rfl j).trans ((h_upo us92 rfl j).trans ((Gsq67 77 j rfl))))) (fun j => (h_upo us97 rfl j).trans ((h_upo us94 rfl j).trans ((h_upo us92 rfl j).trans ((Gsq67 78 j rfl))))) (es84.2.2.2.2.2.2.1) (es84.2.2.2.2.2.2.2.1) (es84.2.2.2.2.2.2.2.2.1) (es84.2.2.2.2.2.2.2.2.2.1) (es84.2.2.2.2.2.2.2.2.2.2.1) (fun j => (h_upi us84 j).trans (congrArg (fun z => if j = 18 then ((σ2 101 18) + 1) else z) ((h_upi us80 j).trans (congrArg (fun z => if j = ((12 + (2 * c2)) + 1) then bq67m else z) ((h_upo us79 rfl j).trans ((Gtq67 101 j rfl).trans ((h_upi us62 j)))))))) (r_mar pr10 (by omega) (by omega) (by omega) (by omega) (by omega) (by omega) (by omega) (by omega) (by omega) (by omega) (by omega) (by omega) (by omega) (by omega) (by omega) (by omega) (by omega))) (pcq67.elim (fun pcq67 => (Or.inr (Or.inl ⟨Int.le_antisymm (by omega) (by omega), Int.le_antisymm (by omega) (by omega), Int.le_antisymm (by omega) (by omega), Int.le_antisymm (by omega) (by omega), Int.le_antisymm (by omega) (by omega)⟩))) (fun pcq67 => (pcq67.elim (fun pcq67 => (Or.inr (Or.inr (Or.inl ⟨Int.le_antisymm (by omega) (by omega), Int.le_antisymm (by omega) (by omega), Int.le_antisymm (by omega) (by omega), Int.le_antisymm (by omega) (by omega), by omega⟩)))) (fun pcq67 => (pcq67.elim (fun pcq67 => (Or.inr (Or.inr (Or.inr (Or.inl ⟨Int.le_antisymm (by omega) (by omega), Int.le_antisymm (by omega) (by omega), Int.le_antisymm (by omega) (by omega), Int.le_antisymm (by omega) (by omega), ⟨by omega, by omega⟩, ⟨by omega, by omega⟩, Int.le_antisymm (by omega) (by omega), by omega⟩))))) (fun pcq67 => (Or.inr (Or.inr (Or.inr (Or.inr ⟨Int.le_antisymm (by omega) (by omega), Int.le_antisymm (by omega) (by omega), Int.le_antisymm (by omega) (by omega), Int.le_antisymm (by omega) (by omega), by omega, by omega⟩)))))))))) _ _ (h_al_ok ⟨rfl, trivial⟩ hlw85) hRw85)
  · show h_T g_P (g_Y ns) 60 44 [(0, .ref 63), (1, .ref 69), (2, .int x2)] [] σ1 _
    refine h_aload_n (pc' := 45) rfl rfl rfl ?_
    refine h_iconst (pc' := 46) (x := (Int32.ofInt 5)) rfl rfl rfl ?_
    refine d_toM (g_inj ns) hl2 hR2 (fun lvw98 memw98 hlw98 hRw98 => ?_)
    show h_T g_P (g_Y ns) 151 33 [(0, .ref 98), (1, .int (Int32.ofInt 12)), (2, .int y2), (3, .int y3)] [] σ2 _
    refine h_aload_n (pc' := 34) rfl rfl rfl ?_
    refine h_getR (pc' := 37) rfl rfl rfl rfl rfl ?_
    refine h_iload_n (pc' := 38) rfl rfl rfl ?_
    refine h_iconst (pc' := 39) (x := (Int32.ofInt 2)) rfl rfl rfl ?_
    refine h_iload_n (pc' := 40) rfl rfl rfl ?_
    refine h_imul (pc' := 41) rfl rfl ci_2 hy2 rfl (by omega) (by omega) (fun z99 hz99 => ?_)
    refine h_iadd (pc' := 42) rfl rfl ci_12 hz99 rfl (by omega) (by omega) (fun z100 hz100 => ?_)
    clear hz99
    refine h_iload_n (pc' := 43) rfl rfl rfl ?_
    refine h_iast (pc' := 44) rfl rfl rfl rfl hz100 (by omega) (by omega) hy3 (h_fgt (E := fun s => s 98 15 = σ2 98 15 ∧ s 98 16 = σ2 98 16 ∧ s 98 17 = σ2 98 17 ∧ s 98 18 = σ2 98 18 ∧ s 98 13 = σ2 98 13 ∧ s 98 14 = σ2 98 14 ∧ s 98 5 = σ2 98 5 ∧ s 98 6 = σ2 98 6 ∧ s 98 7 = σ2 98 7 ∧ s 98 8 = σ2 98 8 ∧ s 98 9 = σ2 98 9 ∧ s 101 18 = σ2 101 18 ∧ s 101 25 = σ2 101 25 ∧ s 101 43 = σ2 101 43 ∧ s = h_up σ2 101 (12 + (2 * c2)) c3) _ (ip_101_2 hI2 (by omega) (by omega)) (F2.up rfl) ⟨rfl, rfl, rfl, rfl, rfl, rfl, rfl, rfl, rfl, rfl, rfl, h_up_n2 (by omega) rfl, h_up_n2 (by omega) rfl, h_up_n2 (by omega) rfl, rfl⟩ (fun s101 Is101 Fs101 (es101 : s101 98 15 = σ2 98 15 ∧ s101 98 16 = σ2 98 16 ∧ s101 98 17 = σ2 98 17 ∧ s101 98 18 = σ2 98 18 ∧ s101 98 13 = σ2 98 13 ∧ s101 98 14 = σ2 98 14 ∧ s101 98 5 = σ2 98 5 ∧ s101 98 6 = σ2 98 6 ∧ s101 98 7 = σ2 98 7 ∧ s101 98 8 = σ2 98 8 ∧ s101 98 9 = σ2 98 9 ∧ s101 101 18 = σ2 101 18 ∧ s101 101 25 = σ2 101 25 ∧ s101 101 43 = σ2 101 43 ∧ s101 = h_up σ2 101 (12 + (2 * c2)) c3) => ?_))
    have us101 := es101.2.2.2.2.2.2.2.2.2.2.2.2.2.2
    clear hz100
    refine h_aload_n (pc' := 45) rfl rfl rfl ?_
    refine h_getR (pc' := 48) rfl rfl rfl rfl rfl ?_
    refine h_iload_n (pc' := 49) rfl rfl rfl ?_
    refine h_iconst (pc' := 50) (x := (Int32.ofInt 2)) rfl rfl rfl ?_
    refine h_iload_n (pc' := 51) rfl rfl rfl ?_
    refine h_imul (pc' := 52) rfl rfl ci_2 hy2 rfl (by omega) (by omega) (fun z102 hz102 => ?_)
    refine h_iadd (pc' := 53) rfl rfl ci_12 hz102 rfl (by omega) (by omega) (fun z103 hz103 => ?_)
    clear hz102
    refine h_iconst (pc' := 54) (x := (Int32.ofInt 1)) rfl rfl rfl ?_
    refine h_iadd (pc' := 55) rfl rfl hz103 ci_1 rfl (by omega) (by omega) (fun z104 hz104 => ?_)
    clear hz103
    refine h_aload_n (pc' := 56) rfl rfl rfl ?_
    refine d_call (g_inj ns) (pc' := 59) (m := 150) (M := [(0, .ref 98)]) (rest := [.int z104, .ref 101]) ⟨false, _, _, _, _, _, _, rfl, rfl, rfl, rfl, rfl, rfl, rfl⟩ (fun lv105 hlv105 => ?_)
    refine h_aload_n (pc' := 1) rfl rfl rfl ?_
    refine h_iconst (pc' := 2) (x := (Int32.ofInt 0)) rfl rfl rfl ?_
    refine h_iconst (pc' := 3) (x := (Int32.ofInt 5)) rfl rfl rfl ?_
    refine d_pcall (g_inj ns) (m1 := 58) (pc1' := 49) (M1 := [(0, .ref 63), (1, .int (Int32.ofInt 5))]) (rest1 := []) (m2 := 149) (pc2' := 6) (M2 := [(0, .ref 98), (1, .int (Int32.ofInt 0)), (2, .int (Int32.ofInt 5))]) (rest2 := []) ⟨false, _, _, _, _, _, _, rfl, rfl, rfl, rfl, rfl, rfl, rfl⟩ ⟨false, _, _, _, _, _, _, rfl, rfl, rfl, rfl, rfl, rfl, rfl⟩ hRw98 ?_
    refine pp_num hI1 Is101 (hTL.fr (F1.mono rfl) (Fs101.mono rfl)) (Int32.ofInt 5) _ ci_5 (Int32.ofInt 5) _ ci_5 (Int.le_antisymm (by omega) (by omega)) (Int.le_antisymm (by omega) (by omega)) (Int.le_antisymm (by omega) (by omega)) (by omega) (Int.le_antisymm (by omega) (by omega)) (⟨by omega, by omega⟩) (Or.inr (Or.inr (Or.inr (Or.inr ⟨Int.le_antisymm (by omega) (by omega), Int.le_antisymm (by omega) (by omega), Int.le_antisymm (by omega) (by omega), Int.le_antisymm (by omega) (by omega), by omega⟩)))) (fun rq106x bq106x hq106x rq106m bq106m hq106m sq106 tq106 Isq106 Itq106 Gsq106 Gtq106 yq106_0 yq106_1 yq106_2 yq106_3 yq106_4 pcq106 memq106 hRq106 => ?_)
    have Fsq106 := (Gsq106.mono (B := k_pl) rfl).tr F1
    have Ftq106 := (Gtq106.mono (B := k_pm) rfl).tr Fs101
    have esq106_6 : sq106 64 1 = σ1 64 1 := (Gsq106 64 1 rfl).trans rfl
    have esq106_7 : sq106 66 8 = σ1 66 8 := (Gsq106 66 8 rfl).trans rfl
    have esq106_8 : sq106 66 9 = σ1 66 9 := (Gsq106 66 9 rfl).trans rfl
    have esq106_9 : sq106 66 10 = σ1 66 10 := (Gsq106 66 10 rfl).trans rfl
    have esq106_10 : sq106 69 2 = σ1 69 2 := (Gsq106 69 2 rfl).trans rfl
    have esq106_11 : sq106 72 2 = σ1 72 2 := (Gsq106 72 2 rfl).trans rfl
    have esq106_12 : sq106 63 5 = σ1 63 5 := (Gsq106 63 5 rfl).trans rfl
    have etq106_6 : tq106 98 5 = σ2 98 5 := (Gtq106 98 5 rfl).trans es101.2.2.2.2.2.2.1
    have etq106_7 : tq106 98 6 = σ2 98 6 := (Gtq106 98 6 rfl).trans es101.2.2.2.2.2.2.2.1
    have etq106_8 : tq106 98 7 = σ2 98 7 := (Gtq106 98 7 rfl).trans es101.2.2.2.2.2.2.2.2.1
    have etq106_9 : tq106 98 8 = σ2 98 8 := (Gtq106 98 8 rfl).trans es101.2.2.2.2.2.2.2.2.2.1
    have etq106_10 : tq106 98 9 = σ2 98 9 := (Gtq106 98 9 rfl).trans es101.2.2.2.2.2.2.2.2.2.2.1
    have etq106_11 : tq106 101 18 = σ2 101 18 := (Gtq106 101 18 rfl).trans es101.2.2.2.2.2.2.2.2.2.2.2.1
    have etq106_12 : tq106 101 25 = σ2 101 25 := (Gtq106 101 25 rfl).trans es101.2.2.2.2.2.2.2.2.2.2.2.2.1
    have etq106_13 : tq106 101 43 = σ2 101 43 := (Gtq106 101 43 rfl).trans es101.2.2.2.2.2.2.2.2.2.2.2.2.2.1
    rcases pcq106 with pcq106 | pcq106
    · show h_T g_P (g_Y ns) 150 6 [(0, .ref 98)] [.int rq106m] tq106 _
      refine h_istore_n (pc' := 7) (M := [(1, .int rq106m), (0, .ref 98)]) rfl rfl rfl rfl ?_
      have oH107 : tq106 98 8 = σ2 98 8 := etq106_9
      have uH107 := tf_98_8 Itq106
      refine h_wk [(0, .ref 98), (1, .int rq106m)] ⟨rfl, rfl, trivial⟩ (lm_hi _ Itq106 rq106m _ hq106m (by omega) (fun H107 hH107 => (h_fgt (E := fun s => s 98 15 = tq106 98 15 ∧ s 98 16 = tq106 98 16 ∧ s 98 17 = tq106 98 17 ∧ s 98 18 = tq106 98 18 ∧ s 98 13 = tq106 98 13 ∧ s 98 14 = tq106 98 14 ∧ s 98 5 = σ2 98 5 ∧ s 98 6 = σ2 98 6 ∧ s 98 7 = σ2 98 7 ∧ s 98 8 = H107 ∧ s 98 9 = σ2 98 9 ∧ s 101 18 = σ2 101 18 ∧ s 101 25 = σ2 101 25 ∧ s 101 43 = σ2 101 43 ∧ s = h_up tq106 98 8 H107) _ (if_98_8 Itq106 (by omega)) (Ftq106.up rfl) ⟨rfl, rfl, rfl, rfl, rfl, rfl, etq106_6, etq106_7, etq106_8, rfl, etq106_10, etq106_11, etq106_12, etq106_13, rfl⟩ (fun s108 Is108 Fs108 (es108 : s108 98 15 = tq106 98 15 ∧ s108 98 16 = tq106 98 16 ∧ s108 98 17 = tq106 98 17 ∧ s108 98 18 = tq106 98 18 ∧ s108 98 13 = tq106 98 13 ∧ s108 98 14 = tq106 98 14 ∧ s108 98 5 = σ2 98 5 ∧ s108 98 6 = σ2 98 6 ∧ s108 98 7 = σ2 98 7 ∧ s108 98 8 = H107 ∧ s108 98 9 = σ2 98 9 ∧ s108 101 18 = σ2 101 18 ∧ s108 101 25 = σ2 101 25 ∧ s108 101 43 = σ2 101 43 ∧ s108 = h_up tq106 98 8 H107) => ?_))))
      have us108 := es108.2.2.2.2.2.2.2.2.2.2.2.2.2.2
      refine h_iload_n (pc' := 28) rfl rfl rfl ?_
      refine h_iret rfl rfl (d_ret hlv105 ?_)
      refine h_iast (pc' := 60) rfl rfl rfl rfl hz104 (by omega) (by omega) hq106m (h_fgt (E := fun s => s 98 15 = tq106 98 15 ∧ s 98 16 = tq106 98 16 ∧ s 98 17 = tq106 98 17 ∧ s 98 18 = tq106 98 18 ∧ s 98 13 = tq106 98 13 ∧ s 98 14 = tq106 98 14 ∧ s 98 5 = σ2 98 5 ∧ s 98 6 = σ2 98 6 ∧ s 98 7 = σ2 98 7 ∧ s 98 8 = H107 ∧ s 98 9 = σ2 98 9 ∧ s 101 18 = σ2 101 18 ∧ s 101 25 = σ2 101 25 ∧ s 101 43 = σ2 101 43 ∧ s = h_up s108 101 ((12 + (2 * c2)) + 1) bq106m) _ (ip_101_2 Is108 (by omega) (by omega)) (Fs108.up rfl) ⟨es108.1, es108.2.1, es108.2.2.1, es108.2.2.2.1, es108.2.2.2.2.1, es108.2.2.2.2.2.1, es108.2.2.2.2.2.2.1, es108.2.2.2.2.2.2.2.1, es108.2.2.2.2.2.2.2.2.1, es108.2.2.2.2.2.2.2.2.2.1, es108.2.2.2.2.2.2.2.2.2.2.1, h_up_n2 (by omega) es108.2.2.2.2.2.2.2.2.2.2.2.1, h_up_n2 (by omega) es108.2.2.2.2.2.2.2.2.2.2.2.2.1, h_up_n2 (by omega) es108.2.2.2.2.2.2.2.2.2.2.2.2.2.1, rfl⟩ (fun s109 Is109 Fs109 (es109 : s109 98 15 = tq106 98 15 ∧ s109 98 16 = tq106 98 16 ∧ s109 98 17 = tq106 98 17 ∧ s109 98 18 = tq106 98 18 ∧ s109 98 13 = tq106 98 13 ∧ s109 98 14 = tq106 98 14 ∧ s109 98 5 = σ2 98 5 ∧ s109 98 6 = σ2 98 6 ∧ s109 98 7 = σ2 98 7 ∧ s109 98 8 = H107 ∧ s109 98 9 = σ2 98 9 ∧ s109 101 18 = σ2 101 18 ∧ s109 101 25 = σ2 101 25 ∧ s109 101 43 = σ2 101 43 ∧ s109 = h_up s108 101 ((12 + (2 * c2)) + 1) bq106m) => ?_))
      clear es108
      have us109 := es109.2.2.2.2.2.2.2.2.2.2.2.2.2.2
      clear hq106m hz104
      refine h_aload_n (pc' := 61) rfl rfl rfl ?_
      refine h_getR (pc' := 64) rfl rfl rfl rfl rfl ?_
      refine h_iload_n (pc' := 65) rfl rfl rfl ?_
      refine h_bipush (pc' := 67) (x := (Int32.ofInt 6)) rfl rfl cb_6 ?_
      refine h_iadd (pc' := 68) (c := 18) rfl rfl ci_12 ci_6 rfl (by omega) (by omega) (fun z110 hz110 => ?_)
      refine h_dup2 (pc' := 69) rfl rfl rfl ?_
      refine h_iald (pc' := 70) (v := σ2 101 18) rfl rfl rfl hz110 (by omega) (by omega) es109.2.2.2.2.2.2.2.2.2.2.2.1 (fun z111 hz111 => ?_)
      have tz111 := ty_101_3 hI2 18 (by omega)
      refine h_iconst (pc' := 71) (x := (Int32.ofInt 1)) rfl rfl rfl ?_
      refine h_iadd (pc' := 72) rfl rfl hz111 ci_1 rfl (by omega) (by omega) (fun z112 hz112 => ?_)
      clear hz111
      refine h_iast (pc' := 73) rfl rfl rfl rfl hz110 (by omega) (by omega) hz112 (h_fgt (E := fun s => s 98 15 = tq106 98 15 ∧ s 98 16 = tq106 98 16 ∧ s 98 17 = tq106 98 17 ∧ s 98 18 = tq106 98 18 ∧ s 98 13 = tq106 98 13 ∧ s 98 14 = tq106 98 14 ∧ s 98 5 = σ2 98 5 ∧ s 98 6 = σ2 98 6 ∧ s 98 7 = σ2 98 7 ∧ s 98 8 = H107 ∧ s 98 9 = σ2 98 9 ∧ s 101 18 = ((σ2 101 18) + 1) ∧ s 101 25 = σ2 101 25 ∧ s 101 43 = σ2 101 43 ∧ s = h_up s109 101 18 ((σ2 101 18) + 1)) _ (ip_101_3 Is109 (by omega) (by omega)) (Fs109.up rfl) ⟨es109.1, es109.2.1, es109.2.2.1, es109.2.2.2.1, es109.2.2.2.2.1, es109.2.2.2.2.2.1, es109.2.2.2.2.2.2.1, es109.2.2.2.2.2.2.2.1, es109.2.2.2.2.2.2.2.2.1, es109.2.2.2.2.2.2.2.2.2.1, es109.2.2.2.2.2.2.2.2.2.2.1, rfl, es109.2.2.2.2.2.2.2.2.2.2.2.2.1, es109.2.2.2.2.2.2.2.2.2.2.2.2.2.1, rfl⟩ (fun s113 Is113 Fs113 (es113 : s113 98 15 = tq106 98 15 ∧ s113 98 16 = tq106 98 16 ∧ s113 98 17 = tq106 98 17 ∧ s113 98 18 = tq106 98 18 ∧ s113 98 13 = tq106 98 13 ∧ s113 98 14 = tq106 98 14 ∧ s113 98 5 = σ2 98 5 ∧ s113 98 6 = σ2 98 6 ∧ s113 98 7 = σ2 98 7 ∧ s113 98 8 = H107 ∧ s113 98 9 = σ2 98 9 ∧ s113 101 18 = ((σ2 101 18) + 1) ∧ s113 101 25 = σ2 101 25 ∧ s113 101 43 = σ2 101 43 ∧ s113 = h_up s109 101 18 ((σ2 101 18) + 1)) => ?_))
      clear es109
      have us113 := es113.2.2.2.2.2.2.2.2.2.2.2.2.2.2
      clear hz110
      refine d_toL (g_inj ns) hlw98 hRq106 (fun lvw114 memw114 hlw114 hRw114 => ?_)
      show h_T g_P (g_Y ns) 60 49 [(0, .ref 63), (1, .ref 69), (2, .int x2)] [.int rq106x] sq106 _
      refine h_istore_n (pc' := 50) (M := [(3, .int rq106x), (0, .ref 63), (1, .ref 69), (2, .int x2)]) rfl rfl rfl rfl ?_
      refine h_aload_n (pc' := 51) rfl rfl rfl ?_
      refine h_getI (pc' := 54) (v := sq106 63 2) rfl rfl rfl rfl rfl rfl (fun z115 hz115 => ?_)
      have tz115 := tf_63_2 Isq106
      refine h_zne (tg := 64) (pc' := 57) rfl rfl rfl hz115 (fun c116 => ?_) (fun c116 => absurd c116 (by omega))
      clear hz115
      exact h_wk [(0, .ref 63)] ⟨rfl, trivial⟩ (kx0 _ _ Isq106 Is113 Fsq106 Fs113 (Int.le_antisymm (by omega) (by omega)) (Int.le_antisymm (by omega) (by omega)) (Int.le_antisymm (by omega) (by omega)) (by omega) (by omega) (fun h => absurd h (by omega)) (Or.inl ⟨⟨by omega, by omega⟩, ⟨by omega, by omega⟩, Int.le_antisymm (by omega) (by omega), Int.le_antisymm (by omega) (by omega)⟩) _ _ (h_al_ok ⟨rfl, trivial⟩ hlw114) hRw114)
    · exfalso; omega
