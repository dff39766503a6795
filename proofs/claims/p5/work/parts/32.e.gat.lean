set_option maxHeartbeats 100000000 in
theorem ls_gat_c {ns : Nat} {σ1 σ2 : h_S} (hI1 : h_I σ1) (hI2 : h_I σ2) (hTL : d_tape σ1 σ2) (x1 : Int32) (a1 : Int) (hx1 : x1.toInt = a1) (pr0 : σ1 64 2 = σ2 98 15) (pr1 : σ1 64 4 = σ2 98 16) (pr2 : σ1 63 2 = σ2 98 13) (pr3 : σ1 66 8 = σ2 98 5) (pr4 : σ1 66 9 = σ2 98 6) (pr5 : σ1 66 10 = σ2 101 43) (pr6 : σ1 69 2 = σ2 101 18) (pr7 : σ1 72 2 = σ2 101 25) (pr8 : σ1 63 5 = σ2 98 7) (pr9 : σ1 64 2 ≤ σ1 64 1) (pr10 : d_RD σ1 σ2) (pr11 : σ2 101 (26 + σ2 98 6) = a1) (pr12 : 0 ≤ a1 ∧ a1 ≤ 9) (pc0 : ((σ1 63 2 = 0) ∧ (σ1 64 3 = 0) ∧ (0 ≤ σ1 66 9 ∧ σ1 66 9 ≤ 2) ∧ (σ2 98 13 = 0) ∧ (σ2 98 17 = 0) ∧ (0 ≤ σ2 98 6 ∧ σ2 98 6 ≤ 2) ∧ (σ1 64 4 = σ1 64 1)) ∨ ((σ1 63 2 = 0) ∧ (σ1 64 3 = 1) ∧ (0 ≤ σ1 66 9 ∧ σ1 66 9 ≤ 2) ∧ (σ2 98 13 = 0) ∧ (σ2 98 17 = 1) ∧ (0 ≤ σ2 98 6 ∧ σ2 98 6 ≤ 2) ∧ (σ1 64 4 < σ1 64 2)) ∨ ((σ1 63 2 = 0) ∧ (σ1 64 3 = 2) ∧ (0 ≤ σ1 66 9 ∧ σ1 66 9 ≤ 2) ∧ (σ2 98 13 = 0) ∧ (σ2 98 17 = 2) ∧ (0 ≤ σ2 98 6 ∧ σ2 98 6 ≤ 2) ∧ (0 ≤ σ1 64 5 ∧ σ1 64 5 ≤ 99) ∧ (0 ≤ σ2 98 18 ∧ σ2 98 18 ≤ 99) ∧ (σ1 64 5 = σ2 98 18) ∧ (σ1 64 4 < σ1 64 2)) ∨ ((σ1 63 2 = 0) ∧ (σ1 64 3 = 3) ∧ (0 ≤ σ1 66 9 ∧ σ1 66 9 ≤ 2) ∧ (σ2 98 13 = 0) ∧ (σ2 98 17 = 3) ∧ (0 ≤ σ2 98 6 ∧ σ2 98 6 ≤ 2) ∧ (σ1 64 4 < σ1 64 2))) {cs1 cs2 : List d_Fr} {Q : d_Q} (kx0 : ∀ (s t : h_S), h_I s → h_I t → h_F (k_in k_pl) s σ1 → h_F (k_in k_pm) t σ2 → (s 64 2 = t 98 15) → (s 64 4 = t 98 16) → (s 63 2 = t 98 13) → (s 64 2 ≤ s 64 1) → (σ1 64 2 ≤ s 64 2) → (d_ok s t) → (((1 ≤ s 63 2 ∧ s 63 2 ≤ 6) ∧ (1 ≤ t 98 13 ∧ t 98 13 ≤ 6) ∧ (s 63 2 = t 98 13) ∧ (s 63 3 = t 98 14)) ∨ ((s 63 2 = 0) ∧ (s 64 3 = 0) ∧ (t 98 13 = 0) ∧ (t 98 17 = 0) ∧ (s 64 4 = s 64 1)) ∨ ((s 63 2 = 0) ∧ (s 64 3 = 1) ∧ (t 98 13 = 0) ∧ (t 98 17 = 1) ∧ (s 64 4 < s 64 2)) ∨ ((s 63 2 = 0) ∧ (s 64 3 = 2) ∧ (t 98 13 = 0) ∧ (t 98 17 = 2) ∧ (0 ≤ s 64 5 ∧ s 64 5 ≤ 99) ∧ (0 ≤ t 98 18 ∧ t 98 18 ≤ 99) ∧ (s 64 5 = t 98 18) ∧ (s 64 4 < s 64 2)) ∨ ((s 63 2 = 0) ∧ (s 64 3 = 3) ∧ (t 98 13 = 0) ∧ (t 98 17 = 3) ∧ (s 64 4 < s 64 2) ∧ ((s 64 2 = σ1 64 2 ∧ s 64 3 = σ1 64 3) ∨ σ1 64 2 < s 64 2))) → ∀ lv2 mem2, h_loc [(0, .ref 98)] lv2 → h_R (g_Y ns) t mem2 → h_T g_P (g_Y ns) 61 61 [(0, .ref 63)] [] s (d_cs g_P (g_Y ns) cs1 (d_L g_P (g_Y ns) (153, 178, lv2, []) cs2 mem2 Q))) : ∀ lv2 mem2, h_loc [(0, .ref 98)] lv2 → h_R (g_Y ns) σ2 mem2 → h_T g_P (g_Y ns) 61 27 [(0, .ref 63), (1, .int x1)] [] σ1 (d_cs g_P (g_Y ns) cs1 (d_L g_P (g_Y ns) (153, 128, lv2, []) cs2 mem2 Q)) := by
  intro lv2 mem2 hl2 hR2
  have hT := hTL.1
  have hL := hTL.2
  have F1 : h_F (k_in k_pl) σ1 σ1 := h_F.rf
  have F2 : h_F (k_in k_pm) σ2 σ2 := h_F.rf
  have ge0 := tf_64_1 hI1
  have ge1 := tf_66_8 hI1
  have ge2 := tf_66_9 hI1
  have ge3 := tf_66_10 hI1
  have ge4 := tf_69_2 hI1
  have ge5 := tf_72_2 hI1
  have ge6 := tf_63_5 hI1
  have ge7 := tf_63_2 hI1
  have ge8 := tf_98_8 hI2
  have ge9 := tf_98_9 hI2
  have ge10 := tf_98_13 hI2
  rcases pc0 with pc0 | pc0 | pc0 | pc0
  · show h_T g_P (g_Y ns) 61 27 [(0, .ref 63), (1, .int x1)] [] σ1 _
    refine h_aload_n (pc' := 28) rfl rfl rfl ?_
    refine h_call (sp := false) (pc' := 31) (M := [(0, .ref 63)]) rfl rfl rfl rfl rfl rfl rfl rfl ?_
    refine h_aload_n (pc' := 1) rfl rfl rfl ?_
    refine h_getI (pc' := 4) (v := σ1 63 2) rfl rfl rfl rfl rfl rfl (fun z21 hz21 => ?_)
    have tz21 := tf_63_2 hI1
    refine h_zne (tg := 22) (pc' := 7) rfl rfl rfl hz21 (fun c22 => absurd c22 (by omega)) (fun c22 => ?_)
    clear hz21
    refine h_aload_n (pc' := 8) rfl rfl rfl ?_
    refine h_getR (pc' := 11) rfl rfl rfl rfl rfl ?_
    refine h_getI (pc' := 14) (v := σ1 64 3) rfl rfl rfl rfl rfl rfl (fun z23 hz23 => ?_)
    have tz23 := tf_64_3 hI1
    refine h_iconst (pc' := 15) (x := (Int32.ofInt 2)) rfl rfl rfl ?_
    refine h_cne (tg := 22) (pc' := 18) rfl rfl rfl hz23 ci_2 (fun c24 => ?_) (fun c24 => absurd c24 (by omega))
    clear hz23
    refine h_iconst (pc' := 23) (x := (Int32.ofInt 0)) rfl rfl rfl ?_
    refine h_zret rfl rfl ci_0 (by omega) (h_Kv ?_)
    refine h_zeq (tg := 42) (pc' := 34) rfl rfl rfl ci_0 (fun c25 => ?_) (fun c25 => absurd c25 (by omega))
    refine h_bipush (pc' := 44) (x := (Int32.ofInt (-4))) rfl rfl cb_m4 ?_
    refine h_istore_n (pc' := 45) (M := [(2, .int (Int32.ofInt (-4))), (0, .ref 63), (1, .int x1)]) rfl rfl rfl rfl ?_
    refine h_aload_n (pc' := 46) rfl rfl rfl ?_
    refine h_getI (pc' := 49) (v := σ1 63 2) rfl rfl rfl rfl rfl rfl (fun z26 hz26 => ?_)
    refine h_zne (tg := 61) (pc' := 52) rfl rfl rfl hz26 (fun c27 => absurd c27 (by omega)) (fun c27 => ?_)
    clear hz26
    refine h_aload_n (pc' := 53) rfl rfl rfl ?_
    refine h_getR (pc' := 56) rfl rfl rfl rfl rfl ?_
    refine h_iload_n (pc' := 57) rfl rfl rfl ?_
    refine h_iload_n (pc' := 58) rfl rfl rfl ?_
    refine h_call (sp := false) (pc' := 61) (M := [(0, .ref 66), (1, .int x1), (2, .int (Int32.ofInt (-4)))]) rfl rfl rfl rfl rfl rfl rfl rfl ?_
    refine h_aload_n (pc' := 1) rfl rfl rfl ?_
    refine h_getI (pc' := 4) (v := σ1 66 9) rfl rfl rfl rfl rfl rfl (fun z28 hz28 => ?_)
    have tz28 := tf_66_9 hI1
    refine h_iconst (pc' := 5) (x := (Int32.ofInt 3)) rfl rfl rfl ?_
    refine h_cge (tg := 48) (pc' := 8) rfl rfl rfl hz28 ci_3 (fun c29 => absurd c29 (by omega)) (fun c29 => ?_)
    clear hz28
    refine h_aload_n (pc' := 9) rfl rfl rfl ?_
    refine h_getR (pc' := 12) rfl rfl rfl rfl rfl ?_
    refine h_aload_n (pc' := 13) rfl rfl rfl ?_
    refine h_getI (pc' := 16) (v := σ1 66 9) rfl rfl rfl rfl rfl rfl (fun z30 hz30 => ?_)
    refine h_iload_n (pc' := 17) rfl rfl rfl ?_
    refine h_iast (pc' := 18) rfl rfl rfl rfl hz30 (by omega) (by omega) hx1 (h_fgt (E := fun s => s 64 2 = σ1 64 2 ∧ s 64 4 = σ1 64 4 ∧ s 64 3 = σ1 64 3 ∧ s 64 5 = σ1 64 5 ∧ s 63 2 = σ1 63 2 ∧ s 63 3 = σ1 63 3 ∧ s 64 1 = σ1 64 1 ∧ s 66 8 = σ1 66 8 ∧ s 66 9 = σ1 66 9 ∧ s 66 10 = σ1 66 10 ∧ s 69 2 = σ1 69 2 ∧ s 72 2 = σ1 72 2 ∧ s 63 5 = σ1 63 5 ∧ s = h_up σ1 75 (σ1 66 9) a1) _ (in_75 hI1 (by omega)) (F1.up rfl) ⟨rfl, rfl, rfl, rfl, rfl, rfl, rfl, rfl, rfl, rfl, rfl, rfl, rfl, rfl⟩ (fun s31 Is31 Fs31 (es31 : s31 64 2 = σ1 64 2 ∧ s31 64 4 = σ1 64 4 ∧ s31 64 3 = σ1 64 3 ∧ s31 64 5 = σ1 64 5 ∧ s31 63 2 = σ1 63 2 ∧ s31 63 3 = σ1 63 3 ∧ s31 64 1 = σ1 64 1 ∧ s31 66 8 = σ1 66 8 ∧ s31 66 9 = σ1 66 9 ∧ s31 66 10 = σ1 66 10 ∧ s31 69 2 = σ1 69 2 ∧ s31 72 2 = σ1 72 2 ∧ s31 63 5 = σ1 63 5 ∧ s31 = h_up σ1 75 (σ1 66 9) a1) => ?_))
    clear hz30
    refine h_aload_n (pc' := 19) rfl rfl rfl ?_
    refine h_getR (pc' := 22) rfl rfl rfl rfl rfl ?_
    refine h_aload_n (pc' := 23) rfl rfl rfl ?_
    refine h_getI (pc' := 26) (v := σ1 66 9) rfl rfl rfl rfl rfl es31.2.2.2.2.2.2.2.2.1 (fun z32 hz32 => ?_)
    refine h_iload_n (pc' := 27) rfl rfl rfl ?_
    refine h_iast (pc' := 28) rfl rfl rfl rfl hz32 (by omega) (by omega) ci_m4 (h_fgt (E := fun s => s 64 2 = σ1 64 2 ∧ s 64 4 = σ1 64 4 ∧ s 64 3 = σ1 64 3 ∧ s 64 5 = σ1 64 5 ∧ s 63 2 = σ1 63 2 ∧ s 63 3 = σ1 63 3 ∧ s 64 1 = σ1 64 1 ∧ s 66 8 = σ1 66 8 ∧ s 66 9 = σ1 66 9 ∧ s 66 10 = σ1 66 10 ∧ s 69 2 = σ1 69 2 ∧ s 72 2 = σ1 72 2 ∧ s 63 5 = σ1 63 5 ∧ s = h_up s31 76 (σ1 66 9) (-4)) _ (in_76 Is31 (by omega)) (Fs31.up rfl) ⟨es31.1, es31.2.1, es31.2.2.1, es31.2.2.2.1, es31.2.2.2.2.1, es31.2.2.2.2.2.1, es31.2.2.2.2.2.2.1, es31.2.2.2.2.2.2.2.1, es31.2.2.2.2.2.2.2.2.1, es31.2.2.2.2.2.2.2.2.2.1, es31.2.2.2.2.2.2.2.2.2.2.1, es31.2.2.2.2.2.2.2.2.2.2.2.1, es31.2.2.2.2.2.2.2.2.2.2.2.2.1, rfl⟩ (fun s33 Is33 Fs33 (es33 : s33 64 2 = σ1 64 2 ∧ s33 64 4 = σ1 64 4 ∧ s33 64 3 = σ1 64 3 ∧ s33 64 5 = σ1 64 5 ∧ s33 63 2 = σ1 63 2 ∧ s33 63 3 = σ1 63 3 ∧ s33 64 1 = σ1 64 1 ∧ s33 66 8 = σ1 66 8 ∧ s33 66 9 = σ1 66 9 ∧ s33 66 10 = σ1 66 10 ∧ s33 69 2 = σ1 69 2 ∧ s33 72 2 = σ1 72 2 ∧ s33 63 5 = σ1 63 5 ∧ s33 = h_up s31 76 (σ1 66 9) (-4)) => ?_))
    clear hz32
    refine h_aload_n (pc' := 29) rfl rfl rfl ?_
    refine h_getR (pc' := 32) rfl rfl rfl rfl rfl ?_
    refine h_aload_n (pc' := 33) rfl rfl rfl ?_
    refine h_getI (pc' := 36) (v := σ1 66 9) rfl rfl rfl rfl rfl es33.2.2.2.2.2.2.2.2.1 (fun z34 hz34 => ?_)
    refine h_iconst (pc' := 37) (x := (Int32.ofInt 0)) rfl rfl rfl ?_
    refine h_iast (pc' := 38) rfl rfl rfl rfl hz34 (by omega) (by omega) ci_0 (h_fgt (E := fun s => s 64 2 = σ1 64 2 ∧ s 64 4 = σ1 64 4 ∧ s 64 3 = σ1 64 3 ∧ s 64 5 = σ1 64 5 ∧ s 63 2 = σ1 63 2 ∧ s 63 3 = σ1 63 3 ∧ s 64 1 = σ1 64 1 ∧ s 66 8 = σ1 66 8 ∧ s 66 9 = σ1 66 9 ∧ s 66 10 = σ1 66 10 ∧ s 69 2 = σ1 69 2 ∧ s 72 2 = σ1 72 2 ∧ s 63 5 = σ1 63 5 ∧ s = h_up s33 77 (σ1 66 9) 0) _ (in_77 Is33 (by omega)) (Fs33.up rfl) ⟨es33.1, es33.2.1, es33.2.2.1, es33.2.2.2.1, es33.2.2.2.2.1, es33.2.2.2.2.2.1, es33.2.2.2.2.2.2.1, es33.2.2.2.2.2.2.2.1, es33.2.2.2.2.2.2.2.2.1, es33.2.2.2.2.2.2.2.2.2.1, es33.2.2.2.2.2.2.2.2.2.2.1, es33.2.2.2.2.2.2.2.2.2.2.2.1, es33.2.2.2.2.2.2.2.2.2.2.2.2.1, rfl⟩ (fun s35 Is35 Fs35 (es35 : s35 64 2 = σ1 64 2 ∧ s35 64 4 = σ1 64 4 ∧ s35 64 3 = σ1 64 3 ∧ s35 64 5 = σ1 64 5 ∧ s35 63 2 = σ1 63 2 ∧ s35 63 3 = σ1 63 3 ∧ s35 64 1 = σ1 64 1 ∧ s35 66 8 = σ1 66 8 ∧ s35 66 9 = σ1 66 9 ∧ s35 66 10 = σ1 66 10 ∧ s35 69 2 = σ1 69 2 ∧ s35 72 2 = σ1 72 2 ∧ s35 63 5 = σ1 63 5 ∧ s35 = h_up s33 77 (σ1 66 9) 0) => ?_))
    clear hz34
    refine h_aload_n (pc' := 39) rfl rfl rfl ?_
    refine h_dup (pc' := 40) rfl rfl rfl ?_
    refine h_getI (pc' := 43) (v := σ1 66 9) rfl rfl rfl rfl rfl es35.2.2.2.2.2.2.2.2.1 (fun z36 hz36 => ?_)
    refine h_iconst (pc' := 44) (x := (Int32.ofInt 1)) rfl rfl rfl ?_
    refine h_iadd (pc' := 45) rfl rfl hz36 ci_1 rfl (by omega) (by omega) (fun z37 hz37 => ?_)
    clear hz36
    refine h_put (pc' := 48) rfl rfl rfl rfl rfl rfl hz37 rfl (h_fgt (E := fun s => s 64 2 = σ1 64 2 ∧ s 64 4 = σ1 64 4 ∧ s 64 3 = σ1 64 3 ∧ s 64 5 = σ1 64 5 ∧ s 63 2 = σ1 63 2 ∧ s 63 3 = σ1 63 3 ∧ s 64 1 = σ1 64 1 ∧ s 66 8 = σ1 66 8 ∧ s 66 9 = ((σ1 66 9) + 1) ∧ s 66 10 = σ1 66 10 ∧ s 69 2 = σ1 69 2 ∧ s 72 2 = σ1 72 2 ∧ s 63 5 = σ1 63 5 ∧ s = h_up s35 66 9 ((σ1 66 9) + 1)) _ (if_66_9 Is35 (by omega)) (Fs35.up rfl) ⟨es35.1, es35.2.1, es35.2.2.1, es35.2.2.2.1, es35.2.2.2.2.1, es35.2.2.2.2.2.1, es35.2.2.2.2.2.2.1, es35.2.2.2.2.2.2.2.1, rfl, es35.2.2.2.2.2.2.2.2.2.1, es35.2.2.2.2.2.2.2.2.2.2.1, es35.2.2.2.2.2.2.2.2.2.2.2.1, es35.2.2.2.2.2.2.2.2.2.2.2.2.1, rfl⟩ (fun s38 Is38 Fs38 (es38 : s38 64 2 = σ1 64 2 ∧ s38 64 4 = σ1 64 4 ∧ s38 64 3 = σ1 64 3 ∧ s38 64 5 = σ1 64 5 ∧ s38 63 2 = σ1 63 2 ∧ s38 63 3 = σ1 63 3 ∧ s38 64 1 = σ1 64 1 ∧ s38 66 8 = σ1 66 8 ∧ s38 66 9 = ((σ1 66 9) + 1) ∧ s38 66 10 = σ1 66 10 ∧ s38 69 2 = σ1 69 2 ∧ s38 72 2 = σ1 72 2 ∧ s38 63 5 = σ1 63 5 ∧ s38 = h_up s35 66 9 ((σ1 66 9) + 1)) => ?_))
    refine h_vret rfl rfl (h_Kn ?_)
    refine d_toM (g_inj ns) hl2 hR2 (fun lvw39 memw39 hlw39 hRw39 => ?_)
    show h_T g_P (g_Y ns) 153 128 [(0, .ref 98)] [] σ2 _
    refine h_aload_n (pc' := 129) rfl rfl rfl ?_
    refine h_getI (pc' := 132) (v := σ2 98 13) rfl rfl rfl rfl rfl rfl (fun z40 hz40 => ?_)
    have tz40 := tf_98_13 hI2
    refine h_zne (tg := 161) (pc' := 135) rfl rfl rfl hz40 (fun c41 => absurd c41 (by omega)) (fun c41 => ?_)
    clear hz40
    refine h_aload_n (pc' := 136) rfl rfl rfl ?_
    refine h_getI (pc' := 139) (v := σ2 98 17) rfl rfl rfl rfl rfl rfl (fun z42 hz42 => ?_)
    have tz42 := tf_98_17 hI2
    refine h_iconst (pc' := 140) (x := (Int32.ofInt 2)) rfl rfl rfl ?_
    refine h_cne (tg := 161) (pc' := 143) rfl rfl rfl hz42 ci_2 (fun c43 => ?_) (fun c43 => absurd c43 (by omega))
    clear hz42
    refine h_aload_n (pc' := 162) rfl rfl rfl ?_
    refine h_dup (pc' := 163) rfl rfl rfl ?_
    refine h_getI (pc' := 166) (v := σ2 98 6) rfl rfl rfl rfl rfl rfl (fun z44 hz44 => ?_)
    have tz44 := tf_98_6 hI2
    refine h_iconst (pc' := 167) (x := (Int32.ofInt 1)) rfl rfl rfl ?_
    refine h_iadd (pc' := 168) rfl rfl hz44 ci_1 rfl (by omega) (by omega) (fun z45 hz45 => ?_)
    clear hz44
    refine h_put (pc' := 171) rfl rfl rfl rfl rfl rfl hz45 rfl (h_fgt (E := fun s => s 98 15 = σ2 98 15 ∧ s 98 16 = σ2 98 16 ∧ s 98 17 = σ2 98 17 ∧ s 98 18 = σ2 98 18 ∧ s 98 13 = σ2 98 13 ∧ s 98 14 = σ2 98 14 ∧ s 98 5 = σ2 98 5 ∧ s 98 6 = ((σ2 98 6) + 1) ∧ s 98 7 = σ2 98 7 ∧ s 98 8 = σ2 98 8 ∧ s 98 9 = σ2 98 9 ∧ s 101 18 = σ2 101 18 ∧ s 101 25 = σ2 101 25 ∧ s 101 43 = σ2 101 43 ∧ s = h_up σ2 98 6 ((σ2 98 6) + 1)) _ (if_98_6 hI2 (by omega)) (F2.up rfl) ⟨rfl, rfl, rfl, rfl, rfl, rfl, rfl, rfl, rfl, rfl, rfl, rfl, rfl, rfl, rfl⟩ (fun s46 Is46 Fs46 (es46 : s46 98 15 = σ2 98 15 ∧ s46 98 16 = σ2 98 16 ∧ s46 98 17 = σ2 98 17 ∧ s46 98 18 = σ2 98 18 ∧ s46 98 13 = σ2 98 13 ∧ s46 98 14 = σ2 98 14 ∧ s46 98 5 = σ2 98 5 ∧ s46 98 6 = ((σ2 98 6) + 1) ∧ s46 98 7 = σ2 98 7 ∧ s46 98 8 = σ2 98 8 ∧ s46 98 9 = σ2 98 9 ∧ s46 101 18 = σ2 101 18 ∧ s46 101 25 = σ2 101 25 ∧ s46 101 43 = σ2 101 43 ∧ s46 = h_up σ2 98 6 ((σ2 98 6) + 1)) => ?_))
    refine h_goto (pc' := 178) rfl rfl ?_
    refine d_toL (g_inj ns) hlw39 hRw39 (fun lvw47 memw47 hlw47 hRw47 => ?_)
    show h_T g_P (g_Y ns) 61 61 [(2, .int (Int32.ofInt (-4))), (0, .ref 63), (1, .int x1)] [] s38 _
    exact h_wk [(0, .ref 63)] ⟨rfl, trivial⟩ (kx0 _ _ Is38 Is46 Fs38 Fs46 (by omega) (by omega) (by omega) (by omega) (by omega) (fun _ => d_mk (es38.2.2.2.2.2.2.2.1) (es38.2.2.2.2.2.2.2.2.1) (es38.2.2.2.2.2.2.2.2.2.1) (es38.2.2.2.2.2.2.2.2.2.2.1) (es38.2.2.2.2.2.2.2.2.2.2.2.1) (es38.2.2.2.2.2.2.2.2.2.2.2.2.1) (fun j => (h_upo es38.2.2.2.2.2.2.2.2.2.2.2.2.2 rfl j).trans ((h_upo es35.2.2.2.2.2.2.2.2.2.2.2.2.2 rfl j).trans ((h_upo es33.2.2.2.2.2.2.2.2.2.2.2.2.2 rfl j).trans ((h_upo es31.2.2.2.2.2.2.2.2.2.2.2.2.2 rfl j))))) (fun j => (h_upo es38.2.2.2.2.2.2.2.2.2.2.2.2.2 rfl j).trans ((h_upo es35.2.2.2.2.2.2.2.2.2.2.2.2.2 rfl j).trans ((h_upo es33.2.2.2.2.2.2.2.2.2.2.2.2.2 rfl j).trans ((h_upo es31.2.2.2.2.2.2.2.2.2.2.2.2.2 rfl j))))) (fun j => (h_upo es38.2.2.2.2.2.2.2.2.2.2.2.2.2 rfl j).trans ((h_upo es35.2.2.2.2.2.2.2.2.2.2.2.2.2 rfl j).trans ((h_upo es33.2.2.2.2.2.2.2.2.2.2.2.2.2 rfl j).trans ((h_upo es31.2.2.2.2.2.2.2.2.2.2.2.2.2 rfl j))))) (fun j => (h_upo es38.2.2.2.2.2.2.2.2.2.2.2.2.2 rfl j).trans ((h_upo es35.2.2.2.2.2.2.2.2.2.2.2.2.2 rfl j).trans ((h_upo es33.2.2.2.2.2.2.2.2.2.2.2.2.2 rfl j).trans ((h_upo es31.2.2.2.2.2.2.2.2.2.2.2.2.2 rfl j))))) (fun j => (h_upo es38.2.2.2.2.2.2.2.2.2.2.2.2.2 rfl j).trans ((h_upo es35.2.2.2.2.2.2.2.2.2.2.2.2.2 rfl j).trans ((h_upo es33.2.2.2.2.2.2.2.2.2.2.2.2.2 rfl j).trans ((h_upo es31.2.2.2.2.2.2.2.2.2.2.2.2.2 rfl j))))) (fun j => (h_upo es38.2.2.2.2.2.2.2.2.2.2.2.2.2 rfl j).trans ((h_upo es35.2.2.2.2.2.2.2.2.2.2.2.2.2 rfl j).trans ((h_upo es33.2.2.2.2.2.2.2.2.2.2.2.2.2 rfl j).trans ((h_upo es31.2.2.2.2.2.2.2.2.2.2.2.2.2 rfl j))))) (fun j => (h_upo es38.2.2.2.2.2.2.2.2.2.2.2.2.2 rfl j).trans ((h_upo es35.2.2.2.2.2.2.2.2.2.2.2.2.2 rfl j).trans ((h_upo es33.2.2.2.2.2.2.2.2.2.2.2.2.2 rfl j).trans ((h_upi es31.2.2.2.2.2.2.2.2.2.2.2.2.2 j))))) (fun j => (h_upo es38.2.2.2.2.2.2.2.2.2.2.2.2.2 rfl j).trans ((h_upo es35.2.2.2.2.2.2.2.2.2.2.2.2.2 rfl j).trans ((h_upi es33.2.2.2.2.2.2.2.2.2.2.2.2.2 j).trans (congrArg (fun z => if j = (σ1 66 9) then (-4) else z) ((h_upo es31.2.2.2.2.2.2.2.2.2.2.2.2.2 rfl j)))))) (fun j => (h_upo es38.2.2.2.2.2.2.2.2.2.2.2.2.2 rfl j).trans ((h_upi es35.2.2.2.2.2.2.2.2.2.2.2.2.2 j).trans (congrArg (fun z => if j = (σ1 66 9) then 0 else z) ((h_upo es33.2.2.2.2.2.2.2.2.2.2.2.2.2 rfl j).trans ((h_upo es31.2.2.2.2.2.2.2.2.2.2.2.2.2 rfl j)))))) (fun j => (h_upo es38.2.2.2.2.2.2.2.2.2.2.2.2.2 rfl j).trans ((h_upo es35.2.2.2.2.2.2.2.2.2.2.2.2.2 rfl j).trans ((h_upo es33.2.2.2.2.2.2.2.2.2.2.2.2.2 rfl j).trans ((h_upo es31.2.2.2.2.2.2.2.2.2.2.2.2.2 rfl j))))) (es46.2.2.2.2.2.2.1) (es46.2.2.2.2.2.2.2.1) (es46.2.2.2.2.2.2.2.2.1) (es46.2.2.2.2.2.2.2.2.2.1) (es46.2.2.2.2.2.2.2.2.2.2.1) (fun j => (h_upo es46.2.2.2.2.2.2.2.2.2.2.2.2.2.2 rfl j)) (r_gatA pr10 (by omega) (by omega) (by omega) (by omega) (by omega) (by omega) (by omega))) (Or.inr (Or.inl ⟨by omega, by omega, by omega, by omega, by omega⟩)) _ _ (h_al_ok ⟨rfl, trivial⟩ hlw47) hRw47)
  · show h_T g_P (g_Y ns) 61 27 [(0, .ref 63), (1, .int x1)] [] σ1 _
    refine h_aload_n (pc' := 28) rfl rfl rfl ?_
    refine h_call (sp := false) (pc' := 31) (M := [(0, .ref 63)]) rfl rfl rfl rfl rfl rfl rfl rfl ?_
    refine h_aload_n (pc' := 1) rfl rfl rfl ?_
    refine h_getI (pc' := 4) (v := σ1 63 2) rfl rfl rfl rfl rfl rfl (fun z48 hz48 => ?_)
    have tz48 := tf_63_2 hI1
    refine h_zne (tg := 22) (pc' := 7) rfl rfl rfl hz48 (fun c49 => absurd c49 (by omega)) (fun c49 => ?_)
    clear hz48
    refine h_aload_n (pc' := 8) rfl rfl rfl ?_
    refine h_getR (pc' := 11) rfl rfl rfl rfl rfl ?_
    refine h_getI (pc' := 14) (v := σ1 64 3) rfl rfl rfl rfl rfl rfl (fun z50 hz50 => ?_)
    have tz50 := tf_64_3 hI1
    refine h_iconst (pc' := 15) (x := (Int32.ofInt 2)) rfl rfl rfl ?_
    refine h_cne (tg := 22) (pc' := 18) rfl rfl rfl hz50 ci_2 (fun c51 => ?_) (fun c51 => absurd c51 (by omega))
    clear hz50
    refine h_iconst (pc' := 23) (x := (Int32.ofInt 0)) rfl rfl rfl ?_
    refine h_zret rfl rfl ci_0 (by omega) (h_Kv ?_)
    refine h_zeq (tg := 42) (pc' := 34) rfl rfl rfl ci_0 (fun c52 => ?_) (fun c52 => absurd c52 (by omega))
    refine h_bipush (pc' := 44) (x := (Int32.ofInt (-4))) rfl rfl cb_m4 ?_
    refine h_istore_n (pc' := 45) (M := [(2, .int (Int32.ofInt (-4))), (0, .ref 63), (1, .int x1)]) rfl rfl rfl rfl ?_
    refine h_aload_n (pc' := 46) rfl rfl rfl ?_
    refine h_getI (pc' := 49) (v := σ1 63 2) rfl rfl rfl rfl rfl rfl (fun z53 hz53 => ?_)
    refine h_zne (tg := 61) (pc' := 52) rfl rfl rfl hz53 (fun c54 => absurd c54 (by omega)) (fun c54 => ?_)
    clear hz53
    refine h_aload_n (pc' := 53) rfl rfl rfl ?_
    refine h_getR (pc' := 56) rfl rfl rfl rfl rfl ?_
    refine h_iload_n (pc' := 57) rfl rfl rfl ?_
    refine h_iload_n (pc' := 58) rfl rfl rfl ?_
    refine h_call (sp := false) (pc' := 61) (M := [(0, .ref 66), (1, .int x1), (2, .int (Int32.ofInt (-4)))]) rfl rfl rfl rfl rfl rfl rfl rfl ?_
    refine h_aload_n (pc' := 1) rfl rfl rfl ?_
    refine h_getI (pc' := 4) (v := σ1 66 9) rfl rfl rfl rfl rfl rfl (fun z55 hz55 => ?_)
    have tz55 := tf_66_9 hI1
    refine h_iconst (pc' := 5) (x := (Int32.ofInt 3)) rfl rfl rfl ?_
    refine h_cge (tg := 48) (pc' := 8) rfl rfl rfl hz55 ci_3 (fun c56 => absurd c56 (by omega)) (fun c56 => ?_)
    clear hz55
    refine h_aload_n (pc' := 9) rfl rfl rfl ?_
    refine h_getR (pc' := 12) rfl rfl rfl rfl rfl ?_
    refine h_aload_n (pc' := 13) rfl rfl rfl ?_
    refine h_getI (pc' := 16) (v := σ1 66 9) rfl rfl rfl rfl rfl rfl (fun z57 hz57 => ?_)
    refine h_iload_n (pc' := 17) rfl rfl rfl ?_
    refine h_iast (pc' := 18) rfl rfl rfl rfl hz57 (by omega) (by omega) hx1 (h_fgt (E := fun s => s 64 2 = σ1 64 2 ∧ s 64 4 = σ1 64 4 ∧ s 64 3 = σ1 64 3 ∧ s 64 5 = σ1 64 5 ∧ s 63 2 = σ1 63 2 ∧ s 63 3 = σ1 63 3 ∧ s 64 1 = σ1 64 1 ∧ s 66 8 = σ1 66 8 ∧ s 66 9 = σ1 66 9 ∧ s 66 10 = σ1 66 10 ∧ s 69 2 = σ1 69 2 ∧ s 72 2 = σ1 72 2 ∧ s 63 5 = σ1 63 5 ∧ s = h_up σ1 75 (σ1 66 9) a1) _ (in_75 hI1 (by omega)) (F1.up rfl) ⟨rfl, rfl, rfl, rfl, rfl, rfl, rfl, rfl, rfl, rfl, rfl, rfl, rfl, rfl⟩ (fun s58 Is58 Fs58 (es58 : s58 64 2 = σ1 64 2 ∧ s58 64 4 = σ1 64 4 ∧ s58 64 3 = σ1 64 3 ∧ s58 64 5 = σ1 64 5 ∧ s58 63 2 = σ1 63 2 ∧ s58 63 3 = σ1 63 3 ∧ s58 64 1 = σ1 64 1 ∧ s58 66 8 = σ1 66 8 ∧ s58 66 9 = σ1 66 9 ∧ s58 66 10 = σ1 66 10 ∧ s58 69 2 = σ1 69 2 ∧ s58 72 2 = σ1 72 2 ∧ s58 63 5 = σ1 63 5 ∧ s58 = h_up σ1 75 (σ1 66 9) a1) => ?_))
    clear hz57
    refine h_aload_n (pc' := 19) rfl rfl rfl ?_
    refine h_getR (pc' := 22) rfl rfl rfl rfl rfl ?_
    refine h_aload_n (pc' := 23) rfl rfl rfl ?_
    refine h_getI (pc' := 26) (v := σ1 66 9) rfl rfl rfl rfl rfl es58.2.2.2.2.2.2.2.2.1 (fun z59 hz59 => ?_)
    refine h_iload_n (pc' := 27) rfl rfl rfl ?_
    refine h_iast (pc' := 28) rfl rfl rfl rfl hz59 (by omega) (by omega) ci_m4 (h_fgt (E := fun s => s 64 2 = σ1 64 2 ∧ s 64 4 = σ1 64 4 ∧ s 64 3 = σ1 64 3 ∧ s 64 5 = σ1 64 5 ∧ s 63 2 = σ1 63 2 ∧ s 63 3 = σ1 63 3 ∧ s 64 1 = σ1 64 1 ∧ s 66 8 = σ1 66 8 ∧ s 66 9 = σ1 66 9 ∧ s 66 10 = σ1 66 10 ∧ s 69 2 = σ1 69 2 ∧ s 72 2 = σ1 72 2 ∧ s 63 5 = σ1 63 5 ∧ s = h_up s58 76 (σ1 66 9) (-4)) _ (in_76 Is58 (by omega)) (Fs58.up rfl) ⟨es58.1, es58.2.1, es58.2.2.1, es58.2.2.2.1, es58.2.2.2.2.1, es58.2.2.2.2.2.1, es58.2.2.2.2.2.2.1, es58.2.2.2.2.2.2.2.1, es58.2.2.2.2.2.2.2.2.1, es58.2.2.2.2.2.2.2.2.2.1, es58.2.2.2.2.2.2.2.2.2.2.1, es58.2.2.2.2.2.2.2.2.2.2.2.1, es58.2.2.2.2.2.2.2.2.2.2.2.2.1, rfl⟩ (fun s60 Is60 Fs60 (es60 : s60 64 2 = σ1 64 2 ∧ s60 64 4 = σ1 64 4 ∧ s60 64 3 = σ1 64 3 ∧ s60 64 5 = σ1 64 5 ∧ s60 63 2 = σ1 63 2 ∧ s60 63 3 = σ1 63 3 ∧ s60 64 1 = σ1 64 1 ∧ s60 66 8 = σ1 66 8 ∧ s60 66 9 = σ1 66 9 ∧ s60 66 10 = σ1 66 10 ∧ s60 69 2 = σ1 69 2 ∧ s60 72 2 = σ1 72 2 ∧ s60 63 5 = σ1 63 5 ∧ s60 = h_up s58 76 (σ1 66 9) (-4)) => ?_))
    clear hz59
    refine h_aload_n (pc' := 29) rfl rfl rfl ?_
    refine h_getR (pc' := 32) rfl rfl rfl rfl rfl ?_
    refine h_aload_n (pc' := 33) rfl rfl rfl ?_
    refine h_getI (pc' := 36) (v := σ1 66 9) rfl rfl rfl rfl rfl es60.2.2.2.2.2.2.2.2.1 (fun z61 hz61 => ?_)
    refine h_iconst (pc' := 37) (x := (Int32.ofInt 0)) rfl rfl rfl ?_
    refine h_iast (pc' := 38) rfl rfl rfl rfl hz61 (by omega) (by omega) ci_0 (h_fgt (E := fun s => s 64 2 = σ1 64 2 ∧ s 64 4 = σ1 64 4 ∧ s 64 3 = σ1 64 3 ∧ s 64 5 = σ1 64 5 ∧ s 63 2 = σ1 63 2 ∧ s 63 3 = σ1 63 3 ∧ s 64 1 = σ1 64 1 ∧ s 66 8 = σ1 66 8 ∧ s 66 9 = σ1 66 9 ∧ s 66 10 = σ1 66 10 ∧ s 69 2 = σ1 69 2 ∧ s 72 2 = σ1 72 2 ∧ s 63 5 = σ1 63 5 ∧ s = h_up s60 77 (σ1 66 9) 0) _ (in_77 Is60 (by omega)) (Fs60.up rfl) ⟨es60.1, es60.2.1, es60.2.2.1, es60.2.2.2.1, es60.2.2.2.2.1, es60.2.2.2.2.2.1, es60.2.2.2.2.2.2.1, es60.2.2.2.2.2.2.2.1, es60.2.2.2.2.2.2.2.2.1, es60.2.2.2.2.2.2.2.2.2.1, es60.2.2.2.2.2.2.2.2.2.2.1, es60.2.2.2.2.2.2.2.2.2.2.2.1, es60.2.2.2.2.2.2.2.2.2.2.2.2.1, rfl⟩ (fun s62 Is62 Fs62 (es62 : s62 64 2 = σ1 64 2 ∧ s62 64 4 = σ1 64 4 ∧ s62 64 3 = σ1 64 3 ∧ s62 64 5 = σ1 64 5 ∧ s62 63 2 = σ1 63 2 ∧ s62 63 3 = σ1 63 3 ∧ s62 64 1 = σ1 64 1 ∧ s62 66 8 = σ1 66 8 ∧ s62 66 9 = σ1 66 9 ∧ s62 66 10 = σ1 66 10 ∧ s62 69 2 = σ1 69 2 ∧ s62 72 2 = σ1 72 2 ∧ s62 63 5 = σ1 63 5 ∧ s62 = h_up s60 77 (σ1 66 9) 0) => ?_))
    clear hz61
    refine h_aload_n (pc' := 39) rfl rfl rfl ?_
    refine h_dup (pc' := 40) rfl rfl rfl ?_
    refine h_getI (pc' := 43) (v := σ1 66 9) rfl rfl rfl rfl rfl es62.2.2.2.2.2.2.2.2.1 (fun z63 hz63 => ?_)
    refine h_iconst (pc' := 44) (x := (Int32.ofInt 1)) rfl rfl rfl ?_
    refine h_iadd (pc' := 45) rfl rfl hz63 ci_1 rfl (by omega) (by omega) (fun z64 hz64 => ?_)
    clear hz63
    refine h_put (pc' := 48) rfl rfl rfl rfl rfl rfl hz64 rfl (h_fgt (E := fun s => s 64 2 = σ1 64 2 ∧ s 64 4 = σ1 64 4 ∧ s 64 3 = σ1 64 3 ∧ s 64 5 = σ1 64 5 ∧ s 63 2 = σ1 63 2 ∧ s 63 3 = σ1 63 3 ∧ s 64 1 = σ1 64 1 ∧ s 66 8 = σ1 66 8 ∧ s 66 9 = ((σ1 66 9) + 1) ∧ s 66 10 = σ1 66 10 ∧ s 69 2 = σ1 69 2 ∧ s 72 2 = σ1 72 2 ∧ s 63 5 = σ1 63 5 ∧ s = h_up s62 66 9 ((σ1 66 9) + 1)) _ (if_66_9 Is62 (by omega)) (Fs62.up rfl) ⟨es62.1, es62.2.1, es62.2.2.1, es62.2.2.2.1, es62.2.2.2.2.1, es62.2.2.2.2.2.1, es62.2.2.2.2.2.2.1, es62.2.2.2.2.2.2.2.1, rfl, es62.2.2.2.2.2.2.2.2.2.1, es62.2.2.2.2.2.2.2.2.2.2.1, es62.2.2.2.2.2.2.2.2.2.2.2.1, es62.2.2.2.2.2.2.2.2.2.2.2.2.1, rfl⟩ (fun s65 Is65 Fs65 (es65 : s65 64 2 = σ1 64 2 ∧ s65 64 4 = σ1 64 4 ∧ s65 64 3 = σ1 64 3 ∧ s65 64 5 = σ1 64 5 ∧ s65 63 2 = σ1 63 2 ∧ s65 63 3 = σ1 63 3 ∧ s65 64 1 = σ1 64 1 ∧ s65 66 8 = σ1 66 8 ∧ s65 66 9 = ((σ1 66 9) + 1) ∧ s65 66 10 = σ1 66 10 ∧ s65 69 2 = σ1 69 2 ∧ s65 72 2 = σ1 72 2 ∧ s65 63 5 = σ1 63 5 ∧ s65 = h_up s62 66 9 ((σ1 66 9) + 1)) => ?_))
    refine h_vret rfl rfl (h_Kn ?_)
    refine d_toM (g_inj ns) hl2 hR2 (fun lvw66 memw66 hlw66 hRw66 => ?_)
    show h_T g_P (g_Y ns) 153 128 [(0, .ref 98)] [] σ2 _
    refine h_aload_n (pc' := 129) rfl rfl rfl ?_
    refine h_getI (pc' := 132) (v := σ2 98 13) rfl rfl rfl rfl rfl rfl (fun z67 hz67 => ?_)
    have tz67 := tf_98_13 hI2
    refine h_zne (tg := 161) (pc' := 135) rfl rfl rfl hz67 (fun c68 => absurd c68 (by omega)) (fun c68 => ?_)
    clear hz67
    refine h_aload_n (pc' := 136) rfl rfl rfl ?_
    refine h_getI (pc' := 139) (v := σ2 98 17) rfl rfl rfl rfl rfl rfl (fun z69 hz69 => ?_)
    have tz69 := tf_98_17 hI2
    refine h_iconst (pc' := 140) (x := (Int32.ofInt 2)) rfl rfl rfl ?_
    refine h_cne (tg := 161) (pc' := 143) rfl rfl rfl hz69 ci_2 (fun c70 => ?_) (fun c70 => absurd c70 (by omega))
    clear hz69
    refine h_aload_n (pc' := 162) rfl rfl rfl ?_
    refine h_dup (pc' := 163) rfl rfl rfl ?_
    refine h_getI (pc' := 166) (v := σ2 98 6) rfl rfl rfl rfl rfl rfl (fun z71 hz71 => ?_)
    have tz71 := tf_98_6 hI2
    refine h_iconst (pc' := 167) (x := (Int32.ofInt 1)) rfl rfl rfl ?_
    refine h_iadd (pc' := 168) rfl rfl hz71 ci_1 rfl (by omega) (by omega) (fun z72 hz72 => ?_)
    clear hz71
    refine h_put (pc' := 171) rfl rfl rfl rfl rfl rfl hz72 rfl (h_fgt (E := fun s => s 98 15 = σ2 98 15 ∧ s 98 16 = σ2 98 16 ∧ s 98 17 = σ2 98 17 ∧ s 98 18 = σ2 98 18 ∧ s 98 13 = σ2 98 13 ∧ s 98 14 = σ2 98 14 ∧ s 98 5 = σ2 98 5 ∧ s 98 6 = ((σ2 98 6) + 1) ∧ s 98 7 = σ2 98 7 ∧ s 98 8 = σ2 98 8 ∧ s 98 9 = σ2 98 9 ∧ s 101 18 = σ2 101 18 ∧ s 101 25 = σ2 101 25 ∧ s 101 43 = σ2 101 43 ∧ s = h_up σ2 98 6 ((σ2 98 6) + 1)) _ (if_98_6 hI2 (by omega)) (F2.up rfl) ⟨rfl, rfl, rfl, rfl, rfl, rfl, rfl, rfl, rfl, rfl, rfl, rfl, rfl, rfl, rfl⟩ (fun s73 Is73 Fs73 (es73 : s73 98 15 = σ2 98 15 ∧ s73 98 16 = σ2 98 16 ∧ s73 98 17 = σ2 98 17 ∧ s73 98 18 = σ2 98 18 ∧ s73 98 13 = σ2 98 13 ∧ s73 98 14 = σ2 98 14 ∧ s73 98 5 = σ2 98 5 ∧ s73 98 6 = ((σ2 98 6) + 1) ∧ s73 98 7 = σ2 98 7 ∧ s73 98 8 = σ2 98 8 ∧ s73 98 9 = σ2 98 9 ∧ s73 101 18 = σ2 101 18 ∧ s73 101 25 = σ2 101 25 ∧ s73 101 43 = σ2 101 43 ∧ s73 = h_up σ2 98 6 ((σ2 98 6) + 1)) => ?_))
    refine h_goto (pc' := 178) rfl rfl ?_
    refine d_toL (g_inj ns) hlw66 hRw66 (fun lvw74 memw74 hlw74 hRw74 => ?_)
    show h_T g_P (g_Y ns) 61 61 [(2, .int (Int32.ofInt (-4))), (0, .ref 63), (1, .int x1)] [] s65 _
    exact h_wk [(0, .ref 63)] ⟨rfl, trivial⟩ (kx0 _ _ Is65 Is73 Fs65 Fs73 (by omega) (by omega) (by omega) (by omega) (by omega) (fun _ => d_mk (es65.2.2.2.2.2.2.2.1) (es65.2.2.2.2.2.2.2.2.1) (es65.2.2.2.2.2.2.2.2.2.1) (es65.2.2.2.2.2.2.2.2.2.2.1) (es65.2.2.2.2.2.2.2.2.2.2.2.1) (es65.2.2.2.2.2.2.2.2.2.2.2.2.1) (fun j => (h_upo es65.2.2.2.2.2.2.2.2.2.2.2.2.2 rfl j).trans ((h_upo es62.2.2.2.2.2.2.2.2.2.2.2.2.2 rfl j).trans ((h_upo es60.2.2.2.2.2.2.2.2.2.2.2.2.2 rfl j).trans ((h_upo es58.2.2.2.2.2.2.2.2.2.2.2.2.2 rfl j))))) (fun j => (h_upo es65.2.2.2.2.2.2.2.2.2.2.2.2.2 rfl j).trans ((h_upo es62.2.2.2.2.2.2.2.2.2.2.2.2.2 rfl j).trans ((h_upo es60.2.2.2.2.2.2.2.2.2.2.2.2.2 rfl j).trans ((h_upo es58.2.2.2.2.2.2.2.2.2.2.2.2.2 rfl j))))) (fun j => (h_upo es65.2.2.2.2.2.2.2.2.2.2.2.2.2 rfl j).trans ((h_upo es62.2.2.2.2.2.2.2.2.2.2.2.2.2 rfl j).trans ((h_upo es60.2.2.2.2.2.2.2.2.2.2.2.2.2 rfl j).trans ((h_upo es58.2.2.2.2.2.2.2.2.2.2.2.2.2 rfl j))))) (fun j => (h_upo es65.2.2.2.2.2.2.2.2.2.2.2.2.2 rfl j).trans ((h_upo es62.2.2.2.2.2.2.2.2.2.2.2.2.2 rfl j).trans ((h_upo es60.2.2.2.2.2.2.2.2.2.2.2.2.2 rfl j).trans ((h_upo es58.2.2.2.2.2.2.2.2.2.2.2.2.2 rfl j))))) (fun j => (h_upo es65.2.2.2.2.2.2.2.2.2.2.2.2.2 rfl j).trans ((h_upo es62.2.2.2.2.2.2.2.2.2.2.2.2.2 rfl j).trans ((h_upo es60.2.2.2.2.2.2.2.2.2.2.2.2.2 rfl j).trans ((h_upo es58.2.2.2.2.2.2.2.2.2.2.2.2.2 rfl j))))) (fun j => (h_upo es65.2.2.2.2.2.2.2.2.2.2.2.2.2 rfl j).trans ((h_upo es62.2.2.2.2.2.2.2.2.2.2.2.2.2 rfl j).trans ((h_upo es60.2.2.2.2.2.2.2.2.2.2.2.2.2 rfl j).trans ((h_upo es58.2.2.2.2.2.2.2.2.2.2.2.2.2 rfl j))))) (fun j => (h_upo es65.2.2.2.2.2.2.2.2.2.2.2.2.2 rfl j).trans ((h_upo es62.2.2.2.2.2.2.2.2.2.2.2.2.2 rfl j).trans ((h_upo es60.2.2.2.2.2.2.2.2.2.2.2.2.2 rfl j).trans ((h_upi es58.2.2.2.2.2.2.2.2.2.2.2.2.2 j))))) (fun j => (h_upo es65.2.2.2.2.2.2.2.2.2.2.2.2.2 rfl j).trans ((h_upo es62.2.2.2.2.2.2.2.2.2.2.2.2.2 rfl j).trans ((h_upi es60.2.2.2.2.2.2.2.2.2.2.2.2.2 j).trans (congrArg (fun z => if j = (σ1 66 9) then (-4) else z) ((h_upo es58.2.2.2.2.2.2.2.2.2.2.2.2.2 rfl j)))))) (fun j => (h_upo es65.2.2.2.2.2.2.2.2.2.2.2.2.2 rfl j).trans ((h_upi es62.2.2.2.2.2.2.2.2.2.2.2.2.2 j).trans (congrArg (fun z => if j = (σ1 66 9) then 0 else z) ((h_upo es60.2.2.2.2.2.2.2.2.2.2.2.2.2 rfl j).trans ((h_upo es58.2.2.2.2.2.2.2.2.2.2.2.2.2 rfl j)))))) (fun j => (h_upo es65.2.2.2.2.2.2.2.2.2.2.2.2.2 rfl j).trans ((h_upo es62.2.2.2.2.2.2.2.2.2.2.2.2.2 rfl j).trans ((h_upo es60.2.2.2.2.2.2.2.2.2.2.2.2.2 rfl j).trans ((h_upo es58.2.2.2.2.2.2.2.2.2.2.2.2.2 rfl j))))) (es73.2.2.2.2.2.2.1) (es73.2.2.2.2.2.2.2.1) (es73.2.2.2.2.2.2.2.2.1) (es73.2.2.2.2.2.2.2.2.2.1) (es73.2.2.2.2.2.2.2.2.2.2.1) (fun j => (h_upo es73.2.2.2.2.2.2.2.2.2.2.2.2.2.2 rfl j)) (r_gatA pr10 (by omega) (by omega) (by omega) (by omega) (by omega) (by omega) (by omega))) (Or.inr (Or.inr (Or.inl ⟨by omega, by omega, by omega, by omega, by omega⟩))) _ _ (h_al_ok ⟨rfl, trivial⟩ hlw74) hRw74)
  · show h_T g_P (g_Y ns) 61 27 [(0, .ref 63), (1, .int x1)] [] σ1 _
    refine h_aload_n (pc' := 28) rfl rfl rfl ?_
    refine h_call (sp := false) (pc' := 31) (M := [(0, .ref 63)]) rfl rfl rfl rfl rfl rfl rfl rfl ?_
    refine h_aload_n (pc' := 1) rfl rfl rfl ?_
    refine h_getI (pc' := 4) (v := σ1 63 2) rfl rfl rfl rfl rfl rfl (fun z75 hz75 => ?_)
    have tz75 := tf_63_2 hI1
    refine h_zne (tg := 22) (pc' := 7) rfl rfl rfl hz75 (fun c76 => absurd c76 (by omega)) (fun c76 => ?_)
    clear hz75
    refine h_aload_n (pc' := 8) rfl rfl rfl ?_
    refine h_getR (pc' := 11) rfl rfl rfl rfl rfl ?_
    refine h_getI (pc' := 14) (v := σ1 64 3) rfl rfl rfl rfl rfl rfl (fun z77 hz77 => ?_)
    have tz77 := tf_64_3 hI1
    refine h_iconst (pc' := 15) (x := (Int32.ofInt 2)) rfl rfl rfl ?_
    refine h_cne (tg := 22) (pc' := 18) rfl rfl rfl hz77 ci_2 (fun c78 => absurd c78 (by omega)) (fun c78 => ?_)
    clear hz77
    refine h_iconst (pc' := 19) (x := (Int32.ofInt 1)) rfl rfl rfl ?_
    refine h_goto (pc' := 23) rfl rfl ?_
    refine h_zret rfl rfl ci_1 (by omega) (h_Kv ?_)
    refine h_zeq (tg := 42) (pc' := 34) rfl rfl rfl ci_1 (fun c79 => absurd c79 (by omega)) (fun c79 => ?_)
    refine h_aload_n (pc' := 35) rfl rfl rfl ?_
    refine h_iconst (pc' := 36) (x := (Int32.ofInt 5)) rfl rfl rfl ?_
    refine d_toM (g_inj ns) hl2 hR2 (fun lvw80 memw80 hlw80 hRw80 => ?_)
    show h_T g_P (g_Y ns) 153 128 [(0, .ref 98)] [] σ2 _
    refine h_aload_n (pc' := 129) rfl rfl rfl ?_
    refine h_getI (pc' := 132) (v := σ2 98 13) rfl rfl rfl rfl rfl rfl (fun z81 hz81 => ?_)
    have tz81 := tf_98_13 hI2
    refine h_zne (tg := 161) (pc' := 135) rfl rfl rfl hz81 (fun c82 => absurd c82 (by omega)) (fun c82 => ?_)
    clear hz81
    refine h_aload_n (pc' := 136) rfl rfl rfl ?_
    refine h_getI (pc' := 139) (v := σ2 98 17) rfl rfl rfl rfl rfl rfl (fun z83 hz83 => ?_)
    have tz83 := tf_98_17 hI2
    refine h_iconst (pc' := 140) (x := (Int32.ofInt 2)) rfl rfl rfl ?_
    refine h_cne (tg := 161) (pc' := 143) rfl rfl rfl hz83 ci_2 (fun c84 => absurd c84 (by omega)) (fun c84 => ?_)
    clear hz83
    refine h_aload_n (pc' := 144) rfl rfl rfl ?_
    refine h_getR (pc' := 147) rfl rfl rfl rfl rfl ?_
    refine h_bipush (pc' := 149) (x := (Int32.ofInt 29)) rfl rfl cb_29 ?_
    refine h_aload_n (pc' := 150) rfl rfl rfl ?_
    refine h_getI (pc' := 153) (v := σ2 98 6) rfl rfl rfl rfl rfl rfl (fun z85 hz85 => ?_)
    have tz85 := tf_98_6 hI2
    refine h_iadd (pc' := 154) rfl rfl ci_29 hz85 rfl (by omega) (by omega) (fun z86 hz86 => ?_)
    clear hz85
    refine h_aload_n (pc' := 155) rfl rfl rfl ?_
    refine d_call (g_inj ns) (pc' := 158) (m := 150) (M := [(0, .ref 98)]) (rest := [.int z86, .ref 101]) ⟨false, _, _, _, _, _, _, rfl, rfl, rfl, rfl, rfl, rfl, rfl⟩ (fun lv87 hlv87 => ?_)
    refine h_aload_n (pc' := 1) rfl rfl rfl ?_
    refine h_iconst (pc' := 2) (x := (Int32.ofInt 0)) rfl rfl rfl ?_
    refine h_iconst (pc' := 3) (x := (Int32.ofInt 5)) rfl rfl rfl ?_
    refine d_pcall (g_inj ns) (m1 := 58) (pc1' := 39) (M1 := [(0, .ref 63), (1, .int (Int32.ofInt 5))]) (rest1 := []) (m2 := 149) (pc2' := 6) (M2 := [(0, .ref 98), (1, .int (Int32.ofInt 0)), (2, .int (Int32.ofInt 5))]) (rest2 := []) ⟨false, _, _, _, _, _, _, rfl, rfl, rfl, rfl, rfl, rfl, rfl⟩ ⟨false, _, _, _, _, _, _, rfl, rfl, rfl, rfl, rfl, rfl, rfl⟩ hRw80 ?_
    refine pp_num hI1 hI2 (hTL.fr (F1.mono rfl) (F2.mono rfl)) (Int32.ofInt 5) _ ci_5 (Int32.ofInt 5) _ ci_5 (by omega) (by omega) (by omega) (by omega) (by omega) (by omega) (Or.inr (Or.inr (Or.inr (Or.inl ⟨by omega, by omega, by omega, by omega, by omega, by omega, by omega, by omega⟩)))) (fun rq88x bq88x hq88x rq88m bq88m hq88m sq88 tq88 Isq88 Itq88 Gsq88 Gtq88 yq88_0 yq88_1 yq88_2 yq88_3 yq88_4 pcq88 memq88 hRq88 => ?_)
    have Fsq88 := (Gsq88.mono (B := k_pl) rfl).tr F1
    have Ftq88 := (Gtq88.mono (B := k_pm) rfl).tr F2
    have esq88_6 : sq88 64 1 = σ1 64 1 := (Gsq88 64 1 rfl).trans rfl
    have esq88_7 : sq88 66 8 = σ1 66 8 := (Gsq88 66 8 rfl).trans rfl
    have esq88_8 : sq88 66 9 = σ1 66 9 := (Gsq88 66 9 rfl).trans rfl
    have esq88_9 : sq88 66 10 = σ1 66 10 := (Gsq88 66 10 rfl).trans rfl
    have esq88_10 : sq88 69 2 = σ1 69 2 := (Gsq88 69 2 rfl).trans rfl
    have esq88_11 : sq88 72 2 = σ1 72 2 := (Gsq88 72 2 rfl).trans rfl
    have esq88_12 : sq88 63 5 = σ1 63 5 := (Gsq88 63 5 rfl).trans rfl
    have etq88_6 : tq88 98 5 = σ2 98 5 := (Gtq88 98 5 rfl).trans rfl
    have etq88_7 : tq88 98 6 = σ2 98 6 := (Gtq88 98 6 rfl).trans rfl
    have etq88_8 : tq88 98 7 = σ2 98 7 := (Gtq88 98 7 rfl).trans rfl
    have etq88_9 : tq88 98 8 = σ2 98 8 := (Gtq88 98 8 rfl).trans rfl
    have etq88_10 : tq88 98 9 = σ2 98 9 := (Gtq88 98 9 rfl).trans rfl
    have etq88_11 : tq88 101 18 = σ2 101 18 := (Gtq88 101 18 rfl).trans rfl
    have etq88_12 : tq88 101 25 = σ2 101 25 := (Gtq88 101 25 rfl).trans rfl
    have etq88_13 : tq88 101 43 = σ2 101 43 := (Gtq88 101 43 rfl).trans rfl
    rcases pcq88 with pcq88 | pcq88
    · show h_T g_P (g_Y ns) 150 6 [(0, .ref 98)] [.int rq88m] tq88 _
      refine h_istore_n (pc' := 7) (M := [(1, .int rq88m), (0, .ref 98)]) rfl rfl rfl rfl ?_
      have oH89 : tq88 98 8 = σ2 98 8 := etq88_9
      have uH89 := tf_98_8 Itq88
      refine h_wk [(0, .ref 98), (1, .int rq88m)] ⟨rfl, rfl, trivial⟩ (lm_hi _ Itq88 rq88m _ hq88m (by omega) (fun H89 hH89 => (h_fgt (E := fun s => s 98 15 = tq88 98 15 ∧ s 98 16 = tq88 98 16 ∧ s 98 17 = tq88 98 17 ∧ s 98 18 = tq88 98 18 ∧ s 98 13 = tq88 98 13 ∧ s 98 14 = tq88 98 14 ∧ s 98 5 = σ2 98 5 ∧ s 98 6 = σ2 98 6 ∧ s 98 7 = σ2 98 7 ∧ s 98 8 = H89 ∧ s 98 9 = σ2 98 9 ∧ s 101 18 = σ2 101 18 ∧ s 101 25 = σ2 101 25 ∧ s 101 43 = σ2 101 43 ∧ s = h_up tq88 98 8 H89) _ (if_98_8 Itq88 (by omega)) (Ftq88.up rfl) ⟨rfl, rfl, rfl, rfl, rfl, rfl, etq88_6, etq88_7, etq88_8, rfl, etq88_10, etq88_11, etq88_12, etq88_13, rfl⟩ (fun s90 Is90 Fs90 (es90 : s90 98 15 = tq88 98 15 ∧ s90 98 16 = tq88 98 16 ∧ s90 98 17 = tq88 98 17 ∧ s90 98 18 = tq88 98 18 ∧ s90 98 13 = tq88 98 13 ∧ s90 98 14 = tq88 98 14 ∧ s90 98 5 = σ2 98 5 ∧ s90 98 6 = σ2 98 6 ∧ s90 98 7 = σ2 98 7 ∧ s90 98 8 = H89 ∧ s90 98 9 = σ2 98 9 ∧ s90 101 18 = σ2 101 18 ∧ s90 101 25 = σ2 101 25 ∧ s90 101 43 = σ2 101 43 ∧ s90 = h_up tq88 98 8 H89) => ?_))))
      refine h_iload_n (pc' := 28) rfl rfl rfl ?_
      refine h_iret rfl rfl (d_ret hlv87 ?_)
      refine h_iconst (pc' := 159) (x := (Int32.ofInt 1)) rfl rfl rfl ?_
      refine h_iadd (pc' := 160) rfl rfl hq88m ci_1 rfl (by have g0 := h_rgv hq88m; omega) (by have g0 := h_rgv hq88m; omega) (fun z91 hz91 => ?_)
      clear hq88m
      refine h_iast (pc' := 161) rfl rfl rfl rfl hz86 (by omega) (by omega) hz91 (h_fgt (E := fun s => s 98 15 = tq88 98 15 ∧ s 98 16 = tq88 98 16 ∧ s 98 17 = tq88 98 17 ∧ s 98 18 = tq88 98 18 ∧ s 98 13 = tq88 98 13 ∧ s 98 14 = tq88 98 14 ∧ s 98 5 = σ2 98 5 ∧ s 98 6 = σ2 98 6 ∧ s 98 7 = σ2 98 7 ∧ s 98 8 = H89 ∧ s 98 9 = σ2 98 9 ∧ s 101 18 = σ2 101 18 ∧ s 101 25 = σ2 101 25 ∧ s 101 43 = σ2 101 43 ∧ s = h_up s90 101 (29 + (σ2 98 6)) (bq88m + 1)) _ (ip_101_7 Is90 (by omega) (by omega)) (Fs90.up rfl) ⟨es90.1, es90.2.1, es90.2.2.1, es90.2.2.2.1, es90.2.2.2.2.1, es90.2.2.2.2.2.1, es90.2.2.2.2.2.2.1, es90.2.2.2.2.2.2.2.1, es90.2.2.2.2.2.2.2.2.1, es90.2.2.2.2.2.2.2.2.2.1, es90.2.2.2.2.2.2.2.2.2.2.1, h_up_n2 (by omega) es90.2.2.2.2.2.2.2.2.2.2.2.1, h_up_n2 (by omega) es90.2.2.2.2.2.2.2.2.2.2.2.2.1, h_up_n2 (by omega) es90.2.2.2.2.2.2.2.2.2.2.2.2.2.1, rfl⟩ (fun s92 Is92 Fs92 (es92 : s92 98 15 = tq88 98 15 ∧ s92 98 16 = tq88 98 16 ∧ s92 98 17 = tq88 98 17 ∧ s92 98 18 = tq88 98 18 ∧ s92 98 13 = tq88 98 13 ∧ s92 98 14 = tq88 98 14 ∧ s92 98 5 = σ2 98 5 ∧ s92 98 6 = σ2 98 6 ∧ s92 98 7 = σ2 98 7 ∧ s92 98 8 = H89 ∧ s92 98 9 = σ2 98 9 ∧ s92 101 18 = σ2 101 18 ∧ s92 101 25 = σ2 101 25 ∧ s92 101 43 = σ2 101 43 ∧ s92 = h_up s90 101 (29 + (σ2 98 6)) (bq88m + 1)) => ?_))
      clear hz86 hz91
      refine h_aload_n (pc' := 162) rfl rfl rfl ?_
      refine h_dup (pc' := 163) rfl rfl rfl ?_
      refine h_getI (pc' := 166) (v := σ2 98 6) rfl rfl rfl rfl rfl es92.2.2.2.2.2.2.2.1 (fun z93 hz93 => ?_)
      refine h_iconst (pc' := 167) (x := (Int32.ofInt 1)) rfl rfl rfl ?_
      refine h_iadd (pc' := 168) rfl rfl hz93 ci_1 rfl (by omega) (by omega) (fun z94 hz94 => ?_)
      clear hz93
      refine h_put (pc' := 171) rfl rfl rfl rfl rfl rfl hz94 rfl (h_fgt (E := fun s => s 98 15 = tq88 98 15 ∧ s 98 16 = tq88 98 16 ∧ s 98 17 = tq88 98 17 ∧ s 98 18 = tq88 98 18 ∧ s 98 13 = tq88 98 13 ∧ s 98 14 = tq88 98 14 ∧ s 98 5 = σ2 98 5 ∧ s 98 6 = ((σ2 98 6) + 1) ∧ s 98 7 = σ2 98 7 ∧ s 98 8 = H89 ∧ s 98 9 = σ2 98 9 ∧ s 101 18 = σ2 101 18 ∧ s 101 25 = σ2 101 25 ∧ s 101 43 = σ2 101 43 ∧ s = h_up s92 98 6 ((σ2 98 6) + 1)) _ (if_98_6 Is92 (by omega)) (Fs92.up rfl) ⟨es92.1, es92.2.1, es92.2.2.1, es92.2.2.2.1, es92.2.2.2.2.1, es92.2.2.2.2.2.1, es92.2.2.2.2.2.2.1, rfl, es92.2.2.2.2.2.2.2.2.1, es92.2.2.2.2.2.2.2.2.2.1, es92.2.2.2.2.2.2.2.2.2.2.1, es92.2.2.2.2.2.2.2.2.2.2.2.1, es92.2.2.2.2.2.2.2.2.2.2.2.2.1, es92.2.2.2.2.2.2.2.2.2.2.2.2.2.1, rfl⟩ (fun s95 Is95 Fs95 (es95 : s95 98 15 = tq88 98 15 ∧ s95 98 16 = tq88 98 16 ∧ s95 98 17 = tq88 98 17 ∧ s95 98 18 = tq88 98 18 ∧ s95 98 13 = tq88 98 13 ∧ s95 98 14 = tq88 98 14 ∧ s95 98 5 = σ2 98 5 ∧ s95 98 6 = ((σ2 98 6) + 1) ∧ s95 98 7 = σ2 98 7 ∧ s95 98 8 = H89 ∧ s95 98 9 = σ2 98 9 ∧ s95 101 18 = σ2 101 18 ∧ s95 101 25 = σ2 101 25 ∧ s95 101 43 = σ2 101 43 ∧ s95 = h_up s92 98 6 ((σ2 98 6) + 1)) => ?_))
      refine h_goto (pc' := 178) rfl rfl ?_
      refine d_toL (g_inj ns) hlw80 hRq88 (fun lvw96 memw96 hlw96 hRw96 => ?_)
      show h_T g_P (g_Y ns) 61 39 [(0, .ref 63), (1, .int x1)] [.int rq88x] sq88 _
      refine h_goto (pc' := 44) rfl rfl ?_
      refine h_istore_n (pc' := 45) (M := [(2, .int rq88x), (0, .ref 63), (1, .int x1)]) rfl rfl rfl rfl ?_
      refine h_aload_n (pc' := 46) rfl rfl rfl ?_
      refine h_getI (pc' := 49) (v := sq88 63 2) rfl rfl rfl rfl rfl rfl (fun z97 hz97 => ?_)
      have tz97 := tf_63_2 Isq88
      refine h_zne (tg := 61) (pc' := 52) rfl rfl rfl hz97 (fun c98 => ?_) (fun c98 => absurd c98 (by omega))
      clear hz97
      exact h_wk [(0, .ref 63)] ⟨rfl, trivial⟩ (kx0 _ _ Isq88 Is95 Fsq88 Fs95 (by omega) (by omega) (by omega) (by omega) (by omega) (fun h => absurd h (by omega)) (Or.inl ⟨by omega, by omega, by omega, by omega⟩) _ _ (h_al_ok ⟨rfl, trivial⟩ hlw96) hRw96)
    · show h_T g_P (g_Y ns) 150 6 [(0, .ref 98)] [.int rq88m] tq88 _
      refine h_istore_n (pc' := 7) (M := [(1, .int rq88m), (0, .ref 98)]) rfl rfl rfl rfl ?_
      have oH99 : tq88 98 8 = σ2 98 8 := etq88_9
      have uH99 := tf_98_8 Itq88
      refine h_wk [(0, .ref 98), (1, .int rq88m)] ⟨rfl, rfl, trivial⟩ (lm_hi _ Itq88 rq88m _ hq88m (by omega) (fun H99 hH99 => (h_fgt (E := fun s => s 98 15 = tq88 98 15 ∧ s 98 16 = tq88 98 16 ∧ s 98 17 = tq88 98 17 ∧ s 98 18 = tq88 98 18 ∧ s 98 13 = tq88 98 13 ∧ s 98 14 = tq88 98 14 ∧ s 98 5 = σ2 98 5 ∧ s 98 6 = σ2 98 6 ∧ s 98 7 = σ2 98 7 ∧ s 98 8 = H99 ∧ s 98 9 = σ2 98 9 ∧ s 101 18 = σ2 101 18 ∧ s 101 25 = σ2 101 25 ∧ s 101 43 = σ2 101 43 ∧ s = h_up tq88 98 8 H99) _ (if_98_8 Itq88 (by omega)) (Ftq88.up rfl) ⟨rfl, rfl, rfl, rfl, rfl, rfl, etq88_6, etq88_7, etq88_8, rfl, etq88_10, etq88_11, etq88_12, etq88_13, rfl⟩ (fun s100 Is100 Fs100 (es100 : s100 98 15 = tq88 98 15 ∧ s100 98 16 = tq88 98 16 ∧ s100 98 17 = tq88 98 17 ∧ s100 98 18 = tq88 98 18 ∧ s100 98 13 = tq88 98 13 ∧ s100 98 14 = tq88 98 14 ∧ s100 98 5 = σ2 98 5 ∧ s100 98 6 = σ2 98 6 ∧ s100 98 7 = σ2 98 7 ∧ s100 98 8 = H99 ∧ s100 98 9 = σ2 98 9 ∧ s100 101 18 = σ2 101 18 ∧ s100 101 25 = σ2 101 25 ∧ s100 101 43 = σ2 101 43 ∧ s100 = h_up tq88 98 8 H99) => ?_))))
      refine h_iload_n (pc' := 28) rfl rfl rfl ?_
      refine h_iret rfl rfl (d_ret hlv87 ?_)
      refine h_iconst (pc' := 159) (x := (Int32.ofInt 1)) rfl rfl rfl ?_
      refine h_iadd (pc' := 160) rfl rfl hq88m ci_1 rfl (by have g0 := h_rgv hq88m; omega) (by have g0 := h_rgv hq88m; omega) (fun z101 hz101 => ?_)
      clear hq88m
      refine h_iast (pc' := 161) rfl rfl rfl rfl hz86 (by omega) (by omega) hz101 (h_fgt (E := fun s => s 98 15 = tq88 98 15 ∧ s 98 16 = tq88 98 16 ∧ s 98 17 = tq88 98 17 ∧ s 98 18 = tq88 98 18 ∧ s 98 13 = tq88 98 13 ∧ s 98 14 = tq88 98 14 ∧ s 98 5 = σ2 98 5 ∧ s 98 6 = σ2 98 6 ∧ s 98 7 = σ2 98 7 ∧ s 98 8 = H99 ∧ s 98 9 = σ2 98 9 ∧ s 101 18 = σ2 101 18 ∧ s 101 25 = σ2 101 25 ∧ s 101 43 = σ2 101 43 ∧ s = h_up s100 101 (29 + (σ2 98 6)) (bq88m + 1)) _ (ip_101_7 Is100 (by omega) (by omega)) (Fs100.up rfl) ⟨es100.1, es100.2.1, es100.2.2.1, es100.2.2.2.1, es100.2.2.2.2.1, es100.2.2.2.2.2.1, es100.2.2.2.2.2.2.1, es100.2.2.2.2.2.2.2.1, es100.2.2.2.2.2.2.2.2.1, es100.2.2.2.2.2.2.2.2.2.1, es100.2.2.2.2.2.2.2.2.2.2.1, h_up_n2 (by omega) es100.2.2.2.2.2.2.2.2.2.2.2.1, h_up_n2 (by omega) es100.2.2.2.2.2.2.2.2.2.2.2.2.1, h_up_n2 (by omega) es100.2.2.2.2.2.2.2.2.2.2.2.2.2.1, rfl⟩ (fun s102 Is102 Fs102 (es102 : s102 98 15 = tq88 98 15 ∧ s102 98 16 = tq88 98 16 ∧ s102 98 17 = tq88 98 17 ∧ s102 98 18 = tq88 98 18 ∧ s102 98 13 = tq88 98 13 ∧ s102 98 14 = tq88 98 14 ∧ s102 98 5 = σ2 98 5 ∧ s102 98 6 = σ2 98 6 ∧ s102 98 7 = σ2 98 7 ∧ s102 98 8 = H99 ∧ s102 98 9 = σ2 98 9 ∧ s102 101 18 = σ2 101 18 ∧ s102 101 25 = σ2 101 25 ∧ s102 101 43 = σ2 101 43 ∧ s102 = h_up s100 101 (29 + (σ2 98 6)) (bq88m + 1)) => ?_))
      clear hz101 hz86
      refine h_aload_n (pc' := 162) rfl rfl rfl ?_
      refine h_dup (pc' := 163) rfl rfl rfl ?_
      refine h_getI (pc' := 166) (v := σ2 98 6) rfl rfl rfl rfl rfl es102.2.2.2.2.2.2.2.1 (fun z103 hz103 => ?_)
      refine h_iconst (pc' := 167) (x := (Int32.ofInt 1)) rfl rfl rfl ?_
      refine h_iadd (pc' := 168) rfl rfl hz103 ci_1 rfl (by omega) (by omega) (fun z104 hz104 => ?_)
      clear hz103
      refine h_put (pc' := 171) rfl rfl rfl rfl rfl rfl hz104 rfl (h_fgt (E := fun s => s 98 15 = tq88 98 15 ∧ s 98 16 = tq88 98 16 ∧ s 98 17 = tq88 98 17 ∧ s 98 18 = tq88 98 18 ∧ s 98 13 = tq88 98 13 ∧ s 98 14 = tq88 98 14 ∧ s 98 5 = σ2 98 5 ∧ s 98 6 = ((σ2 98 6) + 1) ∧ s 98 7 = σ2 98 7 ∧ s 98 8 = H99 ∧ s 98 9 = σ2 98 9 ∧ s 101 18 = σ2 101 18 ∧ s 101 25 = σ2 101 25 ∧ s 101 43 = σ2 101 43 ∧ s = h_up s102 98 6 ((σ2 98 6) + 1)) _ (if_98_6 Is102 (by omega)) (Fs102.up rfl) ⟨es102.1, es102.2.1, es102.2.2.1, es102.2.2.2.1, es102.2.2.2.2.1, es102.2.2.2.2.2.1, es102.2.2.2.2.2.2.1, rfl, es102.2.2.2.2.2.2.2.2.1, es102.2.2.2.2.2.2.2.2.2.1, es102.2.2.2.2.2.2.2.2.2.2.1, es102.2.2.2.2.2.2.2.2.2.2.2.1, es102.2.2.2.2.2.2.2.2.2.2.2.2.1, es102.2.2.2.2.2.2.2.2.2.2.2.2.2.1, rfl⟩ (fun s105 Is105 Fs105 (es105 : s105 98 15 = tq88 98 15 ∧ s105 98 16 = tq88 98 16 ∧ s105 98 17 = tq88 98 17 ∧ s105 98 18 = tq88 98 18 ∧ s105 98 13 = tq88 98 13 ∧ s105 98 14 = tq88 98 14 ∧ s105 98 5 = σ2 98 5 ∧ s105 98 6 = ((σ2 98 6) + 1) ∧ s105 98 7 = σ2 98 7 ∧ s105 98 8 = H99 ∧ s105 98 9 = σ2 98 9 ∧ s105 101 18 = σ2 101 18 ∧ s105 101 25 = σ2 101 25 ∧ s105 101 43 = σ2 101 43 ∧ s105 = h_up s102 98 6 ((σ2 98 6) + 1)) => ?_))
      refine h_goto (pc' := 178) rfl rfl ?_
      refine d_toL (g_inj ns) hlw80 hRq88 (fun lvw106 memw106 hlw106 hRw106 => ?_)
      show h_T g_P (g_Y ns) 61 39 [(0, .ref 63), (1, .int x1)] [.int rq88x] sq88 _
      refine h_goto (pc' := 44) rfl rfl ?_
      refine h_istore_n (pc' := 45) (M := [(2, .int rq88x), (0, .ref 63), (1, .int x1)]) rfl rfl rfl rfl ?_
      refine h_aload_n (pc' := 46) rfl rfl rfl ?_
      refine h_getI (pc' := 49) (v := sq88 63 2) rfl rfl rfl rfl rfl rfl (fun z107 hz107 => ?_)
      have tz107 := tf_63_2 Isq88
      refine h_zne (tg := 61) (pc' := 52) rfl rfl rfl hz107 (fun c108 => absurd c108 (by omega)) (fun c108 => ?_)
      clear hz107
      refine h_aload_n (pc' := 53) rfl rfl rfl ?_
      refine h_getR (pc' := 56) rfl rfl rfl rfl rfl ?_
      refine h_iload_n (pc' := 57) rfl rfl rfl ?_
      refine h_iload_n (pc' := 58) rfl rfl rfl ?_
      refine h_call (sp := false) (pc' := 61) (M := [(0, .ref 66), (1, .int x1), (2, .int rq88x)]) rfl rfl rfl rfl rfl rfl rfl rfl ?_
      refine h_aload_n (pc' := 1) rfl rfl rfl ?_
      refine h_getI (pc' := 4) (v := σ1 66 9) rfl rfl rfl rfl rfl esq88_8 (fun z109 hz109 => ?_)
      have tz109 := tf_66_9 hI1
      refine h_iconst (pc' := 5) (x := (Int32.ofInt 3)) rfl rfl rfl ?_
      refine h_cge (tg := 48) (pc' := 8) rfl rfl rfl hz109 ci_3 (fun c110 => absurd c110 (by omega)) (fun c110 => ?_)
      clear hz109
      refine h_aload_n (pc' := 9) rfl rfl rfl ?_
      refine h_getR (pc' := 12) rfl rfl rfl rfl rfl ?_
      refine h_aload_n (pc' := 13) rfl rfl rfl ?_
      refine h_getI (pc' := 16) (v := σ1 66 9) rfl rfl rfl rfl rfl esq88_8 (fun z111 hz111 => ?_)
      refine h_iload_n (pc' := 17) rfl rfl rfl ?_
      refine h_iast (pc' := 18) rfl rfl rfl rfl hz111 (by omega) (by omega) hx1 (h_fgt (E := fun s => s 64 2 = sq88 64 2 ∧ s 64 4 = sq88 64 4 ∧ s 64 3 = sq88 64 3 ∧ s 64 5 = sq88 64 5 ∧ s 63 2 = sq88 63 2 ∧ s 63 3 = sq88 63 3 ∧ s 64 1 = σ1 64 1 ∧ s 66 8 = σ1 66 8 ∧ s 66 9 = σ1 66 9 ∧ s 66 10 = σ1 66 10 ∧ s 69 2 = σ1 69 2 ∧ s 72 2 = σ1 72 2 ∧ s 63 5 = σ1 63 5 ∧ s = h_up sq88 75 (σ1 66 9) a1) _ (in_75 Isq88 (by omega)) (Fsq88.up rfl) ⟨rfl, rfl, rfl, rfl, rfl, rfl, esq88_6, esq88_7, esq88_8, esq88_9, esq88_10, esq88_11, esq88_12, rfl⟩ (fun s112 Is112 Fs112 (es112 : s112 64 2 = sq88 64 2 ∧ s112 64 4 = sq88 64 4 ∧ s112 64 3 = sq88 64 3 ∧ s112 64 5 = sq88 64 5 ∧ s112 63 2 = sq88 63 2 ∧ s112 63 3 = sq88 63 3 ∧ s112 64 1 = σ1 64 1 ∧ s112 66 8 = σ1 66 8 ∧ s112 66 9 = σ1 66 9 ∧ s112 66 10 = σ1 66 10 ∧ s112 69 2 = σ1 69 2 ∧ s112 72 2 = σ1 72 2 ∧ s112 63 5 = σ1 63 5 ∧ s112 = h_up sq88 75 (σ1 66 9) a1) => ?_))
      clear hz111
      refine h_aload_n (pc' := 19) rfl rfl rfl ?_
      refine h_getR (pc' := 22) rfl rfl rfl rfl rfl ?_
      refine h_aload_n (pc' := 23) rfl rfl rfl ?_
      refine h_getI (pc' := 26) (v := σ1 66 9) rfl rfl rfl rfl rfl es112.2.2.2.2.2.2.2.2.1 (fun z113 hz113 => ?_)
      refine h_iload_n (pc' := 27) rfl rfl rfl ?_
      refine h_iast (pc' := 28) rfl rfl rfl rfl hz113 (by omega) (by omega) hq88x (h_fgt (E := fun s => s 64 2 = sq88 64 2 ∧ s 64 4 = sq88 64 4 ∧ s 64 3 = sq88 64 3 ∧ s 64 5 = sq88 64 5 ∧ s 63 2 = sq88 63 2 ∧ s 63 3 = sq88 63 3 ∧ s 64 1 = σ1 64 1 ∧ s 66 8 = σ1 66 8 ∧ s 66 9 = σ1 66 9 ∧ s 66 10 = σ1 66 10 ∧ s 69 2 = σ1 69 2 ∧ s 72 2 = σ1 72 2 ∧ s 63 5 = σ1 63 5 ∧ s = h_up s112 76 (σ1 66 9) bq88x) _ (in_76 Is112 (by omega)) (Fs112.up rfl) ⟨es112.1, es112.2.1, es112.2.2.1, es112.2.2.2.1, es112.2.2.2.2.1, es112.2.2.2.2.2.1, es112.2.2.2.2.2.2.1, es112.2.2.2.2.2.2.2.1, es112.2.2.2.2.2.2.2.2.1, es112.2.2.2.2.2.2.2.2.2.1, es112.2.2.2.2.2.2.2.2.2.2.1, es112.2.2.2.2.2.2.2.2.2.2.2.1, es112.2.2.2.2.2.2.2.2.2.2.2.2.1, rfl⟩ (fun s114 Is114 Fs114 (es114 : s114 64 2 = sq88 64 2 ∧ s114 64 4 = sq88 64 4 ∧ s114 64 3 = sq88 64 3 ∧ s114 64 5 = sq88 64 5 ∧ s114 63 2 = sq88 63 2 ∧ s114 63 3 = sq88 63 3 ∧ s114 64 1 = σ1 64 1 ∧ s114 66 8 = σ1 66 8 ∧ s114 66 9 = σ1 66 9 ∧ s114 66 10 = σ1 66 10 ∧ s114 69 2 = σ1 69 2 ∧ s114 72 2 = σ1 72 2 ∧ s114 63 5 = σ1 63 5 ∧ s114 = h_up s112 76 (σ1 66 9) bq88x) => ?_))
      clear hz113
      refine h_aload_n (pc' := 29) rfl rfl rfl ?_
      refine h_getR (pc' := 32) rfl rfl rfl rfl rfl ?_
      refine h_aload_n (pc' := 33) rfl rfl rfl ?_
      refine h_getI (pc' := 36) (v := σ1 66 9) rfl rfl rfl rfl rfl es114.2.2.2.2.2.2.2.2.1 (fun z115 hz115 => ?_)
      refine h_iconst (pc' := 37) (x := (Int32.ofInt 0)) rfl rfl rfl ?_
      refine h_iast (pc' := 38) rfl rfl rfl rfl hz115 (by omega) (by omega) ci_0 (h_fgt (E := fun s => s 64 2 = sq88 64 2 ∧ s 64 4 = sq88 64 4 ∧ s 64 3 = sq88 64 3 ∧ s 64 5 = sq88 64 5 ∧ s 63 2 = sq88 63 2 ∧ s 63 3 = sq88 63 3 ∧ s 64 1 = σ1 64 1 ∧ s 66 8 = σ1 66 8 ∧ s 66 9 = σ1 66 9 ∧ s 66 10 = σ1 66 10 ∧ s 69 2 = σ1 69 2 ∧ s 72 2 = σ1 72 2 ∧ s 63 5 = σ1 63 5 ∧ s = h_up s114 77 (σ1 66 9) 0) _ (in_77 Is114 (by omega)) (Fs114.up rfl) ⟨es114.1, es114.2.1, es114.2.2.1, es114.2.2.2.1, es114.2.2.2.2.1, es114.2.2.2.2.2.1, es114.2.2.2.2.2.2.1, es114.2.2.2.2.2.2.2.1, es114.2.2.2.2.2.2.2.2.1, es114.2.2.2.2.2.2.2.2.2.1, es114.2.2.2.2.2.2.2.2.2.2.1, es114.2.2.2.2.2.2.2.2.2.2.2.1, es114.2.2.2.2.2.2.2.2.2.2.2.2.1, rfl⟩ (fun s116 Is116 Fs116 (es116 : s116 64 2 = sq88 64 2 ∧ s116 64 4 = sq88 64 4 ∧ s116 64 3 = sq88 64 3 ∧ s116 64 5 = sq88 64 5 ∧ s116 63 2 = sq88 63 2 ∧ s116 63 3 = sq88 63 3 ∧ s116 64 1 = σ1 64 1 ∧ s116 66 8 = σ1 66 8 ∧ s116 66 9 = σ1 66 9 ∧ s116 66 10 = σ1 66 10 ∧ s116 69 2 = σ1 69 2 ∧ s116 72 2 = σ1 72 2 ∧ s116 63 5 = σ1 63 5 ∧ s116 = h_up s114 77 (σ1 66 9) 0) => ?_))
      clear hz115
      refine h_aload_n (pc' := 39) rfl rfl rfl ?_
      refine h_dup (pc' := 40) rfl rfl rfl ?_
      refine h_getI (pc' := 43) (v := σ1 66 9) rfl rfl rfl rfl rfl es116.2.2.2.2.2.2.2.2.1 (fun z117 hz117 => ?_)
      refine h_iconst (pc' := 44) (x := (Int32.ofInt 1)) rfl rfl rfl ?_
      refine h_iadd (pc' := 45) rfl rfl hz117 ci_1 rfl (by omega) (by omega) (fun z118 hz118 => ?_)
      clear hz117
      refine h_put (pc' := 48) rfl rfl rfl rfl rfl rfl hz118 rfl (h_fgt (E := fun s => s 64 2 = sq88 64 2 ∧ s 64 4 = sq88 64 4 ∧ s 64 3 = sq88 64 3 ∧ s 64 5 = sq88 64 5 ∧ s 63 2 = sq88 63 2 ∧ s 63 3 = sq88 63 3 ∧ s 64 1 = σ1 64 1 ∧ s 66 8 = σ1 66 8 ∧ s 66 9 = ((σ1 66 9) + 1) ∧ s 66 10 = σ1 66 10 ∧ s 69 2 = σ1 69 2 ∧ s 72 2 = σ1 72 2 ∧ s 63 5 = σ1 63 5 ∧ s = h_up s116 66 9 ((σ1 66 9) + 1)) _ (if_66_9 Is116 (by omega)) (Fs116.up rfl) ⟨es116.1, es116.2.1, es116.2.2.1, es116.2.2.2.1, es116.2.2.2.2.1, es116.2.2.2.2.2.1, es116.2.2.2.2.2.2.1, es116.2.2.2.2.2.2.2.1, rfl, es116.2.2.2.2.2.2.2.2.2.1, es116.2.2.2.2.2.2.2.2.2.2.1, es116.2.2.2.2.2.2.2.2.2.2.2.1, es116.2.2.2.2.2.2.2.2.2.2.2.2.1, rfl⟩ (fun s119 Is119 Fs119 (es119 : s119 64 2 = sq88 64 2 ∧ s119 64 4 = sq88 64 4 ∧ s119 64 3 = sq88 64 3 ∧ s119 64 5 = sq88 64 5 ∧ s119 63 2 = sq88 63 2 ∧ s119 63 3 = sq88 63 3 ∧ s119 64 1 = σ1 64 1 ∧ s119 66 8 = σ1 66 8 ∧ s119 66 9 = ((σ1 66 9) + 1) ∧ s119 66 10 = σ1 66 10 ∧ s119 69 2 = σ1 69 2 ∧ s119 72 2 = σ1 72 2 ∧ s119 63 5 = σ1 63 5 ∧ s119 = h_up s116 66 9 ((σ1 66 9) + 1)) => ?_))
      refine h_vret rfl rfl (h_Kn ?_)
      exact h_wk [(0, .ref 63)] ⟨rfl, trivial⟩ (kx0 _ _ Is119 Is105 Fs119 Fs105 (by omega) (by omega) (by omega) (by omega) (by omega) (fun _ => d_mk (es119.2.2.2.2.2.2.2.1) (es119.2.2.2.2.2.2.2.2.1) (es119.2.2.2.2.2.2.2.2.2.1) (es119.2.2.2.2.2.2.2.2.2.2.1) (es119.2.2.2.2.2.2.2.2.2.2.2.1) (es119.2.2.2.2.2.2.2.2.2.2.2.2.1) (fun j => (h_upo es119.2.2.2.2.2.2.2.2.2.2.2.2.2 rfl j).trans ((h_upo es116.2.2.2.2.2.2.2.2.2.2.2.2.2 rfl j).trans ((h_upo es114.2.2.2.2.2.2.2.2.2.2.2.2.2 rfl j).trans ((h_upo es112.2.2.2.2.2.2.2.2.2.2.2.2.2 rfl j).trans ((Gsq88 67 j rfl)))))) (fun j => (h_upo es119.2.2.2.2.2.2.2.2.2.2.2.2.2 rfl j).trans ((h_upo es116.2.2.2.2.2.2.2.2.2.2.2.2.2 rfl j).trans ((h_upo es114.2.2.2.2.2.2.2.2.2.2.2.2.2 rfl j).trans ((h_upo es112.2.2.2.2.2.2.2.2.2.2.2.2.2 rfl j).trans ((Gsq88 68 j rfl)))))) (fun j => (h_upo es119.2.2.2.2.2.2.2.2.2.2.2.2.2 rfl j).trans ((h_upo es116.2.2.2.2.2.2.2.2.2.2.2.2.2 rfl j).trans ((h_upo es114.2.2.2.2.2.2.2.2.2.2.2.2.2 rfl j).trans ((h_upo es112.2.2.2.2.2.2.2.2.2.2.2.2.2 rfl j).trans ((Gsq88 70 j rfl)))))) (fun j => (h_upo es119.2.2.2.2.2.2.2.2.2.2.2.2.2 rfl j).trans ((h_upo es116.2.2.2.2.2.2.2.2.2.2.2.2.2 rfl j).trans ((h_upo es114.2.2.2.2.2.2.2.2.2.2.2.2.2 rfl j).trans ((h_upo es112.2.2.2.2.2.2.2.2.2.2.2.2.2 rfl j).trans ((Gsq88 71 j rfl)))))) (fun j => (h_upo es119.2.2.2.2.2.2.2.2.2.2.2.2.2 rfl j).trans ((h_upo es116.2.2.2.2.2.2.2.2.2.2.2.2.2 rfl j).trans ((h_upo es114.2.2.2.2.2.2.2.2.2.2.2.2.2 rfl j).trans ((h_upo es112.2.2.2.2.2.2.2.2.2.2.2.2.2 rfl j).trans ((Gsq88 73 j rfl)))))) (fun j => (h_upo es119.2.2.2.2.2.2.2.2.2.2.2.2.2 rfl j).trans ((h_upo es116.2.2.2.2.2.2.2.2.2.2.2.2.2 rfl j).trans ((h_upo es114.2.2.2.2.2.2.2.2.2.2.2.2.2 rfl j).trans ((h_upo es112.2.2.2.2.2.2.2.2.2.2.2.2.2 rfl j).trans ((Gsq88 74 j rfl)))))) (fun j => (h_upo es119.2.2.2.2.2.2.2.2.2.2.2.2.2 rfl j).trans ((h_upo es116.2.2.2.2.2.2.2.2.2.2.2.2.2 rfl j).trans ((h_upo es114.2.2.2.2.2.2.2.2.2.2.2.2.2 rfl j).trans ((h_upi es112.2.2.2.2.2.2.2.2.2.2.2.2.2 j).trans (congrArg (fun z => if j = (σ1 66 9) then a1 else z) ((Gsq88 75 j rfl))))))) (fun j => (h_upo es119.2.2.2.2.2.2.2.2.2.2.2.2.2 rfl j).trans ((h_upo es116.2.2.2.2.2.2.2.2.2.2.2.2.2 rfl j).trans ((h_upi es114.2.2.2.2.2.2.2.2.2.2.2.2.2 j).trans (congrArg (fun z => if j = (σ1 66 9) then bq88x else z) ((h_upo es112.2.2.2.2.2.2.2.2.2.2.2.2.2 rfl j).trans ((Gsq88 76 j rfl))))))) (fun j => (h_upo es119.2.2.2.2.2.2.2.2.2.2.2.2.2 rfl j).trans ((h_upi es116.2.2.2.2.2.2.2.2.2.2.2.2.2 j).trans (congrArg (fun z => if j = (σ1 66 9) then 0 else z) ((h_upo es114.2.2.2.2.2.2.2.2.2.2.2.2.2 rfl j).trans ((h_upo es112.2.2.2.2.2.2.2.2.2.2.2.2.2 rfl j).trans ((Gsq88 77 j rfl))))))) (fun j => (h_upo es119.2.2.2.2.2.2.2.2.2.2.2.2.2 rfl j).trans ((h_upo es116.2.2.2.2.2.2.2.2.2.2.2.2.2 rfl j).trans ((h_upo es114.2.2.2.2.2.2.2.2.2.2.2.2.2 rfl j).trans ((h_upo es112.2.2.2.2.2.2.2.2.2.2.2.2.2 rfl j).trans ((Gsq88 78 j rfl)))))) (es105.2.2.2.2.2.2.1) (es105.2.2.2.2.2.2.2.1) (es105.2.2.2.2.2.2.2.2.1) (es105.2.2.2.2.2.2.2.2.2.1) (es105.2.2.2.2.2.2.2.2.2.2.1) (fun j => (h_upo es105.2.2.2.2.2.2.2.2.2.2.2.2.2.2 rfl j).trans ((h_upi es102.2.2.2.2.2.2.2.2.2.2.2.2.2.2 j).trans (congrArg (fun z => if j = (29 + (σ2 98 6)) then (bq88m + 1) else z) ((h_upo es100.2.2.2.2.2.2.2.2.2.2.2.2.2.2 rfl j).trans ((Gtq88 101 j rfl)))))) (r_gatB pr10 (by omega) (by omega) (by omega) (by omega) (by omega) (by omega) (by omega) (by omega) (by omega) (by omega) (by omega) (by omega) (by omega))) (pcq88.elim (fun pcq88 => (Or.inr (Or.inl ⟨by omega, by omega, by omega, by omega, by omega⟩))) (fun pcq88 => (pcq88.elim (fun pcq88 => (Or.inr (Or.inr (Or.inl ⟨by omega, by omega, by omega, by omega, by omega⟩)))) (fun pcq88 => (pcq88.elim (fun pcq88 => (Or.inr (Or.inr (Or.inr (Or.inl ⟨by omega, by omega, by omega, by omega, by omega, by omega, by omega, by omega⟩))))) (fun pcq88 => (Or.inr (Or.inr (Or.inr (Or.inr ⟨by omega, by omega, by omega, by omega, by omega, by omega⟩)))))))))) _ _ (h_al_ok ⟨rfl, trivial⟩ hlw106) hRw106)
  · show h_T g_P (g_Y ns) 61 27 [(0, .ref 63), (1, .int x1)] [] σ1 _
    refine h_aload_n (pc' := 28) rfl rfl rfl ?_
    refine h_call (sp := false) (pc' := 31) (M := [(0, .ref 63)]) rfl rfl rfl rfl rfl rfl rfl rfl ?_
    refine h_aload_n (pc' := 1) rfl rfl rfl ?_
    refine h_getI (pc' := 4) (v := σ1 63 2) rfl rfl rfl rfl rfl rfl (fun z120 hz120 => ?_)
    have tz120 := tf_63_2 hI1
    refine h_zne (tg := 22) (pc' := 7) rfl rfl rfl hz120 (fun c121 => absurd c121 (by omega)) (fun c121 => ?_)
    clear hz120
    refine h_aload_n (pc' := 8) rfl rfl rfl ?_
    refine h_getR (pc' := 11) rfl rfl rfl rfl rfl ?_
    refine h_getI (pc' := 14) (v := σ1 64 3) rfl rfl rfl rfl rfl rfl (fun z122 hz122 => ?_)
    have tz122 := tf_64_3 hI1
    refine h_iconst (pc' := 15) (x := (Int32.ofInt 2)) rfl rfl rfl ?_
    refine h_cne (tg := 22) (pc' := 18) rfl rfl rfl hz122 ci_2 (fun c123 => ?_) (fun c123 => absurd c123 (by omega))
    clear hz122
    refine h_iconst (pc' := 23) (x := (Int32.ofInt 0)) rfl rfl rfl ?_
    refine h_zret rfl rfl ci_0 (by omega) (h_Kv ?_)
    refine h_zeq (tg := 42) (pc' := 34) rfl rfl rfl ci_0 (fun c124 => ?_) (fun c124 => absurd c124 (by omega))
    refine h_bipush (pc' := 44) (x := (Int32.ofInt (-4))) rfl rfl cb_m4 ?_
    refine h_istore_n (pc' := 45) (M := [(2, .int (Int32.ofInt (-4))), (0, .ref 63), (1, .int x1)]) rfl rfl rfl rfl ?_
    refine h_aload_n (pc' := 46) rfl rfl rfl ?_
    refine h_getI (pc' := 49) (v := σ1 63 2) rfl rfl rfl rfl rfl rfl (fun z125 hz125 => ?_)
    refine h_zne (tg := 61) (pc' := 52) rfl rfl rfl hz125 (fun c126 => absurd c126 (by omega)) (fun c126 => ?_)
    clear hz125
    refine h_aload_n (pc' := 53) rfl rfl rfl ?_
    refine h_getR (pc' := 56) rfl rfl rfl rfl rfl ?_
    refine h_iload_n (pc' := 57) rfl rfl rfl ?_
    refine h_iload_n (pc' := 58) rfl rfl rfl ?_
    refine h_call (sp := false) (pc' := 61) (M := [(0, .ref 66), (1, .int x1), (2, .int (Int32.ofInt (-4)))]) rfl rfl rfl rfl rfl rfl rfl rfl ?_
    refine h_aload_n (pc' := 1) rfl rfl rfl ?_
    refine h_getI (pc' := 4) (v := σ1 66 9) rfl rfl rfl rfl rfl rfl (fun z127 hz127 => ?_)
    have tz127 := tf_66_9 hI1
    refine h_iconst (pc' := 5) (x := (Int32.ofInt 3)) rfl rfl rfl ?_
    refine h_cge (tg := 48) (pc' := 8) rfl rfl rfl hz127 ci_3 (fun c128 => absurd c128 (by omega)) (fun c128 => ?_)
    clear hz127
    refine h_aload_n (pc' := 9) rfl rfl rfl ?_
    refine h_getR (pc' := 12) rfl rfl rfl rfl rfl ?_
    refine h_aload_n (pc' := 13) rfl rfl rfl ?_
    refine h_getI (pc' := 16) (v := σ1 66 9) rfl rfl rfl rfl rfl rfl (fun z129 hz129 => ?_)
    refine h_iload_n (pc' := 17) rfl rfl rfl ?_
    refine h_iast (pc' := 18) rfl rfl rfl rfl hz129 (by omega) (by omega) hx1 (h_fgt (E := fun s => s 64 2 = σ1 64 2 ∧ s 64 4 = σ1 64 4 ∧ s 64 3 = σ1 64 3 ∧ s 64 5 = σ1 64 5 ∧ s 63 2 = σ1 63 2 ∧ s 63 3 = σ1 63 3 ∧ s 64 1 = σ1 64 1 ∧ s 66 8 = σ1 66 8 ∧ s 66 9 = σ1 66 9 ∧ s 66 10 = σ1 66 10 ∧ s 69 2 = σ1 69 2 ∧ s 72 2 = σ1 72 2 ∧ s 63 5 = σ1 63 5 ∧ s = h_up σ1 75 (σ1 66 9) a1) _ (in_75 hI1 (by omega)) (F1.up rfl) ⟨rfl, rfl, rfl, rfl, rfl, rfl, rfl, rfl, rfl, rfl, rfl, rfl, rfl, rfl⟩ (fun s130 Is130 Fs130 (es130 : s130 64 2 = σ1 64 2 ∧ s130 64 4 = σ1 64 4 ∧ s130 64 3 = σ1 64 3 ∧ s130 64 5 = σ1 64 5 ∧ s130 63 2 = σ1 63 2 ∧ s130 63 3 = σ1 63 3 ∧ s130 64 1 = σ1 64 1 ∧ s130 66 8 = σ1 66 8 ∧ s130 66 9 = σ1 66 9 ∧ s130 66 10 = σ1 66 10 ∧ s130 69 2 = σ1 69 2 ∧ s130 72 2 = σ1 72 2 ∧ s130 63 5 = σ1 63 5 ∧ s130 = h_up σ1 75 (σ1 66 9) a1) => ?_))
    clear hz129
    refine h_aload_n (pc' := 19) rfl rfl rfl ?_
    refine h_getR (pc' := 22) rfl rfl rfl rfl rfl ?_
    refine h_aload_n (pc' := 23) rfl rfl rfl ?_
    refine h_getI (pc' := 26) (v := σ1 66 9) rfl rfl rfl rfl rfl es130.2.2.2.2.2.2.2.2.1 (fun z131 hz131 => ?_)
    refine h_iload_n (pc' := 27) rfl rfl rfl ?_
    refine h_iast (pc' := 28) rfl rfl rfl rfl hz131 (by omega) (by omega) ci_m4 (h_fgt (E := fun s => s 64 2 = σ1 64 2 ∧ s 64 4 = σ1 64 4 ∧ s 64 3 = σ1 64 3 ∧ s 64 5 = σ1 64 5 ∧ s 63 2 = σ1 63 2 ∧ s 63 3 = σ1 63 3 ∧ s 64 1 = σ1 64 1 ∧ s 66 8 = σ1 66 8 ∧ s 66 9 = σ1 66 9 ∧ s 66 10 = σ1 66 10 ∧ s 69 2 = σ1 69 2 ∧ s 72 2 = σ1 72 2 ∧ s 63 5 = σ1 63 5 ∧ s = h_up s130 76 (σ1 66 9) (-4)) _ (in_76 Is130 (by omega)) (Fs130.up rfl) ⟨es130.1, es130.2.1, es130.2.2.1, es130.2.2.2.1, es130.2.2.2.2.1, es130.2.2.2.2.2.1, es130.2.2.2.2.2.2.1, es130.2.2.2.2.2.2.2.1, es130.2.2.2.2.2.2.2.2.1, es130.2.2.2.2.2.2.2.2.2.1, es130.2.2.2.2.2.2.2.2.2.2.1, es130.2.2.2.2.2.2.2.2.2.2.2.1, es130.2.2.2.2.2.2.2.2.2.2.2.2.1, rfl⟩ (fun s132 Is132 Fs132 (es132 : s132 64 2 = σ1 64 2 ∧ s132 64 4 = σ1 64 4 ∧ s132 64 3 = σ1 64 3 ∧ s132 64 5 = σ1 64 5 ∧ s132 63 2 = σ1 63 2 ∧ s132 63 3 = σ1 63 3 ∧ s132 64 1 = σ1 64 1 ∧ s132 66 8 = σ1 66 8 ∧ s132 66 9 = σ1 66 9 ∧ s132 66 10 = σ1 66 10 ∧ s132 69 2 = σ1 69 2 ∧ s132 72 2 = σ1 72 2 ∧ s132 63 5 = σ1 63 5 ∧ s132 = h_up s130 76 (σ1 66 9) (-4)) => ?_))
    clear hz131
    refine h_aload_n (pc' := 29) rfl rfl rfl ?_
    refine h_getR (pc' := 32) rfl rfl rfl rfl rfl ?_
    refine h_aload_n (pc' := 33) rfl rfl rfl ?_
    refine h_getI (pc' := 36) (v := σ1 66 9) rfl rfl rfl rfl rfl es132.2.2.2.2.2.2.2.2.1 (fun z133 hz133 => ?_)
    refine h_iconst (pc' := 37) (x := (Int32.ofInt 0)) rfl rfl rfl ?_
    refine h_iast (pc' := 38) rfl rfl rfl rfl hz133 (by omega) (by omega) ci_0 (h_fgt (E := fun s => s 64 2 = σ1 64 2 ∧ s 64 4 = σ1 64 4 ∧ s 64 3 = σ1 64 3 ∧ s 64 5 = σ1 64 5 ∧ s 63 2 = σ1 63 2 ∧ s 63 3 = σ1 63 3 ∧ s 64 1 = σ1 64 1 ∧ s 66 8 = σ1 66 8 ∧ s 66 9 = σ1 66 9 ∧ s 66 10 = σ1 66 10 ∧ s 69 2 = σ1 69 2 ∧ s 72 2 = σ1 72 2 ∧ s 63 5 = σ1 63 5 ∧ s = h_up s132 77 (σ1 66 9) 0) _ (in_77 Is132 (by omega)) (Fs132.up rfl) ⟨es132.1, es132.2.1, es132.2.2.1, es132.2.2.2.1, es132.2.2.2.2.1, es132.2.2.2.2.2.1, es132.2.2.2.2.2.2.1, es132.2.2.2.2.2.2.2.1, es132.2.2.2.2.2.2.2.2.1, es132.2.2.2.2.2.2.2.2.2.1, es132.2.2.2.2.2.2.2.2.2.2.1, es132.2.2.2.2.2.2.2.2.2.2.2.1, es132.2.2.2.2.2.2.2.2.2.2.2.2.1, rfl⟩ (fun s134 Is134 Fs134 (es134 : s134 64 2 = σ1 64 2 ∧ s134 64 4 = σ1 64 4 ∧ s134 64 3 = σ1 64 3 ∧ s134 64 5 = σ1 64 5 ∧ s134 63 2 = σ1 63 2 ∧ s134 63 3 = σ1 63 3 ∧ s134 64 1 = σ1 64 1 ∧ s134 66 8 = σ1 66 8 ∧ s134 66 9 = σ1 66 9 ∧ s134 66 10 = σ1 66 10 ∧ s134 69 2 = σ1 69 2 ∧ s134 72 2 = σ1 72 2 ∧ s134 63 5 = σ1 63 5 ∧ s134 = h_up s132 77 (σ1 66 9) 0) => ?_))
    clear hz133
    refine h_aload_n (pc' := 39) rfl rfl rfl ?_
    refine h_dup (pc' := 40) rfl rfl rfl ?_
    refine h_getI (pc' := 43) (v := σ1 66 9) rfl rfl rfl rfl rfl es134.2.2.2.2.2.2.2.2.1 (fun z135 hz135 => ?_)
    refine h_iconst (pc' := 44) (x := (Int32.ofInt 1)) rfl rfl rfl ?_
    refine h_iadd (pc' := 45) rfl rfl hz135 ci_1 rfl (by omega) (by omega) (fun z136 hz136 => ?_)
    clear hz135
    refine h_put (pc' := 48) rfl rfl rfl rfl rfl rfl hz136 rfl (h_fgt (E := fun s => s 64 2 = σ1 64 2 ∧ s 64 4 = σ1 64 4 ∧ s 64 3 = σ1 64 3 ∧ s 64 5 = σ1 64 5 ∧ s 63 2 = σ1 63 2 ∧ s 63 3 = σ1 63 3 ∧ s 64 1 = σ1 64 1 ∧ s 66 8 = σ1 66 8 ∧ s 66 9 = ((σ1 66 9) + 1) ∧ s 66 10 = σ1 66 10 ∧ s 69 2 = σ1 69 2 ∧ s 72 2 = σ1 72 2 ∧ s 63 5 = σ1 63 5 ∧ s = h_up s134 66 9 ((σ1 66 9) + 1)) _ (if_66_9 Is134 (by omega)) (Fs134.up rfl) ⟨es134.1, es134.2.1, es134.2.2.1, es134.2.2.2.1, es134.2.2.2.2.1, es134.2.2.2.2.2.1, es134.2.2.2.2.2.2.1, es134.2.2.2.2.2.2.2.1, rfl, es134.2.2.2.2.2.2.2.2.2.1, es134.2.2.2.2.2.2.2.2.2.2.1, es134.2.2.2.2.2.2.2.2.2.2.2.1, es134.2.2.2.2.2.2.2.2.2.2.2.2.1, rfl⟩ (fun s137 Is137 Fs137 (es137 : s137 64 2 = σ1 64 2 ∧ s137 64 4 = σ1 64 4 ∧ s137 64 3 = σ1 64 3 ∧ s137 64 5 = σ1 64 5 ∧ s137 63 2 = σ1 63 2 ∧ s137 63 3 = σ1 63 3 ∧ s137 64 1 = σ1 64 1 ∧ s137 66 8 = σ1 66 8 ∧ s137 66 9 = ((σ1 66 9) + 1) ∧ s137 66 10 = σ1 66 10 ∧ s137 69 2 = σ1 69 2 ∧ s137 72 2 = σ1 72 2 ∧ s137 63 5 = σ1 63 5 ∧ s137 = h_up s134 66 9 ((σ1 66 9) + 1)) => ?_))
    refine h_vret rfl rfl (h_Kn ?_)
    refine d_toM (g_inj ns) hl2 hR2 (fun lvw138 memw138 hlw138 hRw138 => ?_)
    show h_T g_P (g_Y ns) 153 128 [(0, .ref 98)] [] σ2 _
    refine h_aload_n (pc' := 129) rfl rfl rfl ?_
    refine h_getI (pc' := 132) (v := σ2 98 13) rfl rfl rfl rfl rfl rfl (fun z139 hz139 => ?_)
    have tz139 := tf_98_13 hI2
    refine h_zne (tg := 161) (pc' := 135) rfl rfl rfl hz139 (fun c140 => absurd c140 (by omega)) (fun c140 => ?_)
    clear hz139
    refine h_aload_n (pc' := 136) rfl rfl rfl ?_
    refine h_getI (pc' := 139) (v := σ2 98 17) rfl rfl rfl rfl rfl rfl (fun z141 hz141 => ?_)
    have tz141 := tf_98_17 hI2
    refine h_iconst (pc' := 140) (x := (Int32.ofInt 2)) rfl rfl rfl ?_
    refine h_cne (tg := 161) (pc' := 143) rfl rfl rfl hz141 ci_2 (fun c142 => ?_) (fun c142 => absurd c142 (by omega))
    clear hz141
    refine h_aload_n (pc' := 162) rfl rfl rfl ?_
    refine h_dup (pc' := 163) rfl rfl rfl ?_
    refine h_getI (pc' := 166) (v := σ2 98 6) rfl rfl rfl rfl rfl rfl (fun z143 hz143 => ?_)
    have tz143 := tf_98_6 hI2
    refine h_iconst (pc' := 167) (x := (Int32.ofInt 1)) rfl rfl rfl ?_
    refine h_iadd (pc' := 168) rfl rfl hz143 ci_1 rfl (by omega) (by omega) (fun z144 hz144 => ?_)
    clear hz143
    refine h_put (pc' := 171) rfl rfl rfl rfl rfl rfl hz144 rfl (h_fgt (E := fun s => s 98 15 = σ2 98 15 ∧ s 98 16 = σ2 98 16 ∧ s 98 17 = σ2 98 17 ∧ s 98 18 = σ2 98 18 ∧ s 98 13 = σ2 98 13 ∧ s 98 14 = σ2 98 14 ∧ s 98 5 = σ2 98 5 ∧ s 98 6 = ((σ2 98 6) + 1) ∧ s 98 7 = σ2 98 7 ∧ s 98 8 = σ2 98 8 ∧ s 98 9 = σ2 98 9 ∧ s 101 18 = σ2 101 18 ∧ s 101 25 = σ2 101 25 ∧ s 101 43 = σ2 101 43 ∧ s = h_up σ2 98 6 ((σ2 98 6) + 1)) _ (if_98_6 hI2 (by omega)) (F2.up rfl) ⟨rfl, rfl, rfl, rfl, rfl, rfl, rfl, rfl, rfl, rfl, rfl, rfl, rfl, rfl, rfl⟩ (fun s145 Is145 Fs145 (es145 : s145 98 15 = σ2 98 15 ∧ s145 98 16 = σ2 98 16 ∧ s145 98 17 = σ2 98 17 ∧ s145 98 18 = σ2 98 18 ∧ s145 98 13 = σ2 98 13 ∧ s145 98 14 = σ2 98 14 ∧ s145 98 5 = σ2 98 5 ∧ s145 98 6 = ((σ2 98 6) + 1) ∧ s145 98 7 = σ2 98 7 ∧ s145 98 8 = σ2 98 8 ∧ s145 98 9 = σ2 98 9 ∧ s145 101 18 = σ2 101 18 ∧ s145 101 25 = σ2 101 25 ∧ s145 101 43 = σ2 101 43 ∧ s145 = h_up σ2 98 6 ((σ2 98 6) + 1)) => ?_))
    refine h_goto (pc' := 178) rfl rfl ?_
    refine d_toL (g_inj ns) hlw138 hRw138 (fun lvw146 memw146 hlw146 hRw146 => ?_)
    show h_T g_P (g_Y ns) 61 61 [(2, .int (Int32.ofInt (-4))), (0, .ref 63), (1, .int x1)] [] s137 _
    exact h_wk [(0, .ref 63)] ⟨rfl, trivial⟩ (kx0 _ _ Is137 Is145 Fs137 Fs145 (by omega) (by omega) (by omega) (by omega) (by omega) (fun _ => d_mk (es137.2.2.2.2.2.2.2.1) (es137.2.2.2.2.2.2.2.2.1) (es137.2.2.2.2.2.2.2.2.2.1) (es137.2.2.2.2.2.2.2.2.2.2.1) (es137.2.2.2.2.2.2.2.2.2.2.2.1) (es137.2.2.2.2.2.2.2.2.2.2.2.2.1) (fun j => (h_upo es137.2.2.2.2.2.2.2.2.2.2.2.2.2 rfl j).trans ((h_upo es134.2.2.2.2.2.2.2.2.2.2.2.2.2 rfl j).trans ((h_upo es132.2.2.2.2.2.2.2.2.2.2.2.2.2 rfl j).trans ((h_upo es130.2.2.2.2.2.2.2.2.2.2.2.2.2 rfl j))))) (fun j => (h_upo es137.2.2.2.2.2.2.2.2.2.2.2.2.2 rfl j).trans ((h_upo es134.2.2.2.2.2.2.2.2.2.2.2.2.2 rfl j).trans ((h_upo es132.2.2.2.2.2.2.2.2.2.2.2.2.2 rfl j).trans ((h_upo es130.2.2.2.2.2.2.2.2.2.2.2.2.2 rfl j))))) (fun j => (h_upo es137.2.2.2.2.2.2.2.2.2.2.2.2.2 rfl j).trans ((h_upo es134.2.2.2.2.2.2.2.2.2.2.2.2.2 rfl j).trans ((h_upo es132.2.2.2.2.2.2.2.2.2.2.2.2.2 rfl j).trans ((h_upo es130.2.2.2.2.2.2.2.2.2.2.2.2.2 rfl j))))) (fun j => (h_upo es137.2.2.2.2.2.2.2.2.2.2.2.2.2 rfl j).trans ((h_upo es134.2.2.2.2.2.2.2.2.2.2.2.2.2 rfl j).trans ((h_upo es132.2.2.2.2.2.2.2.2.2.2.2.2.2 rfl j).trans ((h_upo es130.2.2.2.2.2.2.2.2.2.2.2.2.2 rfl j))))) (fun j => (h_upo es137.2.2.2.2.2.2.2.2.2.2.2.2.2 rfl j).trans ((h_upo es134.2.2.2.2.2.2.2.2.2.2.2.2.2 rfl j).trans ((h_upo es132.2.2.2.2.2.2.2.2.2.2.2.2.2 rfl j).trans ((h_upo es130.2.2.2.2.2.2.2.2.2.2.2.2.2 rfl j))))) (fun j => (h_upo es137.2.2.2.2.2.2.2.2.2.2.2.2.2 rfl j).trans ((h_upo es134.2.2.2.2.2.2.2.2.2.2.2.2.2 rfl j).trans ((h_upo es132.2.2.2.2.2.2.2.2.2.2.2.2.2 rfl j).trans ((h_upo es130.2.2.2.2.2.2.2.2.2.2.2.2.2 rfl j))))) (fun j => (h_upo es137.2.2.2.2.2.2.2.2.2.2.2.2.2 rfl j).trans ((h_upo es134.2.2.2.2.2.2.2.2.2.2.2.2.2 rfl j).trans ((h_upo es132.2.2.2.2.2.2.2.2.2.2.2.2.2 rfl j).trans ((h_upi es130.2.2.2.2.2.2.2.2.2.2.2.2.2 j))))) (fun j => (h_upo es137.2.2.2.2.2.2.2.2.2.2.2.2.2 rfl j).trans ((h_upo es134.2.2.2.2.2.2.2.2.2.2.2.2.2 rfl j).trans ((h_upi es132.2.2.2.2.2.2.2.2.2.2.2.2.2 j).trans (congrArg (fun z => if j = (σ1 66 9) then (-4) else z) ((h_upo es130.2.2.2.2.2.2.2.2.2.2.2.2.2 rfl j)))))) (fun j => (h_upo es137.2.2.2.2.2.2.2.2.2.2.2.2.2 rfl j).trans ((h_upi es134.2.2.2.2.2.2.2.2.2.2.2.2.2 j).trans (congrArg (fun z => if j = (σ1 66 9) then 0 else z) ((h_upo es132.2.2.2.2.2.2.2.2.2.2.2.2.2 rfl j).trans ((h_upo es130.2.2.2.2.2.2.2.2.2.2.2.2.2 rfl j)))))) (fun j => (h_upo es137.2.2.2.2.2.2.2.2.2.2.2.2.2 rfl j).trans ((h_upo es134.2.2.2.2.2.2.2.2.2.2.2.2.2 rfl j).trans ((h_upo es132.2.2.2.2.2.2.2.2.2.2.2.2.2 rfl j).trans ((h_upo es130.2.2.2.2.2.2.2.2.2.2.2.2.2 rfl j))))) (es145.2.2.2.2.2.2.1) (es145.2.2.2.2.2.2.2.1) (es145.2.2.2.2.2.2.2.2.1) (es145.2.2.2.2.2.2.2.2.2.1) (es145.2.2.2.2.2.2.2.2.2.2.1) (fun j => (h_upo es145.2.2.2.2.2.2.2.2.2.2.2.2.2.2 rfl j)) (r_gatA pr10 (by omega) (by omega) (by omega) (by omega) (by omega) (by omega) (by omega))) (Or.inr (Or.inr (Or.inr (Or.inr ⟨by omega, by omega, by omega, by omega, by omega, by omega⟩)))) _ _ (h_al_ok ⟨rfl, trivial⟩ hlw146) hRw146)
set_option maxHeartbeats 100000000 in
theorem ls_gat_b {ns : Nat} {σ1 σ2 : h_S} (hI1 : h_I σ1) (hI2 : h_I σ2) (hTL : d_tape σ1 σ2) (y1 : Int32) (c1 : Int) (hy1 : y1.toInt = c1) (pr0 : σ1 64 2 = σ2 98 15) (pr1 : σ1 64 4 = σ2 98 16) (pr2 : σ1 63 2 = σ2 98 13) (pr3 : σ1 66 8 = σ2 98 5) (pr4 : σ1 66 9 = σ2 98 6) (pr5 : σ1 66 10 = σ2 101 43) (pr6 : σ1 69 2 = σ2 101 18) (pr7 : σ1 72 2 = σ2 101 25) (pr8 : σ1 63 5 = σ2 98 7) (pr9 : σ1 64 2 ≤ σ1 64 1) (pr10 : d_RD σ1 σ2) (pr11 : c1 = 6) (pc0 : ((σ1 63 2 = 0) ∧ (σ1 64 3 = 0) ∧ (0 ≤ σ1 66 9 ∧ σ1 66 9 ≤ 2) ∧ (σ2 98 13 = 0) ∧ (σ2 98 17 = 0) ∧ (0 ≤ σ2 98 6 ∧ σ2 98 6 ≤ 2) ∧ (σ1 64 4 = σ1 64 1)) ∨ ((σ1 63 2 = 0) ∧ (σ1 64 3 = 1) ∧ (0 ≤ σ1 66 9 ∧ σ1 66 9 ≤ 2) ∧ (σ2 98 13 = 0) ∧ (σ2 98 17 = 1) ∧ (0 ≤ σ2 98 6 ∧ σ2 98 6 ≤ 2) ∧ (σ1 64 4 < σ1 64 2)) ∨ ((σ1 63 2 = 0) ∧ (σ1 64 3 = 2) ∧ (0 ≤ σ1 66 9 ∧ σ1 66 9 ≤ 2) ∧ (σ2 98 13 = 0) ∧ (σ2 98 17 = 2) ∧ (0 ≤ σ2 98 6 ∧ σ2 98 6 ≤ 2) ∧ (0 ≤ σ1 64 5 ∧ σ1 64 5 ≤ 99) ∧ (0 ≤ σ2 98 18 ∧ σ2 98 18 ≤ 99) ∧ (σ1 64 5 = σ2 98 18) ∧ (σ1 64 4 < σ1 64 2)) ∨ ((σ1 63 2 = 0) ∧ (σ1 64 3 = 3) ∧ (0 ≤ σ1 66 9 ∧ σ1 66 9 ≤ 2) ∧ (σ2 98 13 = 0) ∧ (σ2 98 17 = 3) ∧ (0 ≤ σ2 98 6 ∧ σ2 98 6 ≤ 2) ∧ (σ1 64 4 < σ1 64 2))) {cs1 cs2 : List d_Fr} {Q : d_Q} (kx0 : ∀ (s t : h_S), h_I s → h_I t → h_F (k_in k_pl) s σ1 → h_F (k_in k_pm) t σ2 → (s 64 2 = t 98 15) → (s 64 4 = t 98 16) → (s 63 2 = t 98 13) → (s 64 2 ≤ s 64 1) → (σ1 64 2 ≤ s 64 2) → (d_ok s t) → (((1 ≤ s 63 2 ∧ s 63 2 ≤ 6) ∧ (1 ≤ t 98 13 ∧ t 98 13 ≤ 6) ∧ (s 63 2 = t 98 13) ∧ (s 63 3 = t 98 14)) ∨ ((s 63 2 = 0) ∧ (s 64 3 = 0) ∧ (t 98 13 = 0) ∧ (t 98 17 = 0) ∧ (s 64 4 = s 64 1)) ∨ ((s 63 2 = 0) ∧ (s 64 3 = 1) ∧ (t 98 13 = 0) ∧ (t 98 17 = 1) ∧ (s 64 4 < s 64 2)) ∨ ((s 63 2 = 0) ∧ (s 64 3 = 2) ∧ (t 98 13 = 0) ∧ (t 98 17 = 2) ∧ (0 ≤ s 64 5 ∧ s 64 5 ≤ 99) ∧ (0 ≤ t 98 18 ∧ t 98 18 ≤ 99) ∧ (s 64 5 = t 98 18) ∧ (s 64 4 < s 64 2)) ∨ ((s 63 2 = 0) ∧ (s 64 3 = 3) ∧ (t 98 13 = 0) ∧ (t 98 17 = 3) ∧ (s 64 4 < s 64 2) ∧ ((s 64 2 = σ1 64 2 ∧ s 64 3 = σ1 64 3) ∨ σ1 64 2 < s 64 2))) → ∀ lv2 mem2, h_loc [(0, .ref 98)] lv2 → h_R (g_Y ns) t mem2 → h_T g_P (g_Y ns) 61 61 [(0, .ref 63)] [] s (d_cs g_P (g_Y ns) cs1 (d_L g_P (g_Y ns) (153, 178, lv2, []) cs2 mem2 Q))) : ∀ lv2 mem2, h_loc [(0, .ref 98), (1, .int y1)] lv2 → h_R (g_Y ns) σ2 mem2 → h_T g_P (g_Y ns) 61 20 [(0, .ref 63)] [] σ1 (d_cs g_P (g_Y ns) cs1 (d_L g_P (g_Y ns) (153, 0, lv2, []) cs2 mem2 Q)) := by
  intro lv2 mem2 hl2 hR2
  have hT := hTL.1
  have hL := hTL.2
  have F1 : h_F (k_in k_pl) σ1 σ1 := h_F.rf
  have F2 : h_F (k_in k_pm) σ2 σ2 := h_F.rf
  have ge0 := tf_64_1 hI1
  have ge1 := tf_66_8 hI1
  have ge2 := tf_66_9 hI1
  have ge3 := tf_66_10 hI1
  have ge4 := tf_69_2 hI1
  have ge5 := tf_72_2 hI1
  have ge6 := tf_63_5 hI1
  have ge7 := tf_63_2 hI1
  have ge8 := tf_98_8 hI2
  have ge9 := tf_98_9 hI2
  have ge10 := tf_98_13 hI2
  show h_T g_P (g_Y ns) 61 20 [(0, .ref 63)] [] σ1 _
  refine h_aload_n (pc' := 21) rfl rfl rfl ?_
  refine h_bipush (pc' := 23) (x := (Int32.ofInt 9)) rfl rfl cb_9 ?_
  refine d_toM (g_inj ns) hl2 hR2 (fun lvw21 memw21 hlw21 hRw21 => ?_)
  show h_T g_P (g_Y ns) 153 0 [(0, .ref 98), (1, .int y1)] [] σ2 _
  refine h_iload_n (pc' := 1) rfl rfl rfl ?_
  refine h_iconst (pc' := 2) (x := (Int32.ofInt 3)) rfl rfl rfl ?_
  refine h_cgt (tg := 61) (pc' := 5) rfl rfl rfl hy1 ci_3 (fun c22 => ?_) (fun c22 => absurd c22 (by omega))
  refine h_iload_n (pc' := 62) rfl rfl rfl ?_
  refine h_iconst (pc' := 63) (x := (Int32.ofInt 4)) rfl rfl rfl ?_
  refine h_cne (tg := 82) (pc' := 66) rfl rfl rfl hy1 ci_4 (fun c23 => ?_) (fun c23 => absurd c23 (by omega))
  refine h_iload_n (pc' := 83) rfl rfl rfl ?_
  refine h_iconst (pc' := 84) (x := (Int32.ofInt 5)) rfl rfl rfl ?_
  refine h_cne (tg := 103) (pc' := 87) rfl rfl rfl hy1 ci_5 (fun c24 => ?_) (fun c24 => absurd c24 (by omega))
  refine h_iload_n (pc' := 104) rfl rfl rfl ?_
  refine h_bipush (pc' := 106) (x := (Int32.ofInt 6)) rfl rfl cb_6 ?_
  refine h_cne (tg := 174) (pc' := 109) rfl rfl rfl hy1 ci_6 (fun c25 => absurd c25 (by omega)) (fun c25 => ?_)
  refine h_aload_n (pc' := 110) rfl rfl rfl ?_
  refine h_getR (pc' := 113) rfl rfl rfl rfl rfl ?_
  refine h_bipush (pc' := 115) (x := (Int32.ofInt 26)) rfl rfl cb_26 ?_
  refine h_aload_n (pc' := 116) rfl rfl rfl ?_
  refine h_getI (pc' := 119) (v := σ2 98 6) rfl rfl rfl rfl rfl rfl (fun z26 hz26 => ?_)
  have tz26 := tf_98_6 hI2
  refine h_iadd (pc' := 120) rfl rfl ci_26 hz26 rfl (by omega) (by omega) (fun z27 hz27 => ?_)
  clear hz26
  refine h_aload_n (pc' := 121) rfl rfl rfl ?_
  refine h_iconst (pc' := 122) (x := (Int32.ofInt 0)) rfl rfl rfl ?_
  refine h_bipush (pc' := 124) (x := (Int32.ofInt 9)) rfl rfl cb_9 ?_
  refine d_pcall (g_inj ns) (m1 := 58) (pc1' := 26) (M1 := [(0, .ref 63), (1, .int (Int32.ofInt 9))]) (rest1 := []) (m2 := 149) (pc2' := 127) (M2 := [(0, .ref 98), (1, .int (Int32.ofInt 0)), (2, .int (Int32.ofInt 9))]) (rest2 := [.int z27, .ref 101]) ⟨false, _, _, _, _, _, _, rfl, rfl, rfl, rfl, rfl, rfl, rfl⟩ ⟨false, _, _, _, _, _, _, rfl, rfl, rfl, rfl, rfl, rfl, rfl⟩ hRw21 ?_
  refine pp_num hI1 hI2 (hTL.fr (F1.mono rfl) (F2.mono rfl)) (Int32.ofInt 9) _ ci_9 (Int32.ofInt 9) _ ci_9 (by omega) (by omega) (by omega) (by omega) (by omega) (by omega) (pc0.elim (fun pc0 => (Or.inr (Or.inl ⟨by omega, by omega, by omega, by omega, by omega⟩))) (fun pc0 => (pc0.elim (fun pc0 => (Or.inr (Or.inr (Or.inl ⟨by omega, by omega, by omega, by omega, by omega⟩)))) (fun pc0 => (pc0.elim (fun pc0 => (Or.inr (Or.inr (Or.inr (Or.inl ⟨by omega, by omega, by omega, by omega, by omega, by omega, by omega, by omega⟩))))) (fun pc0 => (Or.inr (Or.inr (Or.inr (Or.inr ⟨by omega, by omega, by omega, by omega, by omega⟩)))))))))) (fun rq28x bq28x hq28x rq28m bq28m hq28m sq28 tq28 Isq28 Itq28 Gsq28 Gtq28 yq28_0 yq28_1 yq28_2 yq28_3 yq28_4 pcq28 memq28 hRq28 => ?_)
  have Fsq28 := (Gsq28.mono (B := k_pl) rfl).tr F1
  have Ftq28 := (Gtq28.mono (B := k_pm) rfl).tr F2
  have esq28_6 : sq28 64 1 = σ1 64 1 := (Gsq28 64 1 rfl).trans rfl
  have esq28_7 : sq28 66 8 = σ1 66 8 := (Gsq28 66 8 rfl).trans rfl
  have esq28_8 : sq28 66 9 = σ1 66 9 := (Gsq28 66 9 rfl).trans rfl
  have esq28_9 : sq28 66 10 = σ1 66 10 := (Gsq28 66 10 rfl).trans rfl
  have esq28_10 : sq28 69 2 = σ1 69 2 := (Gsq28 69 2 rfl).trans rfl
  have esq28_11 : sq28 72 2 = σ1 72 2 := (Gsq28 72 2 rfl).trans rfl
  have esq28_12 : sq28 63 5 = σ1 63 5 := (Gsq28 63 5 rfl).trans rfl
  have etq28_6 : tq28 98 5 = σ2 98 5 := (Gtq28 98 5 rfl).trans rfl
  have etq28_7 : tq28 98 6 = σ2 98 6 := (Gtq28 98 6 rfl).trans rfl
  have etq28_8 : tq28 98 7 = σ2 98 7 := (Gtq28 98 7 rfl).trans rfl
  have etq28_9 : tq28 98 8 = σ2 98 8 := (Gtq28 98 8 rfl).trans rfl
  have etq28_10 : tq28 98 9 = σ2 98 9 := (Gtq28 98 9 rfl).trans rfl
  have etq28_11 : tq28 101 18 = σ2 101 18 := (Gtq28 101 18 rfl).trans rfl
  have etq28_12 : tq28 101 25 = σ2 101 25 := (Gtq28 101 25 rfl).trans rfl
  have etq28_13 : tq28 101 43 = σ2 101 43 := (Gtq28 101 43 rfl).trans rfl
  rcases pcq28 with pcq28 | pcq28
  · show h_T g_P (g_Y ns) 153 127 [(0, .ref 98), (1, .int y1)] [.int rq28m, .int z27, .ref 101] tq28 _
    refine h_iast (pc' := 128) rfl rfl rfl rfl hz27 (by omega) (by omega) hq28m (h_fgt (E := fun s => s 98 15 = tq28 98 15 ∧ s 98 16 = tq28 98 16 ∧ s 98 17 = tq28 98 17 ∧ s 98 18 = tq28 98 18 ∧ s 98 13 = tq28 98 13 ∧ s 98 14 = tq28 98 14 ∧ s 98 5 = σ2 98 5 ∧ s 98 6 = σ2 98 6 ∧ s 98 7 = σ2 98 7 ∧ s 98 8 = σ2 98 8 ∧ s 98 9 = σ2 98 9 ∧ s 101 18 = σ2 101 18 ∧ s 101 25 = σ2 101 25 ∧ s 101 43 = σ2 101 43 ∧ s = h_up tq28 101 (26 + (σ2 98 6)) bq28m) _ (ip_101_6 Itq28 (by omega) (by omega)) (Ftq28.up rfl) ⟨rfl, rfl, rfl, rfl, rfl, rfl, etq28_6, etq28_7, etq28_8, etq28_9, etq28_10, h_up_n2 (by omega) etq28_11, h_up_n2 (by omega) etq28_12, h_up_n2 (by omega) etq28_13, rfl⟩ (fun s29 Is29 Fs29 (es29 : s29 98 15 = tq28 98 15 ∧ s29 98 16 = tq28 98 16 ∧ s29 98 17 = tq28 98 17 ∧ s29 98 18 = tq28 98 18 ∧ s29 98 13 = tq28 98 13 ∧ s29 98 14 = tq28 98 14 ∧ s29 98 5 = σ2 98 5 ∧ s29 98 6 = σ2 98 6 ∧ s29 98 7 = σ2 98 7 ∧ s29 98 8 = σ2 98 8 ∧ s29 98 9 = σ2 98 9 ∧ s29 101 18 = σ2 101 18 ∧ s29 101 25 = σ2 101 25 ∧ s29 101 43 = σ2 101 43 ∧ s29 = h_up tq28 101 (26 + (σ2 98 6)) bq28m) => ?_))
    clear hq28m hz27
    refine h_aload_n (pc' := 129) rfl rfl rfl ?_
    refine h_getI (pc' := 132) (v := tq28 98 13) rfl rfl rfl rfl rfl es29.2.2.2.2.1 (fun z30 hz30 => ?_)
    have tz30 := tf_98_13 Itq28
    refine h_zne (tg := 161) (pc' := 135) rfl rfl rfl hz30 (fun c31 => ?_) (fun c31 => absurd c31 (by omega))
    clear hz30
    refine h_aload_n (pc' := 162) rfl rfl rfl ?_
    refine h_dup (pc' := 163) rfl rfl rfl ?_
    refine h_getI (pc' := 166) (v := σ2 98 6) rfl rfl rfl rfl rfl es29.2.2.2.2.2.2.2.1 (fun z32 hz32 => ?_)
    refine h_iconst (pc' := 167) (x := (Int32.ofInt 1)) rfl rfl rfl ?_
    refine h_iadd (pc' := 168) rfl rfl hz32 ci_1 rfl (by omega) (by omega) (fun z33 hz33 => ?_)
    clear hz32
    refine h_put (pc' := 171) rfl rfl rfl rfl rfl rfl hz33 rfl (h_fgt (E := fun s => s 98 15 = tq28 98 15 ∧ s 98 16 = tq28 98 16 ∧ s 98 17 = tq28 98 17 ∧ s 98 18 = tq28 98 18 ∧ s 98 13 = tq28 98 13 ∧ s 98 14 = tq28 98 14 ∧ s 98 5 = σ2 98 5 ∧ s 98 6 = ((σ2 98 6) + 1) ∧ s 98 7 = σ2 98 7 ∧ s 98 8 = σ2 98 8 ∧ s 98 9 = σ2 98 9 ∧ s 101 18 = σ2 101 18 ∧ s 101 25 = σ2 101 25 ∧ s 101 43 = σ2 101 43 ∧ s = h_up s29 98 6 ((σ2 98 6) + 1)) _ (if_98_6 Is29 (by omega)) (Fs29.up rfl) ⟨es29.1, es29.2.1, es29.2.2.1, es29.2.2.2.1, es29.2.2.2.2.1, es29.2.2.2.2.2.1, es29.2.2.2.2.2.2.1, rfl, es29.2.2.2.2.2.2.2.2.1, es29.2.2.2.2.2.2.2.2.2.1, es29.2.2.2.2.2.2.2.2.2.2.1, es29.2.2.2.2.2.2.2.2.2.2.2.1, es29.2.2.2.2.2.2.2.2.2.2.2.2.1, es29.2.2.2.2.2.2.2.2.2.2.2.2.2.1, rfl⟩ (fun s34 Is34 Fs34 (es34 : s34 98 15 = tq28 98 15 ∧ s34 98 16 = tq28 98 16 ∧ s34 98 17 = tq28 98 17 ∧ s34 98 18 = tq28 98 18 ∧ s34 98 13 = tq28 98 13 ∧ s34 98 14 = tq28 98 14 ∧ s34 98 5 = σ2 98 5 ∧ s34 98 6 = ((σ2 98 6) + 1) ∧ s34 98 7 = σ2 98 7 ∧ s34 98 8 = σ2 98 8 ∧ s34 98 9 = σ2 98 9 ∧ s34 101 18 = σ2 101 18 ∧ s34 101 25 = σ2 101 25 ∧ s34 101 43 = σ2 101 43 ∧ s34 = h_up s29 98 6 ((σ2 98 6) + 1)) => ?_))
    refine h_goto (pc' := 178) rfl rfl ?_
    refine d_toL (g_inj ns) hlw21 hRq28 (fun lvw35 memw35 hlw35 hRw35 => ?_)
    show h_T g_P (g_Y ns) 61 26 [(0, .ref 63)] [.int rq28x] sq28 _
    refine h_istore_n (pc' := 27) (M := [(1, .int rq28x), (0, .ref 63)]) rfl rfl rfl rfl ?_
    refine h_aload_n (pc' := 28) rfl rfl rfl ?_
    refine h_call (sp := false) (pc' := 31) (M := [(0, .ref 63)]) rfl rfl rfl rfl rfl rfl rfl rfl ?_
    refine h_aload_n (pc' := 1) rfl rfl rfl ?_
    refine h_getI (pc' := 4) (v := sq28 63 2) rfl rfl rfl rfl rfl rfl (fun z36 hz36 => ?_)
    have tz36 := tf_63_2 Isq28
    refine h_zne (tg := 22) (pc' := 7) rfl rfl rfl hz36 (fun c37 => ?_) (fun c37 => absurd c37 (by omega))
    clear hz36
    refine h_iconst (pc' := 23) (x := (Int32.ofInt 0)) rfl rfl rfl ?_
    refine h_zret rfl rfl ci_0 (by omega) (h_Kv ?_)
    refine h_zeq (tg := 42) (pc' := 34) rfl rfl rfl ci_0 (fun c38 => ?_) (fun c38 => absurd c38 (by omega))
    refine h_bipush (pc' := 44) (x := (Int32.ofInt (-4))) rfl rfl cb_m4 ?_
    refine h_istore_n (pc' := 45) (M := [(2, .int (Int32.ofInt (-4))), (1, .int rq28x), (0, .ref 63)]) rfl rfl rfl rfl ?_
    refine h_aload_n (pc' := 46) rfl rfl rfl ?_
    refine h_getI (pc' := 49) (v := sq28 63 2) rfl rfl rfl rfl rfl rfl (fun z39 hz39 => ?_)
    refine h_zne (tg := 61) (pc' := 52) rfl rfl rfl hz39 (fun c40 => ?_) (fun c40 => absurd c40 (by omega))
    clear hz39
    exact h_wk [(0, .ref 63)] ⟨rfl, trivial⟩ (kx0 _ _ Isq28 Is34 Fsq28 Fs34 (by omega) (by omega) (by omega) (by omega) (by omega) (fun h => absurd h (by omega)) (Or.inl ⟨by omega, by omega, by omega, by omega⟩) _ _ (h_al_ok ⟨rfl, trivial⟩ hlw35) hRw35)
  · show h_T g_P (g_Y ns) 153 127 [(0, .ref 98), (1, .int y1)] [.int rq28m, .int z27, .ref 101] tq28 _
    refine h_iast (pc' := 128) rfl rfl rfl rfl hz27 (by omega) (by omega) hq28m (h_fgt (E := fun s => s 98 15 = tq28 98 15 ∧ s 98 16 = tq28 98 16 ∧ s 98 17 = tq28 98 17 ∧ s 98 18 = tq28 98 18 ∧ s 98 13 = tq28 98 13 ∧ s 98 14 = tq28 98 14 ∧ s 98 5 = σ2 98 5 ∧ s 98 6 = σ2 98 6 ∧ s 98 7 = σ2 98 7 ∧ s 98 8 = σ2 98 8 ∧ s 98 9 = σ2 98 9 ∧ s 101 18 = σ2 101 18 ∧ s 101 25 = σ2 101 25 ∧ s 101 43 = σ2 101 43 ∧ s = h_up tq28 101 (26 + (σ2 98 6)) bq28m) _ (ip_101_6 Itq28 (by omega) (by omega)) (Ftq28.up rfl) ⟨rfl, rfl, rfl, rfl, rfl, rfl, etq28_6, etq28_7, etq28_8, etq28_9, etq28_10, h_up_n2 (by omega) etq28_11, h_up_n2 (by omega) etq28_12, h_up_n2 (by omega) etq28_13, rfl⟩ (fun s41 Is41 Fs41 (es41 : s41 98 15 = tq28 98 15 ∧ s41 98 16 = tq28 98 16 ∧ s41 98 17 = tq28 98 17 ∧ s41 98 18 = tq28 98 18 ∧ s41 98 13 = tq28 98 13 ∧ s41 98 14 = tq28 98 14 ∧ s41 98 5 = σ2 98 5 ∧ s41 98 6 = σ2 98 6 ∧ s41 98 7 = σ2 98 7 ∧ s41 98 8 = σ2 98 8 ∧ s41 98 9 = σ2 98 9 ∧ s41 101 18 = σ2 101 18 ∧ s41 101 25 = σ2 101 25 ∧ s41 101 43 = σ2 101 43 ∧ s41 = h_up tq28 101 (26 + (σ2 98 6)) bq28m) => ?_))
    clear hq28m hz27
    refine d_toL (g_inj ns) hlw21 hRq28 (fun lvw42 memw42 hlw42 hRw42 => ?_)
    show h_T g_P (g_Y ns) 61 26 [(0, .ref 63)] [.int rq28x] sq28 _
    refine h_istore_n (pc' := 27) (M := [(1, .int rq28x), (0, .ref 63)]) rfl rfl rfl rfl ?_
    refine h_wk [(0, .ref 63), (1, .int rq28x)] ⟨rfl, rfl, trivial⟩ (ls_gat_c Isq28 Is41 (hTL.fr (Fsq28.mono rfl) (Fs41.mono rfl)) rq28x _ hq28x  (by omega) (by omega) (by omega) (by omega) (by omega) (by omega) (by omega) (by omega) (by omega) (by omega) (d_mk (esq28_7) (esq28_8) (esq28_9) (esq28_10) (esq28_11) (esq28_12) (fun j => (Gsq28 67 j rfl)) (fun j => (Gsq28 68 j rfl)) (fun j => (Gsq28 70 j rfl)) (fun j => (Gsq28 71 j rfl)) (fun j => (Gsq28 73 j rfl)) (fun j => (Gsq28 74 j rfl)) (fun j => (Gsq28 75 j rfl)) (fun j => (Gsq28 76 j rfl)) (fun j => (Gsq28 77 j rfl)) (fun j => (Gsq28 78 j rfl)) (es41.2.2.2.2.2.2.1) (es41.2.2.2.2.2.2.2.1) (es41.2.2.2.2.2.2.2.2.1) (es41.2.2.2.2.2.2.2.2.2.1) (es41.2.2.2.2.2.2.2.2.2.2.1) (fun j => (h_upi es41.2.2.2.2.2.2.2.2.2.2.2.2.2.2 j).trans (congrArg (fun z => if j = (26 + (σ2 98 6)) then bq28m else z) ((Gtq28 101 j rfl)))) (r_g0 pr10 (by omega) (by omega) (by omega) (by omega) (by omega) (by omega) (by omega))) (h_up26 es41.2.2.2.2.2.2.2.2.2.2.2.2.2.2 (by omega) (by omega)) (by omega) (pcq28.elim (fun pcq28 => (Or.inl ⟨by omega, by omega, by omega, by omega, by omega, by omega, by omega⟩)) (fun pcq28 => (pcq28.elim (fun pcq28 => (Or.inr (Or.inl ⟨by omega, by omega, by omega, by omega, by omega, by omega, by omega⟩))) (fun pcq28 => (pcq28.elim (fun pcq28 => (Or.inr (Or.inr (Or.inl ⟨by omega, by omega, by omega, by omega, by omega, by omega, by omega, by omega, by omega, by omega⟩)))) (fun pcq28 => (Or.inr (Or.inr (Or.inr ⟨by omega, by omega, by omega, by omega, by omega, by omega, by omega⟩))))))))) (fun sq43 tq43 Isq43 Itq43 Gsq43 Gtq43   yq43_0 yq43_1 yq43_2 yq43_3 yq43_4 yq43_5 pcq43 lvq43 memq43 hlq43 hRq43 => ?_) _ _ (h_al_ok ⟨rfl, trivial⟩ hlw42) hRw42)
    · have Fsq43 := (Gsq43.mono (B := k_pl) rfl).tr Fsq28
      have Ftq43 := (Gtq43.mono (B := k_pm) rfl).tr Fs41
      have Isq43 := Isq43
      have Itq43 := Itq43
      have Gsq43 := Gsq43
      have Gtq43 := Gtq43
      have esq43_6 : sq43 64 1 = σ1 64 1 := (Gsq43 64 1 rfl).trans esq28_6
      show h_T g_P (g_Y ns) 61 61 [(0, .ref 63)] [] sq43 _
      clear hq28x
      refine d_toM (g_inj ns) hlq43 hRq43 (fun lvw44 memw44 hlw44 hRw44 => ?_)
      show h_T g_P (g_Y ns) 153 178 [(0, .ref 98)] [] tq43 _
      refine d_toL (g_inj ns) hlw44 hRw44 (fun lvw45 memw45 hlw45 hRw45 => ?_)
      show h_T g_P (g_Y ns) 61 61 [(0, .ref 63)] [] sq43 _
      exact h_wk [(0, .ref 63)] ⟨rfl, trivial⟩ (kx0 _ _ Isq43 Itq43 Fsq43 Ftq43 (by omega) (by omega) (by omega) (by omega) (by omega) (yq43_5) (pcq43.elim (fun pcq43 => (Or.inl ⟨by omega, by omega, by omega, by omega⟩)) (fun pcq43 => (pcq43.elim (fun pcq43 => (Or.inr (Or.inl ⟨by omega, by omega, by omega, by omega, by omega⟩))) (fun pcq43 => (pcq43.elim (fun pcq43 => (Or.inr (Or.inr (Or.inl ⟨by omega, by omega, by omega, by omega, by omega⟩)))) (fun pcq43 => (pcq43.elim (fun pcq43 => (Or.inr (Or.inr (Or.inr (Or.inl ⟨by omega, by omega, by omega, by omega, by omega, by omega, by omega, by omega⟩))))) (fun pcq43 => (Or.inr (Or.inr (Or.inr (Or.inr ⟨by omega, by omega, by omega, by omega, by omega, by omega⟩)))))))))))) _ _ (h_al_ok ⟨rfl, trivial⟩ hlw45) hRw45)
set_option maxHeartbeats 100000000 in
theorem ls_gat {ns : Nat} {σ1 σ2 : h_S} (hI1 : h_I σ1) (hI2 : h_I σ2) (hTL : d_tape σ1 σ2) (x1 : Int32) (a1 : Int) (hx1 : x1.toInt = a1) (y1 : Int32) (c1 : Int) (hy1 : y1.toInt = c1) (pr0 : σ1 64 2 = σ2 98 15) (pr1 : σ1 64 4 = σ2 98 16) (pr2 : σ1 63 2 = σ2 98 13) (pr3 : σ1 66 8 = σ2 98 5) (pr4 : σ1 66 9 = σ2 98 6) (pr5 : σ1 66 10 = σ2 101 43) (pr6 : σ1 69 2 = σ2 101 18) (pr7 : σ1 72 2 = σ2 101 25) (pr8 : σ1 63 5 = σ2 98 7) (pr9 : σ1 64 2 ≤ σ1 64 1) (pr10 : d_RD σ1 σ2) (pr11 : a1 = c1) (pr12 : a1 = 6) (pc0 : ((σ1 63 2 = 0) ∧ (σ2 98 13 = 0))) {cs1 cs2 : List d_Fr} {Q : d_Q} (kx0 : ∀ (s t : h_S), h_I s → h_I t → h_F (k_in k_pl) s σ1 → h_F (k_in k_pm) t σ2 → (s 64 2 = t 98 15) → (s 64 4 = t 98 16) → (s 63 2 = t 98 13) → (s 64 2 ≤ s 64 1) → (σ1 64 2 ≤ s 64 2) → (d_ok s t) → (((1 ≤ s 63 2 ∧ s 63 2 ≤ 6) ∧ (1 ≤ t 98 13 ∧ t 98 13 ≤ 6) ∧ (s 63 2 = t 98 13) ∧ (s 63 3 = t 98 14)) ∨ ((s 63 2 = 0) ∧ (s 64 3 = 3) ∧ (t 98 13 = 0) ∧ (t 98 17 = 3) ∧ (s 64 4 < s 64 2) ∧ (σ1 64 2 < s 64 2))) → ∀ lv2 mem2, h_loc [(0, .ref 98)] lv2 → h_R (g_Y ns) t mem2 → h_T g_P (g_Y ns) 56 180 [(0, .ref 63)] [] s (d_cs g_P (g_Y ns) cs1 (d_L g_P (g_Y ns) (154, 165, lv2, []) cs2 mem2 Q))) (kx1 : ∀ (s t : h_S), h_I s → h_I t → h_F (k_in k_pl) s σ1 → h_F (k_in k_pm) t σ2 → (s 64 2 = t 98 15) → (s 64 4 = t 98 16) → (s 63 2 = t 98 13) → (s 64 2 ≤ s 64 1) → (σ1 64 2 ≤ s 64 2) → (((1 ≤ s 63 2 ∧ s 63 2 ≤ 6) ∧ (1 ≤ t 98 13 ∧ t 98 13 ≤ 6) ∧ (s 63 2 = t 98 13) ∧ (s 63 3 = t 98 14))) → ∀ lv2 mem2, h_loc [(0, .ref 98)] lv2 → h_R (g_Y ns) t mem2 → h_T g_P (g_Y ns) 56 180 [(0, .ref 63)] [] s (d_cs g_P (g_Y ns) cs1 (d_L g_P (g_Y ns) (154, 139, lv2, []) cs2 mem2 Q))) : ∀ lv2 mem2, h_loc [(0, .ref 98), (1, .int y1)] lv2 → h_R (g_Y ns) σ2 mem2 → h_T g_P (g_Y ns) 56 116 [(0, .ref 63), (1, .int x1)] [] σ1 (d_cs g_P (g_Y ns) cs1 (d_L g_P (g_Y ns) (154, 23, lv2, []) cs2 mem2 Q)) := by
  intro lv2 mem2 hl2 hR2
  have hT := hTL.1
  have hL := hTL.2
  have F1 : h_F (k_in k_pl) σ1 σ1 := h_F.rf
  have F2 : h_F (k_in k_pm) σ2 σ2 := h_F.rf
  have ge0 := tf_64_1 hI1
  have ge1 := tf_66_8 hI1
  have ge2 := tf_66_9 hI1
  have ge3 := tf_66_10 hI1
  have ge4 := tf_69_2 hI1
  have ge5 := tf_72_2 hI1
  have ge6 := tf_63_5 hI1
  have ge7 := tf_63_2 hI1
  have ge8 := tf_98_8 hI2
  have ge9 := tf_98_9 hI2
  have ge10 := tf_98_13 hI2
  rcases pc0 with pc0
  · show h_T g_P (g_Y ns) 56 116 [(0, .ref 63), (1, .int x1)] [] σ1 _
    refine h_aload_n (pc' := 117) rfl rfl rfl ?_
    refine d_call (g_inj ns) (pc' := 120) (m := 61) (M := [(0, .ref 63)]) (rest := []) ⟨false, _, _, _, _, _, _, rfl, rfl, rfl, rfl, rfl, rfl, rfl⟩ (fun lv21 hlv21 => ?_)
    refine h_aload_n (pc' := 1) rfl rfl rfl ?_
    refine h_aload_n (pc' := 2) rfl rfl rfl ?_
    refine h_getR (pc' := 5) rfl rfl rfl rfl rfl ?_
    refine h_getI (pc' := 8) (v := σ1 66 9) rfl rfl rfl rfl rfl rfl (fun z22 hz22 => ?_)
    have tz22 := tf_66_9 hI1
    refine h_iconst (pc' := 9) (x := (Int32.ofInt 3)) rfl rfl rfl ?_
    refine h_clt (tg := 16) (pc' := 12) rfl rfl rfl hz22 ci_3 (fun c23 => ?_) (fun c23 => ?_)
    · clear hz22
      refine h_iconst (pc' := 17) (x := (Int32.ofInt 0)) rfl rfl rfl ?_
      refine d_call (g_inj ns) (pc' := 20) (m := 57) (M := [(0, .ref 63), (1, .int (Int32.ofInt 0))]) (rest := []) ⟨false, _, _, _, _, _, _, rfl, rfl, rfl, rfl, rfl, rfl, rfl⟩ (fun lv24 hlv24 => ?_)
      refine h_iload_n (pc' := 1) rfl rfl rfl ?_
      refine h_zeq (tg := 16) (pc' := 4) rfl rfl rfl ci_0 (fun c25 => ?_) (fun c25 => absurd c25 (by omega))
      refine h_aload_n (pc' := 17) rfl rfl rfl ?_
      refine d_toM (g_inj ns) hl2 hR2 (fun lvw26 memw26 hlw26 hRw26 => ?_)
      show h_T g_P (g_Y ns) 154 23 [(0, .ref 98), (1, .int y1)] [] σ2 _
      refine h_iload_n (pc' := 24) rfl rfl rfl ?_
      refine h_iconst (pc' := 25) (x := (Int32.ofInt 3)) rfl rfl rfl ?_
      refine h_cgt (tg := 37) (pc' := 28) rfl rfl rfl hy1 ci_3 (fun c27 => ?_) (fun c27 => absurd c27 (by omega))
      refine h_iload_n (pc' := 38) rfl rfl rfl ?_
      refine h_iconst (pc' := 39) (x := (Int32.ofInt 4)) rfl rfl rfl ?_
      refine h_cne (tg := 53) (pc' := 42) rfl rfl rfl hy1 ci_4 (fun c28 => ?_) (fun c28 => absurd c28 (by omega))
      refine h_iload_n (pc' := 54) rfl rfl rfl ?_
      refine h_iconst (pc' := 55) (x := (Int32.ofInt 5)) rfl rfl rfl ?_
      refine h_cne (tg := 69) (pc' := 58) rfl rfl rfl hy1 ci_5 (fun c29 => ?_) (fun c29 => absurd c29 (by omega))
      refine h_iload_n (pc' := 70) rfl rfl rfl ?_
      refine h_bipush (pc' := 72) (x := (Int32.ofInt 6)) rfl rfl cb_6 ?_
      refine h_cne (tg := 88) (pc' := 75) rfl rfl rfl hy1 ci_6 (fun c30 => absurd c30 (by omega)) (fun c30 => ?_)
      refine h_aload_n (pc' := 76) rfl rfl rfl ?_
      refine h_getI (pc' := 79) (v := σ2 98 6) rfl rfl rfl rfl rfl rfl (fun z31 hz31 => ?_)
      have tz31 := tf_98_6 hI2
      refine h_iconst (pc' := 80) (x := (Int32.ofInt 3)) rfl rfl rfl ?_
      refine h_cne (tg := 88) (pc' := 83) rfl rfl rfl hz31 ci_3 (fun c32 => ?_) (fun c32 => absurd c32 (by omega))
      clear hz31
      refine h_iload_n (pc' := 89) rfl rfl rfl ?_
      refine h_bipush (pc' := 91) (x := (Int32.ofInt 7)) rfl rfl cb_7 ?_
      refine h_cne (tg := 106) (pc' := 94) rfl rfl rfl hy1 ci_7 (fun c33 => ?_) (fun c33 => absurd c33 (by omega))
      refine h_aload_n (pc' := 107) rfl rfl rfl ?_
      refine h_aload_n (pc' := 108) rfl rfl rfl ?_
      refine h_getI (pc' := 111) (v := σ2 98 7) rfl rfl rfl rfl rfl rfl (fun z34 hz34 => ?_)
      have tz34 := tf_98_7 hI2
      refine h_zne (tg := 120) (pc' := 114) rfl rfl rfl hz34 (fun c35 => ?_) (fun c35 => ?_)
      · clear hz34
        refine h_iconst (pc' := 121) (x := (Int32.ofInt 1)) rfl rfl rfl ?_
        refine h_goto (pc' := 125) rfl rfl ?_
        refine h_put (pc' := 128) rfl rfl rfl rfl rfl rfl ci_1 (h_fb ci_1 (by omega)) (h_fgt (E := fun s => s 98 15 = σ2 98 15 ∧ s 98 16 = σ2 98 16 ∧ s 98 17 = σ2 98 17 ∧ s 98 18 = σ2 98 18 ∧ s 98 13 = σ2 98 13 ∧ s 98 14 = σ2 98 14 ∧ s 98 5 = σ2 98 5 ∧ s 98 6 = σ2 98 6 ∧ s 98 7 = 1 ∧ s 98 8 = σ2 98 8 ∧ s 98 9 = σ2 98 9 ∧ s 101 18 = σ2 101 18 ∧ s 101 25 = σ2 101 25 ∧ s 101 43 = σ2 101 43 ∧ s = h_up σ2 98 7 1) _ (if_98_7 hI2 (by omega)) (F2.up rfl) ⟨rfl, rfl, rfl, rfl, rfl, rfl, rfl, rfl, rfl, rfl, rfl, rfl, rfl, rfl, rfl⟩ (fun s36 Is36 Fs36 (es36 : s36 98 15 = σ2 98 15 ∧ s36 98 16 = σ2 98 16 ∧ s36 98 17 = σ2 98 17 ∧ s36 98 18 = σ2 98 18 ∧ s36 98 13 = σ2 98 13 ∧ s36 98 14 = σ2 98 14 ∧ s36 98 5 = σ2 98 5 ∧ s36 98 6 = σ2 98 6 ∧ s36 98 7 = 1 ∧ s36 98 8 = σ2 98 8 ∧ s36 98 9 = σ2 98 9 ∧ s36 101 18 = σ2 101 18 ∧ s36 101 25 = σ2 101 25 ∧ s36 101 43 = σ2 101 43 ∧ s36 = h_up σ2 98 7 1) => ?_))
        refine h_aload_n (pc' := 129) rfl rfl rfl ?_
        refine d_pcall (g_inj ns) (m1 := 54) (pc1' := 20) (M1 := [(0, .ref 63)]) (rest1 := []) (m2 := 148) (pc2' := 132) (M2 := [(0, .ref 98)]) (rest2 := []) ⟨false, _, _, _, _, _, _, rfl, rfl, rfl, rfl, rfl, rfl, rfl⟩ ⟨false, _, _, _, _, _, _, rfl, rfl, rfl, rfl, rfl, rfl, rfl⟩ hRw26 ?_
        refine pp_step hI1 Is36 (hTL.fr (F1.mono rfl) (Fs36.mono rfl)) (by omega) (by omega) (by omega) (by omega) (Or.inr ⟨by omega, by omega⟩) (fun sq37 tq37 Isq37 Itq37 Gsq37 Gtq37 yq37_0 yq37_1 yq37_2 yq37_3 yq37_4 pcq37 memq37 hRq37 => ?_)
        have Fsq37 := (Gsq37.mono (B := k_pl) rfl).tr F1
        have Ftq37 := (Gtq37.mono (B := k_pm) rfl).tr Fs36
        have esq37_6 : sq37 64 1 = σ1 64 1 := (Gsq37 64 1 rfl).trans rfl
        have esq37_7 : sq37 66 8 = σ1 66 8 := (Gsq37 66 8 rfl).trans rfl
        have esq37_8 : sq37 66 9 = σ1 66 9 := (Gsq37 66 9 rfl).trans rfl
        have esq37_9 : sq37 66 10 = σ1 66 10 := (Gsq37 66 10 rfl).trans rfl
        have esq37_10 : sq37 69 2 = σ1 69 2 := (Gsq37 69 2 rfl).trans rfl
        have esq37_11 : sq37 72 2 = σ1 72 2 := (Gsq37 72 2 rfl).trans rfl
        have esq37_12 : sq37 63 5 = σ1 63 5 := (Gsq37 63 5 rfl).trans rfl
        have etq37_6 : tq37 98 5 = σ2 98 5 := (Gtq37 98 5 rfl).trans es36.2.2.2.2.2.2.1
        have etq37_7 : tq37 98 6 = σ2 98 6 := (Gtq37 98 6 rfl).trans es36.2.2.2.2.2.2.2.1
        have etq37_8 : tq37 98 7 = 1 := (Gtq37 98 7 rfl).trans es36.2.2.2.2.2.2.2.2.1
        have etq37_9 : tq37 98 8 = σ2 98 8 := (Gtq37 98 8 rfl).trans es36.2.2.2.2.2.2.2.2.2.1
        have etq37_10 : tq37 98 9 = σ2 98 9 := (Gtq37 98 9 rfl).trans es36.2.2.2.2.2.2.2.2.2.2.1
        have etq37_11 : tq37 101 18 = σ2 101 18 := (Gtq37 101 18 rfl).trans es36.2.2.2.2.2.2.2.2.2.2.2.1
        have etq37_12 : tq37 101 25 = σ2 101 25 := (Gtq37 101 25 rfl).trans es36.2.2.2.2.2.2.2.2.2.2.2.2.1
        have etq37_13 : tq37 101 43 = σ2 101 43 := (Gtq37 101 43 rfl).trans es36.2.2.2.2.2.2.2.2.2.2.2.2.2.1
        show h_T g_P (g_Y ns) 154 132 [(0, .ref 98), (1, .int y1)] [] tq37 _
        refine h_aload_n (pc' := 133) rfl rfl rfl ?_
        refine h_getI (pc' := 136) (v := tq37 98 13) rfl rfl rfl rfl rfl rfl (fun z38 hz38 => ?_)
        have tz38 := tf_98_13 Itq37
        refine h_zle (tg := 140) (pc' := 139) rfl rfl rfl hz38 (fun c39 => ?_) (fun c39 => ?_)
        · clear hz38
          refine h_aload_n (pc' := 141) rfl rfl rfl ?_
          refine h_iload_n (pc' := 142) rfl rfl rfl ?_
          refine d_call (g_inj ns) (pc' := 145) (m := 153) (M := [(0, .ref 98), (1, .int y1)]) (rest := []) ⟨false, _, _, _, _, _, _, rfl, rfl, rfl, rfl, rfl, rfl, rfl⟩ (fun lv40 hlv40 => ?_)
          refine d_toL (g_inj ns) hlw26 hRq37 (fun lvw41 memw41 hlw41 hRw41 => ?_)
          show h_T g_P (g_Y ns) 57 20 [(0, .ref 63), (1, .int (Int32.ofInt 0))] [] sq37 _
          refine h_vret rfl rfl (d_retn hlv24 ?_)
          refine h_wk [(0, .ref 63)] ⟨rfl, trivial⟩ (ls_gat_b Isq37 Itq37 (hTL.fr (Fsq37.mono rfl) (Ftq37.mono rfl))  y1 _ hy1 (by omega) (by omega) (by omega) (by omega) (by omega) (by omega) (by omega) (by omega) (by omega) (by omega) (d_mk ((Gsq37 66 8 rfl)) ((Gsq37 66 9 rfl)) ((Gsq37 66 10 rfl)) ((Gsq37 69 2 rfl)) ((Gsq37 72 2 rfl)) ((Gsq37 63 5 rfl)) (fun j => (Gsq37 67 j rfl)) (fun j => (Gsq37 68 j rfl)) (fun j => (Gsq37 70 j rfl)) (fun j => (Gsq37 71 j rfl)) (fun j => (Gsq37 73 j rfl)) (fun j => (Gsq37 74 j rfl)) (fun j => (Gsq37 75 j rfl)) (fun j => (Gsq37 76 j rfl)) (fun j => (Gsq37 77 j rfl)) (fun j => (Gsq37 78 j rfl)) ((Gtq37 98 5 rfl).trans (h_upd es36.2.2.2.2.2.2.2.2.2.2.2.2.2.2 (by decide))) ((Gtq37 98 6 rfl).trans (h_upd es36.2.2.2.2.2.2.2.2.2.2.2.2.2.2 (by decide))) (by omega) ((Gtq37 98 8 rfl).trans (h_upd es36.2.2.2.2.2.2.2.2.2.2.2.2.2.2 (by decide))) ((Gtq37 98 9 rfl).trans (h_upd es36.2.2.2.2.2.2.2.2.2.2.2.2.2.2 (by decide))) (fun j => (Gtq37 101 j rfl).trans (h_upo es36.2.2.2.2.2.2.2.2.2.2.2.2.2.2 rfl j)) (pr10)) (by omega) (pcq37.elim (fun pcq37 => (by exfalso; omega)) (fun pcq37 => (pcq37.elim (fun pcq37 => (Or.inl ⟨by omega, by omega, by omega, by omega, by omega, by omega, by omega⟩)) (fun pcq37 => (pcq37.elim (fun pcq37 => (Or.inr (Or.inl ⟨by omega, by omega, by omega, by omega, by omega, by omega, by omega⟩))) (fun pcq37 => (pcq37.elim (fun pcq37 => (Or.inr (Or.inr (Or.inl ⟨by omega, by omega, by omega, by omega, by omega, by omega, by omega, by omega, by omega, by omega⟩)))) (fun pcq37 => (Or.inr (Or.inr (Or.inr ⟨by omega, by omega, by omega, by omega, by omega, by omega, by omega⟩))))))))))) (fun sq42 tq42 Isq42 Itq42 Gsq42 Gtq42   yq42_0 yq42_1 yq42_2 yq42_3 yq42_4 yq42_5 pcq42 lvq42 memq42 hlq42 hRq42 => ?_) _ _ (h_al_ok ⟨rfl, rfl, trivial⟩ hlw41) hRw41)
          · have Fsq42 := (Gsq42.mono (B := k_pl) rfl).tr Fsq37
            have Ftq42 := (Gtq42.mono (B := k_pm) rfl).tr Ftq37
            have Isq42 := Isq42
            have Itq42 := Itq42
            have Gsq42 := Gsq42
            have Gtq42 := Gtq42
            have esq42_6 : sq42 64 1 = σ1 64 1 := (Gsq42 64 1 rfl).trans esq37_6
            rcases pcq42 with pcq42 | pcq42
            · show h_T g_P (g_Y ns) 61 61 [(0, .ref 63)] [] sq42 _
              refine h_vret rfl rfl (d_retn hlv21 ?_)
              refine h_goto (pc' := 150) rfl rfl ?_
              refine h_aload_n (pc' := 151) rfl rfl rfl ?_
              refine h_getI (pc' := 154) (v := sq42 63 2) rfl rfl rfl rfl rfl rfl (fun z43 hz43 => ?_)
              have tz43 := tf_63_2 Isq42
              refine h_zne (tg := 180) (pc' := 157) rfl rfl rfl hz43 (fun c44 => ?_) (fun c44 => absurd c44 (by omega))
              clear hz43
              refine d_toM (g_inj ns) hlq42 hRq42 (fun lvw45 memw45 hlw45 hRw45 => ?_)
              show h_T g_P (g_Y ns) 153 178 [(0, .ref 98)] [] tq42 _
              refine h_vret rfl rfl (d_retn hlv40 ?_)
              refine h_aload_n (pc' := 146) rfl rfl rfl ?_
              refine h_getI (pc' := 149) (v := tq42 98 13) rfl rfl rfl rfl rfl rfl (fun z46 hz46 => ?_)
              have tz46 := tf_98_13 Itq42
              refine h_zne (tg := 165) (pc' := 152) rfl rfl rfl hz46 (fun c47 => ?_) (fun c47 => absurd c47 (by omega))
              clear hz46
              refine d_toL (g_inj ns) hlw45 hRw45 (fun lvw48 memw48 hlw48 hRw48 => ?_)
              show h_T g_P (g_Y ns) 56 180 [(0, .ref 63), (1, .int x1)] [] sq42 _
              exact h_wk [(0, .ref 63)] ⟨rfl, trivial⟩ (kx0 _ _ Isq42 Itq42 Fsq42 Ftq42 (by omega) (by omega) (by omega) (by omega) (by omega) (fun h => absurd h (by omega)) (Or.inl ⟨by omega, by omega, by omega, by omega⟩) _ _ (h_al_ok ⟨rfl, trivial⟩ hlw48) hRw48)
            · show h_T g_P (g_Y ns) 61 61 [(0, .ref 63)] [] sq42 _
              refine h_vret rfl rfl (d_retn hlv21 ?_)
              refine h_goto (pc' := 150) rfl rfl ?_
              refine d_toM (g_inj ns) hlq42 hRq42 (fun lvw49 memw49 hlw49 hRw49 => ?_)
              show h_T g_P (g_Y ns) 153 178 [(0, .ref 98)] [] tq42 _
              refine h_vret rfl rfl (d_retn hlv40 ?_)
              refine d_toL (g_inj ns) hlw49 hRw49 (fun lvw50 memw50 hlw50 hRw50 => ?_)
              show h_T g_P (g_Y ns) 56 150 [(0, .ref 63), (1, .int x1)] [] sq42 _
              refine h_wk [(0, .ref 63)] ⟨rfl, trivial⟩ (ls_sc Isq42 Itq42 (hTL.fr (Fsq42.mono rfl) (Ftq42.mono rfl))   (by omega) (by omega) (by omega) (by omega) (yq42_5) (pcq42.elim (fun pcq42 => (Or.inl ⟨by omega, by omega, by omega, by omega, by omega⟩)) (fun pcq42 => (pcq42.elim (fun pcq42 => (Or.inr (Or.inl ⟨by omega, by omega, by omega, by omega, by omega⟩))) (fun pcq42 => (pcq42.elim (fun pcq42 => (Or.inr (Or.inr (Or.inl ⟨by omega, by omega, by omega, by omega, by omega, by omega, by omega, by omega⟩)))) (fun pcq42 => (Or.inr (Or.inr (Or.inr ⟨by omega, by omega, by omega, by omega, by omega⟩))))))))) (fun sq51 tq51 Isq51 Itq51 Gsq51 Gtq51   yq51_0 yq51_1 yq51_2 yq51_3 yq51_4 yq51_5 pcq51 lvq51 memq51 hlq51 hRq51 => ?_) _ _ (h_al_ok ⟨rfl, trivial⟩ hlw50) hRw50)
              · have Fsq51 := (Gsq51.mono (B := k_pl) rfl).tr Fsq42
                have Ftq51 := (Gtq51.mono (B := k_pm) rfl).tr Ftq42
                have Isq51 := Isq51
                have Itq51 := Itq51
                have Gsq51 := Gsq51
                have Gtq51 := Gtq51
                have esq51_6 : sq51 64 1 = σ1 64 1 := (Gsq51 64 1 rfl).trans esq42_6
                rcases pcq51 with pcq51 | pcq51
                · show h_T g_P (g_Y ns) 56 180 [(0, .ref 63)] [] sq51 _
                  refine d_toM (g_inj ns) hlq51 hRq51 (fun lvw52 memw52 hlw52 hRw52 => ?_)
                  show h_T g_P (g_Y ns) 154 165 [(0, .ref 98)] [] tq51 _
                  refine d_toL (g_inj ns) hlw52 hRw52 (fun lvw53 memw53 hlw53 hRw53 => ?_)
                  show h_T g_P (g_Y ns) 56 180 [(0, .ref 63)] [] sq51 _
                  exact h_wk [(0, .ref 63)] ⟨rfl, trivial⟩ (kx0 _ _ Isq51 Itq51 Fsq51 Ftq51 (by omega) (by omega) (by omega) (by omega) (by omega) (fun h => absurd h (by omega)) (Or.inl ⟨by omega, by omega, by omega, by omega⟩) _ _ (h_al_ok ⟨rfl, trivial⟩ hlw53) hRw53)
                · show h_T g_P (g_Y ns) 56 180 [(0, .ref 63)] [] sq51 _
                  refine d_toM (g_inj ns) hlq51 hRq51 (fun lvw54 memw54 hlw54 hRw54 => ?_)
                  show h_T g_P (g_Y ns) 154 165 [(0, .ref 98)] [] tq51 _
                  refine d_toL (g_inj ns) hlw54 hRw54 (fun lvw55 memw55 hlw55 hRw55 => ?_)
                  show h_T g_P (g_Y ns) 56 180 [(0, .ref 63)] [] sq51 _
                  exact h_wk [(0, .ref 63)] ⟨rfl, trivial⟩ (kx0 _ _ Isq51 Itq51 Fsq51 Ftq51 (by omega) (by omega) (by omega) (by omega) (by omega) (yq51_5) (Or.inr ⟨by omega, by omega, by omega, by omega, by omega, by omega⟩) _ _ (h_al_ok ⟨rfl, trivial⟩ hlw55) hRw55)
        · clear hz38
          refine d_toL (g_inj ns) hlw26 hRq37 (fun lvw56 memw56 hlw56 hRw56 => ?_)
          show h_T g_P (g_Y ns) 57 20 [(0, .ref 63), (1, .int (Int32.ofInt 0))] [] sq37 _
          refine h_vret rfl rfl (d_retn hlv24 ?_)
          refine h_aload_n (pc' := 21) rfl rfl rfl ?_
          refine h_bipush (pc' := 23) (x := (Int32.ofInt 9)) rfl rfl cb_9 ?_
          refine h_call (sp := false) (pc' := 26) (M := [(0, .ref 63), (1, .int (Int32.ofInt 9))]) rfl rfl rfl rfl rfl rfl rfl rfl ?_
          refine h_aload_n (pc' := 1) rfl rfl rfl ?_
          refine h_getI (pc' := 4) (v := sq37 63 2) rfl rfl rfl rfl rfl rfl (fun z57 hz57 => ?_)
          have tz57 := tf_63_2 Isq37
          refine h_zne (tg := 30) (pc' := 7) rfl rfl rfl hz57 (fun c58 => ?_) (fun c58 => absurd c58 (by omega))
          clear hz57
          refine h_aload_n (pc' := 31) rfl rfl rfl ?_
          refine h_getI (pc' := 34) (v := sq37 63 2) rfl rfl rfl rfl rfl rfl (fun z59 hz59 => ?_)
          refine h_zne (tg := 60) (pc' := 37) rfl rfl rfl hz59 (fun c60 => ?_) (fun c60 => absurd c60 (by omega))
          clear hz59
          refine h_aload_n (pc' := 61) rfl rfl rfl ?_
          refine h_getR (pc' := 64) rfl rfl rfl rfl rfl ?_
          refine h_getI (pc' := 67) (v := sq37 64 5) rfl rfl rfl rfl rfl rfl (fun z61 hz61 => ?_)
          have tz61 := tf_64_5 Isq37
          refine h_istore_n (pc' := 68) (M := [(2, .int z61), (0, .ref 63), (1, .int (Int32.ofInt 9))]) rfl rfl rfl rfl ?_
          refine h_aload_n (pc' := 69) rfl rfl rfl ?_
          refine h_call (sp := false) (pc' := 72) (M := [(0, .ref 63)]) rfl rfl rfl rfl rfl rfl rfl rfl ?_
          refine h_aload_n (pc' := 1) rfl rfl rfl ?_
          refine h_getI (pc' := 4) (v := sq37 63 2) rfl rfl rfl rfl rfl rfl (fun z62 hz62 => ?_)
          refine h_zne (tg := 37) (pc' := 7) rfl rfl rfl hz62 (fun c63 => ?_) (fun c63 => absurd c63 (by omega))
          clear hz62
          refine h_vret rfl rfl (h_Kn ?_)
          refine h_iload_n (pc' := 73) rfl rfl rfl ?_
          refine h_iret rfl rfl (h_Kv ?_)
          refine h_istore_n (pc' := 27) (M := [(1, .int z61), (0, .ref 63)]) rfl rfl rfl rfl ?_
          refine h_aload_n (pc' := 28) rfl rfl rfl ?_
          refine h_call (sp := false) (pc' := 31) (M := [(0, .ref 63)]) rfl rfl rfl rfl rfl rfl rfl rfl ?_
          refine h_aload_n (pc' := 1) rfl rfl rfl ?_
          refine h_getI (pc' := 4) (v := sq37 63 2) rfl rfl rfl rfl rfl rfl (fun z64 hz64 => ?_)
          refine h_zne (tg := 22) (pc' := 7) rfl rfl rfl hz64 (fun c65 => ?_) (fun c65 => absurd c65 (by omega))
          clear hz64
          refine h_iconst (pc' := 23) (x := (Int32.ofInt 0)) rfl rfl rfl ?_
          refine h_zret rfl rfl ci_0 (by omega) (h_Kv ?_)
          refine h_zeq (tg := 42) (pc' := 34) rfl rfl rfl ci_0 (fun c66 => ?_) (fun c66 => absurd c66 (by omega))
          refine h_bipush (pc' := 44) (x := (Int32.ofInt (-4))) rfl rfl cb_m4 ?_
          refine h_istore_n (pc' := 45) (M := [(2, .int (Int32.ofInt (-4))), (1, .int z61), (0, .ref 63)]) rfl rfl rfl rfl ?_
          refine h_aload_n (pc' := 46) rfl rfl rfl ?_
          refine h_getI (pc' := 49) (v := sq37 63 2) rfl rfl rfl rfl rfl rfl (fun z67 hz67 => ?_)
          refine h_zne (tg := 61) (pc' := 52) rfl rfl rfl hz67 (fun c68 => ?_) (fun c68 => absurd c68 (by omega))
          clear hz67
          refine h_vret rfl rfl (d_retn hlv21 ?_)
          clear hz61
          refine h_goto (pc' := 150) rfl rfl ?_
          refine h_aload_n (pc' := 151) rfl rfl rfl ?_
          refine h_getI (pc' := 154) (v := sq37 63 2) rfl rfl rfl rfl rfl rfl (fun z69 hz69 => ?_)
          refine h_zne (tg := 180) (pc' := 157) rfl rfl rfl hz69 (fun c70 => ?_) (fun c70 => absurd c70 (by omega))
          clear hz69
          exact h_wk [(0, .ref 63)] ⟨rfl, trivial⟩ (kx1 _ _ Isq37 Itq37 Fsq37 Ftq37 (by omega) (by omega) (by omega) (by omega) (by omega) (pcq37.elim (fun pcq37 => ⟨by omega, by omega, by omega, by omega⟩) (fun pcq37 => (pcq37.elim (fun pcq37 => (by exfalso; omega)) (fun pcq37 => (pcq37.elim (fun pcq37 => (by exfalso; omega)) (fun pcq37 => (pcq37.elim (fun pcq37 => (by exfalso; omega)) (fun pcq37 => (by exfalso; omega))))))))) _ _ (h_al_ok ⟨rfl, trivial⟩ hlw56) hRw56)
      · clear hz34
        refine h_iload_n (pc' := 115) rfl rfl rfl ?_
        refine h_bipush (pc' := 117) (x := (Int32.ofInt 7)) rfl rfl cb_7 ?_
        refine h_cne (tg := 124) (pc' := 120) rfl rfl rfl hy1 ci_7 (fun c71 => ?_) (fun c71 => absurd c71 (by omega))
        refine h_iconst (pc' := 125) (x := (Int32.ofInt 0)) rfl rfl rfl ?_
        refine h_put (pc' := 128) rfl rfl rfl rfl rfl rfl ci_0 (h_fb ci_0 (by omega)) (h_fgt (E := fun s => s 98 15 = σ2 98 15 ∧ s 98 16 = σ2 98 16 ∧ s 98 17 = σ2 98 17 ∧ s 98 18 = σ2 98 18 ∧ s 98 13 = σ2 98 13 ∧ s 98 14 = σ2 98 14 ∧ s 98 5 = σ2 98 5 ∧ s 98 6 = σ2 98 6 ∧ s 98 7 = 0 ∧ s 98 8 = σ2 98 8 ∧ s 98 9 = σ2 98 9 ∧ s 101 18 = σ2 101 18 ∧ s 101 25 = σ2 101 25 ∧ s 101 43 = σ2 101 43 ∧ s = h_up σ2 98 7 0) _ (if_98_7 hI2 (by omega)) (F2.up rfl) ⟨rfl, rfl, rfl, rfl, rfl, rfl, rfl, rfl, rfl, rfl, rfl, rfl, rfl, rfl, rfl⟩ (fun s72 Is72 Fs72 (es72 : s72 98 15 = σ2 98 15 ∧ s72 98 16 = σ2 98 16 ∧ s72 98 17 = σ2 98 17 ∧ s72 98 18 = σ2 98 18 ∧ s72 98 13 = σ2 98 13 ∧ s72 98 14 = σ2 98 14 ∧ s72 98 5 = σ2 98 5 ∧ s72 98 6 = σ2 98 6 ∧ s72 98 7 = 0 ∧ s72 98 8 = σ2 98 8 ∧ s72 98 9 = σ2 98 9 ∧ s72 101 18 = σ2 101 18 ∧ s72 101 25 = σ2 101 25 ∧ s72 101 43 = σ2 101 43 ∧ s72 = h_up σ2 98 7 0) => ?_))
        refine h_aload_n (pc' := 129) rfl rfl rfl ?_
        refine d_pcall (g_inj ns) (m1 := 54) (pc1' := 20) (M1 := [(0, .ref 63)]) (rest1 := []) (m2 := 148) (pc2' := 132) (M2 := [(0, .ref 98)]) (rest2 := []) ⟨false, _, _, _, _, _, _, rfl, rfl, rfl, rfl, rfl, rfl, rfl⟩ ⟨false, _, _, _, _, _, _, rfl, rfl, rfl, rfl, rfl, rfl, rfl⟩ hRw26 ?_
        refine pp_step hI1 Is72 (hTL.fr (F1.mono rfl) (Fs72.mono rfl)) (by omega) (by omega) (by omega) (by omega) (Or.inr ⟨by omega, by omega⟩) (fun sq73 tq73 Isq73 Itq73 Gsq73 Gtq73 yq73_0 yq73_1 yq73_2 yq73_3 yq73_4 pcq73 memq73 hRq73 => ?_)
        have Fsq73 := (Gsq73.mono (B := k_pl) rfl).tr F1
        have Ftq73 := (Gtq73.mono (B := k_pm) rfl).tr Fs72
        have esq73_6 : sq73 64 1 = σ1 64 1 := (Gsq73 64 1 rfl).trans rfl
        have esq73_7 : sq73 66 8 = σ1 66 8 := (Gsq73 66 8 rfl).trans rfl
        have esq73_8 : sq73 66 9 = σ1 66 9 := (Gsq73 66 9 rfl).trans rfl
        have esq73_9 : sq73 66 10 = σ1 66 10 := (Gsq73 66 10 rfl).trans rfl
        have esq73_10 : sq73 69 2 = σ1 69 2 := (Gsq73 69 2 rfl).trans rfl
        have esq73_11 : sq73 72 2 = σ1 72 2 := (Gsq73 72 2 rfl).trans rfl
        have esq73_12 : sq73 63 5 = σ1 63 5 := (Gsq73 63 5 rfl).trans rfl
        have etq73_6 : tq73 98 5 = σ2 98 5 := (Gtq73 98 5 rfl).trans es72.2.2.2.2.2.2.1
        have etq73_7 : tq73 98 6 = σ2 98 6 := (Gtq73 98 6 rfl).trans es72.2.2.2.2.2.2.2.1
        have etq73_8 : tq73 98 7 = 0 := (Gtq73 98 7 rfl).trans es72.2.2.2.2.2.2.2.2.1
        have etq73_9 : tq73 98 8 = σ2 98 8 := (Gtq73 98 8 rfl).trans es72.2.2.2.2.2.2.2.2.2.1
        have etq73_10 : tq73 98 9 = σ2 98 9 := (Gtq73 98 9 rfl).trans es72.2.2.2.2.2.2.2.2.2.2.1
        have etq73_11 : tq73 101 18 = σ2 101 18 := (Gtq73 101 18 rfl).trans es72.2.2.2.2.2.2.2.2.2.2.2.1
        have etq73_12 : tq73 101 25 = σ2 101 25 := (Gtq73 101 25 rfl).trans es72.2.2.2.2.2.2.2.2.2.2.2.2.1
        have etq73_13 : tq73 101 43 = σ2 101 43 := (Gtq73 101 43 rfl).trans es72.2.2.2.2.2.2.2.2.2.2.2.2.2.1
        show h_T g_P (g_Y ns) 154 132 [(0, .ref 98), (1, .int y1)] [] tq73 _
        refine h_aload_n (pc' := 133) rfl rfl rfl ?_
        refine h_getI (pc' := 136) (v := tq73 98 13) rfl rfl rfl rfl rfl rfl (fun z74 hz74 => ?_)
        have tz74 := tf_98_13 Itq73
        refine h_zle (tg := 140) (pc' := 139) rfl rfl rfl hz74 (fun c75 => ?_) (fun c75 => ?_)
        · clear hz74
          refine h_aload_n (pc' := 141) rfl rfl rfl ?_
          refine h_iload_n (pc' := 142) rfl rfl rfl ?_
          refine d_call (g_inj ns) (pc' := 145) (m := 153) (M := [(0, .ref 98), (1, .int y1)]) (rest := []) ⟨false, _, _, _, _, _, _, rfl, rfl, rfl, rfl, rfl, rfl, rfl⟩ (fun lv76 hlv76 => ?_)
          refine d_toL (g_inj ns) hlw26 hRq73 (fun lvw77 memw77 hlw77 hRw77 => ?_)
          show h_T g_P (g_Y ns) 57 20 [(0, .ref 63), (1, .int (Int32.ofInt 0))] [] sq73 _
          refine h_vret rfl rfl (d_retn hlv24 ?_)
          refine h_wk [(0, .ref 63)] ⟨rfl, trivial⟩ (ls_gat_b Isq73 Itq73 (hTL.fr (Fsq73.mono rfl) (Ftq73.mono rfl))  y1 _ hy1 (by omega) (by omega) (by omega) (by omega) (by omega) (by omega) (by omega) (by omega) (by omega) (by omega) (d_mk ((Gsq73 66 8 rfl)) ((Gsq73 66 9 rfl)) ((Gsq73 66 10 rfl)) ((Gsq73 69 2 rfl)) ((Gsq73 72 2 rfl)) ((Gsq73 63 5 rfl)) (fun j => (Gsq73 67 j rfl)) (fun j => (Gsq73 68 j rfl)) (fun j => (Gsq73 70 j rfl)) (fun j => (Gsq73 71 j rfl)) (fun j => (Gsq73 73 j rfl)) (fun j => (Gsq73 74 j rfl)) (fun j => (Gsq73 75 j rfl)) (fun j => (Gsq73 76 j rfl)) (fun j => (Gsq73 77 j rfl)) (fun j => (Gsq73 78 j rfl)) ((Gtq73 98 5 rfl).trans (h_upd es72.2.2.2.2.2.2.2.2.2.2.2.2.2.2 (by decide))) ((Gtq73 98 6 rfl).trans (h_upd es72.2.2.2.2.2.2.2.2.2.2.2.2.2.2 (by decide))) (by omega) ((Gtq73 98 8 rfl).trans (h_upd es72.2.2.2.2.2.2.2.2.2.2.2.2.2.2 (by decide))) ((Gtq73 98 9 rfl).trans (h_upd es72.2.2.2.2.2.2.2.2.2.2.2.2.2.2 (by decide))) (fun j => (Gtq73 101 j rfl).trans (h_upo es72.2.2.2.2.2.2.2.2.2.2.2.2.2.2 rfl j)) (pr10)) (by omega) (pcq73.elim (fun pcq73 => (by exfalso; omega)) (fun pcq73 => (pcq73.elim (fun pcq73 => (Or.inl ⟨by omega, by omega, by omega, by omega, by omega, by omega, by omega⟩)) (fun pcq73 => (pcq73.elim (fun pcq73 => (Or.inr (Or.inl ⟨by omega, by omega, by omega, by omega, by omega, by omega, by omega⟩))) (fun pcq73 => (pcq73.elim (fun pcq73 => (Or.inr (Or.inr (Or.inl ⟨by omega, by omega, by omega, by omega, by omega, by omega, by omega, by omega, by omega, by omega⟩)))) (fun pcq73 => (Or.inr (Or.inr (Or.inr ⟨by omega, by omega, by omega, by omega, by omega, by omega, by omega⟩))))))))))) (fun sq78 tq78 Isq78 Itq78 Gsq78 Gtq78   yq78_0 yq78_1 yq78_2 yq78_3 yq78_4 yq78_5 pcq78 lvq78 memq78 hlq78 hRq78 => ?_) _ _ (h_al_ok ⟨rfl, rfl, trivial⟩ hlw77) hRw77)
          · have Fsq78 := (Gsq78.mono (B := k_pl) rfl).tr Fsq73
            have Ftq78 := (Gtq78.mono (B := k_pm) rfl).tr Ftq73
            have Isq78 := Isq78
            have Itq78 := Itq78
            have Gsq78 := Gsq78
            have Gtq78 := Gtq78
            have esq78_6 : sq78 64 1 = σ1 64 1 := (Gsq78 64 1 rfl).trans esq73_6
            rcases pcq78 with pcq78 | pcq78
            · show h_T g_P (g_Y ns) 61 61 [(0, .ref 63)] [] sq78 _
              refine h_vret rfl rfl (d_retn hlv21 ?_)
              refine h_goto (pc' := 150) rfl rfl ?_
              refine h_aload_n (pc' := 151) rfl rfl rfl ?_
              refine h_getI (pc' := 154) (v := sq78 63 2) rfl rfl rfl rfl rfl rfl (fun z79 hz79 => ?_)
              have tz79 := tf_63_2 Isq78
              refine h_zne (tg := 180) (pc' := 157) rfl rfl rfl hz79 (fun c80 => ?_) (fun c80 => absurd c80 (by omega))
              clear hz79
              refine d_toM (g_inj ns) hlq78 hRq78 (fun lvw81 memw81 hlw81 hRw81 => ?_)
              show h_T g_P (g_Y ns) 153 178 [(0, .ref 98)] [] tq78 _
              refine h_vret rfl rfl (d_retn hlv76 ?_)
              refine h_aload_n (pc' := 146) rfl rfl rfl ?_
              refine h_getI (pc' := 149) (v := tq78 98 13) rfl rfl rfl rfl rfl rfl (fun z82 hz82 => ?_)
              have tz82 := tf_98_13 Itq78
              refine h_zne (tg := 165) (pc' := 152) rfl rfl rfl hz82 (fun c83 => ?_) (fun c83 => absurd c83 (by omega))
              clear hz82
              refine d_toL (g_inj ns) hlw81 hRw81 (fun lvw84 memw84 hlw84 hRw84 => ?_)
              show h_T g_P (g_Y ns) 56 180 [(0, .ref 63), (1, .int x1)] [] sq78 _
              exact h_wk [(0, .ref 63)] ⟨rfl, trivial⟩ (kx0 _ _ Isq78 Itq78 Fsq78 Ftq78 (by omega) (by omega) (by omega) (by omega) (by omega) (fun h => absurd h (by omega)) (Or.inl ⟨by omega, by omega, by omega, by omega⟩) _ _ (h_al_ok ⟨rfl, trivial⟩ hlw84) hRw84)
            · show h_T g_P (g_Y ns) 61 61 [(0, .ref 63)] [] sq78 _
              refine h_vret rfl rfl (d_retn hlv21 ?_)
              refine h_goto (pc' := 150) rfl rfl ?_
              refine d_toM (g_inj ns) hlq78 hRq78 (fun lvw85 memw85 hlw85 hRw85 => ?_)
              show h_T g_P (g_Y ns) 153 178 [(0, .ref 98)] [] tq78 _
              refine h_vret rfl rfl (d_retn hlv76 ?_)
              refine d_toL (g_inj ns) hlw85 hRw85 (fun lvw86 memw86 hlw86 hRw86 => ?_)
              show h_T g_P (g_Y ns) 56 150 [(0, .ref 63), (1, .int x1)] [] sq78 _
              refine h_wk [(0, .ref 63)] ⟨rfl, trivial⟩ (ls_sc Isq78 Itq78 (hTL.fr (Fsq78.mono rfl) (Ftq78.mono rfl))   (by omega) (by omega) (by omega) (by omega) (yq78_5) (pcq78.elim (fun pcq78 => (Or.inl ⟨by omega, by omega, by omega, by omega, by omega⟩)) (fun pcq78 => (pcq78.elim (fun pcq78 => (Or.inr (Or.inl ⟨by omega, by omega, by omega, by omega, by omega⟩))) (fun pcq78 => (pcq78.elim (fun pcq78 => (Or.inr (Or.inr (Or.inl ⟨by omega, by omega, by omega, by omega, by omega, by omega, by omega, by omega⟩)))) (fun pcq78 => (Or.inr (Or.inr (Or.inr ⟨by omega, by omega, by omega, by omega, by omega⟩))))))))) (fun sq87 tq87 Isq87 Itq87 Gsq87 Gtq87   yq87_0 yq87_1 yq87_2 yq87_3 yq87_4 yq87_5 pcq87 lvq87 memq87 hlq87 hRq87 => ?_) _ _ (h_al_ok ⟨rfl, trivial⟩ hlw86) hRw86)
              · have Fsq87 := (Gsq87.mono (B := k_pl) rfl).tr Fsq78
                have Ftq87 := (Gtq87.mono (B := k_pm) rfl).tr Ftq78
                have Isq87 := Isq87
                have Itq87 := Itq87
                have Gsq87 := Gsq87
                have Gtq87 := Gtq87
                have esq87_6 : sq87 64 1 = σ1 64 1 := (Gsq87 64 1 rfl).trans esq78_6
                rcases pcq87 with pcq87 | pcq87
                · show h_T g_P (g_Y ns) 56 180 [(0, .ref 63)] [] sq87 _
                  refine d_toM (g_inj ns) hlq87 hRq87 (fun lvw88 memw88 hlw88 hRw88 => ?_)
                  show h_T g_P (g_Y ns) 154 165 [(0, .ref 98)] [] tq87 _
                  refine d_toL (g_inj ns) hlw88 hRw88 (fun lvw89 memw89 hlw89 hRw89 => ?_)
                  show h_T g_P (g_Y ns) 56 180 [(0, .ref 63)] [] sq87 _
                  exact h_wk [(0, .ref 63)] ⟨rfl, trivial⟩ (kx0 _ _ Isq87 Itq87 Fsq87 Ftq87 (by omega) (by omega) (by omega) (by omega) (by omega) (fun h => absurd h (by omega)) (Or.inl ⟨by omega, by omega, by omega, by omega⟩) _ _ (h_al_ok ⟨rfl, trivial⟩ hlw89) hRw89)
                · show h_T g_P (g_Y ns) 56 180 [(0, .ref 63)] [] sq87 _
                  refine d_toM (g_inj ns) hlq87 hRq87 (fun lvw90 memw90 hlw90 hRw90 => ?_)
                  show h_T g_P (g_Y ns) 154 165 [(0, .ref 98)] [] tq87 _
                  refine d_toL (g_inj ns) hlw90 hRw90 (fun lvw91 memw91 hlw91 hRw91 => ?_)
                  show h_T g_P (g_Y ns) 56 180 [(0, .ref 63)] [] sq87 _
                  exact h_wk [(0, .ref 63)] ⟨rfl, trivial⟩ (kx0 _ _ Isq87 Itq87 Fsq87 Ftq87 (by omega) (by omega) (by omega) (by omega) (by omega) (yq87_5) (Or.inr ⟨by omega, by omega, by omega, by omega, by omega, by omega⟩) _ _ (h_al_ok ⟨rfl, trivial⟩ hlw91) hRw91)
        · clear hz74
          refine d_toL (g_inj ns) hlw26 hRq73 (fun lvw92 memw92 hlw92 hRw92 => ?_)
          show h_T g_P (g_Y ns) 57 20 [(0, .ref 63), (1, .int (Int32.ofInt 0))] [] sq73 _
          refine h_vret rfl rfl (d_retn hlv24 ?_)
          refine h_aload_n (pc' := 21) rfl rfl rfl ?_
          refine h_bipush (pc' := 23) (x := (Int32.ofInt 9)) rfl rfl cb_9 ?_
          refine h_call (sp := false) (pc' := 26) (M := [(0, .ref 63), (1, .int (Int32.ofInt 9))]) rfl rfl rfl rfl rfl rfl rfl rfl ?_
          refine h_aload_n (pc' := 1) rfl rfl rfl ?_
          refine h_getI (pc' := 4) (v := sq73 63 2) rfl rfl rfl rfl rfl rfl (fun z93 hz93 => ?_)
          have tz93 := tf_63_2 Isq73
          refine h_zne (tg := 30) (pc' := 7) rfl rfl rfl hz93 (fun c94 => ?_) (fun c94 => absurd c94 (by omega))
          clear hz93
          refine h_aload_n (pc' := 31) rfl rfl rfl ?_
          refine h_getI (pc' := 34) (v := sq73 63 2) rfl rfl rfl rfl rfl rfl (fun z95 hz95 => ?_)
          refine h_zne (tg := 60) (pc' := 37) rfl rfl rfl hz95 (fun c96 => ?_) (fun c96 => absurd c96 (by omega))
          clear hz95
          refine h_aload_n (pc' := 61) rfl rfl rfl ?_
          refine h_getR (pc' := 64) rfl rfl rfl rfl rfl ?_
          refine h_getI (pc' := 67) (v := sq73 64 5) rfl rfl rfl rfl rfl rfl (fun z97 hz97 => ?_)
          have tz97 := tf_64_5 Isq73
          refine h_istore_n (pc' := 68) (M := [(2, .int z97), (0, .ref 63), (1, .int (Int32.ofInt 9))]) rfl rfl rfl rfl ?_
          refine h_aload_n (pc' := 69) rfl rfl rfl ?_
          refine h_call (sp := false) (pc' := 72) (M := [(0, .ref 63)]) rfl rfl rfl rfl rfl rfl rfl rfl ?_
          refine h_aload_n (pc' := 1) rfl rfl rfl ?_
          refine h_getI (pc' := 4) (v := sq73 63 2) rfl rfl rfl rfl rfl rfl (fun z98 hz98 => ?_)
          refine h_zne (tg := 37) (pc' := 7) rfl rfl rfl hz98 (fun c99 => ?_) (fun c99 => absurd c99 (by omega))
          clear hz98
          refine h_vret rfl rfl (h_Kn ?_)
          refine h_iload_n (pc' := 73) rfl rfl rfl ?_
          refine h_iret rfl rfl (h_Kv ?_)
          refine h_istore_n (pc' := 27) (M := [(1, .int z97), (0, .ref 63)]) rfl rfl rfl rfl ?_
          refine h_aload_n (pc' := 28) rfl rfl rfl ?_
          refine h_call (sp := false) (pc' := 31) (M := [(0, .ref 63)]) rfl rfl rfl rfl rfl rfl rfl rfl ?_
          refine h_aload_n (pc' := 1) rfl rfl rfl ?_
          refine h_getI (pc' := 4) (v := sq73 63 2) rfl rfl rfl rfl rfl rfl (fun z100 hz100 => ?_)
          refine h_zne (tg := 22) (pc' := 7) rfl rfl rfl hz100 (fun c101 => ?_) (fun c101 => absurd c101 (by omega))
          clear hz100
          refine h_iconst (pc' := 23) (x := (Int32.ofInt 0)) rfl rfl rfl ?_
          refine h_zret rfl rfl ci_0 (by omega) (h_Kv ?_)
          refine h_zeq (tg := 42) (pc' := 34) rfl rfl rfl ci_0 (fun c102 => ?_) (fun c102 => absurd c102 (by omega))
          refine h_bipush (pc' := 44) (x := (Int32.ofInt (-4))) rfl rfl cb_m4 ?_
          refine h_istore_n (pc' := 45) (M := [(2, .int (Int32.ofInt (-4))), (1, .int z97), (0, .ref 63)]) rfl rfl rfl rfl ?_
          refine h_aload_n (pc' := 46) rfl rfl rfl ?_
          refine h_getI (pc' := 49) (v := sq73 63 2) rfl rfl rfl rfl rfl rfl (fun z103 hz103 => ?_)
          refine h_zne (tg := 61) (pc' := 52) rfl rfl rfl hz103 (fun c104 => ?_) (fun c104 => absurd c104 (by omega))
          clear hz103
          refine h_vret rfl rfl (d_retn hlv21 ?_)
          clear hz97
          refine h_goto (pc' := 150) rfl rfl ?_
          refine h_aload_n (pc' := 151) rfl rfl rfl ?_
          refine h_getI (pc' := 154) (v := sq73 63 2) rfl rfl rfl rfl rfl rfl (fun z105 hz105 => ?_)
          refine h_zne (tg := 180) (pc' := 157) rfl rfl rfl hz105 (fun c106 => ?_) (fun c106 => absurd c106 (by omega))
          clear hz105
          exact h_wk [(0, .ref 63)] ⟨rfl, trivial⟩ (kx1 _ _ Isq73 Itq73 Fsq73 Ftq73 (by omega) (by omega) (by omega) (by omega) (by omega) (pcq73.elim (fun pcq73 => ⟨by omega, by omega, by omega, by omega⟩) (fun pcq73 => (pcq73.elim (fun pcq73 => (by exfalso; omega)) (fun pcq73 => (pcq73.elim (fun pcq73 => (by exfalso; omega)) (fun pcq73 => (pcq73.elim (fun pcq73 => (by exfalso; omega)) (fun pcq73 => (by exfalso; omega))))))))) _ _ (h_al_ok ⟨rfl, trivial⟩ hlw92) hRw92)
    · clear hz22
      refine h_iconst (pc' := 13) (x := (Int32.ofInt 1)) rfl rfl rfl ?_
      refine h_goto (pc' := 17) rfl rfl ?_
      refine d_call (g_inj ns) (pc' := 20) (m := 57) (M := [(0, .ref 63), (1, .int (Int32.ofInt 1))]) (rest := []) ⟨false, _, _, _, _, _, _, rfl, rfl, rfl, rfl, rfl, rfl, rfl⟩ (fun lv107 hlv107 => ?_)
      refine h_iload_n (pc' := 1) rfl rfl rfl ?_
      refine h_zeq (tg := 16) (pc' := 4) rfl rfl rfl ci_1 (fun c108 => absurd c108 (by omega)) (fun c108 => ?_)
      refine h_aload_n (pc' := 5) rfl rfl rfl ?_
      refine h_iconst (pc' := 6) (x := (Int32.ofInt 5)) rfl rfl rfl ?_
      refine h_aload_n (pc' := 7) rfl rfl rfl ?_
      refine h_getR (pc' := 10) rfl rfl rfl rfl rfl ?_
      refine h_getI (pc' := 13) (v := σ1 64 4) rfl rfl rfl rfl rfl rfl (fun z109 hz109 => ?_)
      have tz109 := tf_64_4 hI1
      refine h_call (sp := false) (pc' := 16) (M := [(0, .ref 63), (1, .int (Int32.ofInt 5)), (2, .int z109)]) rfl rfl rfl rfl rfl rfl rfl rfl ?_
      refine h_aload_n (pc' := 1) rfl rfl rfl ?_
      refine h_getI (pc' := 4) (v := σ1 63 2) rfl rfl rfl rfl rfl rfl (fun z110 hz110 => ?_)
      have tz110 := tf_63_2 hI1
      refine h_zne (tg := 17) (pc' := 7) rfl rfl rfl hz110 (fun c111 => absurd c111 (by omega)) (fun c111 => ?_)
      clear hz110
      refine h_aload_n (pc' := 8) rfl rfl rfl ?_
      refine h_iload_n (pc' := 9) rfl rfl rfl ?_
      refine h_put (pc' := 12) rfl rfl rfl rfl rfl rfl ci_5 rfl (h_fgt (E := fun s => s 64 2 = σ1 64 2 ∧ s 64 4 = σ1 64 4 ∧ s 64 3 = σ1 64 3 ∧ s 64 5 = σ1 64 5 ∧ s 63 2 = 5 ∧ s 63 3 = σ1 63 3 ∧ s 64 1 = σ1 64 1 ∧ s 66 8 = σ1 66 8 ∧ s 66 9 = σ1 66 9 ∧ s 66 10 = σ1 66 10 ∧ s 69 2 = σ1 69 2 ∧ s 72 2 = σ1 72 2 ∧ s 63 5 = σ1 63 5 ∧ s = h_up σ1 63 2 5) _ (if_63_2 hI1 (by omega)) (F1.up rfl) ⟨rfl, rfl, rfl, rfl, rfl, rfl, rfl, rfl, rfl, rfl, rfl, rfl, rfl, rfl⟩ (fun s112 Is112 Fs112 (es112 : s112 64 2 = σ1 64 2 ∧ s112 64 4 = σ1 64 4 ∧ s112 64 3 = σ1 64 3 ∧ s112 64 5 = σ1 64 5 ∧ s112 63 2 = 5 ∧ s112 63 3 = σ1 63 3 ∧ s112 64 1 = σ1 64 1 ∧ s112 66 8 = σ1 66 8 ∧ s112 66 9 = σ1 66 9 ∧ s112 66 10 = σ1 66 10 ∧ s112 69 2 = σ1 69 2 ∧ s112 72 2 = σ1 72 2 ∧ s112 63 5 = σ1 63 5 ∧ s112 = h_up σ1 63 2 5) => ?_))
      refine h_aload_n (pc' := 13) rfl rfl rfl ?_
      refine h_iload_n (pc' := 14) rfl rfl rfl ?_
      refine h_put (pc' := 17) rfl rfl rfl rfl rfl rfl hz109 rfl (h_fgt (E := fun s => s 64 2 = σ1 64 2 ∧ s 64 4 = σ1 64 4 ∧ s 64 3 = σ1 64 3 ∧ s 64 5 = σ1 64 5 ∧ s 63 2 = 5 ∧ s 63 3 = (σ1 64 4) ∧ s 64 1 = σ1 64 1 ∧ s 66 8 = σ1 66 8 ∧ s 66 9 = σ1 66 9 ∧ s 66 10 = σ1 66 10 ∧ s 69 2 = σ1 69 2 ∧ s 72 2 = σ1 72 2 ∧ s 63 5 = σ1 63 5 ∧ s = h_up s112 63 3 (σ1 64 4)) _ (if_63_3 Is112 (h_rgv hz109)) (Fs112.up rfl) ⟨es112.1, es112.2.1, es112.2.2.1, es112.2.2.2.1, es112.2.2.2.2.1, rfl, es112.2.2.2.2.2.2.1, es112.2.2.2.2.2.2.2.1, es112.2.2.2.2.2.2.2.2.1, es112.2.2.2.2.2.2.2.2.2.1, es112.2.2.2.2.2.2.2.2.2.2.1, es112.2.2.2.2.2.2.2.2.2.2.2.1, es112.2.2.2.2.2.2.2.2.2.2.2.2.1, rfl⟩ (fun s113 Is113 Fs113 (es113 : s113 64 2 = σ1 64 2 ∧ s113 64 4 = σ1 64 4 ∧ s113 64 3 = σ1 64 3 ∧ s113 64 5 = σ1 64 5 ∧ s113 63 2 = 5 ∧ s113 63 3 = (σ1 64 4) ∧ s113 64 1 = σ1 64 1 ∧ s113 66 8 = σ1 66 8 ∧ s113 66 9 = σ1 66 9 ∧ s113 66 10 = σ1 66 10 ∧ s113 69 2 = σ1 69 2 ∧ s113 72 2 = σ1 72 2 ∧ s113 63 5 = σ1 63 5 ∧ s113 = h_up s112 63 3 (σ1 64 4)) => ?_))
      refine h_vret rfl rfl (h_Kn ?_)
      refine h_aload_n (pc' := 17) rfl rfl rfl ?_
      refine h_call (sp := false) (pc' := 20) (M := [(0, .ref 63)]) rfl rfl rfl rfl rfl rfl rfl rfl ?_
      refine h_aload_n (pc' := 1) rfl rfl rfl ?_
      refine h_getI (pc' := 4) (v := 5) rfl rfl rfl rfl rfl es113.2.2.2.2.1 (fun z114 hz114 => ?_)
      refine h_zne (tg := 37) (pc' := 7) rfl rfl rfl hz114 (fun c115 => ?_) (fun c115 => absurd c115 (by omega))
      clear hz114
      refine h_vret rfl rfl (h_Kn ?_)
      refine h_vret rfl rfl (d_retn hlv107 ?_)
      refine h_aload_n (pc' := 21) rfl rfl rfl ?_
      refine h_bipush (pc' := 23) (x := (Int32.ofInt 9)) rfl rfl cb_9 ?_
      refine h_call (sp := false) (pc' := 26) (M := [(0, .ref 63), (1, .int (Int32.ofInt 9))]) rfl rfl rfl rfl rfl rfl rfl rfl ?_
      refine h_aload_n (pc' := 1) rfl rfl rfl ?_
      refine h_getI (pc' := 4) (v := 5) rfl rfl rfl rfl rfl es113.2.2.2.2.1 (fun z116 hz116 => ?_)
      refine h_zne (tg := 30) (pc' := 7) rfl rfl rfl hz116 (fun c117 => ?_) (fun c117 => absurd c117 (by omega))
      clear hz116
      refine h_aload_n (pc' := 31) rfl rfl rfl ?_
      refine h_getI (pc' := 34) (v := 5) rfl rfl rfl rfl rfl es113.2.2.2.2.1 (fun z118 hz118 => ?_)
      refine h_zne (tg := 60) (pc' := 37) rfl rfl rfl hz118 (fun c119 => ?_) (fun c119 => absurd c119 (by omega))
      clear hz118
      refine h_aload_n (pc' := 61) rfl rfl rfl ?_
      refine h_getR (pc' := 64) rfl rfl rfl rfl rfl ?_
      refine h_getI (pc' := 67) (v := σ1 64 5) rfl rfl rfl rfl rfl es113.2.2.2.1 (fun z120 hz120 => ?_)
      have tz120 := tf_64_5 hI1
      refine h_istore_n (pc' := 68) (M := [(2, .int z120), (0, .ref 63), (1, .int (Int32.ofInt 9))]) rfl rfl rfl rfl ?_
      refine h_aload_n (pc' := 69) rfl rfl rfl ?_
      refine h_call (sp := false) (pc' := 72) (M := [(0, .ref 63)]) rfl rfl rfl rfl rfl rfl rfl rfl ?_
      refine h_aload_n (pc' := 1) rfl rfl rfl ?_
      refine h_getI (pc' := 4) (v := 5) rfl rfl rfl rfl rfl es113.2.2.2.2.1 (fun z121 hz121 => ?_)
      refine h_zne (tg := 37) (pc' := 7) rfl rfl rfl hz121 (fun c122 => ?_) (fun c122 => absurd c122 (by omega))
      clear hz121
      refine h_vret rfl rfl (h_Kn ?_)
      refine h_iload_n (pc' := 73) rfl rfl rfl ?_
      refine h_iret rfl rfl (h_Kv ?_)
      refine h_istore_n (pc' := 27) (M := [(1, .int z120), (0, .ref 63)]) rfl rfl rfl rfl ?_
      refine h_aload_n (pc' := 28) rfl rfl rfl ?_
      refine h_call (sp := false) (pc' := 31) (M := [(0, .ref 63)]) rfl rfl rfl rfl rfl rfl rfl rfl ?_
      refine h_aload_n (pc' := 1) rfl rfl rfl ?_
      refine h_getI (pc' := 4) (v := 5) rfl rfl rfl rfl rfl es113.2.2.2.2.1 (fun z123 hz123 => ?_)
      refine h_zne (tg := 22) (pc' := 7) rfl rfl rfl hz123 (fun c124 => ?_) (fun c124 => absurd c124 (by omega))
      clear hz123
      refine h_iconst (pc' := 23) (x := (Int32.ofInt 0)) rfl rfl rfl ?_
      refine h_zret rfl rfl ci_0 (by omega) (h_Kv ?_)
      refine h_zeq (tg := 42) (pc' := 34) rfl rfl rfl ci_0 (fun c125 => ?_) (fun c125 => absurd c125 (by omega))
      refine h_bipush (pc' := 44) (x := (Int32.ofInt (-4))) rfl rfl cb_m4 ?_
      refine h_istore_n (pc' := 45) (M := [(2, .int (Int32.ofInt (-4))), (1, .int z120), (0, .ref 63)]) rfl rfl rfl rfl ?_
      refine h_aload_n (pc' := 46) rfl rfl rfl ?_
      refine h_getI (pc' := 49) (v := 5) rfl rfl rfl rfl rfl es113.2.2.2.2.1 (fun z126 hz126 => ?_)
      refine h_zne (tg := 61) (pc' := 52) rfl rfl rfl hz126 (fun c127 => ?_) (fun c127 => absurd c127 (by omega))
      clear hz126
      refine h_vret rfl rfl (d_retn hlv21 ?_)
      clear hz120
      refine h_goto (pc' := 150) rfl rfl ?_
      refine h_aload_n (pc' := 151) rfl rfl rfl ?_
      refine h_getI (pc' := 154) (v := 5) rfl rfl rfl rfl rfl es113.2.2.2.2.1 (fun z128 hz128 => ?_)
      refine h_zne (tg := 180) (pc' := 157) rfl rfl rfl hz128 (fun c129 => ?_) (fun c129 => absurd c129 (by omega))
      clear hz128
      refine d_toM (g_inj ns) hl2 hR2 (fun lvw130 memw130 hlw130 hRw130 => ?_)
      show h_T g_P (g_Y ns) 154 23 [(0, .ref 98), (1, .int y1)] [] σ2 _
      refine h_iload_n (pc' := 24) rfl rfl rfl ?_
      refine h_iconst (pc' := 25) (x := (Int32.ofInt 3)) rfl rfl rfl ?_
      refine h_cgt (tg := 37) (pc' := 28) rfl rfl rfl hy1 ci_3 (fun c131 => ?_) (fun c131 => absurd c131 (by omega))
      refine h_iload_n (pc' := 38) rfl rfl rfl ?_
      refine h_iconst (pc' := 39) (x := (Int32.ofInt 4)) rfl rfl rfl ?_
      refine h_cne (tg := 53) (pc' := 42) rfl rfl rfl hy1 ci_4 (fun c132 => ?_) (fun c132 => absurd c132 (by omega))
      refine h_iload_n (pc' := 54) rfl rfl rfl ?_
      refine h_iconst (pc' := 55) (x := (Int32.ofInt 5)) rfl rfl rfl ?_
      refine h_cne (tg := 69) (pc' := 58) rfl rfl rfl hy1 ci_5 (fun c133 => ?_) (fun c133 => absurd c133 (by omega))
      refine h_iload_n (pc' := 70) rfl rfl rfl ?_
      refine h_bipush (pc' := 72) (x := (Int32.ofInt 6)) rfl rfl cb_6 ?_
      refine h_cne (tg := 88) (pc' := 75) rfl rfl rfl hy1 ci_6 (fun c134 => absurd c134 (by omega)) (fun c134 => ?_)
      refine h_aload_n (pc' := 76) rfl rfl rfl ?_
      refine h_getI (pc' := 79) (v := σ2 98 6) rfl rfl rfl rfl rfl rfl (fun z135 hz135 => ?_)
      have tz135 := tf_98_6 hI2
      refine h_iconst (pc' := 80) (x := (Int32.ofInt 3)) rfl rfl rfl ?_
      refine h_cne (tg := 88) (pc' := 83) rfl rfl rfl hz135 ci_3 (fun c136 => absurd c136 (by omega)) (fun c136 => ?_)
      clear hz135
      refine h_aload_n (pc' := 84) rfl rfl rfl ?_
      refine h_iconst (pc' := 85) (x := (Int32.ofInt 5)) rfl rfl rfl ?_
      refine h_call (sp := false) (pc' := 88) (M := [(0, .ref 98), (1, .int (Int32.ofInt 5))]) rfl rfl rfl rfl rfl rfl rfl rfl ?_
      refine h_aload_n (pc' := 1) rfl rfl rfl ?_
      refine h_getI (pc' := 4) (v := σ2 98 13) rfl rfl rfl rfl rfl rfl (fun z137 hz137 => ?_)
      have tz137 := tf_98_13 hI2
      refine h_zne (tg := 20) (pc' := 7) rfl rfl rfl hz137 (fun c138 => absurd c138 (by omega)) (fun c138 => ?_)
      clear hz137
      refine h_aload_n (pc' := 8) rfl rfl rfl ?_
      refine h_iload_n (pc' := 9) rfl rfl rfl ?_
      refine h_put (pc' := 12) rfl rfl rfl rfl rfl rfl ci_5 rfl (h_fgt (E := fun s => s 98 15 = σ2 98 15 ∧ s 98 16 = σ2 98 16 ∧ s 98 17 = σ2 98 17 ∧ s 98 18 = σ2 98 18 ∧ s 98 13 = 5 ∧ s 98 14 = σ2 98 14 ∧ s 98 5 = σ2 98 5 ∧ s 98 6 = σ2 98 6 ∧ s 98 7 = σ2 98 7 ∧ s 98 8 = σ2 98 8 ∧ s 98 9 = σ2 98 9 ∧ s 101 18 = σ2 101 18 ∧ s 101 25 = σ2 101 25 ∧ s 101 43 = σ2 101 43 ∧ s = h_up σ2 98 13 5) _ (if_98_13 hI2 (by omega)) (F2.up rfl) ⟨rfl, rfl, rfl, rfl, rfl, rfl, rfl, rfl, rfl, rfl, rfl, rfl, rfl, rfl, rfl⟩ (fun s139 Is139 Fs139 (es139 : s139 98 15 = σ2 98 15 ∧ s139 98 16 = σ2 98 16 ∧ s139 98 17 = σ2 98 17 ∧ s139 98 18 = σ2 98 18 ∧ s139 98 13 = 5 ∧ s139 98 14 = σ2 98 14 ∧ s139 98 5 = σ2 98 5 ∧ s139 98 6 = σ2 98 6 ∧ s139 98 7 = σ2 98 7 ∧ s139 98 8 = σ2 98 8 ∧ s139 98 9 = σ2 98 9 ∧ s139 101 18 = σ2 101 18 ∧ s139 101 25 = σ2 101 25 ∧ s139 101 43 = σ2 101 43 ∧ s139 = h_up σ2 98 13 5) => ?_))
      refine h_aload_n (pc' := 13) rfl rfl rfl ?_
      refine h_aload_n (pc' := 14) rfl rfl rfl ?_
      refine h_getI (pc' := 17) (v := σ2 98 16) rfl rfl rfl rfl rfl es139.2.1 (fun z140 hz140 => ?_)
      have tz140 := tf_98_16 hI2
      refine h_put (pc' := 20) rfl rfl rfl rfl rfl rfl hz140 rfl (h_fgt (E := fun s => s 98 15 = σ2 98 15 ∧ s 98 16 = σ2 98 16 ∧ s 98 17 = σ2 98 17 ∧ s 98 18 = σ2 98 18 ∧ s 98 13 = 5 ∧ s 98 14 = (σ2 98 16) ∧ s 98 5 = σ2 98 5 ∧ s 98 6 = σ2 98 6 ∧ s 98 7 = σ2 98 7 ∧ s 98 8 = σ2 98 8 ∧ s 98 9 = σ2 98 9 ∧ s 101 18 = σ2 101 18 ∧ s 101 25 = σ2 101 25 ∧ s 101 43 = σ2 101 43 ∧ s = h_up s139 98 14 (σ2 98 16)) _ (if_98_14 Is139 (h_rgv hz140)) (Fs139.up rfl) ⟨es139.1, es139.2.1, es139.2.2.1, es139.2.2.2.1, es139.2.2.2.2.1, rfl, es139.2.2.2.2.2.2.1, es139.2.2.2.2.2.2.2.1, es139.2.2.2.2.2.2.2.2.1, es139.2.2.2.2.2.2.2.2.2.1, es139.2.2.2.2.2.2.2.2.2.2.1, es139.2.2.2.2.2.2.2.2.2.2.2.1, es139.2.2.2.2.2.2.2.2.2.2.2.2.1, es139.2.2.2.2.2.2.2.2.2.2.2.2.2.1, rfl⟩ (fun s141 Is141 Fs141 (es141 : s141 98 15 = σ2 98 15 ∧ s141 98 16 = σ2 98 16 ∧ s141 98 17 = σ2 98 17 ∧ s141 98 18 = σ2 98 18 ∧ s141 98 13 = 5 ∧ s141 98 14 = (σ2 98 16) ∧ s141 98 5 = σ2 98 5 ∧ s141 98 6 = σ2 98 6 ∧ s141 98 7 = σ2 98 7 ∧ s141 98 8 = σ2 98 8 ∧ s141 98 9 = σ2 98 9 ∧ s141 101 18 = σ2 101 18 ∧ s141 101 25 = σ2 101 25 ∧ s141 101 43 = σ2 101 43 ∧ s141 = h_up s139 98 14 (σ2 98 16)) => ?_))
      refine h_vret rfl rfl (h_Kn ?_)
      refine h_iload_n (pc' := 89) rfl rfl rfl ?_
      refine h_bipush (pc' := 91) (x := (Int32.ofInt 7)) rfl rfl cb_7 ?_
      refine h_cne (tg := 106) (pc' := 94) rfl rfl rfl hy1 ci_7 (fun c142 => ?_) (fun c142 => absurd c142 (by omega))
      refine h_aload_n (pc' := 107) rfl rfl rfl ?_
      refine h_aload_n (pc' := 108) rfl rfl rfl ?_
      refine h_getI (pc' := 111) (v := σ2 98 7) rfl rfl rfl rfl rfl es141.2.2.2.2.2.2.2.2.1 (fun z143 hz143 => ?_)
      have tz143 := tf_98_7 hI2
      refine h_zne (tg := 120) (pc' := 114) rfl rfl rfl hz143 (fun c144 => ?_) (fun c144 => ?_)
      · clear hz143
        refine h_iconst (pc' := 121) (x := (Int32.ofInt 1)) rfl rfl rfl ?_
        refine h_goto (pc' := 125) rfl rfl ?_
        refine h_put (pc' := 128) rfl rfl rfl rfl rfl rfl ci_1 (h_fb ci_1 (by omega)) (h_fgt (E := fun s => s 98 15 = σ2 98 15 ∧ s 98 16 = σ2 98 16 ∧ s 98 17 = σ2 98 17 ∧ s 98 18 = σ2 98 18 ∧ s 98 13 = 5 ∧ s 98 14 = (σ2 98 16) ∧ s 98 5 = σ2 98 5 ∧ s 98 6 = σ2 98 6 ∧ s 98 7 = 1 ∧ s 98 8 = σ2 98 8 ∧ s 98 9 = σ2 98 9 ∧ s 101 18 = σ2 101 18 ∧ s 101 25 = σ2 101 25 ∧ s 101 43 = σ2 101 43 ∧ s = h_up s141 98 7 1) _ (if_98_7 Is141 (by omega)) (Fs141.up rfl) ⟨es141.1, es141.2.1, es141.2.2.1, es141.2.2.2.1, es141.2.2.2.2.1, es141.2.2.2.2.2.1, es141.2.2.2.2.2.2.1, es141.2.2.2.2.2.2.2.1, rfl, es141.2.2.2.2.2.2.2.2.2.1, es141.2.2.2.2.2.2.2.2.2.2.1, es141.2.2.2.2.2.2.2.2.2.2.2.1, es141.2.2.2.2.2.2.2.2.2.2.2.2.1, es141.2.2.2.2.2.2.2.2.2.2.2.2.2.1, rfl⟩ (fun s145 Is145 Fs145 (es145 : s145 98 15 = σ2 98 15 ∧ s145 98 16 = σ2 98 16 ∧ s145 98 17 = σ2 98 17 ∧ s145 98 18 = σ2 98 18 ∧ s145 98 13 = 5 ∧ s145 98 14 = (σ2 98 16) ∧ s145 98 5 = σ2 98 5 ∧ s145 98 6 = σ2 98 6 ∧ s145 98 7 = 1 ∧ s145 98 8 = σ2 98 8 ∧ s145 98 9 = σ2 98 9 ∧ s145 101 18 = σ2 101 18 ∧ s145 101 25 = σ2 101 25 ∧ s145 101 43 = σ2 101 43 ∧ s145 = h_up s141 98 7 1) => ?_))
        refine h_aload_n (pc' := 129) rfl rfl rfl ?_
        refine h_call (sp := false) (pc' := 132) (M := [(0, .ref 98)]) rfl rfl rfl rfl rfl rfl rfl rfl ?_
        refine h_aload_n (pc' := 1) rfl rfl rfl ?_
        refine h_getI (pc' := 4) (v := 5) rfl rfl rfl rfl rfl es145.2.2.2.2.1 (fun z146 hz146 => ?_)
        refine h_zle (tg := 8) (pc' := 7) rfl rfl rfl hz146 (fun c147 => absurd c147 (by omega)) (fun c147 => ?_)
        clear hz146
        refine h_vret rfl rfl (h_Kn ?_)
        refine h_aload_n (pc' := 133) rfl rfl rfl ?_
        refine h_getI (pc' := 136) (v := 5) rfl rfl rfl rfl rfl es145.2.2.2.2.1 (fun z148 hz148 => ?_)
        refine h_zle (tg := 140) (pc' := 139) rfl rfl rfl hz148 (fun c149 => absurd c149 (by omega)) (fun c149 => ?_)
        clear hz148
        refine d_toL (g_inj ns) hlw130 hRw130 (fun lvw150 memw150 hlw150 hRw150 => ?_)
        show h_T g_P (g_Y ns) 56 180 [(0, .ref 63), (1, .int x1)] [] s113 _
        exact h_wk [(0, .ref 63)] ⟨rfl, trivial⟩ (kx1 _ _ Is113 Is145 Fs113 Fs145 (by omega) (by omega) (by omega) (by omega) (by omega) ⟨by omega, by omega, by omega, by omega⟩ _ _ (h_al_ok ⟨rfl, trivial⟩ hlw150) hRw150)
      · clear hz143
        refine h_iload_n (pc' := 115) rfl rfl rfl ?_
        refine h_bipush (pc' := 117) (x := (Int32.ofInt 7)) rfl rfl cb_7 ?_
        refine h_cne (tg := 124) (pc' := 120) rfl rfl rfl hy1 ci_7 (fun c151 => ?_) (fun c151 => absurd c151 (by omega))
        refine h_iconst (pc' := 125) (x := (Int32.ofInt 0)) rfl rfl rfl ?_
        refine h_put (pc' := 128) rfl rfl rfl rfl rfl rfl ci_0 (h_fb ci_0 (by omega)) (h_fgt (E := fun s => s 98 15 = σ2 98 15 ∧ s 98 16 = σ2 98 16 ∧ s 98 17 = σ2 98 17 ∧ s 98 18 = σ2 98 18 ∧ s 98 13 = 5 ∧ s 98 14 = (σ2 98 16) ∧ s 98 5 = σ2 98 5 ∧ s 98 6 = σ2 98 6 ∧ s 98 7 = 0 ∧ s 98 8 = σ2 98 8 ∧ s 98 9 = σ2 98 9 ∧ s 101 18 = σ2 101 18 ∧ s 101 25 = σ2 101 25 ∧ s 101 43 = σ2 101 43 ∧ s = h_up s141 98 7 0) _ (if_98_7 Is141 (by omega)) (Fs141.up rfl) ⟨es141.1, es141.2.1, es141.2.2.1, es141.2.2.2.1, es141.2.2.2.2.1, es141.2.2.2.2.2.1, es141.2.2.2.2.2.2.1, es141.2.2.2.2.2.2.2.1, rfl, es141.2.2.2.2.2.2.2.2.2.1, es141.2.2.2.2.2.2.2.2.2.2.1, es141.2.2.2.2.2.2.2.2.2.2.2.1, es141.2.2.2.2.2.2.2.2.2.2.2.2.1, es141.2.2.2.2.2.2.2.2.2.2.2.2.2.1, rfl⟩ (fun s152 Is152 Fs152 (es152 : s152 98 15 = σ2 98 15 ∧ s152 98 16 = σ2 98 16 ∧ s152 98 17 = σ2 98 17 ∧ s152 98 18 = σ2 98 18 ∧ s152 98 13 = 5 ∧ s152 98 14 = (σ2 98 16) ∧ s152 98 5 = σ2 98 5 ∧ s152 98 6 = σ2 98 6 ∧ s152 98 7 = 0 ∧ s152 98 8 = σ2 98 8 ∧ s152 98 9 = σ2 98 9 ∧ s152 101 18 = σ2 101 18 ∧ s152 101 25 = σ2 101 25 ∧ s152 101 43 = σ2 101 43 ∧ s152 = h_up s141 98 7 0) => ?_))
        refine h_aload_n (pc' := 129) rfl rfl rfl ?_
        refine h_call (sp := false) (pc' := 132) (M := [(0, .ref 98)]) rfl rfl rfl rfl rfl rfl rfl rfl ?_
        refine h_aload_n (pc' := 1) rfl rfl rfl ?_
        refine h_getI (pc' := 4) (v := 5) rfl rfl rfl rfl rfl es152.2.2.2.2.1 (fun z153 hz153 => ?_)
        refine h_zle (tg := 8) (pc' := 7) rfl rfl rfl hz153 (fun c154 => absurd c154 (by omega)) (fun c154 => ?_)
        clear hz153
        refine h_vret rfl rfl (h_Kn ?_)
        refine h_aload_n (pc' := 133) rfl rfl rfl ?_
        refine h_getI (pc' := 136) (v := 5) rfl rfl rfl rfl rfl es152.2.2.2.2.1 (fun z155 hz155 => ?_)
        refine h_zle (tg := 140) (pc' := 139) rfl rfl rfl hz155 (fun c156 => absurd c156 (by omega)) (fun c156 => ?_)
        clear hz155
        refine d_toL (g_inj ns) hlw130 hRw130 (fun lvw157 memw157 hlw157 hRw157 => ?_)
        show h_T g_P (g_Y ns) 56 180 [(0, .ref 63), (1, .int x1)] [] s113 _
        exact h_wk [(0, .ref 63)] ⟨rfl, trivial⟩ (kx1 _ _ Is113 Is152 Fs113 Fs152 (by omega) (by omega) (by omega) (by omega) (by omega) ⟨by omega, by omega, by omega, by omega⟩ _ _ (h_al_ok ⟨rfl, trivial⟩ hlw157) hRw157)
