set_option maxHeartbeats 100000000 in
theorem ls_gat_c {ns : Nat} {σ1 σ2 : h_S} (hI1 : h_I σ1) (hI2 : h_I σ2) (hTL : d_tape σ1 σ2) (x1 : Int32) (a1 : Int) (hx1 : x1.toInt = a1) (pr0 : σ1 64 2 = σ2 98 15) (pr1 : σ1 64 4 = σ2 98 16) (pr2 : σ1 63 2 = σ2 98 13) (pr3 : σ1 66 8 = σ2 98 5) (pr4 : σ1 66 9 = σ2 98 6) (pr5 : σ1 66 10 = σ2 101 43) (pr6 : σ1 69 2 = σ2 101 18) (pr7 : σ1 72 2 = σ2 101 25) (pr8 : σ1 63 5 = σ2 98 7) (pr9 : σ1 64 2 ≤ σ1 64 1) (pr10 : d_RD σ1 σ2) (pr11 : σ2 101 (26 + σ2 98 6) = a1) (pr12 : 0 ≤ a1 ∧ a1 ≤ 9) (pc0 : ((σ1 63 2 = 0) ∧ (σ1 64 3 = 0) ∧ (0 ≤ σ1 66 9 ∧ σ1 66 9 ≤ 2) ∧ (σ2 98 13 = 0) ∧ (σ2 98 17 = 0) ∧ (0 ≤ σ2 98 6 ∧ σ2 98 6 ≤ 2) ∧ (σ1 64 4 = σ1 64 1)) ∨ ((σ1 63 2 = 0) ∧ (σ1 64 3 = 1) ∧ (0 ≤ σ1 66 9 ∧ σ1 66 9 ≤ 2) ∧ (σ2 98 13 = 0) ∧ (σ2 98 17 = 1) ∧ (0 ≤ σ2 98 6 ∧ σ2 98 6 ≤ 2) ∧ (σ1 64 4 < σ1 64 2)) ∨ ((σ1 63 2 = 0) ∧ (σ1 64 3 = 2) ∧ (0 ≤ σ1 66 9 ∧ σ1 66 9 ≤ 2) ∧ (σ2 98 13 = 0) ∧ (σ2 98 17 = 2) ∧ (0 ≤ σ2 98 6 ∧ σ2 98 6 ≤ 2) ∧ (0 ≤ σ1 64 5 ∧ σ1 64 5 ≤ 99) ∧ (0 ≤ σ2 98 18 ∧ σ2 98 18 ≤ 99) ∧ (σ1 64 5 = σ2 98 18) ∧ (σ1 64 4 < σ1 64 2)) ∨ ((σ1 63 2 = 0) ∧ (σ1 64 3 = 3) ∧ (0 ≤ σ1 66 9 ∧ σ1 66 9 ≤ 2) ∧ (σ2 98 13 = 0) ∧ (σ2 98 17 = 3) ∧ (0 ≤ σ2 98 6 ∧ σ2 98 6 ≤ 2) ∧ (σ1 64 4 < σ1 64 2))) {cs1 cs2 : List d_Fr} {Q : d_Q} (kx0 : ∀ (s t : h_S), h_I s → h_I t → h_F (k_in k_pl) s σ1 → h_F (k_in k_pm) t σ2 → (s 64 2 = t 98 15) → (s 64 4 = t 98 16) → (s 63 2 = t 98 13) → (s 64 2 ≤ s 64 1) → (σ1 64 2 ≤ s 64 2) → (d_ok s t) → (((1 ≤ s 63 2 ∧ s 63 2 ≤ 6) ∧ (1 ≤ t 98 13 ∧ t 98 13 ≤ 6) ∧ (s 63 2 = t 98 13) ∧ (s 63 3 = t 98 14)) ∨ ((s 63 2 = 0) ∧ (s 64 3 = 0) ∧ (t 98 13 = 0) ∧ (t 98 17 = 0) ∧ (s 64 4 = s 64 1)) ∨ ((s 63 2 = 0) ∧ (s 64 3 = 1) ∧ (t 98 13 = 0) ∧ (t 98 17 = 1) ∧ (s 64 4 < s 64 2)) ∨ ((s 63 2 = 0) ∧ (s 64 3 = 2) ∧ (t 98 13 = 0) ∧ (t 98 17 = 2) ∧ (0 ≤ s 64 5 ∧ s 64 5 ≤ 99) ∧ (0 ≤ t 98 18 ∧ t 98 18 ≤ 99) ∧ (s 64 5 = t 98 18) ∧ (s 64 4 < s 64 2)) ∨ ((s 63 2 = 0) ∧ (s 64 3 = 3) ∧ (t 98 13 = 0) ∧ (t 98 17 = 3) ∧ (s 64 4 < s 64 2) ∧ ((s 64 2 = σ1 64 2 ∧ s 64 3 = σ1 64 3) ∨ σ1 64 2 < s 64 2))) → ∀ lv2 mem2, h_loc [(0, .ref 98)] lv2 → h_R (g_Y ns) t mem2 → h_T g_P (g_Y ns) 61 61 [(0, .ref 63)] [] s (d_cs g_P (g_Y ns) cs1 (d_L g_P (g_Y ns) (153, 178, lv2, []) cs2 mem2 Q))) : ∀ lv2 mem2, h_loc [(0, .ref 98)] lv2 → h_R (g_Y ns) σ2 mem2 → h_T g_P (g_Y ns) 61 27 [(0, .ref 63), (1, .int x1)] [] σ1 (d_cs g_P (g_Y ns) cs1 (d_L g_P (g_Y ns) (153, 128, lv2, []) cs2 mem2 Q)) := by
  intro lv2 mem2 hl2 hR2
  have hT := hTL.1
  have hL := hTL.2
  have F1 : h_F (k_in k_pl) σ1 σ1 := h_F.rf
  have F2 : h_F (k_in k_pm) σ2 σ2 := h_F.rf
  have ge0 := tf_64_1 hI1
  have ge1 := tf_66_8 hI1
  have ge2 := tf_66_9 hI1
  have ge3 := tf_66_10 hI1
  have ge4 := tf_69_2 hI1
  have ge5 := tf_72_2 hI1
  have ge6 := tf_63_5 hI1
  have ge7 := tf_63_2 hI1
  have ge8 := tf_98_8 hI2
  have ge9 := tf_98_9 hI2
  have ge10 := tf_98_13 hI2
  rcases pc0 with pc0 | pc0 | pc0 | pc0
  · show h_T g_P (g_Y ns) 61 27 [(0, .ref 63), (1, .int x1)] [] σ1 _
    refine h_aload_n (pc' := 28) rfl rfl rfl ?_
    refine h_call (sp := false) (pc' := 31) (M := [(0, .ref 63)]) rfl rfl rfl rfl rfl rfl rfl rfl ?_
    refine h_aload_n (pc' := 1) rfl rfl rfl ?_
    refine h_getI (pc' := 4) (v := σ1 63 2) rfl rfl rfl rfl rfl rfl (fun z21 hz21 => ?_)
    have tz21 := tf_63_2 hI1
    refine h_zne (tg := 22) (pc' := 7) rfl rfl rfl hz21 (fun c22 => absurd (Int.le_antisymm (by omega) (by omega)) c22) (fun c22 => ?_)
    clear hz21
    refine h_aload_n (pc' := 8) rfl rfl rfl ?_
    refine h_getR (pc' := 11) rfl rfl rfl rfl rfl ?_
    refine h_getI (pc' := 14) (v := σ1 64 3) rfl rfl rfl rfl rfl rfl (fun z23 hz23 => ?_)
    have tz23 := tf_64_3 hI1
    refine h_iconst (pc' := 15) (x := (Int32.ofInt 2)) rfl rfl rfl ?_
    refine h_cne (tg := 22) (pc' := 18) rfl rfl rfl hz23 ci_2 (fun c24 => ?_) (fun c24 => absurd c24 (by omega))
    clear hz23
    refine h_iconst (pc' := 23) (x := (Int32.ofInt 0)) rfl rfl rfl ?_
    refine h_zret rfl rfl ci_0 (by omega) (h_Kv ?_)
    refine h_zeq (tg := 42) (pc' := 34) rfl rfl rfl ci_0 (fun c25 => ?_) (fun c25 => absurd (Int.le_antisymm (by omega) (by omega)) c25)
    refine h_bipush (pc' := 44) (x := (Int32.ofInt (-4))) rfl rfl cb_m4 ?_
    refine h_istore_n (pc' := 45) (M := [(2, .int (Int32.ofInt (-4))), (0, .ref 63), (1, .int x1)]) rfl rfl rfl rfl ?_
    refine h_aload_n (pc' := 46) rfl rfl rfl ?_
    refine h_getI (pc' := 49) (v := σ1 63 2) rfl rfl rfl rfl rfl rfl (fun z26 hz26 => ?_)
    refine h_zne (tg := 61) (pc' := 52) rfl rfl rfl hz26 (fun c27 => absurd (Int.le_antisymm (by omega) (by omega)) c27) (fun c27 => ?_)
    clear hz26
    refine h_aload_n (pc' := 53) rfl rfl rfl ?_
    refine h_getR (pc' := 56) rfl rfl rfl rfl rfl ?_
    refine h_iload_n (pc' := 57) rfl rfl rfl ?_
    refine h_iload_n (pc' := 58) rfl rfl rfl ?_
    refine h_call (sp := false) (pc' := 61) (M := [(0, .ref 66), (1, .int x1), (2, .int (Int32.ofInt (-4)))]) rfl rfl rfl rfl rfl rfl rfl rfl ?_
    refine h_aload_n (pc' := 1) rfl rfl rfl ?_
    refine h_getI (pc' := 4) (v := σ1 66 9) rfl rfl rfl rfl rfl rfl (fun z28 hz28 => ?_)
    have tz28 := tf_66_9 hI1
    refine h_iconst (pc' := 5) (x := (Int32.ofInt 3)) rfl rfl rfl ?_
    refine h_cge (tg := 48) (pc' := 8) rfl rfl rfl hz28 ci_3 (fun c29 => absurd c29 (by omega)) (fun c29 => ?_)
    clear hz28
    refine h_aload_n (pc' := 9) rfl rfl rfl ?_
    refine h_getR (pc' := 12) rfl rfl rfl rfl rfl ?_
    refine h_aload_n (pc' := 13) rfl rfl rfl ?_
    refine h_getI (pc' := 16) (v := σ1 66 9) rfl rfl rfl rfl rfl rfl (fun z30 hz30 => ?_)
    refine h_iload_n (pc' := 17) rfl rfl rfl ?_
    refine h_iast (pc' := 18) rfl rfl rfl rfl hz30 (by omega) (by omega) hx1 (h_fgt (E := fun s => s 64 2 = σ1 64 2 ∧ s 64 4 = σ1 64 4 ∧ s 64 3 = σ1 64 3 ∧ s 64 5 = σ1 64 5 ∧ s 63 2 = σ1 63 2 ∧ s 63 3 = σ1 63 3 ∧ s 64 1 = σ1 64 1 ∧ s 66 8 = σ1 66 8 ∧ s 66 9 = σ1 66 9 ∧ s 66 10 = σ1 66 10 ∧ s 69 2 = σ1 69 2 ∧ s 72 2 = σ1 72 2 ∧ s 63 5 = σ1 63 5 ∧ s = h_up σ1 75 (σ1 66 9) a1) _ (in_75 hI1 (by omega)) (F1.up rfl) ⟨rfl, rfl, rfl, rfl, rfl, rfl, rfl, rfl, rfl, rfl, rfl, rfl, rfl, rfl⟩ (fun s31 Is31 Fs31 (es31 : s31 64 2 = σ1 64 2 ∧ s31 64 4 = σ1 64 4 ∧ s31 64 3 = σ1 64 3 ∧ s31 64 5 = σ1 64 5 ∧ s31 63 2 = σ1 63 2 ∧ s31 63 3 = σ1 63 3 ∧ s31 64 1 = σ1 64 1 ∧ s31 66 8 = σ1 66 8 ∧ s31 66 9 = σ1 66 9 ∧ s31 66 10 = σ1 66 10 ∧ s31 69 2 = σ1 69 2 ∧ s31 72 2 = σ1 72 2 ∧ s31 63 5 = σ1 63 5 ∧ s31 = h_up σ1 75 (σ1 66 9) a1) => ?_))
    have us31 := es31.2.2.2.2.2.2.2.2.2.2.2.2.2
    clear hz30
    refine h_aload_n (pc' := 19) rfl rfl rfl ?_
    refine h_getR (pc' := 22) rfl rfl rfl rfl rfl ?_
    refine h_aload_n (pc' := 23) rfl rfl rfl ?_
    refine h_getI (pc' := 26) (v := σ1 66 9) rfl rfl rfl rfl rfl es31.2.2.2.2.2.2.2.2.1 (fun z32 hz32 => ?_)
    refine h_iload_n (pc' := 27) rfl rfl rfl ?_
    refine h_iast (pc' := 28) rfl rfl rfl rfl hz32 (by omega) (by omega) ci_m4 (h_fgt (E := fun s => s 64 2 = σ1 64 2 ∧ s 64 4 = σ1 64 4 ∧ s 64 3 = σ1 64 3 ∧ s 64 5 = σ1 64 5 ∧ s 63 2 = σ1 63 2 ∧ s 63 3 = σ1 63 3 ∧ s 64 1 = σ1 64 1 ∧ s 66 8 = σ1 66 8 ∧ s 66 9 = σ1 66 9 ∧ s 66 10 = σ1 66 10 ∧ s 69 2 = σ1 69 2 ∧ s 72 2 = σ1 72 2 ∧ s 63 5 = σ1 63 5 ∧ s = h_up s31 76 (σ1 66 9) (-4)) _ (in_76 Is31 (by omega)) (Fs31.up rfl) ⟨es31.1, es31.2.1, es31.2.2.1, es31.2.2.2.1, es31.2.2.2.2.1, es31.2.2.2.2.2.1, es31.2.2.2.2.2.2.1, es31.2.2.2.2.2.2.2.1, es31.2.2.2.2.2.2.2.2.1, es31.2.2.2.2.2.2.2.2.2.1, es31.2.2.2.2.2.2.2.2.2.2.1, es31.2.2.2.2.2.2.2.2.2.2.2.1, es31.2.2.2.2.2.2.2.2.2.2.2.2.1, rfl⟩ (fun s33 Is33 Fs33 (es33 : s33 64 2 = σ1 64 2 ∧ s33 64 4 = σ1 64 4 ∧ s33 64 3 = σ1 64 3 ∧ s33 64 5 = σ1 64 5 ∧ s33 63 2 = σ1 63 2 ∧ s33 63 3 = σ1 63 3 ∧ s33 64 1 = σ1 64 1 ∧ s33 66 8 = σ1 66 8 ∧ s33 66 9 = σ1 66 9 ∧ s33 66 10 = σ1 66 10 ∧ s33 69 2 = σ1 69 2 ∧ s33 72 2 = σ1 72 2 ∧ s33 63 5 = σ1 63 5 ∧ s33 = h_up s31 76 (σ1 66 9) (-4)) => ?_))
    clear es31
    have us33 := es33.2.2.2.2.2.2.2.2.2.2.2.2.2
    clear hz32
    refine h_aload_n (pc' := 29) rfl rfl rfl ?_
    refine h_getR (pc' := 32) rfl rfl rfl rfl rfl ?_
    refine h_aload_n (pc' := 33) rfl rfl rfl ?_
    refine h_getI (pc' := 36) (v := σ1 66 9) rfl rfl rfl rfl rfl es33.2.2.2.2.2.2.2.2.1 (fun z34 hz34 => ?_)
    refine h_iconst (pc' := 37) (x := (Int32.ofInt 0)) rfl rfl rfl ?_
    refine h_iast (pc' := 38) rfl rfl rfl rfl hz34 (by omega) (by omega) ci_0 (h_fgt (E := fun s => s 64 2 = σ1 64 2 ∧ s 64 4 = σ1 64 4 ∧ s 64 3 = σ1 64 3 ∧ s 64 5 = σ1 64 5 ∧ s 63 2 = σ1 63 2 ∧ s 63 3 = σ1 63 3 ∧ s 64 1 = σ1 64 1 ∧ s 66 8 = σ1 66 8 ∧ s 66 9 = σ1 66 9 ∧ s 66 10 = σ1 66 10 ∧ s 69 2 = σ1 69 2 ∧ s 72 2 = σ1 72 2 ∧ s 63 5 = σ1 63 5 ∧ s = h_up s33 77 (σ1 66 9) 0) _ (in_77 Is33 (by omega)) (Fs33.up rfl) ⟨es33.1, es33.2.1, es33.2.2.1, es33.2.2.2.1, es33.2.2.2.2.1, es33.2.2.2.2.2.1, es33.2.2.2.2.2.2.1, es33.2.2.2.2.2.2.2.1, es33.2.2.2.2.2.2.2.2.1, es33.2.2.2.2.2.2.2.2.2.1, es33.2.2.2.2.2.2.2.2.2.2.1, es33.2.2.2.2.2.2.2.2.2.2.2.1, es33.2.2.2.2.2.2.2.2.2.2.2.2.1, rfl⟩ (fun s35 Is35 Fs35 (es35 : s35 64 2 = σ1 64 2 ∧ s35 64 4 = σ1 64 4 ∧ s35 64 3 = σ1 64 3 ∧ s35 64 5 = σ1 64 5 ∧ s35 63 2 = σ1 63 2 ∧ s35 63 3 = σ1 63 3 ∧ s35 64 1 = σ1 64 1 ∧ s35 66 8 = σ1 66 8 ∧ s35 66 9 = σ1 66 9 ∧ s35 66 10 = σ1 66 10 ∧ s35 69 2 = σ1 69 2 ∧ s35 72 2 = σ1 72 2 ∧ s35 63 5 = σ1 63 5 ∧ s35 = h_up s33 77 (σ1 66 9) 0) => ?_))
    clear es33
    have us35 := es35.2.2.2.2.2.2.2.2.2.2.2.2.2
    clear hz34
    refine h_aload_n (pc' := 39) rfl rfl rfl ?_
    refine h_dup (pc' := 40) rfl rfl rfl ?_
    refine h_getI (pc' := 43) (v := σ1 66 9) rfl rfl rfl rfl rfl es35.2.2.2.2.2.2.2.2.1 (fun z36 hz36 => ?_)
    refine h_iconst (pc' := 44) (x := (Int32.ofInt 1)) rfl rfl rfl ?_
    refine h_iadd (pc' := 45) rfl rfl hz36 ci_1 rfl (by omega) (by omega) (fun z37 hz37 => ?_)
    clear hz36
    refine h_put (pc' := 48) rfl rfl rfl rfl rfl rfl hz37 rfl (h_fgt (E := fun s => s 64 2 = σ1 64 2 ∧ s 64 4 = σ1 64 4 ∧ s 64 3 = σ1 64 3 ∧ s 64 5 = σ1 64 5 ∧ s 63 2 = σ1 63 2 ∧ s 63 3 = σ1 63 3 ∧ s 64 1 = σ1 64 1 ∧ s 66 8 = σ1 66 8 ∧ s 66 9 = ((σ1 66 9) + 1) ∧ s 66 10 = σ1 66 10 ∧ s 69 2 = σ1 69 2 ∧ s 72 2 = σ1 72 2 ∧ s 63 5 = σ1 63 5 ∧ s = h_up s35 66 9 ((σ1 66 9) + 1)) _ (if_66_9 Is35 (by omega)) (Fs35.up rfl) ⟨es35.1, es35.2.1, es35.2.2.1, es35.2.2.2.1, es35.2.2.2.2.1, es35.2.2.2.2.2.1, es35.2.2.2.2.2.2.1, es35.2.2.2.2.2.2.2.1, rfl, es35.2.2.2.2.2.2.2.2.2.1, es35.2.2.2.2.2.2.2.2.2.2.1, es35.2.2.2.2.2.2.2.2.2.2.2.1, es35.2.2.2.2.2.2.2.2.2.2.2.2.1, rfl⟩ (fun s38 Is38 Fs38 (es38 : s38 64 2 = σ1 64 2 ∧ s38 64 4 = σ1 64 4 ∧ s38 64 3 = σ1 64 3 ∧ s38 64 5 = σ1 64 5 ∧ s38 63 2 = σ1 63 2 ∧ s38 63 3 = σ1 63 3 ∧ s38 64 1 = σ1 64 1 ∧ s38 66 8 = σ1 66 8 ∧ s38 66 9 = ((σ1 66 9) + 1) ∧ s38 66 10 = σ1 66 10 ∧ s38 69 2 = σ1 69 2 ∧ s38 72 2 = σ1 72 2 ∧ s38 63 5 = σ1 63 5 ∧ s38 = h_up s35 66 9 ((σ1 66 9) + 1)) => ?_))
    clear es35
    have us38 := es38.2.2.2.2.2.2.2.2.2.2.2.2.2
    refine h_vret rfl rfl (h_Kn ?_)
    refine d_toM (g_inj ns) hl2 hR2 (fun lvw39 memw39 hlw39 hRw39 => ?_)
    show h_T g_P (g_Y ns) 153 128 [(0, .ref 98)] [] σ2 _
    refine h_aload_n (pc' := 129) rfl rfl rfl ?_
    refine h_getI (pc' := 132) (v := σ2 98 13) rfl rfl rfl rfl rfl rfl (fun z40 hz40 => ?_)
    have tz40 := tf_98_13 hI2
    refine h_zne (tg := 161) (pc' := 135) rfl rfl rfl hz40 (fun c41 => absurd (Int.le_antisymm (by omega) (by omega)) c41) (fun c41 => ?_)
    clear hz40
    refine h_aload_n (pc' := 136) rfl rfl rfl ?_
    refine h_getI (pc' := 139) (v := σ2 98 17) rfl rfl rfl rfl rfl rfl (fun z42 hz42 => ?_)
    have tz42 := tf_98_17 hI2
    refine h_iconst (pc' := 140) (x := (Int32.ofInt 2)) rfl rfl rfl ?_
    refine h_cne (tg := 161) (pc' := 143) rfl rfl rfl hz42 ci_2 (fun c43 => ?_) (fun c43 => absurd c43 (by omega))
    clear hz42
    refine h_aload_n (pc' := 162) rfl rfl rfl ?_
    refine h_dup (pc' := 163) rfl rfl rfl ?_
    refine h_getI (pc' := 166) (v := σ2 98 6) rfl rfl rfl rfl rfl rfl (fun z44 hz44 => ?_)
    have tz44 := tf_98_6 hI2
    refine h_iconst (pc' := 167) (x := (Int32.ofInt 1)) rfl rfl rfl ?_
    refine h_iadd (pc' := 168) rfl rfl hz44 ci_1 rfl (by omega) (by omega) (fun z45 hz45 => ?_)
    clear hz44
    refine h_put (pc' := 171) rfl rfl rfl rfl rfl rfl hz45 rfl (h_fgt (E := fun s => s 98 15 = σ2 98 15 ∧ s 98 16 = σ2 98 16 ∧ s 98 17 = σ2 98 17 ∧ s 98 18 = σ2 98 18 ∧ s 98 13 = σ2 98 13 ∧ s 98 14 = σ2 98 14 ∧ s 98 5 = σ2 98 5 ∧ s 98 6 = ((σ2 98 6) + 1) ∧ s 98 7 = σ2 98 7 ∧ s 98 8 = σ2 98 8 ∧ s 98 9 = σ2 98 9 ∧ s 101 18 = σ2 101 18 ∧ s 101 25 = σ2 101 25 ∧ s 101 43 = σ2 101 43 ∧ s = h_up σ2 98 6 ((σ2 98 6) + 1)) _ (if_98_6 hI2 (by omega)) (F2.up rfl) ⟨rfl, rfl, rfl, rfl, rfl, rfl, rfl, rfl, rfl, rfl, rfl, rfl, rfl, rfl, rfl⟩ (fun s46 Is46 Fs46 (es46 : s46 98 15 = σ2 98 15 ∧ s46 98 16 = σ2 98 16 ∧ s46 98 17 = σ2 98 17 ∧ s46 98 18 = σ2 98 18 ∧ s46 98 13 = σ2 98 13 ∧ s46 98 14 = σ2 98 14 ∧ s46 98 5 = σ2 98 5 ∧ s46 98 6 = ((σ2 98 6) + 1) ∧ s46 98 7 = σ2 98 7 ∧ s46 98 8 = σ2 98 8 ∧ s46 98 9 = σ2 98 9 ∧ s46 101 18 = σ2 101 18 ∧ s46 101 25 = σ2 101 25 ∧ s46 101 43 = σ2 101 43 ∧ s46 = h_up σ2 98 6 ((σ2 98 6) + 1)) => ?_))
    have us46 := es46.2.2.2.2.2.2.2.2.2.2.2.2.2.2
    refine h_goto (pc' := 178) rfl rfl ?_
    refine d_toL (g_inj ns) hlw39 hRw39 (fun lvw47 memw47 hlw47 hRw47 => ?_)
    show h_T g_P (g_Y ns) 61 61 [(2, .int (Int32.ofInt (-4))), (0, .ref 63), (1, .int x1)] [] s38 _
    exact h_wk [(0, .ref 63)] ⟨rfl, trivial⟩ (kx0 _ _ Is38 Is46 Fs38 Fs46 (Int.le_antisymm (by omega) (by omega)) (Int.le_antisymm (by omega) (by omega)) (Int.le_antisymm (by omega) (by omega)) (by omega) (by omega) (fun _ => d_mk (es38.2.2.2.2.2.2.2.1) (es38.2.2.2.2.2.2.2.2.1) (es38.2.2.2.2.2.2.2.2.2.1) (es38.2.2.2.2.2.2.2.2.2.2.1) (es38.2.2.2.2.2.2.2.2.2.2.2.1) (es38.2.2.2.2.2.2.2.2.2.2.2.2.1) (fun j => (h_upo us38 rfl j).trans ((h_upo us35 rfl j).trans ((h_upo us33 rfl j).trans ((h_upo us31 rfl j))))) (fun j => (h_upo us38 rfl j).trans ((h_upo us35 rfl j).trans ((h_upo us33 rfl j).trans ((h_upo us31 rfl j))))) (fun j => (h_upo us38 rfl j).trans ((h_upo us35 rfl j).trans ((h_upo us33 rfl j).trans ((h_upo us31 rfl j))))) (fun j => (h_upo us38 rfl j).trans ((h_upo us35 rfl j).trans ((h_upo us33 rfl j).trans ((h_upo us31 rfl j))))) (fun j => (h_upo us38 rfl j).trans ((h_upo us35 rfl j).trans ((h_upo us33 rfl j).trans ((h_upo us31 rfl j))))) (fun j => (h_upo us38 rfl j).trans ((h_upo us35 rfl j).trans ((h_upo us33 rfl j).trans ((h_upo us31 rfl j))))) (fun j => (h_upo us38 rfl j).trans ((h_upo us35 rfl j).trans ((h_upo us33 rfl j).trans ((h_upi us31 j))))) (fun j => (h_upo us38 rfl j).trans ((h_upo us35 rfl j).trans ((h_upi us33 j).trans (congrArg (fun z => if j = (σ1 66 9) then (-4) else z) ((h_upo us31 rfl j)))))) (fun j => (h_upo us38 rfl j).trans ((h_upi us35 j).trans (congrArg (fun z => if j = (σ1 66 9) then 0 else z) ((h_upo us33 rfl j).trans ((h_upo us31 rfl j)))))) (fun j => (h_upo us38 rfl j).trans ((h_upo us35 rfl j).trans ((h_upo us33 rfl j).trans ((h_upo us31 rfl j))))) (es46.2.2.2.2.2.2.1) (es46.2.2.2.2.2.2.2.1) (es46.2.2.2.2.2.2.2.2.1) (es46.2.2.2.2.2.2.2.2.2.1) (es46.2.2.2.2.2.2.2.2.2.2.1) (fun j => (h_upo us46 rfl j)) (r_gatA pr10 (by omega) (by omega) (by omega) (by omega) (by omega) (by omega) (by omega))) (Or.inr (Or.inl ⟨Int.le_antisymm (by omega) (by omega), Int.le_antisymm (by omega) (by omega), Int.le_antisymm (by omega) (by omega), Int.le_antisymm (by omega) (by omega), Int.le_antisymm (by omega) (by omega)⟩)) _ _ (h_al_ok ⟨rfl, trivial⟩ hlw47) hRw47)
  · show h_T g_P (g_Y ns) 61 27 [(0, .ref 63), (1, .int x1)] [] σ1 _
    refine h_aload_n (pc' := 28) rfl rfl rfl ?_
    refine h_call (sp := false) (pc' := 31) (M := [(0, .ref 63)]) rfl rfl rfl rfl rfl rfl rfl rfl ?_
    refine h_aload_n (pc' := 1) rfl rfl rfl ?_
    refine h_getI (pc' := 4) (v := σ1 63 2) rfl rfl rfl rfl rfl rfl (fun z48 hz48 => ?_)
    have tz48 := tf_63_2 hI1
    refine h_zne (tg := 22) (pc' := 7) rfl rfl rfl hz48 (fun c49 => absurd (Int.le_antisymm (by omega) (by omega)) c49) (fun c49 => ?_)
    clear hz48
    refine h_aload_n (pc' := 8) rfl rfl rfl ?_
    refine h_getR (pc' := 11) rfl rfl rfl rfl rfl ?_
    refine h_getI (pc' := 14) (v := σ1 64 3) rfl rfl rfl rfl rfl rfl (fun z50 hz50 => ?_)
    have tz50 := tf_64_3 hI1
    refine h_iconst (pc' := 15) (x := (Int32.ofInt 2)) rfl rfl rfl ?_
    refine h_cne (tg := 22) (pc' := 18) rfl rfl rfl hz50 ci_2 (fun c51 => ?_) (fun c51 => absurd c51 (by omega))
    clear hz50
    refine h_iconst (pc' := 23) (x := (Int32.ofInt 0)) rfl rfl rfl ?_
    refine h_zret rfl rfl ci_0 (by omega) (h_Kv ?_)
    refine h_zeq (tg := 42) (pc' := 34) rfl rfl rfl ci_0 (fun c52 => ?_) (fun c52 => absurd (Int.le_antisymm (by omega) (by omega)) c52)
    refine h_bipush (pc' := 44) (x := (Int32.ofInt (-4))) rfl rfl cb_m4 ?_
    refine h_istore_n (pc' := 45) (M := [(2, .int (Int32.ofInt (-4))), (0, .ref 63), (1, .int x1)]) rfl rfl rfl rfl ?_
    refine h_aload_n (pc' := 46) rfl rfl rfl ?_
    refine h_getI (pc' := 49) (v := σ1 63 2) rfl rfl rfl rfl rfl rfl (fun z53 hz53 => ?_)
    refine h_zne (tg := 61) (pc' := 52) rfl rfl rfl hz53 (fun c54 => absurd (Int.le_antisymm (by omega) (by omega)) c54) (fun c54 => ?_)
    clear hz53
    refine h_aload_n (pc' := 53) rfl rfl rfl ?_
    refine h_getR (pc' := 56) rfl rfl rfl rfl rfl ?_
    refine h_iload_n (pc' := 57) rfl rfl rfl ?_
    refine h_iload_n (pc' := 58) rfl rfl rfl ?_
    refine h_call (sp := false) (pc' := 61) (M := [(0, .ref 66), (1, .int x1), (2, .int (Int32.ofInt (-4)))]) rfl rfl rfl rfl rfl rfl rfl rfl ?_
    refine h_aload_n (pc' := 1) rfl rfl rfl ?_
    refine h_getI (pc' := 4) (v := σ1 66 9) rfl rfl rfl rfl rfl rfl (fun z55 hz55 => ?_)
    have tz55 := tf_66_9 hI1
    refine h_iconst (pc' := 5) (x := (Int32.ofInt 3)) rfl rfl rfl ?_
    refine h_cge (tg := 48) (pc' := 8) rfl rfl rfl hz55 ci_3 (fun c56 => absurd c56 (by omega)) (fun c56 => ?_)
    clear hz55
    refine h_aload_n (pc' := 9) rfl rfl rfl ?_
    refine h_getR (pc' := 12) rfl rfl rfl rfl rfl ?_
    refine h_aload_n (pc' := 13) rfl rfl rfl ?_
    refine h_getI (pc' := 16) (v := σ1 66 9) rfl rfl rfl rfl rfl rfl (fun z57 hz57 => ?_)
    refine h_iload_n (pc' := 17) rfl rfl rfl ?_
    refine h_iast (pc' := 18) rfl rfl rfl rfl hz57 (by omega) (by omega) hx1 (h_fgt (E := fun s => s 64 2 = σ1 64 2 ∧ s 64 4 = σ1 64 4 ∧ s 64 3 = σ1 64 3 ∧ s 64 5 = σ1 64 5 ∧ s 63 2 = σ1 63 2 ∧ s 63 3 = σ1 63 3 ∧ s 64 1 = σ1 64 1 ∧ s 66 8 = σ1 66 8 ∧ s 66 9 = σ1 66 9 ∧ s 66 10 = σ1 66 10 ∧ s 69 2 = σ1 69 2 ∧ s 72 2 = σ1 72 2 ∧ s 63 5 = σ1 63 5 ∧ s = h_up σ1 75 (σ1 66 9) a1) _ (in_75 hI1 (by omega)) (F1.up rfl) ⟨rfl, rfl, rfl, rfl, rfl, rfl, rfl, rfl, rfl, rfl, rfl, rfl, rfl, rfl⟩ (fun s58 Is58 Fs58 (es58 : s58 64 2 = σ1 64 2 ∧ s58 64 4 = σ1 64 4 ∧ s58 64 3 = σ1 64 3 ∧ s58 64 5 = σ1 64 5 ∧ s58 63 2 = σ1 63 2 ∧ s58 63 3 = σ1 63 3 ∧ s58 64 1 = σ1 64 1 ∧ s58 66 8 = σ1 66 8 ∧ s58 66 9 = σ1 66 9 ∧ s58 66 10 = σ1 66 10 ∧ s58 69 2 = σ1 69 2 ∧ s58 72 2 = σ1 72 2 ∧ s58 63 5 = σ1 63 5 ∧ s58 = h_up σ1 75 (σ1 66 9) a1) => ?_))
    have us58 := es58.2.2.2.2.2.2.2.2.2.2.2.2.2
    clear hz57
    refine h_aload_n (pc' := 19) rfl rfl rfl ?_
    refine h_getR (pc' := 22) rfl rfl rfl rfl rfl ?_
    refine h_aload_n (pc' := 23) rfl rfl rfl ?_
    refine h_getI (pc' := 26) (v := σ1 66 9) rfl rfl rfl rfl rfl es58.2.2.2.2.2.2.2.2.1 (fun z59 hz59 => ?_)
    refine h_iload_n (pc' := 27) rfl rfl rfl ?_
    refine h_iast (pc' := 28) rfl rfl rfl rfl hz59 (by omega) (by omega) ci_m4 (h_fgt (E := fun s => s 64 2 = σ1 64 2 ∧ s 64 4 = σ1 64 4 ∧ s 64 3 = σ1 64 3 ∧ s 64 5 = σ1 64 5 ∧ s 63 2 = σ1 63 2 ∧ s 63 3 = σ1 63 3 ∧ s 64 1 = σ1 64 1 ∧ s 66 8 = σ1 66 8 ∧ s 66 9 = σ1 66 9 ∧ s 66 10 = σ1 66 10 ∧ s 69 2 = σ1 69 2 ∧ s 72 2 = σ1 72 2 ∧ s 63 5 = σ1 63 5 ∧ s = h_up s58 76 (σ1 66 9) (-4)) _ (in_76 Is58 (by omega)) (Fs58.up rfl) ⟨es58.1, es58.2.1, es58.2.2.1, es58.2.2.2.1, es58.2.2.2.2.1, es58.2.2.2.2.2.1, es58.2.2.2.2.2.2.1, es58.2.2.2.2.2.2.2.1, es58.2.2.2.2.2.2.2.2.1, es58.2.2.2.2.2.2.2.2.2.1, es58.2.2.2.2.2.2.2.2.2.2.1, es58.2.2.2.2.2.2.2.2.2.2.2.1, es58.2.2.2.2.2.2.2.2.2.2.2.2.1, rfl⟩ (fun s60 Is60 Fs60 (es60 : s60 64 2 = σ1 64 2 ∧ s60 64 4 = σ1 64 4 ∧ s60 64 3 = σ1 64 3 ∧ s60 64 5 = σ1 64 5 ∧ s60 63 2 = σ1 63 2 ∧ s60 63 3 = σ1 63 3 ∧ s60 64 1 = σ1 64 1 ∧ s60 66 8 = σ1 66 8 ∧ s60 66 9 = σ1 66 9 ∧ s60 66 10 = σ1 66 10 ∧ s60 69 2 = σ1 69 2 ∧ s60 72 2 = σ1 72 2 ∧ s60 63 5 = σ1 63 5 ∧ s60 = h_up s58 76 (σ1 66 9) (-4)) => ?_))
    clear es58
    have us60 := es60.2.2.2.2.2.2.2.2.2.2.2.2.2
    clear hz59
    refine h_aload_n (pc' := 29) rfl rfl rfl ?_
    refine h_getR (pc' := 32) rfl rfl rfl rfl rfl ?_
    refine h_aload_n (pc' := 33) rfl rfl rfl ?_
    refine h_getI (pc' := 36) (v := σ1 66 9) rfl rfl rfl rfl rfl es60.2.2.2.2.2.2.2.2.1 (fun z61 hz61 => ?_)
    refine h_iconst (pc' := 37) (x := (Int32.ofInt 0)) rfl rfl rfl ?_
    refine h_iast (pc' := 38) rfl rfl rfl rfl hz61 (by omega) (by omega) ci_0 (h_fgt (E := fun s => s 64 2 = σ1 64 2 ∧ s 64 4 = σ1 64 4 ∧ s 64 3 = σ1 64 3 ∧ s 64 5 = σ1 64 5 ∧ s 63 2 = σ1 63 2 ∧ s 63 3 = σ1 63 3 ∧ s 64 1 = σ1 64 1 ∧ s 66 8 = σ1 66 8 ∧ s 66 9 = σ1 66 9 ∧ s 66 10 = σ1 66 10 ∧ s 69 2 = σ1 69 2 ∧ s 72 2 = σ1 72 2 ∧ s 63 5 = σ1 63 5 ∧ s = h_up s60 77 (σ1 66 9) 0) _ (in_77 Is60 (by omega)) (Fs60.up rfl) ⟨es60.1, es60.2.1, es60.2.2.1, es60.2.2.2.1, es60.2.2.2.2.1, es60.2.2.2.2.2.1, es60.2.2.2.2.2.2.1, es60.2.2.2.2.2.2.2.1, es60.2.2.2.2.2.2.2.2.1, es60.2.2.2.2.2.2.2.2.2.1, es60.2.2.2.2.2.2.2.2.2.2.1, es60.2.2.2.2.2.2.2.2.2.2.2.1, es60.2.2.2.2.2.2.2.2.2.2.2.2.1, rfl⟩ (fun s62 Is62 Fs62 (es62 : s62 64 2 = σ1 64 2 ∧ s62 64 4 = σ1 64 4 ∧ s62 64 3 = σ1 64 3 ∧ s62 64 5 = σ1 64 5 ∧ s62 63 2 = σ1 63 2 ∧ s62 63 3 = σ1 63 3 ∧ s62 64 1 = σ1 64 1 ∧ s62 66 8 = σ1 66 8 ∧ s62 66 9 = σ1 66 9 ∧ s62 66 10 = σ1 66 10 ∧ s62 69 2 = σ1 69 2 ∧ s62 72 2 = σ1 72 2 ∧ s62 63 5 = σ1 63 5 ∧ s62 = h_up s60 77 (σ1 66 9) 0) => ?_))
    clear es60
    have us62 := es62.2.2.2.2.2.2.2.2.2.2.2.2.2
    clear hz61
    refine h_aload_n (pc' := 39) rfl rfl rfl ?_
    refine h_dup (pc' := 40) rfl rfl rfl ?_
    refine h_getI (pc' := 43) (v := σ1 66 9) rfl rfl rfl rfl rfl es62.2.2.2.2.2.2.2.2.1 (fun z63 hz63 => ?_)
    refine h_iconst (pc' := 44) (x := (Int32.ofInt 1)) rfl rfl rfl ?_
    refine h_iadd (pc' := 45) rfl rfl hz63 ci_1 rfl (by omega) (by omega) (fun z64 hz64 => ?_)
    clear hz63
    refine h_put (pc' := 48) rfl rfl rfl rfl rfl rfl hz64 rfl (h_fgt (E := fun s => s 64 2 = σ1 64 2 ∧ s 64 4 = σ1 64 4 ∧ s 64 3 = σ1 64 3 ∧ s 64 5 = σ1 64 5 ∧ s 63 2 = σ1 63 2 ∧ s 63 3 = σ1 63 3 ∧ s 64 1 = σ1 64 1 ∧ s 66 8 = σ1 66 8 ∧ s 66 9 = ((σ1 66 9) + 1) ∧ s 66 10 = σ1 66 10 ∧ s 69 2 = σ1 69 2 ∧ s 72 2 = σ1 72 2 ∧ s 63 5 = σ1 63 5 ∧ s = h_up s62 66 9 ((σ1 66 9) + 1)) _ (if_66_9 Is62 (by omega)) (Fs62.up rfl) ⟨es62.1, es62.2.1, es62.2.2.1, es62.2.2.2.1, es62.2.2.2.2.1, es62.2.2.2.2.2.1, es62.2.2.2.2.2.2.1, es62.2.2.2.2.2.2.2.1, rfl, es62.2.2.2.2.2.2.2.2.2.1, es62.2.2.2.2.2.2.2.2.2.2.1, es62.2.2.2.2.2.2.2.2.2.2.2.1, es62.2.2.2.2.2.2.2.2.2.2.2.2.1, rfl⟩ (fun s65 Is65 Fs65 (es65 : s65 64 2 = σ1 64 2 ∧ s65 64 4 = σ1 64 4 ∧ s65 64 3 = σ1 64 3 ∧ s65 64 5 = σ1 64 5 ∧ s65 63 2 = σ1 63 2 ∧ s65 63 3 = σ1 63 3 ∧ s65 64 1 = σ1 64 1 ∧ s65 66 8 = σ1 66 8 ∧ s65 66 9 = ((σ1 66 9) + 1) ∧ s65 66 10 = σ1 66 10 ∧ s65 69 2 = σ1 69 2 ∧ s65 72 2 = σ1 72 2 ∧ s65 63 5 = σ1 63 5 ∧ s65 = h_up s62 66 9 ((σ1 66 9) + 1)) => ?_))
    clear es62
    have us65 := es65.2.2.2.2.2.2.2.2.2.2.2.2.2
    refine h_vret rfl rfl (h_Kn ?_)
    refine d_toM (g_inj ns) hl2 hR2 (fun lvw66 memw66 hlw66 hRw66 => ?_)
    show h_T g_P (g_Y ns) 153 128 [(0, .ref 98)] [] σ2 _
    refine h_aload_n (pc' := 129) rfl rfl rfl ?_
    refine h_getI (pc' := 132) (v := σ2 98 13) rfl rfl rfl rfl rfl rfl (fun z67 hz67 => ?_)
    have tz67 := tf_98_13 hI2
    refine h_zne (tg := 161) (pc' := 135) rfl rfl rfl hz67 (fun c68 => absurd (Int.le_antisymm (by omega) (by omega)) c68) (fun c68 => ?_)
    clear hz67
    refine h_aload_n (pc' := 136) rfl rfl rfl ?_
    refine h_getI (pc' := 139) (v := σ2 98 17) rfl rfl rfl rfl rfl rfl (fun z69 hz69 => ?_)
    have tz69 := tf_98_17 hI2
    refine h_iconst (pc' := 140) (x := (Int32.ofInt 2)) rfl rfl rfl ?_
    refine h_cne (tg := 161) (pc' := 143) rfl rfl rfl hz69 ci_2 (fun c70 => ?_) (fun c70 => absurd c70 (by omega))
    clear hz69
    refine h_aload_n (pc' := 162) rfl rfl rfl ?_
    refine h_dup (pc' := 163) rfl rfl rfl ?_
    refine h_getI (pc' := 166) (v := σ2 98 6) rfl rfl rfl rfl rfl rfl (fun z71 hz71 => ?_)
    have tz71 := tf_98_6 hI2
    refine h_iconst (pc' := 167) (x := (Int32.ofInt 1)) rfl rfl rfl ?_
    refine h_iadd (pc' := 168) rfl rfl hz71 ci_1 rfl (by omega) (by omega) (fun z72 hz72 => ?_)
    clear hz71
    refine h_put (pc' := 171) rfl rfl rfl rfl rfl rfl hz72 rfl (h_fgt (E := fun s => s 98 15 = σ2 98 15 ∧ s 98 16 = σ2 98 16 ∧ s 98 17 = σ2 98 17 ∧ s 98 18 = σ2 98 18 ∧ s 98 13 = σ2 98 13 ∧ s 98 14 = σ2 98 14 ∧ s 98 5 = σ2 98 5 ∧ s 98 6 = ((σ2 98 6) + 1) ∧ s 98 7 = σ2 98 7 ∧ s 98 8 = σ2 98 8 ∧ s 98 9 = σ2 98 9 ∧ s 101 18 = σ2 101 18 ∧ s 101 25 = σ2 101 25 ∧ s 101 43 = σ2 101 43 ∧ s = h_up σ2 98 6 ((σ2 98 6) + 1)) _ (if_98_6 hI2 (by omega)) (F2.up rfl) ⟨rfl, rfl, rfl, rfl, rfl, rfl, rfl, rfl, rfl, rfl, rfl, rfl, rfl, rfl, rfl⟩ (fun s73 Is73 Fs73 (es73 : s73 98 15 = σ2 98 15 ∧ s73 98 16 = σ2 98 16 ∧ s73 98 17 = σ2 98 17 ∧ s73 98 18 = σ2 98 18 ∧ s73 98 13 = σ2 98 13 ∧ s73 98 14 = σ2 98 14 ∧ s73 98 5 = σ2 98 5 ∧ s73 98 6 = ((σ2 98 6) + 1) ∧ s73 98 7 = σ2 98 7 ∧ s73 98 8 = σ2 98 8 ∧ s73 98 9 = σ2 98 9 ∧ s73 101 18 = σ2 101 18 ∧ s73 101 25 = σ2 101 25 ∧ s73 101 43 = σ2 101 43 ∧ s73 = h_up σ2 98 6 ((σ2 98 6) + 1)) => ?_))
    have us73 := es73.2.2.2.2.2.2.2.2.2.2.2.2.2.2
    refine h_goto (pc' := 178) rfl rfl ?_
    refine d_toL (g_inj ns) hlw66 hRw66 (fun lvw74 memw74 hlw74 hRw74 => ?_)
    show h_T g_P (g_Y ns) 61 61 [(2, .int (Int32.ofInt (-4))), (0, .ref 63), (1, .int x1)] [] s65 _
    exact h_wk [(0, .ref 63)] ⟨rfl, trivial⟩ (kx0 _ _ Is65 Is73 Fs65 Fs73 (Int.le_antisymm (by omega) (by omega)) (Int.le_antisymm (by omega) (by omega)) (Int.le_antisymm (by omega) (by omega)) (by omega) (by omega) (fun _ => d_mk (es65.2.2.2.2.2.2.2.1) (es65.2.2.2.2.2.2.2.2.1) (es65.2.2.2.2.2.2.2.2.2.1) (es65.2.2.2.2.2.2.2.2.2.2.1) (es65.2.2.2.2.2.2.2.2.2.2.2.1) (es65.2.2.2.2.2.2.2.2.2.2.2.2.1) (fun j => (h_upo us65 rfl j).trans ((h_upo us62 rfl j).trans ((h_upo us60 rfl j).trans ((h_upo us58 rfl j))))) (fun j => (h_upo us65 rfl j).trans ((h_upo us62 rfl j).trans ((h_upo us60 rfl j).trans ((h_upo us58 rfl j))))) (fun j => (h_upo us65 rfl j).trans ((h_upo us62 rfl j).trans ((h_upo us60 rfl j).trans ((h_upo us58 rfl j))))) (fun j => (h_upo us65 rfl j).trans ((h_upo us62 rfl j).trans ((h_upo us60 rfl j).trans ((h_upo us58 rfl j))))) (fun j => (h_upo us65 rfl j).trans ((h_upo us62 rfl j).trans ((h_upo us60 rfl j).trans ((h_upo us58 rfl j))))) (fun j => (h_upo us65 rfl j).trans ((h_upo us62 rfl j).trans ((h_upo us60 rfl j).trans ((h_upo us58 rfl j))))) (fun j => (h_upo us65 rfl j).trans ((h_upo us62 rfl j).trans ((h_upo us60 rfl j).trans ((h_upi us58 j))))) (fun j => (h_upo us65 rfl j).trans ((h_upo us62 rfl j).trans ((h_upi us60 j).trans (congrArg (fun z => if j = (σ1 66 9) then (-4) else z) ((h_upo us58 rfl j)))))) (fun j => (h_upo us65 rfl j).trans ((h_upi us62 j).trans (congrArg (fun z => if j = (σ1 66 9) then 0 else z) ((h_upo us60 rfl j).trans ((h_upo us58 rfl j)))))) (fun j => (h_upo us65 rfl j).trans ((h_upo us62 rfl j).trans ((h_upo us60 rfl j).trans ((h_upo us58 rfl j))))) (es73.2.2.2.2.2.2.1) (es73.2.2.2.2.2.2.2.1) (es73.2.2.2.2.2.2.2.2.1) (es73.2.2.2.2.2.2.2.2.2.1) (es73.2.2.2.2.2.2.2.2.2.2.1) (fun j => (h_upo us73 rfl j)) (r_gatA pr10 (by omega) (by omega) (by omega) (by omega) (by omega) (by omega) (by omega))) (Or.inr (Or.inr (Or.inl ⟨Int.le_antisymm (by omega) (by omega), Int.le_antisymm (by omega) (by omega), Int.le_antisymm (by omega) (by omega), Int.le_antisymm (by omega) (by omega), by omega⟩))) _ _ (h_al_ok ⟨rfl, trivial⟩ hlw74) hRw74)
  · show h_T g_P (g_Y ns) 61 27 [(0, .ref 63), (1, .int x1)] [] σ1 _
    refine h_aload_n (pc' := 28) rfl rfl rfl ?_
    refine h_call (sp := false) (pc' := 31) (M := [(0, .ref 63)]) rfl rfl rfl rfl rfl rfl rfl rfl ?_
    refine h_aload_n (pc' := 1) rfl rfl rfl ?_
    refine h_getI (pc' := 4) (v := σ1 63 2) rfl rfl rfl rfl rfl rfl (fun z75 hz75 => ?_)
    have tz75 := tf_63_2 hI1
    refine h_zne (tg := 22) (pc' := 7) rfl rfl rfl hz75 (fun c76 => absurd (Int.le_antisymm (by omega) (by omega)) c76) (fun c76 => ?_)
    clear hz75
    refine h_aload_n (pc' := 8) rfl rfl rfl ?_
    refine h_getR (pc' := 11) rfl rfl rfl rfl rfl ?_
    refine h_getI (pc' := 14) (v := σ1 64 3) rfl rfl rfl rfl rfl rfl (fun z77 hz77 => ?_)
    have tz77 := tf_64_3 hI1
    refine h_iconst (pc' := 15) (x := (Int32.ofInt 2)) rfl rfl rfl ?_
    refine h_cne (tg := 22) (pc' := 18) rfl rfl rfl hz77 ci_2 (fun c78 => absurd (Int.le_antisymm (by omega) (by omega)) c78) (fun c78 => ?_)
    clear hz77
    refine h_iconst (pc' := 19) (x := (Int32.ofInt 1)) rfl rfl rfl ?_
    refine h_goto (pc' := 23) rfl rfl ?_
    refine h_zret rfl rfl ci_1 (by omega) (h_Kv ?_)
    refine h_zeq (tg := 42) (pc' := 34) rfl rfl rfl ci_1 (fun c79 => absurd c79 (by omega)) (fun c79 => ?_)
    refine h_aload_n (pc' := 35) rfl rfl rfl ?_
    refine h_iconst (pc' := 36) (x := (Int32.ofInt 5)) rfl rfl rfl ?_
    refine d_toM (g_inj ns) hl2 hR2 (fun lvw80 memw80 hlw80 hRw80 => ?_)
    show h_T g_P (g_Y ns) 153 128 [(0, .ref 98)] [] σ2 _
    refine h_aload_n (pc' := 129) rfl rfl rfl ?_
    refine h_getI (pc' := 132) (v := σ2 98 13) rfl rfl rfl rfl rfl rfl (fun z81 hz81 => ?_)
    have tz81 := tf_98_13 hI2
    refine h_zne (tg := 161) (pc' := 135) rfl rfl rfl hz81 (fun c82 => absurd (Int.le_antisymm (by omega) (by omega)) c82) (fun c82 => ?_)
    clear hz81
    refine h_aload_n (pc' := 136) rfl rfl rfl ?_
    refine h_getI (pc' := 139) (v := σ2 98 17) rfl rfl rfl rfl rfl rfl (fun z83 hz83 => ?_)
    have tz83 := tf_98_17 hI2
    refine h_iconst (pc' := 140) (x := (Int32.ofInt 2)) rfl rfl rfl ?_
    refine h_cne (tg := 161) (pc' := 143) rfl rfl rfl hz83 ci_2 (fun c84 => absurd (Int.le_antisymm (by omega) (by omega)) c84) (fun c84 => ?_)
    clear hz83
    refine h_aload_n (pc' := 144) rfl rfl rfl ?_
    refine h_getR (pc' := 147) rfl rfl rfl rfl rfl ?_
    refine h_bipush (pc' := 149) (x := (Int32.ofInt 29)) rfl rfl cb_29 ?_
    refine h_aload_n (pc' := 150) rfl rfl rfl ?_
    refine h_getI (pc' := 153) (v := σ2 98 6) rfl rfl rfl rfl rfl rfl (fun z85 hz85 => ?_)
    have tz85 := tf_98_6 hI2
    refine h_iadd (pc' := 154) rfl rfl ci_29 hz85 rfl (by omega) (by omega) (fun z86 hz86 => ?_)
    clear hz85
    refine h_aload_n (pc' := 155) rfl rfl rfl ?_
    refine d_call (g_inj ns) (pc' := 158) (m := 150) (M := [(0, .ref 98)]) (rest := [.int z86, .ref 101]) ⟨false, _, _, _, _, _, _, rfl, rfl, rfl, rfl, rfl, rfl, rfl⟩ (fun lv87 hlv87 => ?_)
    refine h_aload_n (pc' := 1) rfl rfl rfl ?_
    refine h_iconst (pc' := 2) (x := (Int32.ofInt 0)) rfl rfl rfl ?_
    refine h_iconst (pc' := 3) (x := (Int32.ofInt 5)) rfl rfl rfl ?_
    refine d_pcall (g_inj ns) (m1 := 58) (pc1' := 39) (M1 := [(0, .ref 63), (1, .int (Int32.ofInt 5))]) (rest1 := []) (m2 := 149) (pc2' := 6) (M2 := [(0, .ref 98), (1, .int (Int32.ofInt 0)), (2, .int (Int32.ofInt 5))]) (rest2 := []) ⟨false, _, _, _, _, _, _, rfl, rfl, rfl, rfl, rfl, rfl, rfl⟩ ⟨false, _, _, _, _, _, _, rfl, rfl, rfl, rfl, rfl, rfl, rfl⟩ hRw80 ?_
    refine pp_num hI1 hI2 (hTL.fr (F1.mono rfl) (F2.mono rfl)) (Int32.ofInt 5) _ ci_5 (Int32.ofInt 5) _ ci_5 (Int.le_antisymm (by omega) (by omega)) (Int.le_antisymm (by omega) (by omega)) (Int.le_antisymm (by omega) (by omega)) (by omega) (Int.le_antisymm (by omega) (by omega)) (⟨by omega, by omega⟩) (Or.inr (Or.inr (Or.inr (Or.inl ⟨Int.le_antisymm (by omega) (by omega), Int.le_antisymm (by omega) (by omega), Int.le_antisymm (by omega) (by omega), Int.le_antisymm (by omega) (by omega), ⟨by omega, by omega⟩, ⟨by omega, by omega⟩, Int.le_antisymm (by omega) (by omega), by omega⟩)))) (fun rq88x bq88x hq88x rq88m bq88m hq88m sq88 tq88 Isq88 Itq88 Gsq88 Gtq88 yq88_0 yq88_1 yq88_2 yq88_3 yq88_4 pcq88 memq88 hRq88 => ?_)
    have Fsq88 := (Gsq88.mono (B := k_pl) rfl).tr F1
    have Ftq88 := (Gtq88.mono (B := k_pm) rfl).tr F2
    have esq88_6 : sq88 64 1 = σ1 64 1 := (Gsq88 64 1 rfl).trans rfl
    have esq88_7 : sq88 66 8 = σ1 66 8 := (Gsq88 66 8 rfl).trans rfl
    have esq88_8 : sq88 66 9 = σ1 66 9 := (Gsq88 66 9 rfl).trans rfl
    have esq88_9 : sq88 66 10 = σ1 66 10 := (Gsq88 66 10 rfl).trans rfl
    have esq88_10 : sq88 69 2 = σ1 69 2 := (Gsq88 69 2 rfl).trans rfl
    have esq88_11 : sq88 72 2 = σ1 72 2 := (Gsq88 72 2 rfl).trans rfl
    have esq88_12 : sq88 63 5 = σ1 63 5 := (Gsq88 63 5 rfl).trans rfl
    have etq88_6 : tq88 98 5 = σ2 98 5 := (Gtq88 98 5 rfl).trans rfl
    have etq88_7 : tq88 98 6 = σ2 98 6 := (Gtq88 98 6 rfl).trans rfl
    have etq88_8 : tq88 98 7 = σ2 98 7 := (Gtq88 98 7 rfl).trans rfl
    have etq88_9 : tq88 98 8 = σ2 98 8 := (Gtq88 98 8 rfl).trans rfl
    have etq88_10 : tq88 98 9 = σ2 98 9 := (Gtq88 98 9 rfl).trans rfl
    have etq88_11 : tq88 101 18 = σ2 101 18 := (Gtq88 101 18 rfl).trans rfl
    have etq88_12 : tq88 101 25 = σ2 101 25 := (Gtq88 101 25 rfl).trans rfl
    have etq88_13 : tq88 101 43 = σ2 101 43 := (Gtq88 101 43 rfl).trans rfl
    rcases pcq88 with pcq88 | pcq88
    · show h_T g_P (g_Y ns) 150 6 [(0, .ref 98)] [.int rq88m] tq88 _
      refine h_istore_n (pc' := 7) (M := [(1, .int rq88m), (0, .ref 98)]) rfl rfl rfl rfl ?_
      have oH89 : tq88 98 8 = σ2 98 8 := etq88_9
      have uH89 := tf_98_8 Itq88
      refine h_wk [(0, .ref 98), (1, .int rq88m)] ⟨rfl, rfl, trivial⟩ (lm_hi _ Itq88 rq88m _ hq88m (by omega) (fun H89 hH89 => (h_fgt (E := fun s => s 98 15 = tq88 98 15 ∧ s 98 16 = tq88 98 16 ∧ s 98 17 = tq88 98 17 ∧ s 98 18 = tq88 98 18 ∧ s 98 13 = tq88 98 13 ∧ s 98 14 = tq88 98 14 ∧ s 98 5 = σ2 98 5 ∧ s 98 6 = σ2 98 6 ∧ s 98 7 = σ2 98 7 ∧ s 98 8 = H89 ∧ s 98 9 = σ2 98 9 ∧ s 101 18 = σ2 101 18 ∧ s 101 25 = σ2 101 25 ∧ s 101 43 = σ2 101 43 ∧ s = h_up tq88 98 8 H89) _ (if_98_8 Itq88 (by omega)) (Ftq88.up rfl) ⟨rfl, rfl, rfl, rfl, rfl, rfl, etq88_6, etq88_7, etq88_8, rfl, etq88_10, etq88_11, etq88_12, etq88_13, rfl⟩ (fun s90 Is90 Fs90 (es90 : s90 98 15 = tq88 98 15 ∧ s90 98 16 = tq88 98 16 ∧ s90 98 17 = tq88 98 17 ∧ s90 98 18 = tq88 98 18 ∧ s90 98 13 = tq88 98 13 ∧ s90 98 14 = tq88 98 14 ∧ s90 98 5 = σ2 98 5 ∧ s90 98 6 = σ2 98 6 ∧ s90 98 7 = σ2 98 7 ∧ s90 98 8 = H89 ∧ s90 98 9 = σ2 98 9 ∧ s90 101 18 = σ2 101 18 ∧ s90 101 25 = σ2 101 25 ∧ s90 101 43 = σ2 101 43 ∧ s90 = h_up tq88 98 8 H89) => ?_))))
      have us90 := es90.2.2.2.2.2.2.2.2.2.2.2.2.2.2
      refine h_iload_n (pc' := 28) rfl rfl rfl ?_
      refine h_iret rfl rfl (d_ret hlv87 ?_)
      refine h_iconst (pc' := 159) (x := (Int32.ofInt 1)) rfl rfl rfl ?_
      refine h_iadd (pc' := 160) rfl rfl hq88m ci_1 rfl (by have g0 := h_rgv hq88m; omega) (by have g0 := h_rgv hq88m; omega) (fun z91 hz91 => ?_)
      clear hq88m
      refine h_iast (pc' := 161) rfl rfl rfl rfl hz86 (by omega) (by omega) hz91 (h_fgt (E := fun s => s 98 15 = tq88 98 15 ∧ s 98 16 = tq88 98 16 ∧ s 98 17 = tq88 98 17 ∧ s 98 18 = tq88 98 18 ∧ s 98 13 = tq88 98 13 ∧ s 98 14 = tq88 98 14 ∧ s 98 5 = σ2 98 5 ∧ s 98 6 = σ2 98 6 ∧ s 98 7 = σ2 98 7 ∧ s 98 8 = H89 ∧ s 98 9 = σ2 98 9 ∧ s 101 18 = σ2 101 18 ∧ s 101 25 = σ2 101 25 ∧ s 101 43 = σ2 101 43 ∧ s = h_up s90 101 (29 + (σ2 98 6)) (bq88m + 1)) _ (ip_101_7 Is90 (by omega) (by omega)) (Fs90.up rfl) ⟨es90.1, es90.2.1, es90.2.2.1, es90.2.2.2.1, es90.2.2.2.2.1, es90.2.2.2.2.2.1, es90.2.2.2.2.2.2.1, es90.2.2.2.2.2.2.2.1, es90.2.2.2.2.2.2.2.2.1, es90.2.2.2.2.2.2.2.2.2.1, es90.2.2.2.2.2.2.2.2.2.2.1, h_up_n2 (by omega) es90.2.2.2.2.2.2.2.2.2.2.2.1, h_up_n2 (by omega) es90.2.2.2.2.2.2.2.2.2.2.2.2.1, h_up_n2 (by omega) es90.2.2.2.2.2.2.2.2.2.2.2.2.2.1, rfl⟩ (fun s92 Is92 Fs92 (es92 : s92 98 15 = tq88 98 15 ∧ s92 98 16 = tq88 98 16 ∧ s92 98 17 = tq88 98 17 ∧ s92 98 18 = tq88 98 18 ∧ s92 98 13 = tq88 98 13 ∧ s92 98 14 = tq88 98 14 ∧ s92 98 5 = σ2 98 5 ∧ s92 98 6 = σ2 98 6 ∧ s92 98 7 = σ2 98 7 ∧ s92 98 8 = H89 ∧ s92 98 9 = σ2 98 9 ∧ s92 101 18 = σ2 101 18 ∧ s92 101 25 = σ2 101 25 ∧ s92 101 43 = σ2 101 43 ∧ s92 = h_up s90 101 (29 + (σ2 98 6)) (bq88m + 1)) => ?_))
      clear es90
      have us92 := es92.2.2.2.2.2.2.2.2.2.2.2.2.2.2
      clear hz86 hz91
      refine h_aload_n (pc' := 162) rfl rfl rfl ?_
      refine h_dup (pc' := 163) rfl rfl rfl ?_
      refine h_getI (pc' := 166) (v := σ2 98 6) rfl rfl rfl rfl rfl es92.2.2.2.2.2.2.2.1 (fun z93 hz93 => ?_)
      refine h_iconst (pc' := 167) (x := (Int32.ofInt 1)) rfl rfl rfl ?_
      refine h_iadd (pc' := 168) rfl rfl hz93 ci_1 rfl (by omega) (by omega) (fun z94 hz94 => ?_)
      clear hz93
      refine h_put (pc' := 171) rfl rfl rfl rfl rfl rfl hz94 rfl (h_fgt (E := fun s => s 98 15 = tq88 98 15 ∧ s 98 16 = tq88 98 16 ∧ s 98 17 = tq88 98 17 ∧ s 98 18 = tq88 98 18 ∧ s 98 13 = tq88 98 13 ∧ s 98 14 = tq88 98 14 ∧ s 98 5 = σ2 98 5 ∧ s 98 6 = ((σ2 98 6) + 1) ∧ s 98 7 = σ2 98 7 ∧ s 98 8 = H89 ∧ s 98 9 = σ2 98 9 ∧ s 101 18 = σ2 101 18 ∧ s 101 25 = σ2 101 25 ∧ s 101 43 = σ2 101 43 ∧ s = h_up s92 98 6 ((σ2 98 6) + 1)) _ (if_98_6 Is92 (by omega)) (Fs92.up rfl) ⟨es92.1, es92.2.1, es92.2.2.1, es92.2.2.2.1, es92.2.2.2.2.1, es92.2.2.2.2.2.1, es92.2.2.2.2.2.2.1, rfl, es92.2.2.2.2.2.2.2.2.1, es92.2.2.2.2.2.2.2.2.2.1, es92.2.2.2.2.2.2.2.2.2.2.1, es92.2.2.2.2.2.2.2.2.2.2.2.1, es92.2.2.2.2.2.2.2.2.2.2.2.2.1, es92.2.2.2.2.2.2.2.2.2.2.2.2.2.1, rfl⟩ (fun s95 Is95 Fs95 (es95 : s95 98 15 = tq88 98 15 ∧ s95 98 16 = tq88 98 16 ∧ s95 98 17 = tq88 98 17 ∧ s95 98 18 = tq88 98 18 ∧ s95 98 13 = tq88 98 13 ∧ s95 98 14 = tq88 98 14 ∧ s95 98 5 = σ2 98 5 ∧ s95 98 6 = ((σ2 98 6) + 1) ∧ s95 98 7 = σ2 98 7 ∧ s95 98 8 = H89 ∧ s95 98 9 = σ2 98 9 ∧ s95 101 18 = σ2 101 18 ∧ s95 101 25 = σ2 101 25 ∧ s95 101 43 = σ2 101 43 ∧ s95 = h_up s92 98 6 ((σ2 98 6) + 1)) => ?_))
      clear es92
      have us95 := es95.2.2.2.2.2.2.2.2.2.2.2.2.2.2
      refine h_goto (pc' := 178) rfl rfl ?_
      refine d_toL (g_inj ns) hlw80 hRq88 (fun lvw96 memw96 hlw96 hRw96 => ?_)
      show h_T g_P (g_Y ns) 61 39 [(0, .ref 63), (1, .int x1)] [.int rq88x] sq88 _
      refine h_goto (pc' := 44) rfl rfl ?_
      refine h_istore_n (pc' := 45) (M := [(2, .int rq88x), (0, .ref 63), (1, .int x1)]) rfl rfl rfl rfl ?_
      refine h_aload_n (pc' := 46) rfl rfl rfl ?_
      refine h_getI (pc' := 49) (v := sq88 63 2) rfl rfl rfl rfl rfl rfl (fun z97 hz97 => ?_)
      have tz97 := tf_63_2 Isq88
      refine h_zne (tg := 61) (pc' := 52) rfl rfl rfl hz97 (fun c98 => ?_) (fun c98 => absurd c98 (by omega))
      clear hz97
      exact h_wk [(0, .ref 63)] ⟨rfl, trivial⟩ (kx0 _ _ Isq88 Is95 Fsq88 Fs95 (Int.le_antisymm (by omega) (by omega)) (Int.le_antisymm (by omega) (by omega)) (Int.le_antisymm (by omega) (by omega)) (by omega) (by omega) (fun h => absurd h (by omega)) (Or.inl ⟨⟨by omega, by omega⟩, ⟨by omega, by omega⟩, Int.le_antisymm (by omega) (by omega), Int.le_antisymm (by omega) (by omega)⟩) _ _ (h_al_ok ⟨rfl, trivial⟩ hlw96) hRw96)
    · show h_T g_P (g_Y ns) 150 6 [(0, .ref 98)] [.int rq88m] tq88 _
      refine h_istore_n (pc' := 7) (M := [(1, .int rq88m), (0, .ref 98)]) rfl rfl rfl rfl ?_
      have oH99 : tq88 98 8 = σ2 98 8 := etq88_9
      have uH99 := tf_98_8 Itq88
      refine h_wk [(0, .ref 98), (1, .int rq88m)] ⟨rfl, rfl, trivial⟩ (lm_hi _ Itq88 rq88m _ hq88m (by omega) (fun H99 hH99 => (h_fgt (E := fun s => s 98 15 = tq88 98 15 ∧ s 98 16 = tq88 98 16 ∧ s 98 17 = tq88 98 17 ∧ s 98 18 = tq88 98 18 ∧ s 98 13 = tq88 98 13 ∧ s 98 14 = tq88 98 14 ∧ s 98 5 = σ2 98 5 ∧ s 98 6 = σ2 98 6 ∧ s 98 7 = σ2 98 7 ∧ s 98 8 = H99 ∧ s 98 9 = σ2 98 9 ∧ s 101 18 = σ2 101 18 ∧ s 101 25 = σ2 101 25 ∧ s 101 43 = σ2 101 43 ∧ s = h_up tq88 98 8 H99) _ (if_98_8 Itq88 (by omega)) (Ftq88.up rfl) ⟨rfl, rfl, rfl, rfl, rfl, rfl, etq88_6, etq88_7, etq88_8, rfl, etq88_10, etq88_11, etq88_12, etq88_13, rfl⟩ (fun s100 Is100 Fs100 (es100 : s100 98 15 = tq88 98 15 ∧ s100 98 16 = tq88 98 16 ∧ s100 98 17 = tq88 98 17 ∧ s100 98 18 = tq88 98 18 ∧ s100 98 13 = tq88 98 13 ∧ s100 98 14 = tq88 98 14 ∧ s100 98 5 = σ2 98 5 ∧ s100 98 6 = σ2 98 6 ∧ s100 98 7 = σ2 98 7 ∧ s100 98 8 = H99 ∧ s100 98 9 = σ2 98 9 ∧ s100 101 18 = σ2 101 18 ∧ s100 101 25 = σ2 101 25 ∧ s100 101 43 = σ2 101 43 ∧ s100 = h_up tq88 98 8 H99) => ?_))))
      have us100 := es100.2.2.2.2.2.2.2.2.2.2.2.2.2.2
      refine h_iload_n (pc' := 28) rfl rfl rfl ?_
      refine h_iret rfl rfl (d_ret hlv87 ?_)
      refine h_iconst (pc' := 159) (x := (Int32.ofInt 1)) rfl rfl rfl ?_
      refine h_iadd (pc' := 160) rfl rfl hq88m ci_1 rfl (by have g0 := h_rgv hq88m; omega) (by have g0 := h_rgv hq88m; omega) (fun z101 hz101 => ?_)
      clear hq88m
      refine h_iast (pc' := 161) rfl rfl rfl rfl hz86 (by omega) (by omega) hz101 (h_fgt (E := fun s => s 98 15 = tq88 98 15 ∧ s 98 16 = tq88 98 16 ∧ s 98 17 = tq88 98 17 ∧ s 98 18 = tq88 98 18 ∧ s 98 13 = tq88 98 13 ∧ s 98 14 = tq88 98 14 ∧ s 98 5 = σ2 98 5 ∧ s 98 6 = σ2 98 6 ∧ s 98 7 = σ2 98 7 ∧ s 98 8 = H99 ∧ s 98 9 = σ2 98 9 ∧ s 101 18 = σ2 101 18 ∧ s 101 25 = σ2 101 25 ∧ s 101 43 = σ2 101 43 ∧ s = h_up s100 101 (29 + (σ2 98 6)) (bq88m + 1)) _ (ip_101_7 Is100 (by omega) (by omega)) (Fs100.up rfl) ⟨es100.1, es100.2.1, es100.2.2.1, es100.2.2.2.1, es100.2.2.2.2.1, es100.2.2.2.2.2.1, es100.2.2.2.2.2.2.1, es100.2.2.2.2.2.2.2.1, es100.2.2.2.2.2.2.2.2.1, es100.2.2.2.2.2.2.2.2.2.1, es100.2.2.2.2.2.2.2.2.2.2.1, h_up_n2 (by omega) es100.2.2.2.2.2.2.2.2.2.2.2.1, h_up_n2 (by omega) es100.2.2.2.2.2.2.2.2.2.2.2.2.1, h_up_n2 (by omega) es100.2.2.2.2.2.2.2.2.2.2.2.2.2.1, rfl⟩ (fun s102 Is102 Fs102 (es102 : s102 98 15 = tq88 98 15 ∧ s102 98 16 = tq88 98 16 ∧ s102 98 17 = tq88 98 17 ∧ s102 98 18 = tq88 98 18 ∧ s102 98 13 = tq88 98 13 ∧ s102 98 14 = tq88 98 14 ∧ s102 98 5 = σ2 98 5 ∧ s102 98 6 = σ2 98 6 ∧ s102 98 7 = σ2 98 7 ∧ s102 98 8 = H99 ∧ s102 98 9 = σ2 98 9 ∧ s102 101 18 = σ2 101 18 ∧ s102 101 25 = σ2 101 25 ∧ s102 101 43 = σ2 101 43 ∧ s102 = h_up s100 101 (29 + (σ2 98 6)) (bq88m + 1)) => ?_))
      clear es100
      have us102 := es102.2.2.2.2.2.2.2.2.2.2.2.2.2.2
      clear hz101 hz86
      refine h_aload_n (pc' := 162) rfl rfl rfl ?_
      refine h_dup (pc' := 163) rfl rfl rfl ?_
      refine h_getI (pc' := 166) (v := σ2 98 6) rfl rfl rfl rfl rfl es102.2.2.2.2.2.2.2.1 (fun z103 hz103 => ?_)
      refine h_iconst (pc' := 167) (x := (Int32.ofInt 1)) rfl rfl rfl ?_
      refine h_iadd (pc' := 168) rfl rfl hz103 ci_1 rfl (by omega) (by omega) (fun z104 hz104 => ?_)
      clear hz103
      refine h_put (pc' := 171) rfl rfl rfl rfl rfl rfl hz104 rfl (h_fgt (E := fun s => s 98 15 = tq88 98 15 ∧ s 98 16 = tq88 98 16 ∧ s 98 17 = tq88 98 17 ∧ s 98 18 = tq88 98 18 ∧ s 98 13 = tq88 98 13 ∧ s 98 14 = tq88 98 14 ∧ s 98 5 = σ2 98 5 ∧ s 98 6 = ((σ2 98 6) + 1) ∧ s 98 7 = σ2 98 7 ∧ s 98 8 = H99 ∧ s 98 9 = σ2 98 9 ∧ s 101 18 = σ2 101 18 ∧ s 101 25 = σ2 101 25 ∧ s 101 43 = σ2 101 43 ∧ s = h_up s102 98 6 ((σ2 98 6) + 1)) _ (if_98_6 Is102 (by omega)) (Fs102.up rfl) ⟨es102.1, es102.2.1, es102.2.2.1, es102.2.2.2.1, es102.2.2.2.2.1, es102.2.2.2.2.2.1, es102.2.2.2.2.2.2.1, rfl, es102.2.2.2.2.2.2.2.2.1, es102.2.2.2.2.2.2.2.2.2.1, es102.2.2.2.2.2.2.2.2.2.2.1, es102.2.2.2.2.2.2.2.2.2.2.2.1, es102.2.2.2.2.2.2.2.2.2.2.2.2.1, es102.2.2.2.2.2.2.2.2.2.2.2.2.2.1, rfl⟩ (fun s105 Is105 Fs105 (es105 : s105 98 15 = tq88 98 15 ∧ s105 98 16 = tq88 98 16 ∧ s105 98 17 = tq88 98 17 ∧ s105 98 18 = tq88 98 18 ∧ s105 98 13 = tq88 98 13 ∧ s105 98 14 = tq88 98 14 ∧ s105 98 5 = σ2 98 5 ∧ s105 98 6 = ((σ2 98 6) + 1) ∧ s105 98 7 = σ2 98 7 ∧ s105 98 8 = H99 ∧ s105 98 9 = σ2 98 9 ∧ s105 101 18 = σ2 101 18 ∧ s105 101 25 = σ2 101 25 ∧ s105 101 43 = σ2 101 43 ∧ s105 = h_up s102 98 6 ((σ2 98 6) + 1)) => ?_))
      clear es102
      have us105 := es105.2.2.2.2.2.2.2.2.2.2.2.2.2.2
      refine h_goto (pc' := 178) rfl rfl ?_
      refine d_toL (g_inj ns) hlw80 hRq88 (fun lvw106 memw106 hlw106 hRw106 => ?_)
      show h_T g_P (g_Y ns) 61 39 [(0, .ref 63), (1, .int x1)] [.int rq88x] sq88 _
      refine h_goto (pc' := 44) rfl rfl ?_
      refine h_istore_n (pc' := 45) (M := [(2, .int rq88x), (0, .ref 63), (1, .int x1)]) rfl rfl rfl rfl ?_
      refine h_aload_n (pc' := 46) rfl rfl rfl ?_
      refine h_getI (pc' := 49) (v := sq88 63 2) rfl rfl rfl rfl rfl rfl (fun z107 hz107 => ?_)
      have tz107 := tf_63_2 Isq88
      refine h_zne (tg := 61) (pc' := 52) rfl rfl rfl hz107 (fun c108 => absurd (Int.le_antisymm (by omega) (by omega)) c108) (fun c108 => ?_)
      clear hz107
      refine h_aload_n (pc' := 53) rfl rfl rfl ?_
      refine h_getR (pc' := 56) rfl rfl rfl rfl rfl ?_
      refine h_iload_n (pc' := 57) rfl rfl rfl ?_
      refine h_iload_n (pc' := 58) rfl rfl rfl ?_
      refine h_call (sp := false) (pc' := 61) (M := [(0, .ref 66), (1, .int x1), (2, .int rq88x)]) rfl rfl rfl rfl rfl rfl rfl rfl ?_
      refine h_aload_n (pc' := 1) rfl rfl rfl ?_
      refine h_getI (pc' := 4) (v := σ1 66 9) rfl rfl rfl rfl rfl esq88_8 (fun z109 hz109 => ?_)
      have tz109 := tf_66_9 hI1
      refine h_iconst (pc' := 5) (x := (Int32.ofInt 3)) rfl rfl rfl ?_
      refine h_cge (tg := 48) (pc' := 8) rfl rfl rfl hz109 ci_3 (fun c110 => absurd c110 (by omega)) (fun c110 => ?_)
      clear hz109
      refine h_aload_n (pc' := 9) rfl rfl rfl ?_
      refine h_getR (pc' := 12) rfl rfl rfl rfl rfl ?_
      refine h_aload_n (pc' := 13) rfl rfl rfl ?_
      refine h_getI (pc' := 16) (v := σ1 66 9) rfl rfl rfl rfl rfl esq88_8 (fun z111 hz111 => ?_)
      refine h_iload_n (pc' := 17) rfl rfl rfl ?_
      refine h_iast (pc' := 18) rfl rfl rfl rfl hz111 (by omega) (by omega) hx1 (h_fgt (E := fun s => s 64 2 = sq88 64 2 ∧ s 64 4 = sq88 64 4 ∧ s 64 3 = sq88 64 3 ∧ s 64 5 = sq88 64 5 ∧ s 63 2 = sq88 63 2 ∧ s 63 3 = sq88 63 3 ∧ s 64 1 = σ1 64 1 ∧ s 66 8 = σ1 66 8 ∧ s 66 9 = σ1 66 9 ∧ s 66 10 = σ1 66 10 ∧ s 69 2 = σ1 69 2 ∧ s 72 2 = σ1 72 2 ∧ s 63 5 = σ1 63 5 ∧ s = h_up sq88 75 (σ1 66 9) a1) _ (in_75 Isq88 (by omega)) (Fsq88.up rfl) ⟨rfl, rfl, rfl, rfl, rfl, rfl, esq88_6, esq88_7, esq88_8, esq88_9, esq88_10, esq88_11, esq88_12, rfl⟩ (fun s112 Is112 Fs112 (es112 : s112 64 2 = sq88 64 2 ∧ s112 64 4 = sq88 64 4 ∧ s112 64 3 = sq88 64 3 ∧ s112 64 5 = sq88 64 5 ∧ s112 63 2 = sq88 63 2 ∧ s112 63 3 = sq88 63 3 ∧ s112 64 1 = σ1 64 1 ∧ s112 66 8 = σ1 66 8 ∧ s112 66 9 = σ1 66 9 ∧ s112 66 10 = σ1 66 10 ∧ s112 69 2 = σ1 69 2 ∧ s112 72 2 = σ1 72 2 ∧ s112 63 5 = σ1 63 5 ∧ s112 = h_up sq88 75 (σ1 66 9) a1) => ?_))
      have us112 := es112.2.2.2.2.2.2.2.2.2.2.2.2.2
      clear hz111
      refine h_aload_n (pc' := 19) rfl rfl rfl ?_
      refine h_getR (pc' := 22) rfl rfl rfl rfl rfl ?_
      refine h_aload_n (pc' := 23) rfl rfl rfl ?_
      refine h_getI (pc' := 26) (v := σ1 66 9) rfl rfl rfl rfl rfl es112.2.2.2.2.2.2.2.2.1 (fun z113 hz113 => ?_)
      refine h_iload_n (pc' := 27) rfl rfl rfl ?_
      refine h_iast (pc' := 28) rfl rfl rfl rfl hz113 (by omega) (by omega) hq88x (h_fgt (E := fun s => s 64 2 = sq88 64 2 ∧ s 64 4 = sq88 64 4 ∧ s 64 3 = sq88 64 3 ∧ s 64 5 = sq88 64 5 ∧ s 63 2 = sq88 63 2 ∧ s 63 3 = sq88 63 3 ∧ s 64 1 = σ1 64 1 ∧ s 66 8 = σ1 66 8 ∧ s 66 9 = σ1 66 9 ∧ s 66 10 = σ1 66 10 ∧ s 69 2 = σ1 69 2 ∧ s 72 2 = σ1 72 2 ∧ s 63 5 = σ1 63 5 ∧ s = h_up s112 76 (σ1 66 9) bq88x) _ (in_76 Is112 (by omega)) (Fs112.up rfl) ⟨es112.1, es112.2.1, es112.2.2.1, es112.2.2.2.1, es112.2.2.2.2.1, es112.2.2.2.2.2.1, es112.2.2.2.2.2.2.1, es112.2.2.2.2.2.2.2.1, es112.2.2.2.2.2.2.2.2.1, es112.2.2.2.2.2.2.2.2.2.1, es112.2.2.2.2.2.2.2.2.2.2.1, es112.2.2.2.2.2.2.2.2.2.2.2.1, es112.2.2.2.2.2.2.2.2.2.2.2.2.1, rfl⟩ (fun s114 Is114 Fs114 (es114 : s114 64 2 = sq88 64 2 ∧ s114 64 4 = sq88 64 4 ∧ s114 64 3 = sq88 64 3 ∧ s114 64 5 = sq88 64 5 ∧ s114 63 2 = sq88 63 2 ∧ s114 63 3 = sq88 63 3 ∧ s114 64 1 = σ1 64 1 ∧ s114 66 8 = σ1 66 8 ∧ s114 66 9 = σ1 66 9 ∧ s114 66 10 = σ1 66 10 ∧ s114 69 2 = σ1 69 2 ∧ s114 72 2 = σ1 72 2 ∧ s114 63 5 = σ1 63 5 ∧ s114 = h_up s112 76 (σ1 66 9) bq88x) => ?_))
      clear es112
      have us114 := es114.2.2.2.2.2.2.2.2.2.2.2.2.2
      clear hz113
      refine h_aload_n (pc' := 29) rfl rfl rfl ?_
      refine h_getR (pc' := 32) rfl rfl rfl rfl rfl ?_
      refine h_aload_n (pc' := 33) rfl rfl rfl ?_
      refine h_getI (pc' := 36) (v := σ1 66 9) rfl rfl rfl rfl rfl es114.2.2.2.2.2.2.2.2.1 (fun z115 hz115 => ?_)
      refine h_iconst (pc' := 37) (x := (Int32.ofInt 0)) rfl rfl rfl ?_
      refine h_iast (pc' := 38) rfl rfl rfl rfl hz115 (by omega) (by omega) ci_0 (h_fgt (E := fun s => s 64 2 = sq88 64 2 ∧ s 64 4 = sq88 64 4 ∧ s 64 3 = sq88 64 3 ∧ s 64 5 = sq88 64 5 ∧ s 63 2 = sq88 63 2 ∧ s 63 3 = sq88 63 3 ∧ s 64 1 = σ1 64 1 ∧ s 66 8 = σ1 66 8 ∧ s 66 9 = σ1 66 9 ∧ s 66 10 = σ1 66 10 ∧ s 69 2 = σ1 69 2 ∧ s 72 2 = σ1 72 2 ∧ s 63 5 = σ1 63 5 ∧ s = h_up s114 77 (σ1 66 9) 0) _ (in_77 Is114 (by omega)) (Fs114.up rfl) ⟨es114.1, es114.2.1, es114.2.2.1, es114.2.2.2.1, es114.2.2.2.2.1, es114.2.2.2.2.2.1, es114.2.2.2.2.2.2.1, es114.2.2.2.2.2.2.2.1, es114.2.2.2.2.2.2.2.2.1, es114.2.2.2.2.2.2.2.2.2.1, es114.2.2.2.2.2.2.2.2.2.2.1, es114.2.2.2.2.2.2.2.2.2.2.2.1, es114.2.2.2.2.2.2.2.2.2.2.2.2.1, rfl⟩ (fun s116 Is116 Fs116 (es116 : s116 64 2 = sq88 64 2 ∧ s116 64 4 = sq88 64 4 ∧ s116 64 3 = sq88 64 3 ∧ s116 64 5 = sq88 64 5 ∧ s116 63 2 = sq88 63 2 ∧ s116 63 3 = sq88 63 3 ∧ s116 64 1 = σ1 64 1 ∧ s116 66 8 = σ1 66 8 ∧ s116 66 9 = σ1 66 9 ∧ s116 66 10 = σ1 66 10 ∧ s116 69 2 = σ1 69 2 ∧ s116 72 2 = σ1 72 2 ∧ s116 63 5 = σ1 63 5 ∧ s116 = h_up s114 77 (σ1 66 9) 0) => ?_))
      clear es114
      have us116 := es116.2.2.2.2.2.2.2.2.2.2.2.2.2
      clear hz115
      refine h_aload_n (pc' := 39) rfl rfl rfl ?_
      refine h_dup (pc' := 40) rfl rfl rfl ?_
      refine h_getI (pc' := 43) (v := σ1 66 9) rfl rfl rfl rfl rfl es116.2.2.2.2.2.2.2.2.1 (fun z117 hz117 => ?_)
      refine h_iconst (pc' := 44) (x := (Int32.ofInt 1)) rfl rfl rfl ?_
      refine h_iadd (pc' := 45) rfl rfl hz117 ci_1 rfl (by omega) (by omega) (fun z118 hz118 => ?_)
      clear hz117
      refine h_put (pc' := 48) rfl rfl rfl rfl rfl rfl hz118 rfl (h_fgt (E := fun s => s 64 2 = sq88 64 2 ∧ s 64 4 = sq88 64 4 ∧ s 64 3 = sq88 64 3 ∧ s 64 5 = sq88 64 5 ∧ s 63 2 = sq88 63 2 ∧ s 63 3 = sq88 63 3 ∧ s 64 1 = σ1 64 1 ∧ s 66 8 = σ1 66 8 ∧ s 66 9 = ((σ1 66 9) + 1) ∧ s 66 10 = σ1 66 10 ∧ s 69 2 = σ1 69 2 ∧ s 72 2 = σ1 72 2 ∧ s 63 5 = σ1 63 5 ∧ s = h_up s116 66 9 ((σ1 66 9) + 1)) _ (if_66_9 Is116 (by omega)) (Fs116.up rfl) ⟨es116.1, es116.2.1, es116.2.2.1, es116.2.2.2.1, es116.2.2.2.2.1, es116.2.2.2.2.2.1, es116.2.2.2.2.2.2.1, es116.2.2.2.2.2.2.2.1, rfl, es116.2.2.2.2.2.2.2.2.2.1, es116.2.2.2.2.2.2.2.2.2.2.1, es116.2.2.2.2.2.2.2.2.2.2.2.1, es116.2.2.2.2.2.2.2.2.2.2.2.2.1, rfl⟩ (fun s119 Is119 Fs119 (es119 : s119 64 2 = sq88 64 2 ∧ s119 64 4 = sq88 64 4 ∧ s119 64 3 = sq88 64 3 ∧ s119 64 5 = sq88 64 5 ∧ s119 63 2 = sq88 63 2 ∧ s119 63 3 = sq88 63 3 ∧ s119 64 1 = σ1 64 1 ∧ s119 66 8 = σ1 66 8 ∧ s119 66 9 = ((σ1 66 9) + 1) ∧ s119 66 10 = σ1 66 10 ∧ s119 69 2 = σ1 69 2 ∧ s119 72 2 = σ1 72 2 ∧ s119 63 5 = σ1 63 5 ∧ s119 = h_up s116 66 9 ((σ1 66 9) + 1)) => ?_))
      clear es116
      have us119 := es119.2.2.2.2.2.2.2.2.2.2.2.2.2
      refine h_vret rfl rfl (h_Kn ?_)
      exact h_wk [(0, .ref 63)] ⟨rfl, trivial⟩ (kx0 _ _ Is119 Is105 Fs119 Fs105 (Int.le_antisymm (by omega) (by omega)) (Int.le_antisymm (by omega) (by omega)) (Int.le_antisymm (by omega) (by omega)) (by omega) (by omega) (fun _ => d_mk (es119.2.2.2.2.2.2.2.1) (es119.2.2.2.2.2.2.2.2.1) (es119.2.2.2.2.2.2.2.2.2.1) (es119.2.2.2.2.2.2.2.2.2.2.1) (es119.2.2.2.2.2.2.2.2.2.2.2.1) (es119.2.2.2.2.2.2.2.2.2.2.2.2.1) (fun j => (h_upo us119 rfl j).trans ((h_upo us116 rfl j).trans ((h_upo us114 rfl j).trans ((h_upo us112 rfl j).trans ((Gsq88 67 j rfl)))))) (fun j => (h_upo us119 rfl j).trans ((h_upo us116 rfl j).trans ((h_upo us114 rfl j).trans ((h_upo us112 rfl j).trans ((Gsq88 68 j rfl)))))) (fun j => (h_upo us119 rfl j).trans ((h_upo us116 rfl j).trans ((h_upo us114 rfl j).trans ((h_upo us112 rfl j).trans ((Gsq88 70 j rfl)))))) (fun j => (h_upo us119 rfl j).trans ((h_upo us116 rfl j).trans ((h_upo us114 rfl j).trans ((h_upo us112 rfl j).trans ((Gsq88 71 j rfl)))))) (fun j => (h_upo us119 rfl j).trans ((h_upo us116 rfl j).trans ((h_upo us114 rfl j).trans ((h_upo us112 rfl j).trans ((Gsq88 73 j rfl)))))) (fun j => (h_upo us119 rfl j).trans ((h_upo us116 rfl j).trans ((h_upo us114 rfl j).trans ((h_upo us112 rfl j).trans ((Gsq88 74 j rfl)))))) (fun j => (h_upo us119 rfl j).trans ((h_upo us116 rfl j).trans ((h_upo us114 rfl j).trans ((h_upi us112 j).trans (congrArg (fun z => if j = (σ1 66 9) then a1 else z) ((Gsq88 75 j rfl))))))) (fun j => (h_upo us119 rfl j).trans ((h_upo us116 rfl j).trans ((h_upi us114 j).trans (congrArg (fun z => if j = (σ1 66 9) then bq88x else z) ((h_upo us112 rfl j).trans ((Gsq88 76 j rfl))))))) (fun j => (h_upo us119 rfl j).trans ((h_upi us116 j).trans (congrArg (fun z => if j = (σ1 66 9) then 0 else z) ((h_upo us114 rfl j).trans ((h_upo us112 rfl j).trans ((Gsq88 77 j rfl))))))) (fun j => (h_upo us119 rfl j).trans ((h_upo us116 rfl j).trans ((h_upo us114 rfl j).trans ((h_upo us112 rfl j).trans ((Gsq88 78 j rfl)))))) (es105.2.2.2.2.2.2.1) (es105.2.2.2.2.2.2.2.1) (es105.2.2.2.2.2.2.2.2.1) (es105.2.2.2.2.2.2.2.2.2.1) (es105.2.2.2.2.2.2.2.2.2.2.1) (fun j => (h_upo us105 rfl j).trans ((h_upi us102 j).trans (congrArg (fun z => if j = (29 + (σ2 98 6)) then (bq88m + 1) else z) ((h_upo us100 rfl j).trans ((Gtq88 101 j rfl)))))) (r_gatB pr10 (by omega) (by omega) (by omega) (by omega) (by omega) (by omega) (by omega) (by omega) (by omega) (by omega) (by omega) (by omega) (by omega))) (pcq88.elim (fun pcq88 => (Or.inr (Or.inl ⟨Int.le_antisymm (by omega) (by omega), Int.le_antisymm (by omega) (by omega), Int.le_antisymm (by omega) (by omega), Int.le_antisymm (by omega) (by omega), Int.le_antisymm (by omega) (by omega)⟩))) (fun pcq88 => (pcq88.elim (fun pcq88 => (Or.inr (Or.inr (Or.inl ⟨Int.le_antisymm (by omega) (by omega), Int.le_antisymm (by omega) (by omega), Int.le_antisymm (by omega) (by omega), Int.le_antisymm (by omega) (by omega), by omega⟩)))) (fun pcq88 => (pcq88.elim (fun pcq88 => (Or.inr (Or.inr (Or.inr (Or.inl ⟨Int.le_antisymm (by omega) (by omega), Int.le_antisymm (by omega) (by omega), Int.le_antisymm (by omega) (by omega), Int.le_antisymm (by omega) (by omega), ⟨by omega, by omega⟩, ⟨by omega, by omega⟩, Int.le_antisymm (by omega) (by omega), by omega⟩))))) (fun pcq88 => (Or.inr (Or.inr (Or.inr (Or.inr ⟨Int.le_antisymm (by omega) (by omega), Int.le_antisymm (by omega) (by omega), Int.le_antisymm (by omega) (by omega), Int.le_antisymm (by omega) (by omega), by omega, by omega⟩)))))))))) _ _ (h_al_ok ⟨rfl, trivial⟩ hlw106) hRw106)
  · show h_T g_P (g_Y ns) 61 27 [(0, .ref 63), (1, .int x1)] [] σ1 _
    refine h_aload_n (pc' := 28) rfl rfl rfl ?_
    refine h_call (sp := false) (pc' := 31) (M := [(0, .ref 63)]) rfl rfl rfl rfl rfl rfl rfl rfl ?_
    refine h_aload_n (pc' := 1) rfl rfl rfl ?_
    refine h_getI (pc' := 4) (v := σ1 63 2) rfl rfl rfl rfl rfl rfl (fun z120 hz120 => ?_)
    have tz120 := tf_63_2 hI1
    refine h_zne (tg := 22) (pc' := 7) rfl rfl rfl hz120 (fun c121 => absurd (Int.le_antisymm (by omega) (by omega)) c121) (fun c121 => ?_)
    clear hz120
    refine h_aload_n (pc' := 8) rfl rfl rfl ?_
    refine h_getR (pc' := 11) rfl rfl rfl rfl rfl ?_
    refine h_getI (pc' := 14) (v := σ1 64 3) rfl rfl rfl rfl rfl rfl (fun z122 hz122 => ?_)
    have tz122 := tf_64_3 hI1
    refine h_iconst (pc' := 15) (x := (Int32.ofInt 2)) rfl rfl rfl ?_
    refine h_cne (tg := 22) (pc' := 18) rfl rfl rfl hz122 ci_2 (fun c123 => ?_) (fun c123 => absurd c123 (by omega))
    clear hz122
    refine h_iconst (pc' := 23) (x := (Int32.ofInt 0)) rfl rfl rfl ?_
    refine h_zret rfl rfl ci_0 (by omega) (h_Kv ?_)
    refine h_zeq (tg := 42) (pc' := 34) rfl rfl rfl ci_0 (fun c124 => ?_) (fun c124 => absurd (Int.le_antisymm (by omega) (by omega)) c124)
    refine h_bipush (pc' := 44) (x := (Int32.ofInt (-4))) rfl rfl cb_m4 ?_
    refine h_istore_n (pc' := 45) (M := [(2, .int (Int32.ofInt (-4))), (0, .ref 63), (1, .int x1)]) rfl rfl rfl rfl ?_
    refine h_aload_n (pc' := 46) rfl rfl rfl ?_
    refine h_getI (pc' := 49) (v := σ1 63 2) rfl rfl rfl rfl rfl rfl (fun z125 hz125 => ?_)
    refine h_zne (tg := 61) (pc' := 52) rfl rfl rfl hz125 (fun c126 => absurd (Int.le_antisymm (by omega) (by omega)) c126) (fun c126 => ?_)
    clear hz125
    refine h_aload_n (pc' := 53) rfl rfl rfl ?_
    refine h_getR (pc' := 56) rfl rfl rfl rfl rfl ?_
    refine h_iload_n (pc' := 57) rfl rfl rfl ?_
    refine h_iload_n (pc' := 58) rfl rfl rfl ?_
    refine h_call (sp := false) (pc' := 61) (M := [(0, .ref 66), (1, .int x1), (2, .int (Int32.ofInt (-4)))]) rfl rfl rfl rfl rfl rfl rfl rfl ?_
    refine h_aload_n (pc' := 1) rfl rfl rfl ?_
    refine h_getI (pc' := 4) (v := σ1 66 9) rfl rfl rfl rfl rfl rfl (fun z127 hz127 => ?_)
    have tz127 := tf_66_9 hI1
    refine h_iconst (pc' := 5) (x := (Int32.ofInt 3)) rfl rfl rfl ?_
    refine h_cge (tg := 48) (pc' := 8) rfl rfl rfl hz127 ci_3 (fun c128 => absurd c128 (by omega)) (fun c128 => ?_)
    clear hz127
    refine h_aload_n (pc' := 9) rfl rfl rfl ?_
    refine h_getR (pc' := 12) rfl rfl rfl rfl rfl ?_
    refine h_aload_n (pc' := 13) rfl rfl rfl ?_
    refine h_getI (pc' := 16) (v := σ1 66 9) rfl rfl rfl rfl rfl rfl (fun z129 hz129 => ?_)
    refine h_iload_n (pc' := 17) rfl rfl rfl ?_
    refine h_iast (pc' := 18) rfl rfl rfl rfl hz129 (by omega) (by omega) hx1 (h_fgt (E := fun s => s 64 2 = σ1 64 2 ∧ s 64 4 = σ1 64 4 ∧ s 64 3 = σ1 64 3 ∧ s 64 5 = σ1 64 5 ∧ s 63 2 = σ1 63 2 ∧ s 63 3 = σ1 63 3 ∧ s 64 1 = σ1 64 1 ∧ s 66 8 = σ1 66 8 ∧ s 66 9 = σ1 66 9 ∧ s 66 10 = σ1 66 10 ∧ s 69 2 = σ1 69 2 ∧ s 72 2 = σ1 72 2 ∧ s 63 5 = σ1 63 5 ∧ s = h_up σ1 75 (σ1 66 9) a1) _ (in_75 hI1 (by omega)) (F1.up rfl) ⟨rfl, rfl, rfl, rfl, rfl, rfl, rfl, rfl, rfl, rfl, rfl, rfl, rfl, rfl⟩ (fun s130 Is130 Fs130 (es130 : s130 64 2 = σ1 64 2 ∧ s130 64 4 = σ1 64 4 ∧ s130 64 3 = σ1 64 3 ∧ s130 64 5 = σ1 64 5 ∧ s130 63 2 = σ1 63 2 ∧ s130 63 3 = σ1 63 3 ∧ s130 64 1 = σ1 64 1 ∧ s130 66 8 = σ1 66 8 ∧ s130 66 9 = σ1 66 9 ∧ s130 66 10 = σ1 66 10 ∧ s130 69 2 = σ1 69 2 ∧ s130 72 2 = σ1 72 2 ∧ s130 63 5 = σ1 63 5 ∧ s130 = h_up σ1 75 (σ1 66 9) a1) => ?_))
    have us130 := es130.2.2.2.2.2.2.2.2.2.2.2.2.2
    clear hz129
    refine h_aload_n (pc' := 19) rfl rfl rfl ?_
    refine h_getR (pc' := 22) rfl rfl rfl rfl rfl ?_
    refine h_aload_n (pc' := 23) rfl rfl rfl ?_
    refine h_getI (pc' := 26) (v := σ1 66 9) rfl rfl rfl rfl rfl es130.2.2.2.2.2.2.2.2.1 (fun z131 hz131 => ?_)
    refine h_iload_n (pc' := 27) rfl rfl rfl ?_
    refine h_iast (pc' := 28) rfl rfl rfl rfl hz131 (by omega) (by omega) ci_m4 (h_fgt (E := fun s => s 64 2 = σ1 64 2 ∧ s 64 4 = σ1 64 4 ∧ s 64 3 = σ1 64 3 ∧ s 64 5 = σ1 64 5 ∧ s 63 2 = σ1 63 2 ∧ s 63 3 = σ1 63 3 ∧ s 64 1 = σ1 64 1 ∧ s 66 8 = σ1 66 8 ∧ s 66 9 = σ1 66 9 ∧ s 66 10 = σ1 66 10 ∧ s 69 2 = σ1 69 2 ∧ s 72 2 = σ1 72 2 ∧ s 63 5 = σ1 63 5 ∧ s = h_up s130 76 (σ1 66 9) (-4)) _ (in_76 Is130 (by omega)) (Fs130.up rfl) ⟨es130.1, es130.2.1, es130.2.2.1, es130.2.2.2.1, es130.2.2.2.2.1, es130.2.2.2.2.2.1, es130.2.2.2.2.2.2.1, es130.2.2.2.2.2.2.2.1, es130.2.2.2.2.2.2.2.2.1, es130.2.2.2.2.2.2.2.2.2.1, es130.2.2.2.2.2.2.2.2.2.2.1, es130.2.2.2.2.2.2.2.2.2.2.2.1, es130.2.2.2.2.2.2.2.2.2.2.2.2.1, rfl⟩ (fun s132 Is132 Fs132 (es132 : s132 64 2 = σ1 64 2 ∧ s132 64 4 = σ1 64 4 ∧ s132 64 3 = σ1 64 3 ∧ s132 64 5 = σ1 64 5 ∧ s132 63 2 = σ1 63 2 ∧ s132 63 3 = σ1 63 3 ∧ s132 64 1 = σ1 64 1 ∧ s132 66 8 = σ1 66 8 ∧ s132 66 9 = σ1 66 9 ∧ s132 66 10 = σ1 66 10 ∧ s132 69 2 = σ1 69 2 ∧ s132 72 2 = σ1 72 2 ∧ s132 63 5 = σ1 63 5 ∧ s132 = h_up s130 76 (σ1 66 9) (-4)) => ?_))
    clear es130
    have us132 := es132.2.2.2.2.2.2.2.2.2.2.2.2.2
    clear hz131
    refine h_aload_n (pc' := 29) rfl rfl rfl ?_
    refine h_getR (pc' := 32) rfl rfl rfl rfl rfl ?_
    refine h_aload_n (pc' := 33) rfl rfl rfl ?_
    refine h_getI (pc' := 36) (v := σ1 66 9) rfl rfl rfl rfl rfl es132.2.2.2.2.2.2.2.2.1 (fun z133 hz133 => ?_)
    refine h_iconst (pc' := 37) (x := (Int32.ofInt 0)) rfl rfl rfl ?_
    refine h_iast (pc' := 38) rfl rfl rfl rfl hz133 (by omega) (by omega) ci_0 (h_fgt (E := fun s => s 64 2 = σ1 64 2 ∧ s 64 4 = σ1 64 4 ∧ s 64 3 = σ1 64 3 ∧ s 64 5 = σ1 64 5 ∧ s 63 2 = σ1 63 2 ∧ s 63 3 = σ1 63 3 ∧ s 64 1 = σ1 64 1 ∧ s 66 8 = σ1 66 8 ∧ s 66 9 = σ1 66 9 ∧ s 66 10 = σ1 66 10 ∧ s 69 2 = σ1 69 2 ∧ s 72 2 = σ1 72 2 ∧ s 63 5 = σ1 63 5 ∧ s = h_up s132 77 (σ1 66 9) 0) _ (in_77 Is132 (by omega)) (Fs132.up rfl) ⟨es132.1, es132.2.1, es132.2.2.1, es132.2.2.2.1, es132.2.2.2.2.1, es132.2.2.2.2.2.1, es132.2.2.2.2.2.2.1, es132.2.2.2.2.2.2.2.1, es132.2.2.2.2.2.2.2.2.1, es132.2.2.2.2.2.2.2.2.2.1, es132.2.2.2.2.2.2.2.2.2.2.1, es132.2.2.2.2.2.2.2.2.2.2.2.1, es132.2.2.2.2.2.2.2.2.2.2.2.2.1, rfl⟩ (fun s134 Is134 Fs134 (es134 : s134 64 2 = σ1 64 2 ∧ s134 64 4 = σ1 64 4 ∧ s134 64 3 = σ1 64 3 ∧ s134 64 5 = σ1 64 5 ∧ s134 63 2 = σ1 63 2 ∧ s134 63 3 = σ1 63 3 ∧ s134 64 1 = σ1 64 1 ∧ s134 66 8 = σ1 66 8 ∧ s134 66 9 = σ1 66 9 ∧ s134 66 10 = σ1 66 10 ∧ s134 69 2 = σ1 69 2 ∧ s134 72 2 = σ1 72 2 ∧ s134 63 5 = σ1 63 5 ∧ s134 = h_up s132 77 (σ1 66 9) 0) => ?_))
    clear es132
    have us134 := es134.2.2.2.2.2.2.2.2.2.2.2.2.2
    clear hz133
    refine h_aload_n (pc' := 39) rfl rfl rfl ?_
    refine h_dup (pc' := 40) rfl rfl rfl ?_
    refine h_getI (pc' := 43) (v := σ1 66 9) rfl rfl rfl rfl rfl es134.2.2.2.2.2.2.2.2.1 (fun z135 hz135 => ?_)
    refine h_iconst (pc' := 44) (x := (Int32.ofInt 1)) rfl rfl rfl ?_
    refine h_iadd (pc' := 45) rfl rfl hz135 ci_1 rfl (by omega) (by omega) (fun z136 hz136 => ?_)
    clear hz135
    refine h_put (pc' := 48) rfl rfl rfl rfl rfl rfl hz136 rfl (h_fgt (E := fun s => s 64 2 = σ1 64 2 ∧ s 64 4 = σ1 64 4 ∧ s 64 3 = σ1 64 3 ∧ s 64 5 = σ1 64 5 ∧ s 63 2 = σ1 63 2 ∧ s 63 3 = σ1 63 3 ∧ s 64 1 = σ1 64 1 ∧ s 66 8 = σ1 66 8 ∧ s 66 9 = ((σ1 66 9) + 1) ∧ s 66 10 = σ1 66 10 ∧ s 69 2 = σ1 69 2 ∧ s 72 2 = σ1 72 2 ∧ s 63 5 = σ1 63 5 ∧ s = h_up s134 66 9 ((σ1 66 9) + 1)) _ (if_66_9 Is134 (by omega)) (Fs134.up rfl) ⟨es134.1, es134.2.1, es134.2.2.1, es134.2.2.2.1, es134.2.2.2.2.1, es134.2.2.2.2.2.1, es134.2.2.2.2.2.2.1, es134.2.2.2.2.2.2.2.1, rfl, es134.2.2.2.2.2.2.2.2.2.1, es134.2.2.2.2.2.2.2.2.2.2.1, es134.2.2.2.2.2.2.2.2.2.2.2.1, es134.2.2.2.2.2.2.2.2.2.2.2.2.1, rfl⟩ (fun s137 Is137 Fs137 (es137 : s137 64 2 = σ1 64 2 ∧ s137 64 4 = σ1 64 4 ∧ s137 64 3 = σ1 64 3 ∧ s137 64 5 = σ1 64 5 ∧ s137 63 2 = σ1 63 2 ∧ s137 63 3 = σ1 63 3 ∧ s137 64 1 = σ1 64 1 ∧ s137 66 8 = σ1 66 8 ∧ s137 66 9 = ((σ1 66 9) + 1) ∧ s137 66 10 = σ1 66 10 ∧ s137 69 2 = σ1 69 2 ∧ s137 72 2 = σ1 72 2 ∧ s137 63 5 = σ1 63 5 ∧ s137 = h_up s134 66 9 ((σ1 66 9) + 1)) => ?_))
    clear es134
    have us137 := es137.2.2.2.2.2.2.2.2.2.2.2.2.2
    refine h_vret rfl rfl (h_Kn ?_)
    refine d_toM (g_inj ns) hl2 hR2 (fun lvw138 memw138 hlw138 hRw138 => ?_)
    show h_T g_P (g_Y ns) 153 128 [(0, .ref 98)] [] σ2 _
    refine h_aload_n (pc' := 129) rfl rfl rfl ?_
    refine h_getI (pc' := 132) (v := σ2 98 13) rfl rfl rfl rfl rfl rfl (fun z139 hz139 => ?_)
    have tz139 := tf_98_13 hI2
    refine h_zne (tg := 161) (pc' := 135) rfl rfl rfl hz139 (fun c140 => absurd (Int.le_antisymm (by omega) (by omega)) c140) (fun c140 => ?_)
    clear hz139
    refine h_aload_n (pc' := 136) rfl rfl rfl ?_
    refine h_getI (pc' := 139) (v := σ2 98 17) rfl rfl rfl rfl rfl rfl (fun z141 hz141 => ?_)
    have tz141 := tf_98_17 hI2
    refine h_iconst (pc' := 140) (x := (Int32.ofInt 2)) rfl rfl rfl ?_
    refine h_cne (tg := 161) (pc' := 143) rfl rfl rfl hz141 ci_2 (fun c142 => ?_) (fun c142 => absurd c142 (by omega))
    clear hz141
    refine h_aload_n (pc' := 162) rfl rfl rfl ?_
    refine h_dup (pc' := 163) rfl rfl rfl ?_
    refine h_getI (pc' := 166) (v := σ2 98 6) rfl rfl rfl rfl rfl rfl (fun z143 hz143 => ?_)
    have tz143 := tf_98_6 hI2
    refine h_iconst (pc' := 167) (x := (Int32.ofInt 1)) rfl rfl rfl ?_
    refine h_iadd (pc' := 168) rfl rfl hz143 ci_1 rfl (by omega) (by omega) (fun z144 hz144 => ?_)
    clear hz143
    refine h_put (pc' := 171) rfl rfl rfl rfl rfl rfl hz144 rfl (h_fgt (E := fun s => s 98 15 = σ2 98 15 ∧ s 98 16 = σ2 98 16 ∧ s 98 17 = σ2 98 17 ∧ s 98 18 = σ2 98 18 ∧ s 98 13 = σ2 98 13 ∧ s 98 14 = σ2 98 14 ∧ s 98 5 = σ2 98 5 ∧ s 98 6 = ((σ2 98 6) + 1) ∧ s 98 7 = σ2 98 7 ∧ s 98 8 = σ2 98 8 ∧ s 98 9 = σ2 98 9 ∧ s 101 18 = σ2 101 18 ∧ s 101 25 = σ2 101 25 ∧ s 101 43 = σ2 101 43 ∧ s = h_up σ2 98 6 ((σ2 98 6) + 1)) _ (if_98_6 hI2 (by omega)) (F2.up rfl) ⟨rfl, rfl, rfl, rfl, rfl, rfl, rfl, rfl, rfl, rfl, rfl, rfl, rfl, rfl, rfl⟩ (fun s145 Is145 Fs145 (es145 : s145 98 15 = σ2 98 15 ∧ s145 98 16 = σ2 98 16 ∧ s145 98 17 = σ2 98 17 ∧ s145 98 18 = σ2 98 18 ∧ s145 98 13 = σ2 98 13 ∧ s145 98 14 = σ2 98 14 ∧ s145 98 5 = σ2 98 5 ∧ s145 98 6 = ((σ2 98 6) + 1) ∧ s145 98 7 = σ2 98 7 ∧ s145 98 8 = σ2 98 8 ∧ s145 98 9 = σ2 98 9 ∧ s145 101 18 = σ2 101 18 ∧ s145 101 25 = σ2 101 25 ∧ s145 101 43 = σ2 101 43 ∧ s145 = h_up σ2 98 6 ((σ2 98 6) + 1)) => ?_))
    have us145 := es145.2.2.2.2.2.2.2.2.2.2.2.2.2.2
    refine h_goto (pc' := 178) rfl rfl ?_
    refine d_toL (g_inj ns) hlw138 hRw138 (fun lvw146 memw146 hlw146 hRw146 => ?_)
    show h_T g_P (g_Y ns) 61 61 [(2, .int (Int32.ofInt (-4))), (0, .ref 63), (1, .int x1)] [] s137 _
    exact h_wk [(0, .ref 63)] ⟨rfl, trivial⟩ (kx0 _ _ Is137 Is145 Fs137 Fs145 (Int.le_antisymm (by omega) (by omega)) (Int.le_antisymm (by omega) (by omega)) (Int.le_antisymm (by omega) (by omega)) (by omega) (by omega) (fun _ => d_mk (es137.2.2.2.2.2.2.2.1) (es137.2.2.2.2.2.2.2.2.1) (es137.2.2.2.2.2.2.2.2.2.1) (es137.2.2.2.2.2.2.2.2.2.2.1) (es137.2.2.2.2.2.2.2.2.2.2.2.1) (es137.2.2.2.2.2.2.2.2.2.2.2.2.1) (fun j => (h_upo us137 rfl j).trans ((h_upo us134 rfl j).trans ((h_upo us132 rfl j).trans ((h_upo us130 rfl j))))) (fun j => (h_upo us137 rfl j).trans ((h_upo us134 rfl j).trans ((h_upo us132 rfl j).trans ((h_upo us130 rfl j))))) (fun j => (h_upo us137 rfl j).trans ((h_upo us134 rfl j).trans ((h_upo us132 rfl j).trans ((h_upo us130 rfl j))))) (fun j => (h_upo us137 rfl j).trans ((h_upo us134 rfl j).trans ((h_upo us132 rfl j).trans ((h_upo us130 rfl j))))) (fun j => (h_upo us137 rfl j).trans ((h_upo us134 rfl j).trans ((h_upo us132 rfl j).trans ((h_upo us130 rfl j))))) (fun j => (h_upo us137 rfl j).trans ((h_upo us134 rfl j).trans ((h_upo us132 rfl j).trans ((h_upo us130 rfl j))))) (fun j => (h_upo us137 rfl j).trans ((h_upo us134 rfl j).trans ((h_upo us132 rfl j).trans ((h_upi us130 j))))) (fun j => (h_upo us137 rfl j).trans ((h_upo us134 rfl j).trans ((h_upi us132 j).trans (congrArg (fun z => if j = (σ1 66 9) then (-4) else z) ((h_upo us130 rfl j)))))) (fun j => (h_upo us137 rfl j).trans ((h_upi us134 j).trans (congrArg (fun z => if j = (σ1 66 9) then 0 else z) ((h_upo us132 rfl j).trans ((h_upo us130 rfl j)))))) (fun j => (h_upo us137 rfl j).trans ((h_upo us134 rfl j).trans ((h_upo us132 rfl j).trans ((h_upo us130 rfl j))))) (es145.2.2.2.2.2.2.1) (es145.2.2.2.2.2.2.2.1) (es145.2.2.2.2.2.2.2.2.1) (es145.2.2.2.2.2.2.2.2.2.1) (es145.2.2.2.2.2.2.2.2.2.2.1) (fun j => (h_upo us145 rfl j)) (r_gatA pr10 (by omega) (by omega) (by omega) (by omega) (by omega) (by omega) (by omega))) (Or.inr (Or.inr (Or.inr (Or.inr ⟨Int.le_antisymm (by omega) (by omega), Int.le_antisymm (by omega) (by omega), Int.le_antisymm (by omega) (by omega), Int.le_antisymm (by omega) (by omega), by omega, by omega⟩)))) _ _ (h_al_ok ⟨rfl, trivial⟩ hlw146) hRw146)
